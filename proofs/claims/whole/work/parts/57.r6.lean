/-! the class: words and days -/
theorem q_si_y {D : y_D} {h k j : Nat} {v : Int32} (c : j = k) : q_n (y_si D h k v h).1 j = v.toNatClampNeg := by unfold q_n; rw [y_si_1, if_pos c]
theorem q_si_n {D : y_D} {h k j : Nat} {v : Int32} (c : j ≠ k) : q_n (y_si D h k v h).1 j = q_n (D h).1 j := by unfold q_n; rw [y_si_1, if_neg c]
theorem q_ok_n {D : y_D} {h k j B : Nat} {v : Int32} (c : j ≠ k) (a : q_ok (D h).1 j B) : q_ok (y_si D h k v h).1 j B := by unfold q_ok; rw [q_si_n c, y_si_1, if_neg c]; exact a
def k_BT (D : y_D) : Prop := (q_ok (D 88).1 2 20 ∧ (D 88).1 0 = nI 3) ∧ q_ok (D 73).1 12 255 ∧ ∀ k, k < q_n (D 88).1 2 → q_ok (D 89).1 (k * 3 + 0) 7 ∧ q_ok (D 89).1 (k * 3 + 1) 7 ∧ q_ok (D 89).1 (k * 3 + 2) 365
abbrev k_knj (D : y_D) (wo : Int32) (b j p d : Nat) : Prop := kn (fun k => q_n (D 89).1 (k * 3 + 0)) (fun k => q_n (D 89).1 (k * 3 + 1)) (fun k => q_n (D 89).1 (k * 3 + 2)) (q_n (D 88).1 2) (fun k => (D 89).1 (k * 3 + 0) ≠ wo) (fun p => b.testBit p = true) j p d
abbrev k_kn (D : y_D) (wo : Int32) (b d p : Nat) : Prop := k_knj D wo b 7 p d
theorem k_BT_fx {D D2 : y_D} (h : y_fx [168] D D2) (a : k_BT D) : k_BT D2 := by
  unfold k_BT at a ⊢
  rw [h.1 88 (by decide), h.1 89 (by decide), h.1 73 (by decide)]
  exact a
theorem k_knj_fx {D D2 : y_D} (h : y_fx [168] D D2) : k_knj D2 = k_knj D := by
  unfold k_knj
  rw [h.1 88 (by decide), h.1 89 (by decide)]
abbrev k_ks (D : y_D) (p : Nat) : Nat := q_n (D 168).1 p
def k_PM (D : y_D) (mu : Bool) (b d p : Nat) : Prop := if mu = false then b.testBit p = true ∧ k_kn D (-1) (2 ^ p) d 0 else k_kn D (-1) b d 0 ∧ ¬ k_kn D (nI p) b d 0
theorem k_spread {V : x_E} {n : Nat} {L : List Nat} {D : y_D} {k : Nat} (hL : y_ok L) (hT : k_BT D) (hk : k < q_n (D 88).1 2) (hks : ∀ p, p < 8 → q_ok (D 168).1 p 366) : y_Rv V yX10_spread cX10_spread 5 none 1 [.ref 64, .int (nI k)] n L D (fun D2 => (D2 = y_si D 168 (q_n (D 89).1 (k * 3 + 1)) (nI (q_n (D 89).1 (k * 3 + 2))) ∧ k_ks D (q_n (D 89).1 (k * 3 + 0)) ≤ q_n (D 89).1 (k * 3 + 2) ∧ q_n (D 89).1 (k * 3 + 2) < k_ks D (q_n (D 89).1 (k * 3 + 1))) ∨ (D2 = D ∧ ¬ (k_ks D (q_n (D 89).1 (k * 3 + 0)) ≤ q_n (D 89).1 (k * 3 + 2) ∧ q_n (D 89).1 (k * 3 + 2) < k_ks D (q_n (D 89).1 (k * 3 + 1))))) := by
  refine y_rv (by decide) (Nat.le_of_ble_eq_true rfl) (fun E hE => ?_)
  change E 0 0 0 [(0, .ref 64), (1, .int (nI k))] [] (y_mk n L D)
  refine r_aload_n hE dX10_spread_0 rfl ?_
  refine t_getr hE f_X10_23 y_R_64_3 dX10_spread_1 (hL 64 (by decide)) ?_
  refine t_getr hE f_X10_256 y_R_73_10 dX10_spread_4 (hL 73 (by decide)) ?_
  refine r_iload_n hE dX10_spread_7 rfl ?_
  refine r_iconst (v := 0) hE dX10_spread_8 (by decide) ?_
  refine t_invv (r := (some (.int (if k < q_n (D 88).1 2 ∧ 0 < 3 then (D 89).1 (k * 3 + 0) else 0)))) (S2 := (y_mk n L D)) hE [.int (nI k), .int 0] (k_get (D := D) (k := q_n (D 88).1 2) (wd := 3) y_T_88 (hL 88 (by decide)) (hL 89 (by decide)) hT.1.1.1 hT.1.2 (by have := hT.1.1.2; omega) (by decide) (by decide) (r := k) (c := 0) (by have := hT.1.1.2; omega) (by decide) (by have := hT.1.1.2; omega)) v_yX7_get m_X10_246 dX10_spread_9 rfl (hL 88 (by decide)) (y_l_88 (D 88)) rfl (by decide) ⟨Nat.le_refl _, Nat.le_refl _⟩ (Nat.le_of_ble_eq_true rfl) ?_
  show E 0 0 12 [(0, .ref 64), (1, .int (nI k))] [.int (if k < q_n (D 88).1 2 ∧ 0 < 3 then (D 89).1 (k * 3 + 0) else 0)] (y_mk n L D)
  refine r_top (y := (nI (q_n (D 89).1 (k * 3 + 0)))) (by rw [if_pos ⟨by omega, by decide⟩]; exact (hT.2.2 k hk).1.1) ?_
  refine r_istore_n (ls2 := [(0, .ref 64), (1, .int (nI k)), (2, .int (nI (q_n (D 89).1 (k * 3 + 0))))]) hE dX10_spread_12 (by decide) rfl ?_
  refine r_aload_n hE dX10_spread_13 rfl ?_
  refine t_getr hE f_X10_23 y_R_64_3 dX10_spread_14 (hL 64 (by decide)) ?_
  refine t_getr hE f_X10_256 y_R_73_10 dX10_spread_17 (hL 73 (by decide)) ?_
  refine r_iload_n hE dX10_spread_20 rfl ?_
  refine r_iconst (v := 1) hE dX10_spread_21 (by decide) ?_
  refine t_invv (r := (some (.int (if k < q_n (D 88).1 2 ∧ 1 < 3 then (D 89).1 (k * 3 + 1) else 0)))) (S2 := (y_mk n L D)) hE [.int (nI k), .int 1] (k_get (D := D) (k := q_n (D 88).1 2) (wd := 3) y_T_88 (hL 88 (by decide)) (hL 89 (by decide)) hT.1.1.1 hT.1.2 (by have := hT.1.1.2; omega) (by decide) (by decide) (r := k) (c := 1) (by have := hT.1.1.2; omega) (by decide) (by have := hT.1.1.2; omega)) v_yX7_get m_X10_246 dX10_spread_22 rfl (hL 88 (by decide)) (y_l_88 (D 88)) rfl (by decide) ⟨Nat.le_refl _, Nat.le_refl _⟩ (Nat.le_of_ble_eq_true rfl) ?_
  show E 0 0 25 [(0, .ref 64), (1, .int (nI k)), (2, .int (nI (q_n (D 89).1 (k * 3 + 0))))] [.int (if k < q_n (D 88).1 2 ∧ 1 < 3 then (D 89).1 (k * 3 + 1) else 0)] (y_mk n L D)
  refine r_top (y := (nI (q_n (D 89).1 (k * 3 + 1)))) (by rw [if_pos ⟨by omega, by decide⟩]; exact (hT.2.2 k hk).2.1.1) ?_
  refine r_istore_n (ls2 := [(0, .ref 64), (1, .int (nI k)), (2, .int (nI (q_n (D 89).1 (k * 3 + 0)))), (3, .int (nI (q_n (D 89).1 (k * 3 + 1))))]) hE dX10_spread_25 (by decide) rfl ?_
  refine r_aload_n hE dX10_spread_26 rfl ?_
  refine t_getr hE f_X10_23 y_R_64_3 dX10_spread_27 (hL 64 (by decide)) ?_
  refine t_getr hE f_X10_256 y_R_73_10 dX10_spread_30 (hL 73 (by decide)) ?_
  refine r_iload_n hE dX10_spread_33 rfl ?_
  refine r_iconst (v := 2) hE dX10_spread_34 (by decide) ?_
  refine t_invv (r := (some (.int (if k < q_n (D 88).1 2 ∧ 2 < 3 then (D 89).1 (k * 3 + 2) else 0)))) (S2 := (y_mk n L D)) hE [.int (nI k), .int 2] (k_get (D := D) (k := q_n (D 88).1 2) (wd := 3) y_T_88 (hL 88 (by decide)) (hL 89 (by decide)) hT.1.1.1 hT.1.2 (by have := hT.1.1.2; omega) (by decide) (by decide) (r := k) (c := 2) (by have := hT.1.1.2; omega) (by decide) (by have := hT.1.1.2; omega)) v_yX7_get m_X10_246 dX10_spread_35 rfl (hL 88 (by decide)) (y_l_88 (D 88)) rfl (by decide) ⟨Nat.le_refl _, Nat.le_refl _⟩ (Nat.le_of_ble_eq_true rfl) ?_
  show E 0 0 38 [(0, .ref 64), (1, .int (nI k)), (2, .int (nI (q_n (D 89).1 (k * 3 + 0)))), (3, .int (nI (q_n (D 89).1 (k * 3 + 1))))] [.int (if k < q_n (D 88).1 2 ∧ 2 < 3 then (D 89).1 (k * 3 + 2) else 0)] (y_mk n L D)
  refine r_top (y := (nI (q_n (D 89).1 (k * 3 + 2)))) (by rw [if_pos ⟨by omega, by decide⟩]; exact (hT.2.2 k hk).2.2.1) ?_
  refine r_istore (ls2 := [(0, .ref 64), (1, .int (nI k)), (2, .int (nI (q_n (D 89).1 (k * 3 + 0)))), (3, .int (nI (q_n (D 89).1 (k * 3 + 1)))), (4, .int (nI (q_n (D 89).1 (k * 3 + 2))))]) hE dX10_spread_38 (by decide) rfl ?_
  have hf9 : q_n (D 89).1 (k * 3 + 0) ≤ 7 := (hT.2.2 k hk).1.2
  have ht9 : q_n (D 89).1 (k * 3 + 1) ≤ 7 := (hT.2.2 k hk).2.1.2
  have hy9 : q_n (D 89).1 (k * 3 + 2) ≤ 365 := (hT.2.2 k hk).2.2.2
  have hs1 : k_ks D (q_n (D 89).1 (k * 3 + 0)) ≤ 366 := (hks _ (by omega)).2
  have hs2 : k_ks D (q_n (D 89).1 (k * 3 + 1)) ≤ 366 := (hks _ (by omega)).2
  refine r_aload_n hE dX10_spread_40 rfl ?_
  refine t_getr hE f_X10_54 y_R_64_10 dX10_spread_41 (hL 64 (by decide)) ?_
  refine r_iload_n hE dX10_spread_44 rfl ?_
  refine t_ialdN (e := q_n (D 89).1 (k * 3 + 0)) hE y_A_168 dX10_spread_45 (hL 168 (by decide)) (by omega) (by decide) ?_
  refine r_top (y := (nI (k_ks D (q_n (D 89).1 (k * 3 + 0))))) (hks _ (by omega)).1 ?_
  refine r_iload hE dX10_spread_46 rfl ?_
  refine r_icmp_gtN (a := k_ks D (q_n (D 89).1 (k * 3 + 0))) (b := q_n (D 89).1 (k * 3 + 2)) (tgt := 70) hE dX10_spread_48 (by decide) (by omega) (by omega) (fun c48 => ?_) (fun c48 => ?_)
  · refine r_return hE dX10_spread_70 rfl (Nat.zero_le _) (Nat.zero_le _) ?_
    first
    | exact ⟨_, rfl, rfl, Or.inl ⟨rfl, by omega, by omega⟩⟩
    | exact ⟨_, rfl, rfl, Or.inr ⟨rfl, by omega⟩⟩
  · refine r_aload_n hE dX10_spread_51 rfl ?_
    refine t_getr hE f_X10_54 y_R_64_10 dX10_spread_52 (hL 64 (by decide)) ?_
    refine r_iload_n hE dX10_spread_55 rfl ?_
    refine t_ialdN (e := q_n (D 89).1 (k * 3 + 1)) hE y_A_168 dX10_spread_56 (hL 168 (by decide)) (by omega) (by decide) ?_
    refine r_top (y := (nI (k_ks D (q_n (D 89).1 (k * 3 + 1))))) (hks _ (by omega)).1 ?_
    refine r_iload hE dX10_spread_57 rfl ?_
    refine r_icmp_leN (a := k_ks D (q_n (D 89).1 (k * 3 + 1))) (b := q_n (D 89).1 (k * 3 + 2)) (tgt := 70) hE dX10_spread_59 (by decide) (by omega) (by omega) (fun c59 => ?_) (fun c59 => ?_)
    · refine r_return hE dX10_spread_70 rfl (Nat.zero_le _) (Nat.zero_le _) ?_
      first
      | exact ⟨_, rfl, rfl, Or.inl ⟨rfl, by omega, by omega⟩⟩
      | exact ⟨_, rfl, rfl, Or.inr ⟨rfl, by omega⟩⟩
    · refine r_aload_n hE dX10_spread_62 rfl ?_
      refine t_getr hE f_X10_54 y_R_64_10 dX10_spread_63 (hL 64 (by decide)) ?_
      refine r_iload_n hE dX10_spread_66 rfl ?_
      refine r_iload hE dX10_spread_67 rfl ?_
      refine t_iastN (e := q_n (D 89).1 (k * 3 + 1)) hE y_A_168 dX10_spread_69 (hL 168 (by decide)) (by omega) (by decide) ?_
      refine r_return hE dX10_spread_70 rfl (Nat.zero_le _) (Nat.zero_le _) ?_
      first
      | exact ⟨_, rfl, rfl, Or.inl ⟨rfl, by omega, by omega⟩⟩
      | exact ⟨_, rfl, rfl, Or.inr ⟨rfl, by omega⟩⟩
theorem k_knowersOn {V : x_E} {n : Nat} {L : List Nat} {D : y_D} {b0 d : Nat} {wo : Int32} (hL : y_ok L) (hT : k_BT D) (hb0 : b0 < 256) (hd : d ≤ 365) : y_Ri V yX10_knowersOn cX10_knowersOn 6 (some .int) 2 [.ref 64, .int (nI d), .int (nI b0), .int wo] n L D (fun v D2 => y_s8 v (fun p => k_kn D wo b0 d p) ∧ y_fx [168] D D2) := by
  refine y_ri (by decide) (Nat.le_of_ble_eq_true rfl) (fun E hE => ?_)
  change E 0 0 0 [(0, .ref 64), (1, .int (nI d)), (2, .int (nI b0)), (3, .int wo)] [] (y_mk n L D)
  have hfr : ∀ k, k < q_n (D 88).1 2 → q_n (D 89).1 (k * 3 + 0) < 8 := fun k hk => Nat.lt_succ_of_le (hT.2.2 k hk).1.2
  have hnt : q_n (D 88).1 2 ≤ 20 := hT.1.1.2
  have l1 : ∀ (i : Nat) (D8 : y_D), i ≤ 8 → y_fx [168] D D8 → (∀ p, p < i → q_ok (D8 168).1 p 366 ∧ k_ks D8 p = if b0.testBit p = true then 0 else 366) → E 0 0 3 [(0, .ref 64), (1, .int (nI d)), (2, .int (nI b0)), (3, .int wo), (4, .int (nI i))] [] (y_mk n L D8) := by
    intro i D8
    induction hm9 : (8 - i) using Nat.strongRecOn generalizing i D8 with
    | _ m9 ih =>
      intro hi fr inv
      subst hm9
      refine r_iload hE dX10_knowersOn_3 rfl ?_
      refine r_bipush (v := 8) hE dX10_knowersOn_5 (by decide) ?_
      refine r_icmp_geN (a := i) (b := 8) (tgt := 39) hE dX10_knowersOn_7 (by decide) (by omega) (by decide) (fun c7 => ?_) (fun c7 => ?_)
      · refine r_iconst (v := 1) hE dX10_knowersOn_39 (by decide) ?_
        refine r_istore (ls2 := [(0, .ref 64), (1, .int (nI d)), (2, .int (nI b0)), (3, .int wo), (4, .int 1)]) hE dX10_knowersOn_40 (by decide) rfl ?_
        have l2 : ∀ (r : Nat) (D8 : y_D), r ≤ 7 → y_fx [168] D D8 → (∀ p, p < 8 → q_ok (D8 168).1 p 366) → (∀ p, p < 8 → k_ks D8 p ≤ 365 → k_knj D wo b0 7 p (k_ks D8 p)) → (∀ p, p < 8 → ∀ x, x ≤ 365 → k_knj D wo b0 r p x → k_ks D8 p ≤ x) → E 0 0 42 [(0, .ref 64), (1, .int (nI d)), (2, .int (nI b0)), (3, .int wo), (4, .int (nI (r + 1)))] [] (y_mk n L D8) := by
          intro r D8
          induction hm9 : (7 - r) using Nat.strongRecOn generalizing r D8 with
          | _ m9 ih =>
            intro hr fr ok so co
            subst hm9
            refine r_iload hE dX10_knowersOn_42 rfl ?_
            refine r_bipush (v := 8) hE dX10_knowersOn_44 (by decide) ?_
            refine r_icmp_geN (a := r + 1) (b := 8) (tgt := 102) hE dX10_knowersOn_46 (by decide) (by omega) (by decide) (fun c46 => ?_) (fun c46 => ?_)
            · refine r_iconst (v := 0) hE dX10_knowersOn_102 (by decide) ?_
              refine r_istore (ls2 := [(0, .ref 64), (1, .int (nI d)), (2, .int (nI b0)), (3, .int wo), (4, .int 0)]) hE dX10_knowersOn_103 (by decide) rfl ?_
              refine r_iconst (v := 0) hE dX10_knowersOn_105 (by decide) ?_
              refine r_istore (ls2 := [(0, .ref 64), (1, .int (nI d)), (2, .int (nI b0)), (3, .int wo), (4, .int 0), (5, .int 0)]) hE dX10_knowersOn_106 (by decide) rfl ?_
              rw [show r = 7 by omega] at co
              have l4 : ∀ (p : Nat) (v : Int32), p ≤ 8 → y_s8 v (fun q => q < p ∧ k_ks D8 q ≤ d) → E 0 0 108 [(0, .ref 64), (1, .int (nI d)), (2, .int (nI b0)), (3, .int wo), (4, .int v), (5, .int (nI p))] [] (y_mk n L D8) := by
                intro p v
                induction hm9 : (8 - p) using Nat.strongRecOn generalizing p v with
                | _ m9 ih =>
                  intro hp hv
                  subst hm9
                  have hs366 : ∀ q, q < 8 → k_ks D8 q ≤ 366 := fun q hq => (ok q hq).2
                  refine r_iload hE dX10_knowersOn_108 rfl ?_
                  refine r_bipush (v := 8) hE dX10_knowersOn_110 (by decide) ?_
                  refine r_icmp_geN (a := p) (b := 8) (tgt := 145) hE dX10_knowersOn_112 (by decide) (by omega) (by decide) (fun c112 => ?_) (fun c112 => ?_)
                  · refine r_iload hE dX10_knowersOn_145 rfl ?_
                    refine r_ireturn hE dX10_knowersOn_147 rfl rfl (Nat.zero_le _) (Nat.zero_le _) ?_
                    rw [show p = 8 by omega] at hv
                    exact ⟨_, _, rfl, rfl, y_s8_imp hv (fun p hp => ⟨fun q => kn_up (so p hp (by omega)) q.2, fun q => ⟨hp, co p hp d hd q⟩⟩), fr⟩
                  · refine r_iload hE dX10_knowersOn_115 rfl ?_
                    refine r_aload_n hE dX10_knowersOn_117 rfl ?_
                    refine t_getr hE f_X10_54 y_R_64_10 dX10_knowersOn_118 (hL 64 (by decide)) ?_
                    refine r_iload hE dX10_knowersOn_121 rfl ?_
                    refine t_ialdN (e := p) hE y_A_168 dX10_knowersOn_123 (hL 168 (by decide)) (by omega) (by decide) ?_
                    refine r_top (y := (nI (k_ks D8 p))) (ok p (by omega)).1 ?_
                    have hs9 := hs366 p (by omega)
                    refine r_iload_n hE dX10_knowersOn_124 rfl ?_
                    refine r_icmp_gtN (a := k_ks D8 p) (b := d) (tgt := 135) hE dX10_knowersOn_125 (by decide) (by omega) (by omega) (fun c125 => ?_) (fun c125 => ?_)
                    · refine r_iconst (v := 0) hE dX10_knowersOn_135 (by decide) ?_
                      refine r_ior hE dX10_knowersOn_136 ?_
                      refine r_istore (ls2 := [(0, .ref 64), (1, .int (nI d)), (2, .int (nI b0)), (3, .int wo), (4, .int (v ||| 0)), (5, .int (nI p))]) hE dX10_knowersOn_137 (by decide) rfl ?_
                      refine r_iincN (a := p) (b := 1) (ls2 := [(0, .ref 64), (1, .int (nI d)), (2, .int (nI b0)), (3, .int wo), (4, .int (v ||| 0)), (5, .int (nI (p + 1)))]) hE dX10_knowersOn_139 rfl rfl (by decide) rfl ?_
                      refine r_goto (tgt := 108) hE dX10_knowersOn_142 (by decide) ?_
                      refine ih (8 - (p + 1)) (by omega) (p + 1) _ rfl (by omega) (by rw [Int32.or_zero]; exact y_s8_n (P := fun q => k_ks D8 q ≤ d) hv (by omega))
                    · refine r_iconst (v := 1) hE dX10_knowersOn_128 (by decide) ?_
                      refine r_iload hE dX10_knowersOn_129 rfl ?_
                      refine r_shl1N (k := p) hE dX10_knowersOn_131 (by omega) ?_
                      refine r_goto (tgt := 136) hE dX10_knowersOn_132 (by decide) ?_
                      refine r_ior hE dX10_knowersOn_136 ?_
                      refine r_istore (ls2 := [(0, .ref 64), (1, .int (nI d)), (2, .int (nI b0)), (3, .int wo), (4, .int (v ||| (nI (2 ^ p)))), (5, .int (nI p))]) hE dX10_knowersOn_137 (by decide) rfl ?_
                      refine r_iincN (a := p) (b := 1) (ls2 := [(0, .ref 64), (1, .int (nI d)), (2, .int (nI b0)), (3, .int wo), (4, .int (v ||| (nI (2 ^ p)))), (5, .int (nI (p + 1)))]) hE dX10_knowersOn_139 rfl rfl (by decide) rfl ?_
                      refine r_goto (tgt := 108) hE dX10_knowersOn_142 (by decide) ?_
                      refine ih (8 - (p + 1)) (by omega) (p + 1) _ rfl (by omega) (y_s8_y (P := fun q => k_ks D8 q ≤ d) (by omega) hv c125)
              exact l4 0 0 (by omega) (y_s8_z (fun p hp q => by omega))
            · refine r_iconst (v := 0) hE dX10_knowersOn_49 (by decide) ?_
              refine r_istore (ls2 := [(0, .ref 64), (1, .int (nI d)), (2, .int (nI b0)), (3, .int wo), (4, .int (nI (r + 1))), (5, .int 0)]) hE dX10_knowersOn_50 (by decide) rfl ?_
              have ihr := ih
              obtain ⟨D7, hD7⟩ : ∃ z, z = D8 := ⟨_, rfl⟩
              rw [← hD7] at co
              have l3 : ∀ (k : Nat) (D8 : y_D), k ≤ q_n (D 88).1 2 → y_fx [168] D D8 → (∀ p, p < 8 → q_ok (D8 168).1 p 366) → (∀ p, p < 8 → k_ks D8 p ≤ 365 → k_knj D wo b0 7 p (k_ks D8 p)) → (∀ p, p < 8 → k_ks D8 p ≤ k_ks D7 p) → (∀ j, j < k → (D 89).1 (j * 3 + 0) ≠ wo → k_ks D7 (q_n (D 89).1 (j * 3 + 0)) ≤ q_n (D 89).1 (j * 3 + 2) → k_ks D8 (q_n (D 89).1 (j * 3 + 1)) ≤ q_n (D 89).1 (j * 3 + 2)) → E 0 0 52 [(0, .ref 64), (1, .int (nI d)), (2, .int (nI b0)), (3, .int wo), (4, .int (nI (r + 1))), (5, .int (nI k))] [] (y_mk n L D8) := by
                intro k D8
                induction hm9 : (q_n (D 88).1 2 - k) using Nat.strongRecOn generalizing k D8 with
                | _ m9 ih =>
                  intro hk fr ok so mn mk
                  subst hm9
                  refine r_iload hE dX10_knowersOn_52 rfl ?_
                  refine r_aload_n hE dX10_knowersOn_54 rfl ?_
                  refine t_getr hE f_X10_23 y_R_64_3 dX10_knowersOn_55 (hL 64 (by decide)) ?_
                  refine t_getr hE f_X10_256 y_R_73_10 dX10_knowersOn_58 (hL 73 (by decide)) ?_
                  refine t_geti hE f_X10_176 y_I_88_2 dX10_knowersOn_61 (hL 88 (by decide)) ?_
                  refine r_top (y := (nI (q_n (D 88).1 2))) (by rw [fr.1 88 (by decide)]; exact hT.1.1.1) ?_
                  refine r_icmp_geN (a := k) (b := q_n (D 88).1 2) (tgt := 96) hE dX10_knowersOn_64 (by decide) (by omega) (by omega) (fun c64 => ?_) (fun c64 => ?_)
                  · refine r_iincN (a := r + 1) (b := 1) (ls2 := [(0, .ref 64), (1, .int (nI d)), (2, .int (nI b0)), (3, .int wo), (4, .int (nI ((r + 1) + 1))), (5, .int (nI k))]) hE dX10_knowersOn_96 rfl rfl (by decide) rfl ?_
                    refine r_goto (tgt := 42) hE dX10_knowersOn_99 (by decide) ?_
                    refine r_locs hE (ls2 := [(0, .ref 64), (1, .int (nI d)), (2, .int (nI b0)), (3, .int wo), (4, .int (nI (r + 1 + 1)))]) ?_ (ihr (7 - (r + 1)) (by omega) (r + 1) _ rfl (by omega) fr ok so (fun p hp x hx h => ?_))
                    · simp [x_lk]
                    · rcases h with h | ⟨u, y, h1, ⟨j, j1, j2, j3, j4, j5⟩, h3⟩
                      · have := mn p hp; have := co p hp x hx h; omega
                      · dsimp only at j3 j4 j5
                        have hu : u < 8 := by rw [← j3]; exact hfr j j1
                        have h9 := mk j (by omega) j2 (by rw [j3, j5]; exact co u hu y (by omega) h3)
                        rw [j4, j5] at h9
                        omega
                  · refine r_aload_n hE dX10_knowersOn_67 rfl ?_
                    refine t_getr hE f_X10_23 y_R_64_3 dX10_knowersOn_68 (hL 64 (by decide)) ?_
                    refine t_getr hE f_X10_256 y_R_73_10 dX10_knowersOn_71 (hL 73 (by decide)) ?_
                    refine r_iload hE dX10_knowersOn_74 rfl ?_
                    refine r_iconst (v := 0) hE dX10_knowersOn_76 (by decide) ?_
                    refine t_invv (r := (some (.int (if k < q_n (D 88).1 2 ∧ 0 < 3 then (D8 89).1 (k * 3 + 0) else 0)))) (S2 := (y_mk n L D8)) hE [.int (nI k), .int 0] (k_get (D := D8) (k := q_n (D 88).1 2) (wd := 3) y_T_88 (hL 88 (by decide)) (hL 89 (by decide)) (by rw [fr.1 88 (by decide)]; exact hT.1.1.1) (by rw [fr.1 88 (by decide)]; exact hT.1.2) (by have := hT.1.1.2; omega) (by decide) (by decide) (r := k) (c := 0) (by have := hT.1.1.2; omega) (by decide) (by have := hT.1.1.2; omega)) v_yX7_get m_X10_246 dX10_knowersOn_77 rfl (hL 88 (by decide)) (y_l_88 (D8 88)) rfl (by decide) ⟨Nat.le_refl _, Nat.le_refl _⟩ (Nat.le_of_ble_eq_true rfl) ?_
                    show E 0 0 80 [(0, .ref 64), (1, .int (nI d)), (2, .int (nI b0)), (3, .int wo), (4, .int (nI (r + 1))), (5, .int (nI k))] [.int (if k < q_n (D 88).1 2 ∧ 0 < 3 then (D8 89).1 (k * 3 + 0) else 0)] (y_mk n L D8)
                    refine r_top (y := ((D 89).1 (k * 3 + 0))) (by rw [if_pos ⟨by omega, by decide⟩, fr.1 89 (by decide)]) ?_
                    refine r_iload_n hE dX10_knowersOn_80 rfl ?_
                    refine r_icmp_eq (tgt := 90) hE dX10_knowersOn_81 (by decide) (fun c81 => ?_) (fun c81 => ?_)
                    · refine r_iincN (a := k) (b := 1) (ls2 := [(0, .ref 64), (1, .int (nI d)), (2, .int (nI b0)), (3, .int wo), (4, .int (nI (r + 1))), (5, .int (nI (k + 1)))]) hE dX10_knowersOn_90 rfl rfl (by decide) rfl ?_
                      refine r_goto (tgt := 52) hE dX10_knowersOn_93 (by decide) ?_
                      refine ih (q_n (D 88).1 2 - (k + 1)) (by omega) (k + 1) _ rfl (by omega) fr ok so mn (fun j hj h1 h2 => ?_)
                      by_cases c : j = k
                      · rw [c] at h1; exact absurd c81 h1
                      · exact mk j (by omega) h1 h2
                    · refine r_aload_n hE dX10_knowersOn_84 rfl ?_
                      refine r_iload hE dX10_knowersOn_85 rfl ?_
                      refine t_invvRv hE [.int (nI k)] (k_spread (D := D8) (k := k) hL (k_BT_fx fr hT) (by rw [fr.1 88 (by decide)]; omega) ok) v_yX10_spread m_X10_347 dX10_knowersOn_87 rfl (hL 64 (by decide)) (y_l_64 (D8 64)) rfl (by decide) ⟨Nat.le_refl _, Nat.le_refl _⟩ (Nat.le_of_ble_eq_true rfl) (fun D9 q9 => ?_)
                      rw [fr.1 89 (by decide)] at q9
                      show E 0 0 90 [(0, .ref 64), (1, .int (nI d)), (2, .int (nI b0)), (3, .int wo), (4, .int (nI (r + 1))), (5, .int (nI k))] [] (y_mk n L D9)
                      refine r_iincN (a := k) (b := 1) (ls2 := [(0, .ref 64), (1, .int (nI d)), (2, .int (nI b0)), (3, .int wo), (4, .int (nI (r + 1))), (5, .int (nI (k + 1)))]) hE dX10_knowersOn_90 rfl rfl (by decide) rfl ?_
                      refine r_goto (tgt := 52) hE dX10_knowersOn_93 (by decide) ?_
                      rcases q9 with ⟨rfl, g1, g2⟩ | ⟨rfl, g1⟩
                      · have hy9 : q_n (D 89).1 (k * 3 + 2) ≤ 365 := (hT.2.2 k (by omega)).2.2.2
                        have ht9 : q_n (D 89).1 (k * 3 + 1) ≤ 7 := (hT.2.2 k (by omega)).2.1.2
                        have hf9 : q_n (D 89).1 (k * 3 + 0) ≤ 7 := (hT.2.2 k (by omega)).1.2
                        have ks2 : ∀ p, k_ks (y_si D8 168 (q_n (D 89).1 (k * 3 + 1)) (nI (q_n (D 89).1 (k * 3 + 2)))) p = if p = q_n (D 89).1 (k * 3 + 1) then q_n (D 89).1 (k * 3 + 2) else k_ks D8 p := by
                          intro p
                          unfold k_ks
                          by_cases c : p = q_n (D 89).1 (k * 3 + 1)
                          · rw [q_si_y c, if_pos c, nI_clamp (by omega)]
                          · rw [q_si_n c, if_neg c]
                        refine ih (q_n (D 88).1 2 - (k + 1)) (by omega) (k + 1) _ rfl (by omega) (y_fx_s fr (by decide)) (fun p hp => ?_) (fun p hp h => ?_) (fun p hp => ?_) (fun j hj h1 h2 => ?_)
                        · by_cases c : p = q_n (D 89).1 (k * 3 + 1)
                          · exact (q_mk (a := q_n (D 89).1 (k * 3 + 2)) (by rw [y_si_1, if_pos c]) (by omega) (by omega)).1
                          · exact q_ok_n c (ok p hp)
                        · rw [ks2] at h ⊢
                          by_cases c : p = q_n (D 89).1 (k * 3 + 1)
                          · rw [if_pos c, c]
                            exact kn_7 hfr (by omega) (j := 8) (Or.inr ⟨q_n (D 89).1 (k * 3 + 0), q_n (D 89).1 (k * 3 + 2), Nat.le_refl _, ⟨k, by omega, c81, rfl, rfl, rfl⟩, kn_up (so _ (by omega) (by omega)) g1⟩)
                          · rw [if_neg c] at h ⊢
                            exact so p hp h
                        · rw [ks2]
                          by_cases c : p = q_n (D 89).1 (k * 3 + 1)
                          · rw [if_pos c, c]; have := mn (q_n (D 89).1 (k * 3 + 1)) (by omega); omega
                          · rw [if_neg c]; exact mn p hp
                        · rw [ks2]
                          by_cases c : j = k
                          · rw [c, if_pos rfl]; exact Nat.le_refl _
                          · have := mk j (by omega) h1 h2
                            by_cases c2 : q_n (D 89).1 (j * 3 + 1) = q_n (D 89).1 (k * 3 + 1)
                            · rw [if_pos c2]; rw [c2] at this; omega
                            · rw [if_neg c2]; exact this
                      · refine ih (q_n (D 88).1 2 - (k + 1)) (by omega) (k + 1) _ rfl (by omega) fr ok so mn (fun j hj h1 h2 => ?_)
                        by_cases c : j = k
                        · subst c
                          have := mn (q_n (D 89).1 (j * 3 + 0)) (Nat.lt_succ_of_le (hT.2.2 j (by omega)).1.2)
                          omega
                        · exact mk j (by omega) h1 h2
              exact l3 0 D8 (by omega) fr ok so (fun p hp => by rw [hD7]; exact Nat.le_refl _) (fun j hj => absurd hj (by omega))
        refine r_locs hE (ls2 := [(0, .ref 64), (1, .int (nI d)), (2, .int (nI b0)), (3, .int wo), (4, .int (nI (0 + 1)))]) ?_ (l2 0 _ (by omega) fr (fun p hp => (inv p (by omega)).1) (fun p hp h => ?_) (fun p hp x hx h => ?_))
        · simp [x_lk]; rfl
        · rw [(inv p (by omega)).2] at h ⊢
          by_cases c : b0.testBit p = true
          · rw [if_pos c]; exact g_mono (j := 0) (d := 7) c
          · rw [if_neg c] at h; omega
        · have h9 : b0.testBit p = true := h
          rw [(inv p (by omega)).2, if_pos h9]; omega
      · refine r_aload_n hE dX10_knowersOn_10 rfl ?_
        refine t_getr hE f_X10_54 y_R_64_10 dX10_knowersOn_11 (hL 64 (by decide)) ?_
        refine r_iload hE dX10_knowersOn_14 rfl ?_
        refine r_iload_n hE dX10_knowersOn_16 rfl ?_
        refine r_iload hE dX10_knowersOn_17 rfl ?_
        refine t_invs (r := (some (.int (y_b (y_bit (nI b0) i))))) (S2 := (y_mk n L D8)) hE [.int (nI b0), .int (nI i)] (k_hasBit) s_yX10_hasBit m_X10_172 dX10_knowersOn_19 rfl (by decide) ⟨Nat.le_refl _, Nat.le_refl _⟩ (Nat.le_of_ble_eq_true rfl) ?_
        show E 0 0 22 [(0, .ref 64), (1, .int (nI d)), (2, .int (nI b0)), (3, .int wo), (4, .int (nI i))] [.int (y_b (y_bit (nI b0) i)), .int (nI i), .ref 168] (y_mk n L D8)
        refine r_ifb_eq (tgt := 29) hE dX10_knowersOn_22 (by decide) (fun c22 => ?_) (fun c22 => ?_)
        · refine r_sipush (v := 366) hE dX10_knowersOn_29 (by decide) ?_
          refine t_iastN (e := i) hE y_A_168 dX10_knowersOn_32 (hL 168 (by decide)) (by omega) (by decide) ?_
          refine r_iincN (a := i) (b := 1) (ls2 := [(0, .ref 64), (1, .int (nI d)), (2, .int (nI b0)), (3, .int wo), (4, .int (nI (i + 1)))]) hE dX10_knowersOn_33 rfl rfl (by decide) rfl ?_
          refine r_goto (tgt := 3) hE dX10_knowersOn_36 (by decide) ?_
          have e9 : (366 : Int32) = nI 366 := rfl
          rw [e9]
          refine ih (8 - (i + 1)) (by omega) (i + 1) _ rfl (by omega) (y_fx_s fr (by decide)) (fun p hp => ?_)
          by_cases c : p = i
          · have h9 := q_mk (W := (y_si D8 168 i (nI 366) 168).1) (j := p) (B := 366) (a := 366) (by rw [y_si_1, if_pos c]) (by decide) (by decide)
            refine ⟨h9.1, ?_⟩
            show q_n _ _ = _
            rw [h9.2, c]
            first | rw [if_pos ((y_bit_tb (by omega)).mp c22)] | rw [if_neg (fun q => c22 ((y_bit_tb (by omega)).mpr q))]
          · have h8 := inv p (by omega)
            unfold k_ks q_ok q_n at h8 ⊢
            rw [y_si_1, if_neg c]
            exact h8
        · refine r_iconst (v := 0) hE dX10_knowersOn_25 (by decide) ?_
          refine r_goto (tgt := 32) hE dX10_knowersOn_26 (by decide) ?_
          refine t_iastN (e := i) hE y_A_168 dX10_knowersOn_32 (hL 168 (by decide)) (by omega) (by decide) ?_
          refine r_iincN (a := i) (b := 1) (ls2 := [(0, .ref 64), (1, .int (nI d)), (2, .int (nI b0)), (3, .int wo), (4, .int (nI (i + 1)))]) hE dX10_knowersOn_33 rfl rfl (by decide) rfl ?_
          refine r_goto (tgt := 3) hE dX10_knowersOn_36 (by decide) ?_
          have e9 : (0 : Int32) = nI 0 := rfl
          rw [e9]
          refine ih (8 - (i + 1)) (by omega) (i + 1) _ rfl (by omega) (y_fx_s fr (by decide)) (fun p hp => ?_)
          by_cases c : p = i
          · have h9 := q_mk (W := (y_si D8 168 i (nI 0) 168).1) (j := p) (B := 366) (a := 0) (by rw [y_si_1, if_pos c]) (by decide) (by decide)
            refine ⟨h9.1, ?_⟩
            show q_n _ _ = _
            rw [h9.2, c]
            first | rw [if_pos ((y_bit_tb (by omega)).mp c22)] | rw [if_neg (fun q => c22 ((y_bit_tb (by omega)).mpr q))]
          · have h8 := inv p (by omega)
            unfold k_ks q_ok q_n at h8 ⊢
            rw [y_si_1, if_neg c]
            exact h8
  refine r_iconst (v := 0) hE dX10_knowersOn_0 (by decide) ?_
  refine r_istore (ls2 := [(0, .ref 64), (1, .int (nI d)), (2, .int (nI b0)), (3, .int wo), (4, .int 0)]) hE dX10_knowersOn_1 (by decide) rfl ?_
  exact l1 0 _ (by omega) y_fx_r (fun p hp => absurd hp (by omega))
theorem k_sources {V : x_E} {n : Nat} {L : List Nat} {D : y_D} {d : Nat} (hL : y_ok L) (hT : k_BT D) (hd : d ≤ 365) : y_Ri V yX10_sources cX10_sources 4 (some .int) 3 [.ref 64, .int (nI d)] n L D (fun v D2 => y_s8 v (fun q => q < 8 ∧ 1 ≤ q ∧ k_PM D false (q_n (D 73).1 12) d q) ∧ y_fx [168] D D2) := by
  refine y_ri (by decide) (Nat.le_of_ble_eq_true rfl) (fun E hE => ?_)
  change E 0 0 0 [(0, .ref 64), (1, .int (nI d))] [] (y_mk n L D)
  have lp : ∀ (p : Nat) (v : Int32) (D8 : y_D), 1 ≤ p → p ≤ 8 → y_fx [168] D D8 → y_s8 v (fun q => q < p ∧ 1 ≤ q ∧ k_PM D false (q_n (D 73).1 12) d q) → E 0 0 4 [(0, .ref 64), (1, .int (nI d)), (2, .int v), (3, .int (nI p))] [] (y_mk n L D8) := by
    intro p v D8
    induction hm9 : (8 - p) using Nat.strongRecOn generalizing p v D8 with
    | _ m9 ih =>
      intro hp1 hp8 fr hv
      subst hm9
      refine r_iload_n hE dX10_sources_4 rfl ?_
      refine r_bipush (v := 8) hE dX10_sources_5 (by decide) ?_
      refine r_icmp_geN (a := p) (b := 8) (tgt := 52) hE dX10_sources_7 (by decide) (by omega) (by decide) (fun c7 => ?_) (fun c7 => ?_)
      · refine r_iload_n hE dX10_sources_52 rfl ?_
        refine r_ireturn hE dX10_sources_53 rfl rfl (Nat.zero_le _) (Nat.zero_le _) ?_
        rw [show p = 8 by omega] at hv
        exact ⟨_, _, rfl, rfl, hv, fr⟩
      · refine r_aload_n hE dX10_sources_10 rfl ?_
        refine t_getr hE f_X10_23 y_R_64_3 dX10_sources_11 (hL 64 (by decide)) ?_
        refine t_geti hE f_X10_253 y_I_73_12 dX10_sources_14 (hL 73 (by decide)) ?_
        refine r_top (y := (nI (q_n (D 73).1 12))) (by rw [fr.1 73 (by decide)]; exact hT.2.1.1) ?_
        refine r_iload_n hE dX10_sources_17 rfl ?_
        refine t_invs (r := (some (.int (y_b (y_bit (nI (q_n (D 73).1 12)) p))))) (S2 := (y_mk n L D8)) hE [.int (nI (q_n (D 73).1 12)), .int (nI p)] (k_hasBit) s_yX10_hasBit m_X10_172 dX10_sources_18 rfl (by decide) ⟨Nat.le_refl _, Nat.le_refl _⟩ (Nat.le_of_ble_eq_true rfl) ?_
        show E 0 0 21 [(0, .ref 64), (1, .int (nI d)), (2, .int v), (3, .int (nI p))] [.int (y_b (y_bit (nI (q_n (D 73).1 12)) p))] (y_mk n L D8)
        refine r_ifb_eq (tgt := 46) hE dX10_sources_21 (by decide) (fun c21 => ?_) (fun c21 => ?_)
        · refine r_iincN (a := p) (b := 1) (ls2 := [(0, .ref 64), (1, .int (nI d)), (2, .int v), (3, .int (nI (p + 1)))]) hE dX10_sources_46 rfl rfl (by decide) rfl ?_
          refine r_goto (tgt := 4) hE dX10_sources_49 (by decide) ?_
          exact ih (8 - (p + 1)) (by omega) (p + 1) _ _ rfl (by omega) (by omega) fr (y_s8_n (P := fun q => 1 ≤ q ∧ k_PM D false (q_n (D 73).1 12) d q) hv (fun q => by have := q.2; unfold k_PM at this; rw [if_pos rfl] at this; first | exact c37 ((y_s8_bit q9 (by decide)).mpr this.2) | exact c21 ((y_bit_tb (by omega)).mpr this.1)))
        · refine r_aload_n hE dX10_sources_24 rfl ?_
          refine r_iload_n hE dX10_sources_25 rfl ?_
          refine r_iconst (v := 1) hE dX10_sources_26 (by decide) ?_
          refine r_iload_n hE dX10_sources_27 rfl ?_
          refine r_shl1N (k := p) hE dX10_sources_28 (by omega) ?_
          refine r_iconst (v := (-1)) hE dX10_sources_29 (by decide) ?_
          refine t_invvRi hE [.int (nI d), .int (nI (2 ^ p)), .int (-1)] (k_knowersOn (D := D8) (b0 := 2 ^ p) (d := d) (wo := (-1)) hL (k_BT_fx fr hT) (Nat.pow_lt_pow_right (n := 8) (by decide) (by omega)) hd) v_yX10_knowersOn m_X10_259 dX10_sources_30 rfl (hL 64 (by decide)) (y_l_64 (D8 64)) rfl (by decide) ⟨Nat.le_refl _, Nat.le_refl _⟩ (Nat.le_of_ble_eq_true rfl) (fun v9 D9 q9 => ?_)
          obtain ⟨q9, f9⟩ := q9
          unfold k_kn at q9
          rw [k_knj_fx fr] at q9
          show E 0 0 33 [(0, .ref 64), (1, .int (nI d)), (2, .int v), (3, .int (nI p))] [.int v9] (y_mk n L D9)
          refine r_iconst (v := 0) hE dX10_sources_33 (by decide) ?_
          refine t_invs (r := (some (.int (y_b (y_bit v9 0))))) (S2 := (y_mk n L D9)) hE [.int v9, .int 0] (k_hasBit) s_yX10_hasBit m_X10_172 dX10_sources_34 rfl (by decide) ⟨Nat.le_refl _, Nat.le_refl _⟩ (Nat.le_of_ble_eq_true rfl) ?_
          show E 0 0 37 [(0, .ref 64), (1, .int (nI d)), (2, .int v), (3, .int (nI p))] [.int (y_b (y_bit v9 0))] (y_mk n L D9)
          refine r_ifb_eq (tgt := 46) hE dX10_sources_37 (by decide) (fun c37 => ?_) (fun c37 => ?_)
          · refine r_iincN (a := p) (b := 1) (ls2 := [(0, .ref 64), (1, .int (nI d)), (2, .int v), (3, .int (nI (p + 1)))]) hE dX10_sources_46 rfl rfl (by decide) rfl ?_
            refine r_goto (tgt := 4) hE dX10_sources_49 (by decide) ?_
            exact ih (8 - (p + 1)) (by omega) (p + 1) _ _ rfl (by omega) (by omega) (y_fx_t fr f9) (y_s8_n (P := fun q => 1 ≤ q ∧ k_PM D false (q_n (D 73).1 12) d q) hv (fun q => by have := q.2; unfold k_PM at this; rw [if_pos rfl] at this; first | exact c37 ((y_s8_bit q9 (by decide)).mpr this.2) | exact c21 ((y_bit_tb (by omega)).mpr this.1)))
          · refine r_iload_n hE dX10_sources_40 rfl ?_
            refine r_iconst (v := 1) hE dX10_sources_41 (by decide) ?_
            refine r_iload_n hE dX10_sources_42 rfl ?_
            refine r_shl1N (k := p) hE dX10_sources_43 (by omega) ?_
            refine r_ior hE dX10_sources_44 ?_
            refine r_istore_n (ls2 := [(0, .ref 64), (1, .int (nI d)), (2, .int (v ||| (nI (2 ^ p)))), (3, .int (nI p))]) hE dX10_sources_45 (by decide) rfl ?_
            refine r_iincN (a := p) (b := 1) (ls2 := [(0, .ref 64), (1, .int (nI d)), (2, .int (v ||| (nI (2 ^ p)))), (3, .int (nI (p + 1)))]) hE dX10_sources_46 rfl rfl (by decide) rfl ?_
            refine r_goto (tgt := 4) hE dX10_sources_49 (by decide) ?_
            exact ih (8 - (p + 1)) (by omega) (p + 1) _ _ rfl (by omega) (by omega) (y_fx_t fr f9) (y_s8_y (P := fun q => 1 ≤ q ∧ k_PM D false (q_n (D 73).1 12) d q) (by omega) hv ⟨hp1, by unfold k_PM; rw [if_pos rfl]; exact ⟨(y_bit_tb (by omega)).mp c21, (y_s8_bit q9 (by decide)).mp c37⟩⟩)
  refine r_iconst (v := 0) hE dX10_sources_0 (by decide) ?_
  refine r_istore_n (ls2 := [(0, .ref 64), (1, .int (nI d)), (2, .int 0)]) hE dX10_sources_1 (by decide) rfl ?_
  refine r_iconst (v := 1) hE dX10_sources_2 (by decide) ?_
  refine r_istore_n (ls2 := [(0, .ref 64), (1, .int (nI d)), (2, .int 0), (3, .int 1)]) hE dX10_sources_3 (by decide) rfl ?_
  exact lp 1 0 _ (by omega) (by omega) y_fx_r (y_s8_z (fun p hp q => by omega))
theorem k_neededTellers {V : x_E} {n : Nat} {L : List Nat} {D : y_D} {d : Nat} (hL : y_ok L) (hT : k_BT D) (hd : d ≤ 365) : y_Ri V yX10_neededTellers cX10_neededTellers 4 (some .int) 3 [.ref 64, .int (nI d)] n L D (fun v D2 => y_s8 v (fun q => q < 8 ∧ 1 ≤ q ∧ k_PM D true (q_n (D 73).1 12) d q) ∧ y_fx [168] D D2) := by
  refine y_ri (by decide) (Nat.le_of_ble_eq_true rfl) (fun E hE => ?_)
  change E 0 0 0 [(0, .ref 64), (1, .int (nI d))] [] (y_mk n L D)
  refine r_aload_n hE dX10_neededTellers_0 rfl ?_
  refine r_iload_n hE dX10_neededTellers_1 rfl ?_
  refine r_aload_n hE dX10_neededTellers_2 rfl ?_
  refine t_getr hE f_X10_23 y_R_64_3 dX10_neededTellers_3 (hL 64 (by decide)) ?_
  refine t_geti hE f_X10_253 y_I_73_12 dX10_neededTellers_6 (hL 73 (by decide)) ?_
  refine r_top (y := (nI (q_n (D 73).1 12))) hT.2.1.1 ?_
  refine r_iconst (v := (-1)) hE dX10_neededTellers_9 (by decide) ?_
  refine t_invvRi hE [.int (nI d), .int (nI (q_n (D 73).1 12)), .int (-1)] (k_knowersOn (D := D) (b0 := q_n (D 73).1 12) (d := d) (wo := (-1)) hL hT (by have := hT.2.1.2; omega) hd) v_yX10_knowersOn m_X10_259 dX10_neededTellers_10 rfl (hL 64 (by decide)) (y_l_64 (D 64)) rfl (by decide) ⟨Nat.le_refl _, Nat.le_refl _⟩ (Nat.le_of_ble_eq_true rfl) (fun v5 D5 q5 => ?_)
  obtain ⟨q5, f5⟩ := q5
  have q5 := q5
  show E 0 0 13 [(0, .ref 64), (1, .int (nI d))] [.int v5] (y_mk n L D5)
  refine r_iconst (v := 0) hE dX10_neededTellers_13 (by decide) ?_
  refine t_invs (r := (some (.int (y_b (y_bit v5 0))))) (S2 := (y_mk n L D5)) hE [.int v5, .int 0] (k_hasBit) s_yX10_hasBit m_X10_172 dX10_neededTellers_14 rfl (by decide) ⟨Nat.le_refl _, Nat.le_refl _⟩ (Nat.le_of_ble_eq_true rfl) ?_
  show E 0 0 17 [(0, .ref 64), (1, .int (nI d))] [.int (y_b (y_bit v5 0))] (y_mk n L D5)
  refine r_ifb_ne (tgt := 22) hE dX10_neededTellers_17 (by decide) (fun c17 => ?_) (fun c17 => ?_)
  · refine r_iconst (v := 0) hE dX10_neededTellers_22 (by decide) ?_
    refine r_istore_n (ls2 := [(0, .ref 64), (1, .int (nI d)), (2, .int 0)]) hE dX10_neededTellers_23 (by decide) rfl ?_
    refine r_iconst (v := 1) hE dX10_neededTellers_24 (by decide) ?_
    refine r_istore_n (ls2 := [(0, .ref 64), (1, .int (nI d)), (2, .int 0), (3, .int 1)]) hE dX10_neededTellers_25 (by decide) rfl ?_
    have hkn := (y_s8_bit q5 (by decide)).mp c17
    have lp : ∀ (p : Nat) (v : Int32) (D8 : y_D), 1 ≤ p → p ≤ 8 → y_fx [168] D D8 → y_s8 v (fun q => q < p ∧ 1 ≤ q ∧ k_PM D true (q_n (D 73).1 12) d q) → E 0 0 26 [(0, .ref 64), (1, .int (nI d)), (2, .int v), (3, .int (nI p))] [] (y_mk n L D8) := by
      intro p v D8
      induction hm9 : (8 - p) using Nat.strongRecOn generalizing p v D8 with
      | _ m9 ih =>
        intro hp1 hp8 fr hv
        subst hm9
        refine r_iload_n hE dX10_neededTellers_26 rfl ?_
        refine r_bipush (v := 8) hE dX10_neededTellers_27 (by decide) ?_
        refine r_icmp_geN (a := p) (b := 8) (tgt := 64) hE dX10_neededTellers_29 (by decide) (by omega) (by decide) (fun c29 => ?_) (fun c29 => ?_)
        · refine r_iload_n hE dX10_neededTellers_64 rfl ?_
          refine r_ireturn hE dX10_neededTellers_65 rfl rfl (Nat.zero_le _) (Nat.zero_le _) ?_
          rw [show p = 8 by omega] at hv
          exact ⟨_, _, rfl, rfl, hv, fr⟩
        · refine r_aload_n hE dX10_neededTellers_32 rfl ?_
          refine r_iload_n hE dX10_neededTellers_33 rfl ?_
          refine r_aload_n hE dX10_neededTellers_34 rfl ?_
          refine t_getr hE f_X10_23 y_R_64_3 dX10_neededTellers_35 (hL 64 (by decide)) ?_
          refine t_geti hE f_X10_253 y_I_73_12 dX10_neededTellers_38 (hL 73 (by decide)) ?_
          refine r_top (y := (nI (q_n (D 73).1 12))) (by rw [fr.1 73 (by decide)]; exact hT.2.1.1) ?_
          refine r_iload_n hE dX10_neededTellers_41 rfl ?_
          refine t_invvRi hE [.int (nI d), .int (nI (q_n (D 73).1 12)), .int (nI p)] (k_knowersOn (D := D8) (b0 := q_n (D 73).1 12) (d := d) (wo := (nI p)) hL (k_BT_fx fr hT) (by have := hT.2.1.2; omega) hd) v_yX10_knowersOn m_X10_259 dX10_neededTellers_42 rfl (hL 64 (by decide)) (y_l_64 (D8 64)) rfl (by decide) ⟨Nat.le_refl _, Nat.le_refl _⟩ (Nat.le_of_ble_eq_true rfl) (fun v9 D9 q9 => ?_)
          obtain ⟨q9, f9⟩ := q9
          unfold k_kn at q9
          rw [k_knj_fx fr] at q9
          show E 0 0 45 [(0, .ref 64), (1, .int (nI d)), (2, .int v), (3, .int (nI p))] [.int v9] (y_mk n L D9)
          refine r_iconst (v := 0) hE dX10_neededTellers_45 (by decide) ?_
          refine t_invs (r := (some (.int (y_b (y_bit v9 0))))) (S2 := (y_mk n L D9)) hE [.int v9, .int 0] (k_hasBit) s_yX10_hasBit m_X10_172 dX10_neededTellers_46 rfl (by decide) ⟨Nat.le_refl _, Nat.le_refl _⟩ (Nat.le_of_ble_eq_true rfl) ?_
          show E 0 0 49 [(0, .ref 64), (1, .int (nI d)), (2, .int v), (3, .int (nI p))] [.int (y_b (y_bit v9 0))] (y_mk n L D9)
          refine r_ifb_ne (tgt := 58) hE dX10_neededTellers_49 (by decide) (fun c49 => ?_) (fun c49 => ?_)
          · refine r_iincN (a := p) (b := 1) (ls2 := [(0, .ref 64), (1, .int (nI d)), (2, .int v), (3, .int (nI (p + 1)))]) hE dX10_neededTellers_58 rfl rfl (by decide) rfl ?_
            refine r_goto (tgt := 26) hE dX10_neededTellers_61 (by decide) ?_
            exact ih (8 - (p + 1)) (by omega) (p + 1) _ _ rfl (by omega) (by omega) (y_fx_t fr f9) (y_s8_n (P := fun q => 1 ≤ q ∧ k_PM D true (q_n (D 73).1 12) d q) hv (fun q => by have := q.2; unfold k_PM at this; rw [if_neg (by decide)] at this; exact this.2 ((y_s8_bit q9 (by decide)).mp c49)))
          · refine r_iload_n hE dX10_neededTellers_52 rfl ?_
            refine r_iconst (v := 1) hE dX10_neededTellers_53 (by decide) ?_
            refine r_iload_n hE dX10_neededTellers_54 rfl ?_
            refine r_shl1N (k := p) hE dX10_neededTellers_55 (by omega) ?_
            refine r_ior hE dX10_neededTellers_56 ?_
            refine r_istore_n (ls2 := [(0, .ref 64), (1, .int (nI d)), (2, .int (v ||| (nI (2 ^ p)))), (3, .int (nI p))]) hE dX10_neededTellers_57 (by decide) rfl ?_
            refine r_iincN (a := p) (b := 1) (ls2 := [(0, .ref 64), (1, .int (nI d)), (2, .int (v ||| (nI (2 ^ p)))), (3, .int (nI (p + 1)))]) hE dX10_neededTellers_58 rfl rfl (by decide) rfl ?_
            refine r_goto (tgt := 26) hE dX10_neededTellers_61 (by decide) ?_
            exact ih (8 - (p + 1)) (by omega) (p + 1) _ _ rfl (by omega) (by omega) (y_fx_t fr f9) (y_s8_y (P := fun q => 1 ≤ q ∧ k_PM D true (q_n (D 73).1 12) d q) (by omega) hv ⟨hp1, by unfold k_PM; rw [if_neg (by decide)]; exact ⟨hkn, fun z => c49 ((y_s8_bit q9 (by decide)).mpr z)⟩⟩)
    exact lp 1 0 _ (by omega) (by omega) f5 (y_s8_z (fun p hp q => by omega))
  · refine r_iconst (v := 0) hE dX10_neededTellers_20 (by decide) ?_
    refine r_ireturn hE dX10_neededTellers_21 rfl rfl (Nat.zero_le _) (Nat.zero_le _) ?_
    refine ⟨_, _, rfl, rfl, y_s8_z (fun p hp q => ?_), f5⟩
    have := q.2.2
    unfold k_PM at this
    rw [if_neg (by decide)] at this
    exact c17 ((y_s8_bit q5 (by decide)).mpr this.1)
theorem f_knows {V : x_E} (hV : y_V V) {n : Nat} {L : List Nat} {D : y_D} (hL : y_ok L) {p : Int32} (hT : k_BT D) : y_Fi V yX10_knows cX10_knows 2 (some .int) 8 1 6 [.ref 64, .int p] n L D (fun v D2 => y_fx [168] D D2 ∧ ∃ d, d ≤ 365 ∧ p = nI d ∧ y_s8 v (fun p => k_kn D (-1) (q_n (D 73).1 12) d p)) (fun E9 => ¬ (0 ≤ p ∧ p ≤ 365) ∧ E9 = y_IAE) := by
  refine x_cx (by decide) hV.1 (fun a0 S0 h => by rw [h.1]; exact Nat.le_of_ble_eq_true rfl) (fun a0 S0 h E EX hX => ?_)
  obtain ⟨rfl, rfl⟩ := h
  have hE := hX.x
  change E 0 0 0 [(0, .ref 64), (1, .int p)] [] (y_mk n L D)
  refine r_iload_n hE dX10_knows_0 rfl ?_
  refine r_iconst (v := 0) hE dX10_knows_1 (by decide) ?_
  refine r_sipush (v := 365) hE dX10_knows_2 (by decide) ?_
  refine t_invs (r := (some (.int (y_b (0 ≤ p ∧ p ≤ 365))))) (S2 := (y_mk n L D)) hE [.int p, .int 0, .int 365] (k_isBetween) s_yX10_isBetween m_X10_65 dX10_knows_5 rfl (by decide) ⟨by decide, by decide⟩ (Nat.le_of_ble_eq_true rfl) ?_
  show E 0 0 8 [(0, .ref 64), (1, .int p)] [.int (y_b (0 ≤ p ∧ p ≤ 365))] (y_mk n L D)
  refine t_demand hX hV [.int (y_b (0 ≤ p ∧ p ≤ 365))] dX10_knows_8 m_X10_69 rfl (by decide) ⟨by decide, by decide⟩ (Nat.le_of_ble_eq_true rfl) (fun c8 => ?_) (fun c8 n2 hn2 => r_out hX ⟨by exact ⟨c8, rfl⟩, n2, hn2, rfl⟩ (by decide) (by decide))
  show E 1 6 11 [(0, .ref 64), (1, .int p)] [] (y_mk n L D)
  obtain ⟨d, hd, rfl⟩ := y_rng2 (k := 365) (by decide) c8
  refine r_aload_n hE dX10_knows_11 rfl ?_
  refine r_iload_n hE dX10_knows_12 rfl ?_
  refine r_aload_n hE dX10_knows_13 rfl ?_
  refine t_getr hE f_X10_23 y_R_64_3 dX10_knows_14 (hL 64 (by decide)) ?_
  refine t_geti hE f_X10_253 y_I_73_12 dX10_knows_17 (hL 73 (by decide)) ?_
  refine r_top (y := (nI (q_n (D 73).1 12))) hT.2.1.1 ?_
  refine r_iconst (v := (-1)) hE dX10_knows_20 (by decide) ?_
  refine t_invvRi hE [.int (nI d), .int (nI (q_n (D 73).1 12)), .int (-1)] (k_knowersOn (D := D) (b0 := q_n (D 73).1 12) (d := d) (wo := (-1)) hL hT (by have := hT.2.1.2; omega) hd) v_yX10_knowersOn m_X10_259 dX10_knows_21 rfl (hL 64 (by decide)) (y_l_64 (D 64)) rfl (by decide) ⟨by decide, by decide⟩ (Nat.le_of_ble_eq_true rfl) (fun v9 D9 q9 => ?_)
  obtain ⟨q9, f9⟩ := q9
  have q9 := q9
  show E 1 6 24 [(0, .ref 64), (1, .int (nI d))] [.int v9] (y_mk n L D9)
  refine r_ireturn hE dX10_knows_24 rfl rfl (by decide) (by decide) ?_
  exact ⟨_, _, rfl, rfl, f9, d, hd, rfl, q9⟩
theorem f_whence {V : x_E} (hV : y_V V) {n : Nat} {L : List Nat} {D : y_D} (hL : y_ok L) {p mu : Int32} (hT : k_BT D) : y_Fi V yX10_whence cX10_whence 3 (some .int) 8 1 6 [.ref 64, .int p, .int mu] n L D (fun v D2 => y_fx [168] D D2 ∧ ∃ d, d ≤ 365 ∧ p = nI d ∧ y_s8 v (fun q => q < 8 ∧ 1 ≤ q ∧ k_PM D (!decide (mu = 0)) (q_n (D 73).1 12) d q)) (fun E9 => ¬ (0 ≤ p ∧ p ≤ 365) ∧ E9 = y_IAE) := by
  refine x_cx (by decide) hV.1 (fun a0 S0 h => by rw [h.1]; exact Nat.le_of_ble_eq_true rfl) (fun a0 S0 h E EX hX => ?_)
  obtain ⟨rfl, rfl⟩ := h
  have hE := hX.x
  change E 0 0 0 [(0, .ref 64), (1, .int p), (2, .int mu)] [] (y_mk n L D)
  refine r_iload_n hE dX10_whence_0 rfl ?_
  refine r_iconst (v := 0) hE dX10_whence_1 (by decide) ?_
  refine r_sipush (v := 365) hE dX10_whence_2 (by decide) ?_
  refine t_invs (r := (some (.int (y_b (0 ≤ p ∧ p ≤ 365))))) (S2 := (y_mk n L D)) hE [.int p, .int 0, .int 365] (k_isBetween) s_yX10_isBetween m_X10_65 dX10_whence_5 rfl (by decide) ⟨by decide, by decide⟩ (Nat.le_of_ble_eq_true rfl) ?_
  show E 0 0 8 [(0, .ref 64), (1, .int p), (2, .int mu)] [.int (y_b (0 ≤ p ∧ p ≤ 365))] (y_mk n L D)
  refine t_demand hX hV [.int (y_b (0 ≤ p ∧ p ≤ 365))] dX10_whence_8 m_X10_69 rfl (by decide) ⟨by decide, by decide⟩ (Nat.le_of_ble_eq_true rfl) (fun c8 => ?_) (fun c8 n2 hn2 => r_out hX ⟨by exact ⟨c8, rfl⟩, n2, hn2, rfl⟩ (by decide) (by decide))
  show E 1 6 11 [(0, .ref 64), (1, .int p), (2, .int mu)] [] (y_mk n L D)
  obtain ⟨d, hd, rfl⟩ := y_rng2 (k := 365) (by decide) c8
  refine r_iload_n hE dX10_whence_11 rfl ?_
  refine r_if_eq (tgt := 23) hE dX10_whence_12 (by decide) (fun c12 => ?_) (fun c12 => ?_)
  · refine r_aload_n hE dX10_whence_23 rfl ?_
    refine r_iload_n hE dX10_whence_24 rfl ?_
    refine t_invvRi hE [.int (nI d)] (k_sources hL hT hd) v_yX10_sources m_X10_265 dX10_whence_25 rfl (hL 64 (by decide)) (y_l_64 (D 64)) rfl (by decide) ⟨by decide, by decide⟩ (Nat.le_of_ble_eq_true rfl) (fun v9 D9 q9 => ?_)
    show E 1 6 28 [(0, .ref 64), (1, .int (nI d)), (2, .int mu)] [.int v9] (y_mk n L D9)
    refine r_ireturn hE dX10_whence_28 rfl rfl (by decide) (by decide) ?_
    refine ⟨_, _, rfl, rfl, q9.2, d, hd, rfl, ?_⟩
    first
    | (rw [decide_eq_true c12]; exact q9.1)
    | (rw [decide_eq_false c12]; exact q9.1)
  · refine r_aload_n hE dX10_whence_15 rfl ?_
    refine r_iload_n hE dX10_whence_16 rfl ?_
    refine t_invvRi hE [.int (nI d)] (k_neededTellers hL hT hd) v_yX10_neededTellers m_X10_262 dX10_whence_17 rfl (hL 64 (by decide)) (y_l_64 (D 64)) rfl (by decide) ⟨by decide, by decide⟩ (Nat.le_of_ble_eq_true rfl) (fun v9 D9 q9 => ?_)
    show E 1 6 20 [(0, .ref 64), (1, .int (nI d)), (2, .int mu)] [.int v9] (y_mk n L D9)
    refine r_goto (tgt := 28) hE dX10_whence_20 (by decide) ?_
    refine r_ireturn hE dX10_whence_28 rfl rfl (by decide) (by decide) ?_
    refine ⟨_, _, rfl, rfl, q9.2, d, hd, rfl, ?_⟩
    first
    | (rw [decide_eq_true c12]; exact q9.1)
    | (rw [decide_eq_false c12]; exact q9.1)
theorem k_choicesWithAtLeast {V : x_E} {n : Nat} {L : List Nat} {D : y_D} {b9 w9 s9 : Nat} (hL : y_ok L) (hN : q_ok (D 86).1 2 12) (h1 : b9 ≤ s9) (h2 : s9 ≤ q_n (D 86).1 2) (h3 : w9 ≤ 12) : x_Fn V yX10_choicesWithAtLeast cX10_choicesWithAtLeast 7 (some .int) 1 [.ref 64, .int (nI b9), .int (nI w9), .int (nI s9)] (y_mk n L D) (some (.int (c_ws s9 w9 (q_n (D 86).1 2) b9 (s9 + 1 - b9)))) (y_mk n L D) := by
  refine x_fn (by decide) (Nat.le_of_ble_eq_true rfl) (fun E hE => ?_)
  change E 0 0 0 [(0, .ref 64), (1, .int (nI b9)), (2, .int (nI w9)), (3, .int (nI s9))] [] (y_mk n L D)
  have hn12 : q_n (D 86).1 2 ≤ 12 := hN.2
  have l2 : ∀ (j : Nat), b9 + j ≤ s9 + 1 → E 0 0 20 [(0, .ref 64), (1, .int (nI b9)), (2, .int (nI w9)), (3, .int (nI s9)), (4, .int (nI (q_n (D 86).1 2 - s9))), (5, .int (c_ws s9 w9 (q_n (D 86).1 2) b9 j)), (6, .int (nI (b9 + j)))] [] (y_mk n L D) := by
    intro j
    induction hm9 : (s9 + 1 - (b9 + j)) using Nat.strongRecOn generalizing j with
    | _ m9 ih =>
      intro hj
      subst hm9
      refine r_iload hE dX10_choicesWithAtLeast_20 rfl ?_
      refine r_iload_n hE dX10_choicesWithAtLeast_22 rfl ?_
      refine r_icmp_gtN (a := b9 + j) (b := s9) (tgt := 53) hE dX10_choicesWithAtLeast_23 (by decide) (by omega) (by omega) (fun c23 => ?_) (fun c23 => ?_)
      · refine r_iload hE dX10_choicesWithAtLeast_53 rfl ?_
        refine r_ireturn hE dX10_choicesWithAtLeast_55 rfl rfl (Nat.zero_le _) (Nat.zero_le _) ?_
        rw [show s9 + 1 - b9 = j by omega]
        exact ⟨rfl, rfl⟩
      · refine r_iload hE dX10_choicesWithAtLeast_26 rfl ?_
        refine r_iload_n hE dX10_choicesWithAtLeast_28 rfl ?_
        refine r_iload hE dX10_choicesWithAtLeast_29 rfl ?_
        refine t_invs (r := (some (.int (c_cho (nI s9) (nI (b9 + j)))))) (S2 := (y_mk n L D)) hE [.int (nI s9), .int (nI (b9 + j))] (k_choices (a := s9) (by omega)) s_yX10_choices m_X10_344 dX10_choicesWithAtLeast_31 rfl (by decide) ⟨Nat.le_refl _, Nat.le_refl _⟩ (Nat.le_of_ble_eq_true rfl) ?_
        show E 0 0 34 [(0, .ref 64), (1, .int (nI b9)), (2, .int (nI w9)), (3, .int (nI s9)), (4, .int (nI (q_n (D 86).1 2 - s9))), (5, .int (c_ws s9 w9 (q_n (D 86).1 2) b9 j)), (6, .int (nI (b9 + j)))] [.int (c_cho (nI s9) (nI (b9 + j))), .int (c_ws s9 w9 (q_n (D 86).1 2) b9 j)] (y_mk n L D)
        refine r_iload hE dX10_choicesWithAtLeast_34 rfl ?_
        refine r_iload_n hE dX10_choicesWithAtLeast_36 rfl ?_
        refine r_iload hE dX10_choicesWithAtLeast_37 rfl ?_
        refine r_isub hE dX10_choicesWithAtLeast_39 ?_
        refine t_invs (r := (some (.int (c_cho (nI (q_n (D 86).1 2 - s9)) ((nI w9) - (nI (b9 + j))))))) (S2 := (y_mk n L D)) hE [.int (nI (q_n (D 86).1 2 - s9)), .int ((nI w9) - (nI (b9 + j)))] (k_choices (a := q_n (D 86).1 2 - s9) (by omega)) s_yX10_choices m_X10_344 dX10_choicesWithAtLeast_40 rfl (by decide) ⟨Nat.le_refl _, Nat.le_refl _⟩ (Nat.le_of_ble_eq_true rfl) ?_
        show E 0 0 43 [(0, .ref 64), (1, .int (nI b9)), (2, .int (nI w9)), (3, .int (nI s9)), (4, .int (nI (q_n (D 86).1 2 - s9))), (5, .int (c_ws s9 w9 (q_n (D 86).1 2) b9 j)), (6, .int (nI (b9 + j)))] [.int (c_cho (nI (q_n (D 86).1 2 - s9)) ((nI w9) - (nI (b9 + j)))), .int (c_cho (nI s9) (nI (b9 + j))), .int (c_ws s9 w9 (q_n (D 86).1 2) b9 j)] (y_mk n L D)
        refine r_imul hE dX10_choicesWithAtLeast_43 ?_
        refine r_iadd hE dX10_choicesWithAtLeast_44 ?_
        refine r_istore (ls2 := [(0, .ref 64), (1, .int (nI b9)), (2, .int (nI w9)), (3, .int (nI s9)), (4, .int (nI (q_n (D 86).1 2 - s9))), (5, .int ((c_ws s9 w9 (q_n (D 86).1 2) b9 j) + ((c_cho (nI s9) (nI (b9 + j))) * (c_cho (nI (q_n (D 86).1 2 - s9)) ((nI w9) - (nI (b9 + j))))))), (6, .int (nI (b9 + j)))]) hE dX10_choicesWithAtLeast_45 (by decide) rfl ?_
        refine r_iincN (a := b9 + j) (b := 1) (ls2 := [(0, .ref 64), (1, .int (nI b9)), (2, .int (nI w9)), (3, .int (nI s9)), (4, .int (nI (q_n (D 86).1 2 - s9))), (5, .int ((c_ws s9 w9 (q_n (D 86).1 2) b9 j) + ((c_cho (nI s9) (nI (b9 + j))) * (c_cho (nI (q_n (D 86).1 2 - s9)) ((nI w9) - (nI (b9 + j))))))), (6, .int (nI ((b9 + j) + 1)))]) hE dX10_choicesWithAtLeast_47 rfl rfl (by decide) rfl ?_
        refine r_goto (tgt := 20) hE dX10_choicesWithAtLeast_50 (by decide) ?_
        refine r_locs hE (ls2 := [(0, .ref 64), (1, .int (nI b9)), (2, .int (nI w9)), (3, .int (nI s9)), (4, .int (nI (q_n (D 86).1 2 - s9))), (5, .int (c_ws s9 w9 (q_n (D 86).1 2) b9 (j + 1))), (6, .int (nI (b9 + (j + 1))))]) ?_ (ih (s9 + 1 - (b9 + (j + 1))) (by omega) (j + 1) rfl (by omega))
        show ∀ q ∈ _, _
        rw [show c_ws s9 w9 (q_n (D 86).1 2) b9 (j + 1) = c_ws s9 w9 (q_n (D 86).1 2) b9 j + c_cho (nI s9) (nI (b9 + j)) * c_cho (nI (q_n (D 86).1 2 - s9)) (nI w9 - nI (b9 + j)) from rfl]
        simp [x_lk, Nat.add_assoc]
  refine r_aload_n hE dX10_choicesWithAtLeast_0 rfl ?_
  refine t_getr hE f_X10_23 y_R_64_3 dX10_choicesWithAtLeast_1 (hL 64 (by decide)) ?_
  refine t_getr hE f_X10_225 y_R_73_9 dX10_choicesWithAtLeast_4 (hL 73 (by decide)) ?_
  refine t_geti hE f_X10_176 y_I_86_2 dX10_choicesWithAtLeast_7 (hL 86 (by decide)) ?_
  refine r_top (y := (nI (q_n (D 86).1 2))) hN.1 ?_
  refine r_iload_n hE dX10_choicesWithAtLeast_10 rfl ?_
  refine r_isubN (a := q_n (D 86).1 2) (b := s9) hE dX10_choicesWithAtLeast_11 (by omega) ?_
  refine r_istore (ls2 := [(0, .ref 64), (1, .int (nI b9)), (2, .int (nI w9)), (3, .int (nI s9)), (4, .int (nI ((q_n (D 86).1 2) - s9)))]) hE dX10_choicesWithAtLeast_12 (by decide) rfl ?_
  refine r_iconst (v := 0) hE dX10_choicesWithAtLeast_14 (by decide) ?_
  refine r_istore (ls2 := [(0, .ref 64), (1, .int (nI b9)), (2, .int (nI w9)), (3, .int (nI s9)), (4, .int (nI ((q_n (D 86).1 2) - s9))), (5, .int 0)]) hE dX10_choicesWithAtLeast_15 (by decide) rfl ?_
  refine r_iload_n hE dX10_choicesWithAtLeast_17 rfl ?_
  refine r_istore (ls2 := [(0, .ref 64), (1, .int (nI b9)), (2, .int (nI w9)), (3, .int (nI s9)), (4, .int (nI ((q_n (D 86).1 2) - s9))), (5, .int 0), (6, .int (nI b9))]) hE dX10_choicesWithAtLeast_18 (by decide) rfl ?_
  refine r_locs hE (ls2 := [(0, .ref 64), (1, .int (nI b9)), (2, .int (nI w9)), (3, .int (nI s9)), (4, .int (nI (q_n (D 86).1 2 - s9))), (5, .int (c_ws s9 w9 (q_n (D 86).1 2) b9 0)), (6, .int (nI (b9 + 0)))]) ?_ (l2 0 (by omega))
  show ∀ q ∈ _, _
  rw [show c_ws s9 w9 (q_n (D 86).1 2) b9 0 = 0 from rfl, Nat.add_zero]
  simp [x_lk]

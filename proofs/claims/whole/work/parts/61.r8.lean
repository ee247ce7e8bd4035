/-! the class: fewestOut, fewestOutAndIn, firstToOpen, out, first -/
/-- what is still to be done where all of st are open -/
def r_c0 (st s : Nat) : Nat := if s ||| st = s then 0 else 1000000
def r_c1 (s : Nat) : Nat := if s = 0 then 0 else 1000000
def r_c2 (st : Nat) (c : Nat → Nat) (s : Nat) : Nat := if s ||| st = s then c s else 1000000
theorem y_sec_c {W : Nat → Int32} {s B a : Nat} (h : W s = nI a) (ha : a ≤ B) (hB : B < 2 ^ 31) : q_ok W s B ∧ q_n W s = a := q_mk h ha (by omega)
theorem r_bw_c {tn : Nat → Nat → Prop} {wt : Nat → Nat → Nat} {kn : Nat} {c0 c1 : Nat → Nat} (h : ∀ s, s < 2 ^ kn → c0 s = c1 s) : ∀ {j s x}, s < 2 ^ kn → r_bw tn wt kn c0 j s x → r_bw tn wt kn c1 j s x
  | 0, s, x, hs, q => by
    have q : c0 s ≤ x := q
    show c1 s ≤ x
    rw [← h s hs]; exact q
  | j + 1, s, x, hs, q => by
    rcases q with q | ⟨u, a, h1, ⟨k, k1, k2, k3, k4, k5⟩, h3⟩
    · exact Or.inl (r_bw_c h hs q)
    · exact Or.inr ⟨u, a, h1, ⟨k, k1, k2, k3, k4, k5⟩, r_bw_c h (by rw [k4]; exact r_xlt k1 k2) h3⟩
theorem k_hasAll {V : x_E} {n : Nat} {L : List Nat} {D : y_D} (hV : y_V V) {s st : Nat} {u : Int32} (hL : y_ok L) (hK : k_BK D) (hs : s < 64) (hst : st < 2 ^ q_n (D 90).1 2) (est : u &&& (nI (2 ^ q_n (D 90).1 2) - 1) = nI st) : y_Ri V yX3_hasAll cX3_hasAll 3 (some .boolean) 1 [.ref 163, .int (nI s), .int u] n L D (fun v D2 => y_is v (s ||| st = s) ∧ D2 = D) := by
  refine y_ri (by decide) (Nat.le_of_ble_eq_true rfl) (fun E hE => ?_)
  change E 0 0 0 [(0, .ref 163), (1, .int (nI s)), (2, .int u)] [] (y_mk n L D)
  have hk6 : q_n (D 90).1 2 ≤ 6 := hK.1.1.2
  have hp6 : 2 ^ q_n (D 90).1 2 ≤ 2 ^ 6 := Nat.pow_le_pow_right (by decide) hk6
  have hp7 : (2 : Nat) ^ 6 = 64 := rfl
  have hp8 : 1 ≤ 2 ^ q_n (D 90).1 2 := Nat.one_le_two_pow
  refine r_iload_n hE dX3_hasAll_0 rfl ?_
  refine r_aload_n hE dX3_hasAll_1 rfl ?_
  refine t_getr hE f_X3_18 y_R_163_0 dX3_hasAll_2 (hL 163 (by decide)) ?_
  refine t_getr hE f_X3_43 y_R_73_11 dX3_hasAll_5 (hL 73 (by decide)) ?_
  refine t_geti hE f_X3_49 y_I_90_2 dX3_hasAll_8 (hL 90 (by decide)) ?_
  refine r_top (y := (nI (q_n (D 90).1 2))) hK.1.1.1 ?_
  refine t_invsN (r := (some (.int (nI (2 ^ (q_n (D 90).1 2)) - 1)))) (S2 := (y_mk n L D)) hE [.int (nI (q_n (D 90).1 2))] (k_firstBits (by omega)) s_yX10_firstBits (hN_X3_71 hV) dX3_hasAll_11 rfl (by decide) ⟨Nat.le_refl _, Nat.le_refl _⟩ (Nat.le_of_ble_eq_true rfl) ?_
  show E 0 0 14 [(0, .ref 163), (1, .int (nI s)), (2, .int u)] [.int (nI (2 ^ (q_n (D 90).1 2)) - 1), .int u] (y_mk n L D)
  refine r_iand hE dX3_hasAll_14 ?_
  refine r_top (y := (nI st)) est ?_
  refine r_iload_n hE dX3_hasAll_15 rfl ?_
  refine r_iconst (v := (-1)) hE dX3_hasAll_16 (by decide) ?_
  refine r_ixor hE dX3_hasAll_17 ?_
  refine r_iand hE dX3_hasAll_18 ?_
  refine r_if_ne (tgt := 26) hE dX3_hasAll_19 (by decide) (fun c19 => ?_) (fun c19 => ?_)
  · refine r_iconst (v := 0) hE dX3_hasAll_26 (by decide) ?_
    refine r_ireturn hE dX3_hasAll_27 rfl (by decide) (Nat.zero_le _) (Nat.zero_le _) ?_
    first
    | exact ⟨_, _, rfl, rfl, Or.inl ⟨rfl, (y_sub64 _ (by omega) _ hs).mp c19⟩, rfl⟩
    | exact ⟨_, _, rfl, rfl, Or.inr ⟨rfl, fun q => c19 ((y_sub64 _ (by omega) _ hs).mpr q)⟩, rfl⟩
  · refine r_iconst (v := 1) hE dX3_hasAll_22 (by decide) ?_
    refine r_goto (tgt := 27) hE dX3_hasAll_23 (by decide) ?_
    refine r_ireturn hE dX3_hasAll_27 rfl (by decide) (Nat.zero_le _) (Nat.zero_le _) ?_
    first
    | exact ⟨_, _, rfl, rfl, Or.inl ⟨rfl, (y_sub64 _ (by omega) _ hs).mp c19⟩, rfl⟩
    | exact ⟨_, _, rfl, rfl, Or.inr ⟨rfl, fun q => c19 ((y_sub64 _ (by omega) _ hs).mpr q)⟩, rfl⟩
theorem k_reckonOut {V : x_E} {n : Nat} {L : List Nat} {D : y_D} (hV : y_V V) {st : Nat} {u : Int32} (hL : y_ok L) (hK : k_BK D) (hst : st < 2 ^ q_n (D 90).1 2) (est : u &&& (nI (2 ^ q_n (D 90).1 2) - 1) = nI st) : y_Rv V yX3_reckonOut cX3_reckonOut 3 none 4 [.ref 163, .int u] n L D (fun D2 => k_f2 D D2 ∧ (∀ z, z < 64 → q_ok (D2 164).1 z 1000000) ∧ (∀ s, s < 64 → (D2 165).1 s = nI (k_rS D s)) ∧ ∀ s, s < 2 ^ q_n (D 90).1 2 → r_L (fun x => ∃ j, r_bw (k_tn D) (k_kwt D) (q_n (D 90).1 2) (r_c0 st) j s x) (q_n (D2 164).1 (s))) := by
  refine y_rv (by decide) (Nat.le_of_ble_eq_true rfl) (fun E hE => ?_)
  change E 0 0 0 [(0, .ref 163), (1, .int u)] [] (y_mk n L D)
  have hk6 : q_n (D 90).1 2 ≤ 6 := hK.1.1.2
  have hp6 : 2 ^ q_n (D 90).1 2 ≤ 2 ^ 6 := Nat.pow_le_pow_right (by decide) hk6
  have hp7 : (2 : Nat) ^ 6 = 64 := rfl
  have hp8 : 1 ≤ 2 ^ q_n (D 90).1 2 := Nat.one_le_two_pow
  refine r_aload_n hE dX3_reckonOut_0 rfl ?_
  refine t_invvRv hE [] (k_reckonSlacks hL hK) v_yX3_reckonSlacks m_X3_27 dX3_reckonOut_1 rfl (hL 163 (by decide)) (y_l_163 (D 163)) rfl (by decide) ⟨Nat.le_refl _, Nat.le_refl _⟩ (Nat.le_of_ble_eq_true rfl) (fun D1 q1 => ?_)
  obtain ⟨f1, sl1⟩ := q1
  have fr1 : k_f2 D D1 := y_fx_m f1 (by decide)
  show E 0 0 4 [(0, .ref 163), (1, .int u)] [] (y_mk n L D1)
  refine r_iconst (v := 0) hE dX3_reckonOut_4 (by decide) ?_
  refine r_istore_n (ls2 := [(0, .ref 163), (1, .int u), (2, .int 0)]) hE dX3_reckonOut_5 (by decide) rfl ?_
  have lp : ∀ (i : Nat) (D8 : y_D), i ≤ 64 → k_f2 D D8 → (∀ s, s < 64 → (D8 165).1 s = nI (k_rS D s)) → (∀ z, z < i → q_ok (D8 164).1 z 1000000 ∧ q_n (D8 164).1 (z) = r_c0 st z) → E 0 0 6 [(0, .ref 163), (1, .int u), (2, .int (nI i))] [] (y_mk n L D8) := by
    intro i D8
    induction hm9 : (64 - i) using Nat.strongRecOn generalizing i D8 with
    | _ m9 ih =>
      intro hi fr sl inv
      subst hm9
      refine r_iload_n hE dX3_reckonOut_6 rfl ?_
      refine r_bipush (v := 64) hE dX3_reckonOut_7 (by decide) ?_
      refine r_icmp_geN (a := i) (b := 64) (tgt := 39) hE dX3_reckonOut_9 (by decide) (by omega) (by decide) (fun c9 => ?_) (fun c9 => ?_)
      · refine r_aload_n hE dX3_reckonOut_39 rfl ?_
        refine t_invvRv hE [] (k_shorten (D := D8) hV hL (k_BK_f fr hK) (by rw [k_rS_f fr]; exact sl) (fun z hz => (inv z (by omega)).1)) v_yX3_shorten m_X3_36 dX3_reckonOut_40 rfl (hL 163 (by decide)) (y_l_163 (D8 163)) rfl (by decide) ⟨Nat.le_refl _, Nat.le_refl _⟩ (Nat.le_of_ble_eq_true rfl) (fun D2 q2 => ?_)
        obtain ⟨g2, ok2, q2⟩ := q2
        rw [k_tn_f fr, k_kwt_f fr, fr.1 90 (by decide)] at q2
        show E 0 0 43 [(0, .ref 163), (1, .int u), (2, .int (nI i))] [] (y_mk n L D2)
        refine r_return hE dX3_reckonOut_43 rfl (Nat.zero_le _) (Nat.zero_le _) ?_
        refine ⟨_, rfl, rfl, y_fx_t fr (y_fx_m g2 (by decide)), ok2, ?_, fun s hs => r_L_imp (q2 s hs) (fun x => ⟨fun ⟨j, h⟩ => ⟨j, r_bw_c (fun z hz => (inv z (by omega)).2) hs h⟩, fun ⟨j, h⟩ => ⟨j, r_bw_c (fun z hz => (inv z (by omega)).2.symm) hs h⟩⟩)⟩
        rw [g2.1 165 (by decide)]
        exact sl
      · refine r_aload_n hE dX3_reckonOut_12 rfl ?_
        refine t_getr hE f_X3_11 y_R_163_1 dX3_reckonOut_13 (hL 163 (by decide)) ?_
        refine r_iload_n hE dX3_reckonOut_16 rfl ?_
        refine r_aload_n hE dX3_reckonOut_17 rfl ?_
        refine r_iload_n hE dX3_reckonOut_18 rfl ?_
        refine r_iload_n hE dX3_reckonOut_19 rfl ?_
        refine t_invvRi hE [.int (nI i), .int u] (k_hasAll (D := D8) (s := i) (st := st) (u := u) hV hL (k_BK_f fr hK) (by omega) (by rw [fr.1 90 (by decide)]; exact hst) (by rw [fr.1 90 (by decide)]; exact est)) v_yX3_hasAll m_X3_39 dX3_reckonOut_20 rfl (hL 163 (by decide)) (y_l_163 (D8 163)) rfl (by decide) ⟨Nat.le_refl _, Nat.le_refl _⟩ (Nat.le_of_ble_eq_true rfl) (fun v9 D9 q9 => ?_)
        obtain ⟨q9, hD9⟩ := q9
        rw [hD9]
        show E 0 0 23 [(0, .ref 163), (1, .int u), (2, .int (nI i))] [.int v9, .int (nI i), .ref 164] (y_mk n L D8)
        refine r_if_eq (tgt := 30) hE dX3_reckonOut_23 (by decide) (fun c23 => ?_) (fun c23 => ?_)
        · refine r_ldc (v := 1000000) hE dX3_reckonOut_30 (x_gin (List.mem_append_right _ (tb_2 _ (List.mem_of_getElem? (i := 146) rfl))) rfl) ?_
          refine t_iastN (e := i) hE y_A_164 dX3_reckonOut_32 (hL 164 (by decide)) (by omega) (by decide) ?_
          refine r_iincN (a := i) (b := 1) (ls2 := [(0, .ref 163), (1, .int u), (2, .int (nI (i + 1)))]) hE dX3_reckonOut_33 rfl rfl (by decide) rfl ?_
          refine r_goto (tgt := 6) hE dX3_reckonOut_36 (by decide) ?_
          have e9 : (1000000 : Int32) = nI 1000000 := rfl
          have hq9 := (y_is_0 q9).mp c23
          rw [e9]
          refine ih (64 - (i + 1)) (by omega) (i + 1) _ rfl (by omega) (y_fx_s fr (by decide)) (by rw [y_si_ne (by decide)]; exact sl) (fun p hp => ?_)
          by_cases c : p = i
          · have h9 := q_mk (W := (y_si D8 164 i (nI 1000000) 164).1) (j := p) (B := 1000000) (a := 1000000) (by rw [y_si_1, if_pos c]) (by decide) (by decide)
            refine ⟨h9.1, ?_⟩
            rw [h9.2, c]
            unfold r_c0
            rw [if_neg hq9]
          · exact ⟨q_ok_n c (inv p (by omega)).1, by rw [q_si_n c]; exact (inv p (by omega)).2⟩
        · refine r_iconst (v := 0) hE dX3_reckonOut_26 (by decide) ?_
          refine r_goto (tgt := 32) hE dX3_reckonOut_27 (by decide) ?_
          refine t_iastN (e := i) hE y_A_164 dX3_reckonOut_32 (hL 164 (by decide)) (by omega) (by decide) ?_
          refine r_iincN (a := i) (b := 1) (ls2 := [(0, .ref 163), (1, .int u), (2, .int (nI (i + 1)))]) hE dX3_reckonOut_33 rfl rfl (by decide) rfl ?_
          refine r_goto (tgt := 6) hE dX3_reckonOut_36 (by decide) ?_
          have e9 : (0 : Int32) = nI 0 := rfl
          have hq9 := Classical.not_not.mp (fun q => c23 ((y_is_0 q9).mpr q))
          rw [e9]
          refine ih (64 - (i + 1)) (by omega) (i + 1) _ rfl (by omega) (y_fx_s fr (by decide)) (by rw [y_si_ne (by decide)]; exact sl) (fun p hp => ?_)
          by_cases c : p = i
          · have h9 := q_mk (W := (y_si D8 164 i (nI 0) 164).1) (j := p) (B := 1000000) (a := 0) (by rw [y_si_1, if_pos c]) (by decide) (by decide)
            refine ⟨h9.1, ?_⟩
            rw [h9.2, c]
            unfold r_c0
            rw [if_pos hq9]
          · exact ⟨q_ok_n c (inv p (by omega)).1, by rw [q_si_n c]; exact (inv p (by omega)).2⟩
  exact lp 0 _ (by omega) fr1 sl1 (fun p hp => absurd hp (by omega))
theorem k_fewestOut {V : x_E} {n : Nat} {L : List Nat} {D : y_D} (hV : y_V V) {st : Nat} {u : Int32} (hL : y_ok L) (hK : k_BK D) (hst : st < 2 ^ q_n (D 90).1 2) (est : u &&& (nI (2 ^ q_n (D 90).1 2) - 1) = nI st) : y_Ri V yX3_fewestOut cX3_fewestOut 2 (some .int) 5 [.ref 163, .int u] n L D (fun v D2 => k_f2 D D2 ∧ ∃ L9, r_L (fun x => ∃ j, r_bw (k_tn D) (k_kwt D) (q_n (D 90).1 2) (r_c0 st) j 0 x) L9 ∧ v = r_an L9) := by
  refine y_ri (by decide) (Nat.le_of_ble_eq_true rfl) (fun E hE => ?_)
  change E 0 0 0 [(0, .ref 163), (1, .int u)] [] (y_mk n L D)
  have hk6 : q_n (D 90).1 2 ≤ 6 := hK.1.1.2
  have hp6 : 2 ^ q_n (D 90).1 2 ≤ 2 ^ 6 := Nat.pow_le_pow_right (by decide) hk6
  have hp7 : (2 : Nat) ^ 6 = 64 := rfl
  have hp8 : 1 ≤ 2 ^ q_n (D 90).1 2 := Nat.one_le_two_pow
  refine r_aload_n hE dX3_fewestOut_0 rfl ?_
  refine r_iload_n hE dX3_fewestOut_1 rfl ?_
  refine t_invvRv hE [.int u] (k_reckonOut (st := st) hV hL hK hst est) v_yX3_reckonOut m_X3_22 dX3_fewestOut_2 rfl (hL 163 (by decide)) (y_l_163 (D 163)) rfl (by decide) ⟨Nat.le_refl _, Nat.le_refl _⟩ (Nat.le_of_ble_eq_true rfl) (fun D1 q1 => ?_)
  obtain ⟨fr1, ok1, sl1, q1⟩ := q1
  have ho1 : q_n (D1 164).1 (0) ≤ 1000000 := (ok1 0 (by omega)).2
  show E 0 0 5 [(0, .ref 163), (1, .int u)] [] (y_mk n L D1)
  refine r_aload_n hE dX3_fewestOut_5 rfl ?_
  refine t_getr hE f_X3_11 y_R_163_1 dX3_fewestOut_6 (hL 163 (by decide)) ?_
  refine r_iconst (v := 0) hE dX3_fewestOut_9 (by decide) ?_
  refine t_ialdN (e := 0) hE y_A_164 dX3_fewestOut_10 (hL 164 (by decide)) (by omega) (by decide) ?_
  refine r_top (y := (nI (q_n (D1 164).1 (0)))) (ok1 0 (by omega)).1 ?_
  refine r_ldc (v := 1000000) hE dX3_fewestOut_11 (x_gin (List.mem_append_right _ (tb_2 _ (List.mem_of_getElem? (i := 146) rfl))) rfl) ?_
  refine r_icmp_geN (a := q_n (D1 164).1 (0)) (b := 1000000) (tgt := 25) hE dX3_fewestOut_13 (by decide) (by omega) (by decide) (fun c13 => ?_) (fun c13 => ?_)
  · refine r_iconst (v := (-1)) hE dX3_fewestOut_25 (by decide) ?_
    refine r_ireturn hE dX3_fewestOut_26 rfl rfl (Nat.zero_le _) (Nat.zero_le _) ?_
    refine ⟨_, _, rfl, rfl, fr1, _, q1 0 (by omega), ?_⟩
    unfold r_an
    first | rw [if_pos (by omega)] | rw [if_neg (by omega)]
  · refine r_aload_n hE dX3_fewestOut_16 rfl ?_
    refine t_getr hE f_X3_11 y_R_163_1 dX3_fewestOut_17 (hL 163 (by decide)) ?_
    refine r_iconst (v := 0) hE dX3_fewestOut_20 (by decide) ?_
    refine t_ialdN (e := 0) hE y_A_164 dX3_fewestOut_21 (hL 164 (by decide)) (by omega) (by decide) ?_
    refine r_top (y := (nI (q_n (D1 164).1 (0)))) (ok1 0 (by omega)).1 ?_
    refine r_goto (tgt := 26) hE dX3_fewestOut_22 (by decide) ?_
    refine r_ireturn hE dX3_fewestOut_26 rfl rfl (Nat.zero_le _) (Nat.zero_le _) ?_
    refine ⟨_, _, rfl, rfl, fr1, _, q1 0 (by omega), ?_⟩
    unfold r_an
    first | rw [if_pos (by omega)] | rw [if_neg (by omega)]
theorem k_fewestOutAndIn {V : x_E} {n : Nat} {L : List Nat} {D : y_D} (hV : y_V V) {st : Nat} {u : Int32} (hL : y_ok L) (hK : k_BK D) (hst : st < 2 ^ q_n (D 90).1 2) (est : u &&& (nI (2 ^ q_n (D 90).1 2) - 1) = nI st) : y_Ri V yX3_fewestOutAndIn cX3_fewestOutAndIn 3 (some .int) 4 [.ref 163, .int u] n L D (fun v D2 => k_f2 D D2 ∧ ∃ c : Nat → Nat, (∀ s, s < 2 ^ q_n (D 90).1 2 → r_L (fun x => ∃ j, r_bw (k_tn D) (k_kwt D) (q_n (D 90).1 2) r_c1 j s x) (c s)) ∧ ∃ L9, r_L (fun x => ∃ j, r_bw (k_tn D) (k_kwt D) (q_n (D 90).1 2) (r_c2 st c) j 0 x) L9 ∧ v = r_an L9) := by
  refine y_ri (by decide) (Nat.le_of_ble_eq_true rfl) (fun E hE => ?_)
  change E 0 0 0 [(0, .ref 163), (1, .int u)] [] (y_mk n L D)
  have hk6 : q_n (D 90).1 2 ≤ 6 := hK.1.1.2
  have hp6 : 2 ^ q_n (D 90).1 2 ≤ 2 ^ 6 := Nat.pow_le_pow_right (by decide) hk6
  have hp7 : (2 : Nat) ^ 6 = 64 := rfl
  have hp8 : 1 ≤ 2 ^ q_n (D 90).1 2 := Nat.one_le_two_pow
  refine r_aload_n hE dX3_fewestOutAndIn_0 rfl ?_
  refine t_invvRv hE [] (k_reckonSlacks hL hK) v_yX3_reckonSlacks m_X3_27 dX3_fewestOutAndIn_1 rfl (hL 163 (by decide)) (y_l_163 (D 163)) rfl (by decide) ⟨Nat.le_refl _, Nat.le_refl _⟩ (Nat.le_of_ble_eq_true rfl) (fun D1 q1 => ?_)
  obtain ⟨f1, sl1⟩ := q1
  have fr1 : k_f2 D D1 := y_fx_m f1 (by decide)
  show E 0 0 4 [(0, .ref 163), (1, .int u)] [] (y_mk n L D1)
  refine r_aload_n hE dX3_fewestOutAndIn_4 rfl ?_
  refine t_getr hE f_X3_11 y_R_163_1 dX3_fewestOutAndIn_5 (hL 163 (by decide)) ?_
  refine r_ldc (v := 1000000) hE dX3_fewestOutAndIn_8 (x_gin (List.mem_append_right _ (tb_2 _ (List.mem_of_getElem? (i := 146) rfl))) rfl) ?_
  refine t_invs (r := none) (S2 := (y_mk n L (y_sw D1 164 (y_cp (fun _ => 1000000) (D1 164).1 64)))) hE [.ref 164, .int 1000000] (k_fill y_A_164 (hL 164 (by decide)) (by decide)) s_yJ7_fill_53178 m_X3_30 dX3_fewestOutAndIn_10 rfl (by decide) ⟨Nat.le_refl _, Nat.le_refl _⟩ (Nat.le_of_ble_eq_true rfl) ?_
  show E 0 0 13 [(0, .ref 163), (1, .int u)] [] (y_mk n L (y_sw D1 164 (y_cp (fun _ => 1000000) (D1 164).1 64)))
  refine r_aload_n hE dX3_fewestOutAndIn_13 rfl ?_
  refine t_getr hE f_X3_11 y_R_163_1 dX3_fewestOutAndIn_14 (hL 163 (by decide)) ?_
  refine r_iconst (v := 0) hE dX3_fewestOutAndIn_17 (by decide) ?_
  refine r_iconst (v := 0) hE dX3_fewestOutAndIn_18 (by decide) ?_
  refine t_iastN (e := 0) hE y_A_164 dX3_fewestOutAndIn_19 (hL 164 (by decide)) (by omega) (by decide) ?_
  obtain ⟨D5, hD5⟩ : ∃ z, z = y_si (y_sw D1 164 (y_cp (fun _ => 1000000) (D1 164).1 64)) 164 0 0 := ⟨_, rfl⟩
  rw [← hD5]
  have fr5 : k_f2 D D5 := by rw [hD5]; exact y_fx_s (y_fx_w fr1 (by decide)) (by decide)
  have sl5 : ∀ s, s < 64 → (D5 165).1 s = nI (k_rS D s) := by rw [hD5, y_si_ne (by decide), y_sw_ne (by decide)]; exact sl1
  have inv : ∀ z, z < 64 → q_ok (D5 164).1 z 1000000 ∧ q_n (D5 164).1 (z) = r_c1 z := by
    intro z hz
    unfold r_c1
    by_cases c : z = 0
    · rw [if_pos c]
      exact q_mk (by rw [hD5, y_si_1, if_pos c]; rfl) (by decide) (by decide)
    · rw [if_neg c]
      exact q_mk (by rw [hD5, y_si_1, if_neg c, y_sw_1]; unfold y_cp; rw [if_pos hz]; rfl) (by decide) (by decide)
  refine r_aload_n hE dX3_fewestOutAndIn_20 rfl ?_
  refine t_invvRv hE [] (k_shorten (D := D5) hV hL (k_BK_f fr5 hK) (by rw [k_rS_f fr5]; exact sl5) (fun z hz => (inv z (by omega)).1)) v_yX3_shorten m_X3_36 dX3_fewestOutAndIn_21 rfl (hL 163 (by decide)) (y_l_163 (D5 163)) rfl (by decide) ⟨Nat.le_refl _, Nat.le_refl _⟩ (Nat.le_of_ble_eq_true rfl) (fun D2 q2 => ?_)
  obtain ⟨g2, ok2, q2⟩ := q2
  rw [k_tn_f fr5, k_kwt_f fr5, fr5.1 90 (by decide)] at q2
  have fr2 : k_f2 D D2 := y_fx_t fr5 (y_fx_m g2 (by decide))
  have sl2 : ∀ s, s < 64 → (D2 165).1 s = nI (k_rS D s) := by rw [g2.1 165 (by decide)]; exact sl5
  have d2 : ∀ s, s < 2 ^ q_n (D 90).1 2 → r_L (fun x => ∃ j, r_bw (k_tn D) (k_kwt D) (q_n (D 90).1 2) r_c1 j s x) (q_n (D2 164).1 (s)) := fun s hs => r_L_imp (q2 s hs) (fun x => ⟨fun ⟨j, h⟩ => ⟨j, r_bw_c (fun z hz => (inv z (by omega)).2) hs h⟩, fun ⟨j, h⟩ => ⟨j, r_bw_c (fun z hz => (inv z (by omega)).2.symm) hs h⟩⟩)
  clear inv
  show E 0 0 24 [(0, .ref 163), (1, .int u)] [] (y_mk n L D2)
  refine r_iconst (v := 0) hE dX3_fewestOutAndIn_24 (by decide) ?_
  refine r_istore_n (ls2 := [(0, .ref 163), (1, .int u), (2, .int 0)]) hE dX3_fewestOutAndIn_25 (by decide) rfl ?_
  have lp : ∀ (i : Nat) (D8 : y_D), i ≤ 64 → k_f2 D D8 → (∀ s, s < 64 → (D8 165).1 s = nI (k_rS D s)) → (∀ z, z < i → q_ok (D8 164).1 z 1000000 ∧ q_n (D8 164).1 (z) = r_c2 st (fun s => q_n (D2 164).1 (s)) z) → (∀ z, i ≤ z → (D8 164).1 z = (D2 164).1 z) → E 0 0 26 [(0, .ref 163), (1, .int u), (2, .int (nI i))] [] (y_mk n L D8) := by
    intro i D8
    induction hm9 : (64 - i) using Nat.strongRecOn generalizing i D8 with
    | _ m9 ih =>
      intro hi fr sl inv ot
      subst hm9
      refine r_iload_n hE dX3_fewestOutAndIn_26 rfl ?_
      refine r_bipush (v := 64) hE dX3_fewestOutAndIn_27 (by decide) ?_
      refine r_icmp_geN (a := i) (b := 64) (tgt := 64) hE dX3_fewestOutAndIn_29 (by decide) (by omega) (by decide) (fun c29 => ?_) (fun c29 => ?_)
      · refine r_aload_n hE dX3_fewestOutAndIn_64 rfl ?_
        refine t_invvRv hE [] (k_shorten (D := D8) hV hL (k_BK_f fr hK) (by rw [k_rS_f fr]; exact sl) (fun z hz => (inv z (by omega)).1)) v_yX3_shorten m_X3_36 dX3_fewestOutAndIn_65 rfl (hL 163 (by decide)) (y_l_163 (D8 163)) rfl (by decide) ⟨Nat.le_refl _, Nat.le_refl _⟩ (Nat.le_of_ble_eq_true rfl) (fun D3 q3 => ?_)
        obtain ⟨g3, ok3, q3⟩ := q3
        rw [k_tn_f fr, k_kwt_f fr, fr.1 90 (by decide)] at q3
        show E 0 0 68 [(0, .ref 163), (1, .int u), (2, .int (nI i))] [] (y_mk n L D3)
        have ho1 : q_n (D3 164).1 (0) ≤ 1000000 := (ok3 0 (by omega)).2
        refine r_aload_n hE dX3_fewestOutAndIn_68 rfl ?_
        refine t_getr hE f_X3_11 y_R_163_1 dX3_fewestOutAndIn_69 (hL 163 (by decide)) ?_
        refine r_iconst (v := 0) hE dX3_fewestOutAndIn_72 (by decide) ?_
        refine t_ialdN (e := 0) hE y_A_164 dX3_fewestOutAndIn_73 (hL 164 (by decide)) (by omega) (by decide) ?_
        refine r_top (y := (nI (q_n (D3 164).1 (0)))) (ok3 0 (by omega)).1 ?_
        refine r_ldc (v := 1000000) hE dX3_fewestOutAndIn_74 (x_gin (List.mem_append_right _ (tb_2 _ (List.mem_of_getElem? (i := 146) rfl))) rfl) ?_
        refine r_icmp_geN (a := q_n (D3 164).1 (0)) (b := 1000000) (tgt := 88) hE dX3_fewestOutAndIn_76 (by decide) (by omega) (by decide) (fun c76 => ?_) (fun c76 => ?_)
        · refine r_iconst (v := (-1)) hE dX3_fewestOutAndIn_88 (by decide) ?_
          refine r_ireturn hE dX3_fewestOutAndIn_89 rfl rfl (Nat.zero_le _) (Nat.zero_le _) ?_
          refine ⟨_, _, rfl, rfl, y_fx_t fr (y_fx_m g3 (by decide)), (fun s => q_n (D2 164).1 (s)), d2, _, r_L_imp (q3 0 (by omega)) (fun x => ⟨fun ⟨j, h⟩ => ⟨j, r_bw_c (fun z hz => (inv z (by omega)).2) (by omega) h⟩, fun ⟨j, h⟩ => ⟨j, r_bw_c (fun z hz => (inv z (by omega)).2.symm) (by omega) h⟩⟩), ?_⟩
          unfold r_an
          first | rw [if_pos (by omega)] | rw [if_neg (by omega)]
        · refine r_aload_n hE dX3_fewestOutAndIn_79 rfl ?_
          refine t_getr hE f_X3_11 y_R_163_1 dX3_fewestOutAndIn_80 (hL 163 (by decide)) ?_
          refine r_iconst (v := 0) hE dX3_fewestOutAndIn_83 (by decide) ?_
          refine t_ialdN (e := 0) hE y_A_164 dX3_fewestOutAndIn_84 (hL 164 (by decide)) (by omega) (by decide) ?_
          refine r_top (y := (nI (q_n (D3 164).1 (0)))) (ok3 0 (by omega)).1 ?_
          refine r_goto (tgt := 89) hE dX3_fewestOutAndIn_85 (by decide) ?_
          refine r_ireturn hE dX3_fewestOutAndIn_89 rfl rfl (Nat.zero_le _) (Nat.zero_le _) ?_
          refine ⟨_, _, rfl, rfl, y_fx_t fr (y_fx_m g3 (by decide)), (fun s => q_n (D2 164).1 (s)), d2, _, r_L_imp (q3 0 (by omega)) (fun x => ⟨fun ⟨j, h⟩ => ⟨j, r_bw_c (fun z hz => (inv z (by omega)).2) (by omega) h⟩, fun ⟨j, h⟩ => ⟨j, r_bw_c (fun z hz => (inv z (by omega)).2.symm) (by omega) h⟩⟩), ?_⟩
          unfold r_an
          first | rw [if_pos (by omega)] | rw [if_neg (by omega)]
      · refine r_aload_n hE dX3_fewestOutAndIn_32 rfl ?_
        refine t_getr hE f_X3_11 y_R_163_1 dX3_fewestOutAndIn_33 (hL 163 (by decide)) ?_
        refine r_iload_n hE dX3_fewestOutAndIn_36 rfl ?_
        refine r_aload_n hE dX3_fewestOutAndIn_37 rfl ?_
        refine r_iload_n hE dX3_fewestOutAndIn_38 rfl ?_
        refine r_iload_n hE dX3_fewestOutAndIn_39 rfl ?_
        refine t_invvRi hE [.int (nI i), .int u] (k_hasAll (D := D8) (s := i) (st := st) (u := u) hV hL (k_BK_f fr hK) (by omega) (by rw [fr.1 90 (by decide)]; exact hst) (by rw [fr.1 90 (by decide)]; exact est)) v_yX3_hasAll m_X3_39 dX3_fewestOutAndIn_40 rfl (hL 163 (by decide)) (y_l_163 (D8 163)) rfl (by decide) ⟨Nat.le_refl _, Nat.le_refl _⟩ (Nat.le_of_ble_eq_true rfl) (fun v9 D9 q9 => ?_)
        obtain ⟨q9, hD9⟩ := q9
        rw [hD9]
        show E 0 0 43 [(0, .ref 163), (1, .int u), (2, .int (nI i))] [.int v9, .int (nI i), .ref 164] (y_mk n L D8)
        refine r_if_eq (tgt := 55) hE dX3_fewestOutAndIn_43 (by decide) (fun c43 => ?_) (fun c43 => ?_)
        · refine r_ldc (v := 1000000) hE dX3_fewestOutAndIn_55 (x_gin (List.mem_append_right _ (tb_2 _ (List.mem_of_getElem? (i := 146) rfl))) rfl) ?_
          refine t_iastN (e := i) hE y_A_164 dX3_fewestOutAndIn_57 (hL 164 (by decide)) (by omega) (by decide) ?_
          refine r_iincN (a := i) (b := 1) (ls2 := [(0, .ref 163), (1, .int u), (2, .int (nI (i + 1)))]) hE dX3_fewestOutAndIn_58 rfl rfl (by decide) rfl ?_
          refine r_goto (tgt := 26) hE dX3_fewestOutAndIn_61 (by decide) ?_
          have hq9 := (y_is_0 q9).mp c43
          refine ih (64 - (i + 1)) (by omega) (i + 1) _ rfl (by omega) (y_fx_s fr (by decide)) (by rw [y_si_ne (by decide)]; exact sl) (fun p hp => ?_) (fun z hz => by rw [y_si_1, if_neg (by omega)]; exact ot z (by omega))
          by_cases c : p = i
          · have h9 := q_mk (W := (y_si D8 164 i 1000000 164).1) (j := p) (B := 1000000) (a := r_c2 st (fun s => q_n (D2 164).1 (s)) p) (by rw [y_si_1, if_pos c, c]; unfold r_c2; rw [if_neg hq9]; rfl) (by unfold r_c2; dsimp only; have := (ok2 p (by omega)).2; split <;> omega) (by unfold r_c2; dsimp only; have := (ok2 p (by omega)).2; split <;> omega)
            exact h9
          · exact ⟨q_ok_n c (inv p (by omega)).1, by rw [q_si_n c]; exact (inv p (by omega)).2⟩
        · refine r_aload_n hE dX3_fewestOutAndIn_46 rfl ?_
          refine t_getr hE f_X3_11 y_R_163_1 dX3_fewestOutAndIn_47 (hL 163 (by decide)) ?_
          refine r_iload_n hE dX3_fewestOutAndIn_50 rfl ?_
          refine t_ialdN (e := i) hE y_A_164 dX3_fewestOutAndIn_51 (hL 164 (by decide)) (by omega) (by decide) ?_
          refine r_goto (tgt := 57) hE dX3_fewestOutAndIn_52 (by decide) ?_
          refine t_iastN (e := i) hE y_A_164 dX3_fewestOutAndIn_57 (hL 164 (by decide)) (by omega) (by decide) ?_
          refine r_iincN (a := i) (b := 1) (ls2 := [(0, .ref 163), (1, .int u), (2, .int (nI (i + 1)))]) hE dX3_fewestOutAndIn_58 rfl rfl (by decide) rfl ?_
          refine r_goto (tgt := 26) hE dX3_fewestOutAndIn_61 (by decide) ?_
          have hq9 := Classical.not_not.mp (fun q => c43 ((y_is_0 q9).mpr q))
          refine ih (64 - (i + 1)) (by omega) (i + 1) _ rfl (by omega) (y_fx_s fr (by decide)) (by rw [y_si_ne (by decide)]; exact sl) (fun p hp => ?_) (fun z hz => by rw [y_si_1, if_neg (by omega)]; exact ot z (by omega))
          by_cases c : p = i
          · have h9 := q_mk (W := (y_si D8 164 i ((D8 164).1 i) 164).1) (j := p) (B := 1000000) (a := r_c2 st (fun s => q_n (D2 164).1 (s)) p) (by rw [y_si_1, if_pos c, c]; unfold r_c2; rw [if_pos hq9, ot i (by omega)]; exact (ok2 i (by omega)).1) (by unfold r_c2; dsimp only; have := (ok2 p (by omega)).2; split <;> omega) (by unfold r_c2; dsimp only; have := (ok2 p (by omega)).2; split <;> omega)
            exact h9
          · exact ⟨q_ok_n c (inv p (by omega)).1, by rw [q_si_n c]; exact (inv p (by omega)).2⟩
  exact lp 0 _ (by omega) fr2 sl2 (fun p hp => absurd hp (by omega)) (fun z hz => rfl)
theorem k_firstToOpen {V : x_E} {n : Nat} {L : List Nat} {D : y_D} (hV : y_V V) {st : Nat} {u : Int32} (hL : y_ok L) (hK : k_BK D) (hst : st < 2 ^ q_n (D 90).1 2) (est : u &&& (nI (2 ^ q_n (D 90).1 2) - 1) = nI st) : y_Ri V yX3_firstToOpen cX3_firstToOpen 4 (some .int) 5 [.ref 163, .int u] n L D (fun v D2 => k_f2 D D2 ∧ ∃ c : Nat → Nat, (∀ s, s < 2 ^ q_n (D 90).1 2 → r_L (fun x => ∃ j, r_bw (k_tn D) (k_kwt D) (q_n (D 90).1 2) (r_c0 st) j s x) (c s)) ∧ ((v = -1 ∧ (c 0 = 0 ∨ c 0 = 1000000 ∨ ∀ k, k < q_n (D 90).1 2 → ¬ (q_n (D 91).1 (k * 4 + 2) ≤ k_rS D 0 ∧ q_n (D 91).1 (k * 4 + 0) + c (2 ^ k) = c 0))) ∨ ∃ k, k < q_n (D 90).1 2 ∧ v = nI k ∧ c 0 ≠ 0 ∧ c 0 ≠ 1000000 ∧ (q_n (D 91).1 (k * 4 + 2) ≤ k_rS D 0 ∧ q_n (D 91).1 (k * 4 + 0) + c (2 ^ k) = c 0) ∧ ∀ i, i < k → ¬ (q_n (D 91).1 (i * 4 + 2) ≤ k_rS D 0 ∧ q_n (D 91).1 (i * 4 + 0) + c (2 ^ i) = c 0))) := by
  refine y_ri (by decide) (Nat.le_of_ble_eq_true rfl) (fun E hE => ?_)
  change E 0 0 0 [(0, .ref 163), (1, .int u)] [] (y_mk n L D)
  have hk6 : q_n (D 90).1 2 ≤ 6 := hK.1.1.2
  have hp6 : 2 ^ q_n (D 90).1 2 ≤ 2 ^ 6 := Nat.pow_le_pow_right (by decide) hk6
  have hp7 : (2 : Nat) ^ 6 = 64 := rfl
  have hp8 : 1 ≤ 2 ^ q_n (D 90).1 2 := Nat.one_le_two_pow
  refine r_aload_n hE dX3_firstToOpen_0 rfl ?_
  refine r_iload_n hE dX3_firstToOpen_1 rfl ?_
  refine t_invvRv hE [.int u] (k_reckonOut (st := st) hV hL hK hst est) v_yX3_reckonOut m_X3_22 dX3_firstToOpen_2 rfl (hL 163 (by decide)) (y_l_163 (D 163)) rfl (by decide) ⟨Nat.le_refl _, Nat.le_refl _⟩ (Nat.le_of_ble_eq_true rfl) (fun D1 q1 => ?_)
  obtain ⟨fr1, ok1, sl1, q1⟩ := q1
  have ho1 : q_n (D1 164).1 (0) ≤ 1000000 := (ok1 0 (by omega)).2
  show E 0 0 5 [(0, .ref 163), (1, .int u)] [] (y_mk n L D1)
  refine r_aload_n hE dX3_firstToOpen_5 rfl ?_
  refine t_getr hE f_X3_11 y_R_163_1 dX3_firstToOpen_6 (hL 163 (by decide)) ?_
  refine r_iconst (v := 0) hE dX3_firstToOpen_9 (by decide) ?_
  refine t_ialdN (e := 0) hE y_A_164 dX3_firstToOpen_10 (hL 164 (by decide)) (by omega) (by decide) ?_
  refine r_top (y := (nI (q_n (D1 164).1 (0)))) (ok1 0 (by omega)).1 ?_
  refine r_if_eq (tgt := 25) hE dX3_firstToOpen_11 (by decide) (fun c11 => ?_) (fun c11 => ?_)
  · refine r_iconst (v := (-1)) hE dX3_firstToOpen_25 (by decide) ?_
    refine r_ireturn hE dX3_firstToOpen_26 rfl rfl (Nat.zero_le _) (Nat.zero_le _) ?_
    refine ⟨_, _, rfl, rfl, fr1, (fun s => q_n (D1 164).1 (s)), q1, Or.inl ⟨rfl, ?_⟩⟩
    first
    | exact Or.inl (show q_n (D1 164).1 (0) = 0 from (nI_eq (b := 0) (by omega) (by decide)).mp c11)
    | exact Or.inr (Or.inl (show q_n (D1 164).1 (0) = 1000000 by omega))
  · refine r_aload_n hE dX3_firstToOpen_14 rfl ?_
    refine t_getr hE f_X3_11 y_R_163_1 dX3_firstToOpen_15 (hL 163 (by decide)) ?_
    refine r_iconst (v := 0) hE dX3_firstToOpen_18 (by decide) ?_
    refine t_ialdN (e := 0) hE y_A_164 dX3_firstToOpen_19 (hL 164 (by decide)) (by omega) (by decide) ?_
    refine r_top (y := (nI (q_n (D1 164).1 (0)))) (ok1 0 (by omega)).1 ?_
    refine r_ldc (v := 1000000) hE dX3_firstToOpen_20 (x_gin (List.mem_append_right _ (tb_2 _ (List.mem_of_getElem? (i := 146) rfl))) rfl) ?_
    refine r_icmp_ltN (a := q_n (D1 164).1 (0)) (b := 1000000) (tgt := 27) hE dX3_firstToOpen_22 (by decide) (by omega) (by decide) (fun c22 => ?_) (fun c22 => ?_)
    · refine r_iconst (v := 0) hE dX3_firstToOpen_27 (by decide) ?_
      refine r_istore_n (ls2 := [(0, .ref 163), (1, .int u), (2, .int 0)]) hE dX3_firstToOpen_28 (by decide) rfl ?_
      have lp : ∀ (k : Nat), k ≤ q_n (D 90).1 2 → (∀ i, i < k → ¬ (fun k => q_n (D 91).1 (k * 4 + 2) ≤ k_rS D 0 ∧ q_n (D 91).1 (k * 4 + 0) + q_n (D1 164).1 (2 ^ k) = q_n (D1 164).1 (0)) i) → E 0 0 29 [(0, .ref 163), (1, .int u), (2, .int (nI k))] [] (y_mk n L D1) := by
        intro k
        induction hm9 : (q_n (D 90).1 2 - k) using Nat.strongRecOn generalizing k with
        | _ m9 ih =>
          intro hk h0
          subst hm9
          refine r_iload_n hE dX3_firstToOpen_29 rfl ?_
          refine r_aload_n hE dX3_firstToOpen_30 rfl ?_
          refine t_getr hE f_X3_18 y_R_163_0 dX3_firstToOpen_31 (hL 163 (by decide)) ?_
          refine t_getr hE f_X3_43 y_R_73_11 dX3_firstToOpen_34 (hL 73 (by decide)) ?_
          refine t_geti hE f_X3_49 y_I_90_2 dX3_firstToOpen_37 (hL 90 (by decide)) ?_
          refine r_top (y := (nI (q_n (D 90).1 2))) (by rw [fr1.1 90 (by decide)]; exact hK.1.1.1) ?_
          refine r_icmp_geN (a := k) (b := q_n (D 90).1 2) (tgt := 92) hE dX3_firstToOpen_40 (by decide) (by omega) (by omega) (fun c40 => ?_) (fun c40 => ?_)
          · refine r_iconst (v := (-1)) hE dX3_firstToOpen_92 (by decide) ?_
            refine r_ireturn hE dX3_firstToOpen_93 rfl rfl (Nat.zero_le _) (Nat.zero_le _) ?_
            exact ⟨_, _, rfl, rfl, fr1, (fun s => q_n (D1 164).1 (s)), q1, Or.inl ⟨rfl, Or.inr (Or.inr (fun i hi => h0 i (by omega)))⟩⟩
          · have hpk : 2 ^ k < 64 := Nat.lt_of_lt_of_le (Nat.pow_lt_pow_right (by decide) (show k < q_n (D 90).1 2 by omega)) (by omega)
            have hop : q_n (D 91).1 (k * 4 + 0) ≤ 99 := (hK.2.2 k (by omega)).1.1.2
            have hsk : q_n (D1 164).1 (2 ^ k) ≤ 1000000 := (ok1 _ (by omega)).2
            refine r_aload_n hE dX3_firstToOpen_43 rfl ?_
            refine t_getr hE f_X3_18 y_R_163_0 dX3_firstToOpen_44 (hL 163 (by decide)) ?_
            refine t_getr hE f_X3_43 y_R_73_11 dX3_firstToOpen_47 (hL 73 (by decide)) ?_
            refine r_iload_n hE dX3_firstToOpen_50 rfl ?_
            refine r_iconst (v := 0) hE dX3_firstToOpen_51 (by decide) ?_
            refine t_invv (r := (some (.int (if k < q_n (D 90).1 2 ∧ 0 < 4 then (D1 91).1 (k * 4 + 0) else 0)))) (S2 := (y_mk n L D1)) hE [.int (nI k), .int 0] (k_get (D := D1) (k := q_n (D 90).1 2) (wd := 4) y_T_90 (hL 90 (by decide)) (hL 91 (by decide)) (by rw [fr1.1 90 (by decide)]; exact hK.1.1.1) (by rw [fr1.1 90 (by decide)]; exact hK.1.2) (by omega) (by decide) (by decide) (r := k) (c := 0) (by omega) (by decide) (by omega)) v_yX7_get m_X3_55 dX3_firstToOpen_52 rfl (hL 90 (by decide)) (y_l_90 (D1 90)) rfl (by decide) ⟨Nat.le_refl _, Nat.le_refl _⟩ (Nat.le_of_ble_eq_true rfl) ?_
            show E 0 0 55 [(0, .ref 163), (1, .int u), (2, .int (nI k))] [.int (if k < q_n (D 90).1 2 ∧ 0 < 4 then (D1 91).1 (k * 4 + 0) else 0)] (y_mk n L D1)
            refine r_top (y := (nI (q_n (D 91).1 (k * 4 + 0)))) (by rw [if_pos ⟨by omega, by decide⟩, fr1.1 91 (by decide)]; exact (hK.2.2 k (by omega)).1.1.1) ?_
            refine r_aload_n hE dX3_firstToOpen_55 rfl ?_
            refine t_getr hE f_X3_11 y_R_163_1 dX3_firstToOpen_56 (hL 163 (by decide)) ?_
            refine r_iconst (v := 1) hE dX3_firstToOpen_59 (by decide) ?_
            refine r_iload_n hE dX3_firstToOpen_60 rfl ?_
            refine r_shl1N (k := k) hE dX3_firstToOpen_61 (by omega) ?_
            refine t_ialdN (e := 2 ^ k) hE y_A_164 dX3_firstToOpen_62 (hL 164 (by decide)) (by omega) (by decide) ?_
            refine r_top (y := (nI (q_n (D1 164).1 (2 ^ k)))) (ok1 _ (by omega)).1 ?_
            refine r_iaddN (a := q_n (D 91).1 (k * 4 + 0)) (b := q_n (D1 164).1 (2 ^ k)) hE dX3_firstToOpen_63 ?_
            refine r_istore_n (ls2 := [(0, .ref 163), (1, .int u), (2, .int (nI k)), (3, .int (nI ((q_n (D 91).1 (k * 4 + 0)) + (q_n (D1 164).1 (2 ^ k)))))]) hE dX3_firstToOpen_64 (by decide) rfl ?_
            refine r_aload_n hE dX3_firstToOpen_65 rfl ?_
            refine r_iload_n hE dX3_firstToOpen_66 rfl ?_
            refine r_iconst (v := 0) hE dX3_firstToOpen_67 (by decide) ?_
            refine t_invvRi hE [.int (nI k), .int 0] (k_givesWay (D := D1) (k := k) (s := 0) hL (k_BK_f fr1 hK) (by rw [fr1.1 90 (by decide)]; omega) (by decide) (by rw [k_rS_f fr1]; exact sl1)) v_yX3_givesWay m_X3_59 dX3_firstToOpen_68 rfl (hL 163 (by decide)) (y_l_163 (D1 163)) rfl (by decide) ⟨Nat.le_refl _, Nat.le_refl _⟩ (Nat.le_of_ble_eq_true rfl) (fun v9 D9 q9 => ?_)
            obtain ⟨q9, hD9⟩ := q9
            rw [hD9]
            rw [k_rS_f fr1, fr1.1 91 (by decide)] at q9
            show E 0 0 71 [(0, .ref 163), (1, .int u), (2, .int (nI k)), (3, .int (nI ((q_n (D 91).1 (k * 4 + 0)) + (q_n (D1 164).1 (2 ^ k)))))] [.int v9] (y_mk n L D1)
            refine r_if_eq (tgt := 86) hE dX3_firstToOpen_71 (by decide) (fun c71 => ?_) (fun c71 => ?_)
            · refine r_iincN (a := k) (b := 1) (ls2 := [(0, .ref 163), (1, .int u), (2, .int (nI (k + 1))), (3, .int (nI ((q_n (D 91).1 (k * 4 + 0)) + (q_n (D1 164).1 (2 ^ k)))))]) hE dX3_firstToOpen_86 rfl rfl (by decide) rfl ?_
              refine r_goto (tgt := 29) hE dX3_firstToOpen_89 (by decide) ?_
              refine r_locs hE (ls2 := [(0, .ref 163), (1, .int u), (2, .int (nI (k + 1)))]) ?_ (ih (q_n (D 90).1 2 - (k + 1)) (by omega) (k + 1) rfl (by omega) (fun i hi q => ?_))
              · simp [x_lk]
              · by_cases c : i = k
                · subst c
                  first
                  | exact (y_is_0 q9).mp c71 q.1
                  | exact c81 q.2
                · exact h0 i (by omega) q
            · refine r_iload_n hE dX3_firstToOpen_74 rfl ?_
              refine r_aload_n hE dX3_firstToOpen_75 rfl ?_
              refine t_getr hE f_X3_11 y_R_163_1 dX3_firstToOpen_76 (hL 163 (by decide)) ?_
              refine r_iconst (v := 0) hE dX3_firstToOpen_79 (by decide) ?_
              refine t_ialdN (e := 0) hE y_A_164 dX3_firstToOpen_80 (hL 164 (by decide)) (by omega) (by decide) ?_
              refine r_top (y := (nI (q_n (D1 164).1 (0)))) (ok1 0 (by omega)).1 ?_
              refine r_icmp_neN (a := (q_n (D 91).1 (k * 4 + 0)) + (q_n (D1 164).1 (2 ^ k))) (b := q_n (D1 164).1 (0)) (tgt := 86) hE dX3_firstToOpen_81 (by decide) (by omega) (by omega) (fun c81 => ?_) (fun c81 => ?_)
              · refine r_iincN (a := k) (b := 1) (ls2 := [(0, .ref 163), (1, .int u), (2, .int (nI (k + 1))), (3, .int (nI ((q_n (D 91).1 (k * 4 + 0)) + (q_n (D1 164).1 (2 ^ k)))))]) hE dX3_firstToOpen_86 rfl rfl (by decide) rfl ?_
                refine r_goto (tgt := 29) hE dX3_firstToOpen_89 (by decide) ?_
                refine r_locs hE (ls2 := [(0, .ref 163), (1, .int u), (2, .int (nI (k + 1)))]) ?_ (ih (q_n (D 90).1 2 - (k + 1)) (by omega) (k + 1) rfl (by omega) (fun i hi q => ?_))
                · simp [x_lk]
                · by_cases c : i = k
                  · subst c
                    first
                    | exact (y_is_0 q9).mp c71 q.1
                    | exact c81 q.2
                  · exact h0 i (by omega) q
              · refine r_iload_n hE dX3_firstToOpen_84 rfl ?_
                refine r_ireturn hE dX3_firstToOpen_85 rfl rfl (Nat.zero_le _) (Nat.zero_le _) ?_
                exact ⟨_, _, rfl, rfl, fr1, (fun s => q_n (D1 164).1 (s)), q1, Or.inr ⟨k, by omega, rfl, fun q => c11 (show nI (q_n (D1 164).1 (0)) = 0 by rw [show q_n (D1 164).1 (0) = 0 from q]; rfl), fun q => by have q : q_n (D1 164).1 (0) = 1000000 := q; omega, ⟨Classical.not_not.mp (fun q => c71 ((y_is_0 q9).mpr q)), c81⟩, h0⟩⟩
      exact lp 0 (by omega) (fun i hi => absurd hi (by omega))
    · refine r_iconst (v := (-1)) hE dX3_firstToOpen_25 (by decide) ?_
      refine r_ireturn hE dX3_firstToOpen_26 rfl rfl (Nat.zero_le _) (Nat.zero_le _) ?_
      refine ⟨_, _, rfl, rfl, fr1, (fun s => q_n (D1 164).1 (s)), q1, Or.inl ⟨rfl, ?_⟩⟩
      first
      | exact Or.inl (show q_n (D1 164).1 (0) = 0 from (nI_eq (b := 0) (by omega) (by decide)).mp c11)
      | exact Or.inr (Or.inl (show q_n (D1 164).1 (0) = 1000000 by omega))
theorem k_out {V : x_E} {n : Nat} {L : List Nat} {D : y_D} (hV : y_V V) {st : Nat} {u i9 : Int32} (hL : y_ok L) (hK : k_BK D) (hst : st < 2 ^ q_n (D 90).1 2) (est : u &&& (nI (2 ^ q_n (D 90).1 2) - 1) = nI st) : y_Ri V yX10_out cX10_out 3 (some .int) 6 [.ref 64, .int u, .int i9] n L D (fun v D2 => k_f2 D D2 ∧ ((i9 = 0 ∧ (∃ L9, r_L (fun x => ∃ j, r_bw (k_tn D) (k_kwt D) (q_n (D 90).1 2) (r_c0 st) j 0 x) L9 ∧ v = r_an L9)) ∨ (¬ i9 = 0 ∧ (∃ c : Nat → Nat, (∀ s, s < 2 ^ q_n (D 90).1 2 → r_L (fun x => ∃ j, r_bw (k_tn D) (k_kwt D) (q_n (D 90).1 2) r_c1 j s x) (c s)) ∧ ∃ L9, r_L (fun x => ∃ j, r_bw (k_tn D) (k_kwt D) (q_n (D 90).1 2) (r_c2 st c) j 0 x) L9 ∧ v = r_an L9)))) := by
  refine y_ri (by decide) (Nat.le_of_ble_eq_true rfl) (fun E hE => ?_)
  change E 0 0 0 [(0, .ref 64), (1, .int u), (2, .int i9)] [] (y_mk n L D)
  refine r_iload_n hE dX10_out_0 rfl ?_
  refine r_if_eq (tgt := 15) hE dX10_out_1 (by decide) (fun c1 => ?_) (fun c1 => ?_)
  · refine r_aload_n hE dX10_out_15 rfl ?_
    refine t_getr hE f_X10_42 y_R_64_7 dX10_out_16 (hL 64 (by decide)) ?_
    refine r_iload_n hE dX10_out_19 rfl ?_
    refine t_invvRi hE [.int u] (k_fewestOut (st := st) hV hL hK hst est) v_yX3_fewestOut m_X10_277 dX10_out_20 rfl (hL 163 (by decide)) (y_l_163 (D 163)) rfl (by decide) ⟨Nat.le_refl _, Nat.le_refl _⟩ (Nat.le_of_ble_eq_true rfl) (fun v9 D9 q9 => ?_)
    show E 0 0 23 [(0, .ref 64), (1, .int u), (2, .int i9)] [.int v9] (y_mk n L D9)
    refine r_ireturn hE dX10_out_23 rfl rfl (Nat.zero_le _) (Nat.zero_le _) ?_
    first
    | exact ⟨_, _, rfl, rfl, q9.1, Or.inl ⟨c1, q9.2⟩⟩
    | exact ⟨_, _, rfl, rfl, q9.1, Or.inr ⟨c1, q9.2⟩⟩
  · refine r_aload_n hE dX10_out_4 rfl ?_
    refine t_getr hE f_X10_42 y_R_64_7 dX10_out_5 (hL 64 (by decide)) ?_
    refine r_iload_n hE dX10_out_8 rfl ?_
    refine t_invvRi hE [.int u] (k_fewestOutAndIn (st := st) hV hL hK hst est) v_yX3_fewestOutAndIn m_X10_274 dX10_out_9 rfl (hL 163 (by decide)) (y_l_163 (D 163)) rfl (by decide) ⟨Nat.le_refl _, Nat.le_refl _⟩ (Nat.le_of_ble_eq_true rfl) (fun v9 D9 q9 => ?_)
    show E 0 0 12 [(0, .ref 64), (1, .int u), (2, .int i9)] [.int v9] (y_mk n L D9)
    refine r_goto (tgt := 23) hE dX10_out_12 (by decide) ?_
    refine r_ireturn hE dX10_out_23 rfl rfl (Nat.zero_le _) (Nat.zero_le _) ?_
    first
    | exact ⟨_, _, rfl, rfl, q9.1, Or.inl ⟨c1, q9.2⟩⟩
    | exact ⟨_, _, rfl, rfl, q9.1, Or.inr ⟨c1, q9.2⟩⟩
theorem k_first {V : x_E} {n : Nat} {L : List Nat} {D : y_D} (hV : y_V V) {st : Nat} {u : Int32} (hL : y_ok L) (hK : k_BK D) (hst : st < 2 ^ q_n (D 90).1 2) (est : u &&& (nI (2 ^ q_n (D 90).1 2) - 1) = nI st) : y_Ri V yX10_first cX10_first 2 (some .int) 6 [.ref 64, .int u] n L D (fun v D2 => k_f2 D D2 ∧ ∃ c : Nat → Nat, (∀ s, s < 2 ^ q_n (D 90).1 2 → r_L (fun x => ∃ j, r_bw (k_tn D) (k_kwt D) (q_n (D 90).1 2) (r_c0 st) j s x) (c s)) ∧ ((v = -1 ∧ (c 0 = 0 ∨ c 0 = 1000000 ∨ ∀ k, k < q_n (D 90).1 2 → ¬ (q_n (D 91).1 (k * 4 + 2) ≤ k_rS D 0 ∧ q_n (D 91).1 (k * 4 + 0) + c (2 ^ k) = c 0))) ∨ ∃ k, k < q_n (D 90).1 2 ∧ v = nI k ∧ c 0 ≠ 0 ∧ c 0 ≠ 1000000 ∧ (q_n (D 91).1 (k * 4 + 2) ≤ k_rS D 0 ∧ q_n (D 91).1 (k * 4 + 0) + c (2 ^ k) = c 0) ∧ ∀ i, i < k → ¬ (q_n (D 91).1 (i * 4 + 2) ≤ k_rS D 0 ∧ q_n (D 91).1 (i * 4 + 0) + c (2 ^ i) = c 0))) := by
  refine y_ri (by decide) (Nat.le_of_ble_eq_true rfl) (fun E hE => ?_)
  change E 0 0 0 [(0, .ref 64), (1, .int u)] [] (y_mk n L D)
  refine r_aload_n hE dX10_first_0 rfl ?_
  refine t_getr hE f_X10_42 y_R_64_7 dX10_first_1 (hL 64 (by decide)) ?_
  refine r_iload_n hE dX10_first_4 rfl ?_
  refine t_invvRi hE [.int u] (k_firstToOpen (st := st) hV hL hK hst est) v_yX3_firstToOpen m_X10_280 dX10_first_5 rfl (hL 163 (by decide)) (y_l_163 (D 163)) rfl (by decide) ⟨Nat.le_refl _, Nat.le_refl _⟩ (Nat.le_of_ble_eq_true rfl) (fun v9 D9 q9 => ?_)
  show E 0 0 8 [(0, .ref 64), (1, .int u)] [.int v9] (y_mk n L D9)
  refine r_ireturn hE dX10_first_8 rfl rfl (Nat.zero_le _) (Nat.zero_le _) ?_
  exact ⟨_, _, rfl, rfl, q9⟩

/-! Course.walk -/
def y_ag (D D2 : y_D) : Prop := ∀ j, j ≠ 159 → j ≠ 161 → j ≠ 190 → D2 j = D j
theorem y_ag_w {D D2 : y_D} {L : List Nat} {i c : Nat} (h : y_ag D D2) (hR : y_rq D L 77 6 2) (hi : i < 6) : y_w D2 i c = y_w D i c := by
  obtain ⟨r, hr, -, hd, -⟩ := hR i hi
  have hr2 : (D2 77).2.2.1 i = some r := by rw [h 77 (by decide) (by decide) (by decide)]; exact hr
  rw [← y_w_ok hr, ← y_w_ok hr2, h r (by unfold y_dh at hd; omega) (by unfold y_dh at hd; omega) (by unfold y_dh at hd; omega)]
theorem y_ag_rq {D D2 : y_D} {L : List Nat} (h : y_ag D D2) (hR : y_rq D L 77 6 2) : y_rq D2 L 77 6 2 := by
  intro i hi
  obtain ⟨r, hr, hm, hd, hk⟩ := hR i hi
  exact ⟨r, by rw [h 77 (by decide) (by decide) (by decide)]; exact hr, hm, hd, by rw [h r (by unfold y_dh at hd; omega) (by unfold y_dh at hd; omega) (by unfold y_dh at hd; omega)]; exact hk⟩
theorem y_ag_gs {D D2 : y_D} {m x tk : Nat} (h : y_ag D D2) : y_ag D (y_gs D2 m x tk) := by
  intro j h1 h2 h3
  rw [y_gs_ne h1 h3, h j h1 h2 h3]
theorem y_ag_si {D D2 : y_D} {k : Nat} {v : Int32} (h : y_ag D D2) : y_ag D (y_si D2 161 k v) := by
  intro j h1 h2 h3
  rw [y_si_ne h2, h j h1 h2 h3]
def y_wi (D8 : y_D) (x : Nat) (u : Int32) : Nat → Int32 × y_D
  | 0 => (y_pt ((D8 161).1 x) 4, D8)
  | i + 1 => if y_bit u i then ((y_wi D8 x u i).1 ||| K_freed (y_wi D8 x u i).2 i x (y_w D8 i 1).toNatClampNeg, y_gs (y_wi D8 x u i).2 i x (y_w D8 i 1).toNatClampNeg) else y_wi D8 x u i
def y_wo (D : y_D) (u : Int32) (kw : Nat) : Nat → y_D
  | 0 => y_si D 161 0 (1 &&& (D 160).1 0)
  | x + 1 => y_si (y_wi (y_wo D u kw x) x u kw).2 161 (x + 1) ((y_wi (y_wo D u kw x) x u kw).1 &&& ((y_wi (y_wo D u kw x) x u kw).2 160).1 (x + 1))
theorem k_walk {V : x_E} {n : Nat} {L : List Nat} {D : y_D} (hV : y_V V) {u : Int32} {k kw : Nat} (hL : y_ok L) (hs : (D 152).1 0 = nI k) (hk : k ≤ 300) (hw : (D 73).1 4 = nI kw) (hkw : kw ≤ 6) (hR2 : y_rq D L 77 6 2) (htk : ∀ i, i < kw → ∃ tk : Nat, y_w D i 1 = nI tk ∧ 1 ≤ tk ∧ tk < 1000) : x_Fn V yX1_walk cX1_walk 5 none 3 [.ref 151, .int u] (y_mk n L D) none (y_mk n L (y_wo D u kw k)) := by
  refine x_fn (by decide) (Nat.le_of_ble_eq_true rfl) (fun E hE => ?_)
  change E 0 0 0 [(0, .ref 151), (1, .int u)] [] (y_mk n L D)
  have lp : ∀ (x : Nat) (D8 : y_D), x ≤ k → y_wo D u kw x = D8 → y_ag D D8 → E 0 0 16 [(0, .ref 151), (1, .int u), (2, .int (nI x))] [] (y_mk n L D8) := by
    intro x D8
    induction hm9 : (k - x) using Nat.strongRecOn generalizing x D8 with
    | _ m9 ih =>
      intro hx hg8 ag8
      refine r_iload_n hE dX1_walk_16 rfl ?_
      refine r_aload_n hE dX1_walk_17 rfl ?_
      refine t_getr hE f_X1_12 y_R_151_1 dX1_walk_18 (hL 151 (by decide)) ?_
      refine t_geti hE f_X1_82 y_I_152_0 dX1_walk_21 (hL 152 (by decide)) ?_
      refine r_top (y := (nI k)) (by rw [ag8 152 (by decide) (by decide) (by decide)]; exact hs) ?_
      refine r_icmp_geN (a := x) (b := k) (tgt := 101) hE dX1_walk_24 (by decide) (by omega) (by omega) (fun c24 => ?_) (fun c24 => ?_)
      · refine r_return hE dX1_walk_101 rfl (Nat.zero_le _) (Nat.zero_le _) ?_
        have hx2 : x = k := by omega
        rw [hx2] at hg8
        rw [← hg8]
        exact ⟨rfl, rfl⟩
      · refine r_aload_n hE dX1_walk_27 rfl ?_
        refine t_getr hE f_X1_31 y_R_151_6 dX1_walk_28 (hL 151 (by decide)) ?_
        refine r_iload_n hE dX1_walk_31 rfl ?_
        refine t_ialdN (e := x) hE y_A_161 dX1_walk_32 (hL 161 (by decide)) (by omega) (by decide) ?_
        refine t_invs (r := (some (.int (y_pt ((D8 161).1 x) 4)))) (S2 := (y_mk n L D8)) hE [.int ((D8 161).1 x)] (k_parts hV) s_yX1_withAllTheirParts m_X1_115 dX1_walk_33 rfl (by decide) ⟨Nat.le_refl _, Nat.le_refl _⟩ (Nat.le_of_ble_eq_true rfl) ?_
        show E 0 0 36 [(0, .ref 151), (1, .int u), (2, .int (nI x))] [.int (y_pt ((D8 161).1 x) 4)] (y_mk n L D8)
        refine r_istore_n (ls2 := [(0, .ref 151), (1, .int u), (2, .int (nI x)), (3, .int (y_pt ((D8 161).1 x) 4))]) hE dX1_walk_36 (by decide) rfl ?_
        refine r_iconst (v := 0) hE dX1_walk_37 (by decide) ?_
        refine r_istore (ls2 := [(0, .ref 151), (1, .int u), (2, .int (nI x)), (3, .int (y_pt ((D8 161).1 x) 4)), (4, .int 0)]) hE dX1_walk_38 (by decide) rfl ?_
        have ihO := ih
        have lp2 : ∀ (i : Nat) (t : Int32) (D9 : y_D), i ≤ kw → y_wi D8 x u i = (t, D9) → y_ag D D9 → E 0 0 40 [(0, .ref 151), (1, .int u), (2, .int (nI x)), (3, .int t), (4, .int (nI i))] [] (y_mk n L D9) := by
          intro i t D9
          induction hm9 : (kw - i) using Nat.strongRecOn generalizing i t D9 with
          | _ m9 ih =>
            intro hi hg9 ag9
            refine r_iload hE dX1_walk_40 rfl ?_
            refine r_aload_n hE dX1_walk_42 rfl ?_
            refine t_getr hE f_X1_37 y_R_151_0 dX1_walk_43 (hL 151 (by decide)) ?_
            refine t_geti hE f_X1_64 y_I_73_4 dX1_walk_46 (hL 73 (by decide)) ?_
            refine r_top (y := (nI kw)) (by rw [ag9 73 (by decide) (by decide) (by decide)]; exact hw) ?_
            refine r_icmp_geN (a := i) (b := kw) (tgt := 77) hE dX1_walk_49 (by decide) (by omega) (by omega) (fun c49 => ?_) (fun c49 => ?_)
            · refine r_aload_n hE dX1_walk_77 rfl ?_
              refine t_getr hE f_X1_31 y_R_151_6 dX1_walk_78 (hL 151 (by decide)) ?_
              refine r_iload_n hE dX1_walk_81 rfl ?_
              refine r_iconst (v := 1) hE dX1_walk_82 (by decide) ?_
              refine r_iaddN (a := x) (b := 1) hE dX1_walk_83 ?_
              refine r_iload_n hE dX1_walk_84 rfl ?_
              refine r_aload_n hE dX1_walk_85 rfl ?_
              refine t_getr hE f_X1_28 y_R_151_5 dX1_walk_86 (hL 151 (by decide)) ?_
              refine r_iload_n hE dX1_walk_89 rfl ?_
              refine r_iconst (v := 1) hE dX1_walk_90 (by decide) ?_
              refine r_iaddN (a := x) (b := 1) hE dX1_walk_91 ?_
              refine t_ialdN (e := x + 1) hE y_A_160 dX1_walk_92 (hL 160 (by decide)) (by omega) (by decide) ?_
              refine r_iand hE dX1_walk_93 ?_
              refine t_iastN (e := x + 1) hE y_A_161 dX1_walk_94 (hL 161 (by decide)) (by omega) (by decide) ?_
              refine r_iincN (a := x) (b := 1) (ls2 := [(0, .ref 151), (1, .int u), (2, .int (nI (x + 1))), (3, .int t), (4, .int (nI i))]) hE dX1_walk_95 rfl rfl (by decide) rfl ?_
              refine r_goto (tgt := 16) hE dX1_walk_98 (by decide) ?_
              have hi2 : i = kw := by omega
              rw [hi2] at hg9
              refine r_locs hE (ls2 := [(0, .ref 151), (1, .int u), (2, .int (nI (x + 1)))]) ?_ (ihO (k - (x + 1)) (by omega) (x + 1) _ rfl (by omega) ?_ (y_ag_si ag9))
              · simp [x_lk]
              · show y_si (y_wi (y_wo D u kw x) x u kw).2 161 (x + 1) _ = _
                rw [hg8, hg9]
            · refine r_iload_n hE dX1_walk_52 rfl ?_
              refine r_iload hE dX1_walk_53 rfl ?_
              refine t_invsN (r := (some (.int (y_b (y_bit u i))))) (S2 := (y_mk n L D9)) hE [.int u, .int (nI i)] (k_hasBit) s_yX10_hasBit (hN_X1_68 hV) dX1_walk_55 rfl (by decide) ⟨Nat.le_refl _, Nat.le_refl _⟩ (Nat.le_of_ble_eq_true rfl) ?_
              show E 0 0 58 [(0, .ref 151), (1, .int u), (2, .int (nI x)), (3, .int t), (4, .int (nI i))] [.int (y_b (y_bit u i))] (y_mk n L D9)
              refine r_ifb_eq (tgt := 71) hE dX1_walk_58 (by decide) (fun c58 => ?_) (fun c58 => ?_)
              · refine r_iincN (a := i) (b := 1) (ls2 := [(0, .ref 151), (1, .int u), (2, .int (nI x)), (3, .int t), (4, .int (nI (i + 1)))]) hE dX1_walk_71 rfl rfl (by decide) rfl ?_
                refine r_goto (tgt := 40) hE dX1_walk_74 (by decide) ?_
                refine ih (kw - (i + 1)) (by omega) (i + 1) _ _ rfl (by omega) ?_ ag9
                show (if y_bit u i then _ else _) = _
                rw [if_neg c58, hg9]
              · obtain ⟨tk, ht, ht1, ht2⟩ := htk i (by omega)
                refine r_iload_n hE dX1_walk_61 rfl ?_
                refine r_aload_n hE dX1_walk_62 rfl ?_
                refine r_iload hE dX1_walk_63 rfl ?_
                refine r_iload_n hE dX1_walk_65 rfl ?_
                refine t_invv (r := (some (.int (K_freed D9 i x tk)))) (S2 := (y_mk n L (y_gs D9 i x tk))) hE [.int (nI i), .int (nI x)] (k_freedBehind (D := D9) (m := i) (x := x) (tk := tk) hV hL (by omega) (by omega) (by rw [y_ag_w ag9 hR2 (by omega)]; exact ht) ht1 ht2 (y_ag_rq ag9 hR2)) v_yX1_freedBehind m_X1_119 dX1_walk_66 rfl (hL 151 (by decide)) (y_l_151 (D9 151)) rfl (by decide) ⟨Nat.le_refl _, Nat.le_refl _⟩ (Nat.le_of_ble_eq_true rfl) ?_
                show E 0 0 69 [(0, .ref 151), (1, .int u), (2, .int (nI x)), (3, .int t), (4, .int (nI i))] [.int (K_freed D9 i x tk), .int t] (y_mk n L (y_gs D9 i x tk))
                refine r_ior hE dX1_walk_69 ?_
                refine r_istore_n (ls2 := [(0, .ref 151), (1, .int u), (2, .int (nI x)), (3, .int (t ||| (K_freed D9 i x tk))), (4, .int (nI i))]) hE dX1_walk_70 (by decide) rfl ?_
                refine r_iincN (a := i) (b := 1) (ls2 := [(0, .ref 151), (1, .int u), (2, .int (nI x)), (3, .int (t ||| (K_freed D9 i x tk))), (4, .int (nI (i + 1)))]) hE dX1_walk_71 rfl rfl (by decide) rfl ?_
                refine r_goto (tgt := 40) hE dX1_walk_74 (by decide) ?_
                refine ih (kw - (i + 1)) (by omega) (i + 1) _ _ rfl (by omega) ?_ (y_ag_gs ag9)
                show (if y_bit u i then _ else _) = _
                rw [if_pos c58, hg9, y_ag_w ag8 hR2 (by omega), ht, nI_clamp (by omega)]
        exact lp2 0 _ _ (by omega) rfl ag8
  refine r_aload_n hE dX1_walk_0 rfl ?_
  refine t_getr hE f_X1_31 y_R_151_6 dX1_walk_1 (hL 151 (by decide)) ?_
  refine r_iconst (v := 0) hE dX1_walk_4 (by decide) ?_
  refine r_iconst (v := 1) hE dX1_walk_5 (by decide) ?_
  refine r_aload_n hE dX1_walk_6 rfl ?_
  refine t_getr hE f_X1_28 y_R_151_5 dX1_walk_7 (hL 151 (by decide)) ?_
  refine r_iconst (v := 0) hE dX1_walk_10 (by decide) ?_
  refine t_ialdN (e := 0) hE y_A_160 dX1_walk_11 (hL 160 (by decide)) (by omega) (by decide) ?_
  refine r_iand hE dX1_walk_12 ?_
  refine t_iastN (e := 0) hE y_A_161 dX1_walk_13 (hL 161 (by decide)) (by omega) (by decide) ?_
  refine r_iconst (v := 0) hE dX1_walk_14 (by decide) ?_
  refine r_istore_n (ls2 := [(0, .ref 151), (1, .int u), (2, .int 0)]) hE dX1_walk_15 (by decide) rfl ?_
  exact lp 0 _ (by omega) rfl (y_ag_si (fun j _ _ _ => rfl))

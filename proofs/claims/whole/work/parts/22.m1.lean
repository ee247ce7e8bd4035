theorem y_vin {p : Int32} {m N : Nat} (h0 : 0 ≤ p) (h1 : p ≤ nI m) (hm : m < N) (hN : N < 2 ^ 31) : vp_in p N := by
  rw [vp_in_iff]
  rw [Int32.le_iff_toInt_le] at h0 h1
  rw [nI_toInt (by omega)] at h1
  rw [Int32.toInt_zero] at h0
  omega
theorem c_in {V : x_E} {n : Nat} {L : List Nat} {D : y_D} {v lo hi : Int32} : x_Fn V yX11_in cX11_in 3 (some .boolean) 0 [.int v, .int lo, .int hi] (y_mk n L D) (some (.int (y_b (lo ≤ v ∧ v ≤ hi)))) (y_mk n L D) := by
  refine x_fn (by decide) (Nat.le_of_ble_eq_true rfl) (fun E hE => ?_)
  change E 0 0 0 [(0, .int v), (1, .int lo), (2, .int hi)] [] (y_mk n L D)
  refine r_iload_n hE dX11_in_0 rfl ?_
  refine r_iload_n hE dX11_in_1 rfl ?_
  refine r_icmp_lt (tgt := 14) hE dX11_in_2 (by decide) (fun c2 => ?_) (fun c2 => ?_)
  · refine r_iconst (v := 0) hE dX11_in_14 (by decide) ?_
    refine r_ireturn hE dX11_in_15 rfl (by decide) (Nat.zero_le _) (Nat.zero_le _) ?_
    exact ⟨by grind [y_b], rfl⟩
  · refine r_iload_n hE dX11_in_5 rfl ?_
    refine r_iload_n hE dX11_in_6 rfl ?_
    refine r_icmp_gt (tgt := 14) hE dX11_in_7 (by decide) (fun c7 => ?_) (fun c7 => ?_)
    · refine r_iconst (v := 0) hE dX11_in_14 (by decide) ?_
      refine r_ireturn hE dX11_in_15 rfl (by decide) (Nat.zero_le _) (Nat.zero_le _) ?_
      exact ⟨by grind [y_b], rfl⟩
    · refine r_iconst (v := 1) hE dX11_in_10 (by decide) ?_
      refine r_goto (tgt := 15) hE dX11_in_11 (by decide) ?_
      refine r_ireturn hE dX11_in_15 rfl (by decide) (Nat.zero_le _) (Nat.zero_le _) ?_
      exact ⟨by grind [y_b], rfl⟩
theorem c_throwsIf {V : x_E} {n : Nat} {L : List Nat} {D : y_D} {p : Prop} [Decidable p] {code : Int32} (hL : y_ok L) : x_Fn V yX11_throwsIf cX11_throwsIf 3 (some .boolean) 0 [.ref 169, .int (y_b p), .int code] (y_mk n L D) (some (.int (y_b p))) (y_mk n L (if p then y_si D 169 0 code else D)) := by
  refine x_fn (by decide) (Nat.le_of_ble_eq_true rfl) (fun E hE => ?_)
  change E 0 0 0 [(0, .ref 169), (1, .int (y_b p)), (2, .int code)] [] (y_mk n L D)
  refine r_iload_n hE dX11_throwsIf_0 rfl ?_
  refine r_ifb_eq (tgt := 9) hE dX11_throwsIf_1 (by decide) (fun c1 => ?_) (fun c1 => ?_)
  · refine r_iload_n hE dX11_throwsIf_9 rfl ?_
    refine r_ireturn hE dX11_throwsIf_10 rfl (by first | rfl | exact y_nb _) (Nat.zero_le _) (Nat.zero_le _) ?_
    exact ⟨rfl, by simp [*]⟩
  · refine r_aload_n hE dX11_throwsIf_4 rfl ?_
    refine r_iload_n hE dX11_throwsIf_5 rfl ?_
    refine t_puti hE f_X11_3 y_I_169_0 dX11_throwsIf_6 (hL 169 (by decide)) rfl rfl ?_
    refine r_iload_n hE dX11_throwsIf_9 rfl ?_
    refine r_ireturn hE dX11_throwsIf_10 rfl (by first | rfl | exact y_nb _) (Nat.zero_le _) (Nat.zero_le _) ?_
    exact ⟨rfl, by simp [*]⟩
theorem c_throwsT {V : x_E} {n : Nat} {L : List Nat} {D : y_D} {code : Int32} (hL : y_ok L) : x_Fn V yX11_throwsIf cX11_throwsIf 3 (some .boolean) 0 [.ref 169, .int 1, .int code] (y_mk n L D) (some (.int 1)) (y_mk n L (y_si D 169 0 code)) := by
  refine x_fn (by decide) (Nat.le_of_ble_eq_true rfl) (fun E hE => ?_)
  change E 0 0 0 [(0, .ref 169), (1, .int 1), (2, .int code)] [] (y_mk n L D)
  refine r_iload_n hE dX11_throwsIf_0 rfl ?_
  refine r_if_eq (tgt := 9) hE dX11_throwsIf_1 (by decide) (fun c1 => by first | exact absurd c1 (by decide) | exact absurd (by decide) c1) (fun _ => ?_)
  refine r_aload_n hE dX11_throwsIf_4 rfl ?_
  refine r_iload_n hE dX11_throwsIf_5 rfl ?_
  refine t_puti hE f_X11_3 y_I_169_0 dX11_throwsIf_6 (hL 169 (by decide)) rfl rfl ?_
  refine r_iload_n hE dX11_throwsIf_9 rfl ?_
  refine r_ireturn hE dX11_throwsIf_10 rfl (by first | rfl | exact y_nb _) (Nat.zero_le _) (Nat.zero_le _) ?_
  exact ⟨rfl, rfl⟩
theorem c_throwsF {V : x_E} {n : Nat} {L : List Nat} {D : y_D} {code : Int32} : x_Fn V yX11_throwsIf cX11_throwsIf 3 (some .boolean) 0 [.ref 169, .int 0, .int code] (y_mk n L D) (some (.int 0)) (y_mk n L D) := by
  refine x_fn (by decide) (Nat.le_of_ble_eq_true rfl) (fun E hE => ?_)
  change E 0 0 0 [(0, .ref 169), (1, .int 0), (2, .int code)] [] (y_mk n L D)
  refine r_iload_n hE dX11_throwsIf_0 rfl ?_
  refine r_if_eq (tgt := 9) hE dX11_throwsIf_1 (by decide) (fun _ => ?_) (fun c1 => by first | exact absurd c1 (by decide) | exact absurd (by decide) c1)
  refine r_iload_n hE dX11_throwsIf_9 rfl ?_
  refine r_ireturn hE dX11_throwsIf_10 rfl (by first | rfl | exact y_nb _) (Nat.zero_le _) (Nat.zero_le _) ?_
  exact ⟨rfl, rfl⟩
theorem c_thrown {V : x_E} {n : Nat} {L : List Nat} {D : y_D} (hL : y_ok L) : x_Fn V yX11_thrown cX11_thrown 1 (some .int) 0 [.ref 169] (y_mk n L D) (some (.int ((D 169).1 0))) (y_mk n L D) := by
  refine x_fn (by decide) (Nat.le_of_ble_eq_true rfl) (fun E hE => ?_)
  change E 0 0 0 [(0, .ref 169)] [] (y_mk n L D)
  refine r_aload_n hE dX11_thrown_0 rfl ?_
  refine t_geti hE f_X11_3 y_I_169_0 dX11_thrown_1 (hL 169 (by decide)) ?_
  refine r_ireturn hE dX11_thrown_4 rfl rfl (Nat.zero_le _) (Nat.zero_le _) ?_
  exact ⟨rfl, rfl⟩
theorem c_none {V : x_E} {n : Nat} {L : List Nat} {D : y_D} {k : Int32} {c : Nat} (hL : y_ok L) (hc : c < 12) : x_Fn V yX11_none cX11_none 3 (some .boolean) 1 [.ref 169, .int k, .int (nI c)] (y_mk n L D) (some (.int (y_b (¬ (0 ≤ k ∧ k ≤ (D 170).1 c - 1))))) (y_mk n L D) := by
  refine x_fn (by decide) (Nat.le_of_ble_eq_true rfl) (fun E hE => ?_)
  change E 0 0 0 [(0, .ref 169), (1, .int k), (2, .int (nI c))] [] (y_mk n L D)
  refine r_iload_n hE dX11_none_0 rfl ?_
  refine r_iconst (v := 0) hE dX11_none_1 (by decide) ?_
  refine r_aload_n hE dX11_none_2 rfl ?_
  refine t_getr hE f_X11_13 y_R_169_1 dX11_none_3 (hL 169 (by decide)) ?_
  refine r_iload_n hE dX11_none_6 rfl ?_
  refine t_ialdN (e := c) hE y_A_170 dX11_none_7 (hL 170 (by decide)) (by omega) (by decide) ?_
  refine r_iconst (v := 1) hE dX11_none_8 (by decide) ?_
  refine r_isub hE dX11_none_9 ?_
  refine t_invs (r := (some (.int (y_b (0 ≤ k ∧ k ≤ ((D 170).1 c) - 1))))) (S2 := (y_mk n L D)) hE [.int k, .int 0, .int (((D 170).1 c) - 1)] (c_in) s_yX11_in m_X11_81 dX11_none_10 rfl (by decide) ⟨Nat.le_refl _, Nat.le_refl _⟩ (Nat.le_of_ble_eq_true rfl) ?_
  show E 0 0 13 [(0, .ref 169), (1, .int k), (2, .int (nI c))] [.int (y_b (0 ≤ k ∧ k ≤ ((D 170).1 c) - 1))] (y_mk n L D)
  refine r_ifb_ne (tgt := 20) hE dX11_none_13 (by decide) (fun c13 => ?_) (fun c13 => ?_)
  · refine r_iconst (v := 0) hE dX11_none_20 (by decide) ?_
    refine r_ireturn hE dX11_none_21 rfl (by first | exact y_nb _ | decide) (Nat.zero_le _) (Nat.zero_le _) ?_
    exact ⟨by grind [y_b], rfl⟩
  · refine r_iconst (v := 1) hE dX11_none_16 (by decide) ?_
    refine r_goto (tgt := 21) hE dX11_none_17 (by decide) ?_
    refine r_ireturn hE dX11_none_21 rfl (by first | exact y_nb _ | decide) (Nat.zero_le _) (Nat.zero_le _) ?_
    exact ⟨by grind [y_b], rfl⟩
theorem c_textAt {V : x_E} {n : Nat} {L : List Nat} {D : y_D} {t : Nat} : x_Fn V yX11_textAt cX11_textAt 1 (some .int) 0 [.int (nI t)] (y_mk n L D) (some (.int (nI (237 + 851 * t)))) (y_mk n L D) := by
  refine x_fn (by decide) (Nat.le_of_ble_eq_true rfl) (fun E hE => ?_)
  change E 0 0 0 [(0, .int (nI t))] [] (y_mk n L D)
  refine r_sipush (v := 237) hE dX11_textAt_0 (by decide) ?_
  refine r_sipush (v := 851) hE dX11_textAt_3 (by decide) ?_
  refine r_iload_n hE dX11_textAt_6 rfl ?_
  refine r_imulN (a := 851) (b := t) hE dX11_textAt_7 ?_
  refine r_iaddN (a := 237) (b := 851 * t) hE dX11_textAt_8 ?_
  refine r_ireturn hE dX11_textAt_9 rfl rfl (Nat.zero_le _) (Nat.zero_le _) ?_
  exact ⟨rfl, rfl⟩
theorem c_lineAt {V : x_E} {n : Nat} {L : List Nat} {D : y_D} {t k : Nat} : x_Fn V yX11_lineAt cX11_lineAt 2 (some .int) 1 [.int (nI t), .int (nI k)] (y_mk n L D) (some (.int (nI (237 + 851 * t + 1 + 5 * k)))) (y_mk n L D) := by
  refine x_fn (by decide) (Nat.le_of_ble_eq_true rfl) (fun E hE => ?_)
  change E 0 0 0 [(0, .int (nI t)), (1, .int (nI k))] [] (y_mk n L D)
  refine r_iload_n hE dX11_lineAt_0 rfl ?_
  refine t_invs (r := (some (.int (nI (237 + 851 * t))))) (S2 := (y_mk n L D)) hE [.int (nI t)] (c_textAt) s_yX11_textAt m_X11_132 dX11_lineAt_1 rfl (by decide) ⟨Nat.le_refl _, Nat.le_refl _⟩ (Nat.le_of_ble_eq_true rfl) ?_
  show E 0 0 4 [(0, .int (nI t)), (1, .int (nI k))] [.int (nI (237 + 851 * t))] (y_mk n L D)
  refine r_iconst (v := 1) hE dX11_lineAt_4 (by decide) ?_
  refine r_iaddN (a := 237 + 851 * t) (b := 1) hE dX11_lineAt_5 ?_
  refine r_iconst (v := 5) hE dX11_lineAt_6 (by decide) ?_
  refine r_iload_n hE dX11_lineAt_7 rfl ?_
  refine r_imulN (a := 5) (b := k) hE dX11_lineAt_8 ?_
  refine r_iaddN (a := (237 + 851 * t) + 1) (b := 5 * k) hE dX11_lineAt_9 ?_
  refine r_ireturn hE dX11_lineAt_10 rfl rfl (Nat.zero_le _) (Nat.zero_le _) ?_
  exact ⟨rfl, rfl⟩
theorem c_lines {V : x_E} {n : Nat} {L : List Nat} {D : y_D} {t : Nat} (hL : y_ok L) (ht : t < 11) : x_Fn V yX11_lines cX11_lines 2 (some .int) 1 [.ref 169, .int (nI t)] (y_mk n L D) (some (.int ((D 170).1 (237 + 851 * t)))) (y_mk n L D) := by
  refine x_fn (by decide) (Nat.le_of_ble_eq_true rfl) (fun E hE => ?_)
  change E 0 0 0 [(0, .ref 169), (1, .int (nI t))] [] (y_mk n L D)
  refine r_aload_n hE dX11_lines_0 rfl ?_
  refine t_getr hE f_X11_13 y_R_169_1 dX11_lines_1 (hL 169 (by decide)) ?_
  refine r_iload_n hE dX11_lines_4 rfl ?_
  refine t_invs (r := (some (.int (nI (237 + 851 * t))))) (S2 := (y_mk n L D)) hE [.int (nI t)] (c_textAt) s_yX11_textAt m_X11_132 dX11_lines_5 rfl (by decide) ⟨Nat.le_refl _, Nat.le_refl _⟩ (Nat.le_of_ble_eq_true rfl) ?_
  show E 0 0 8 [(0, .ref 169), (1, .int (nI t))] [.int (nI (237 + 851 * t)), .ref 170] (y_mk n L D)
  refine t_ialdN (e := 237 + 851 * t) hE y_A_170 dX11_lines_8 (hL 170 (by decide)) (by omega) (by decide) ?_
  refine r_ireturn hE dX11_lines_9 rfl rfl (Nat.zero_le _) (Nat.zero_le _) ?_
  exact ⟨rfl, rfl⟩
theorem c_sortOf {V : x_E} {n : Nat} {L : List Nat} {D : y_D} {t k : Nat} (hL : y_ok L) (ht : t < 11) (hk : k < 10) : x_Fn V yX11_sortOf cX11_sortOf 3 (some .int) 2 [.ref 169, .int (nI t), .int (nI k)] (y_mk n L D) (some (.int ((D 170).1 (237 + 851 * t + 1 + 5 * k)))) (y_mk n L D) := by
  refine x_fn (by decide) (Nat.le_of_ble_eq_true rfl) (fun E hE => ?_)
  change E 0 0 0 [(0, .ref 169), (1, .int (nI t)), (2, .int (nI k))] [] (y_mk n L D)
  refine r_aload_n hE dX11_sortOf_0 rfl ?_
  refine t_getr hE f_X11_13 y_R_169_1 dX11_sortOf_1 (hL 169 (by decide)) ?_
  refine r_iload_n hE dX11_sortOf_4 rfl ?_
  refine r_iload_n hE dX11_sortOf_5 rfl ?_
  refine t_invs (r := (some (.int (nI (237 + 851 * t + 1 + 5 * k))))) (S2 := (y_mk n L D)) hE [.int (nI t), .int (nI k)] (c_lineAt) s_yX11_lineAt m_X11_136 dX11_sortOf_6 rfl (by decide) ⟨Nat.le_refl _, Nat.le_refl _⟩ (Nat.le_of_ble_eq_true rfl) ?_
  show E 0 0 9 [(0, .ref 169), (1, .int (nI t)), (2, .int (nI k))] [.int (nI (237 + 851 * t + 1 + 5 * k)), .ref 170] (y_mk n L D)
  refine t_ialdN (e := 237 + 851 * t + 1 + 5 * k) hE y_A_170 dX11_sortOf_9 (hL 170 (by decide)) (by omega) (by decide) ?_
  refine r_ireturn hE dX11_sortOf_10 rfl rfl (Nat.zero_le _) (Nat.zero_le _) ?_
  exact ⟨rfl, rfl⟩
theorem c_of {V : x_E} {n : Nat} {L : List Nat} {D : y_D} {t k j : Nat} (hL : y_ok L) (ht : t < 11) (hk : k < 10) (hj : j < 5) : x_Fn V yX11_of cX11_of 4 (some .int) 2 [.ref 169, .int (nI t), .int (nI k), .int (nI j)] (y_mk n L D) (some (.int ((D 170).1 (237 + 851 * t + 1 + 5 * k + j)))) (y_mk n L D) := by
  refine x_fn (by decide) (Nat.le_of_ble_eq_true rfl) (fun E hE => ?_)
  change E 0 0 0 [(0, .ref 169), (1, .int (nI t)), (2, .int (nI k)), (3, .int (nI j))] [] (y_mk n L D)
  refine r_aload_n hE dX11_of_0 rfl ?_
  refine t_getr hE f_X11_13 y_R_169_1 dX11_of_1 (hL 169 (by decide)) ?_
  refine r_iload_n hE dX11_of_4 rfl ?_
  refine r_iload_n hE dX11_of_5 rfl ?_
  refine t_invs (r := (some (.int (nI (237 + 851 * t + 1 + 5 * k))))) (S2 := (y_mk n L D)) hE [.int (nI t), .int (nI k)] (c_lineAt) s_yX11_lineAt m_X11_136 dX11_of_6 rfl (by decide) ⟨Nat.le_refl _, Nat.le_refl _⟩ (Nat.le_of_ble_eq_true rfl) ?_
  show E 0 0 9 [(0, .ref 169), (1, .int (nI t)), (2, .int (nI k)), (3, .int (nI j))] [.int (nI (237 + 851 * t + 1 + 5 * k)), .ref 170] (y_mk n L D)
  refine r_iload_n hE dX11_of_9 rfl ?_
  refine r_iaddN (a := 237 + 851 * t + 1 + 5 * k) (b := j) hE dX11_of_10 ?_
  refine t_ialdN (e := (237 + 851 * t + 1 + 5 * k) + j) hE y_A_170 dX11_of_11 (hL 170 (by decide)) (by omega) (by decide) ?_
  refine r_ireturn hE dX11_of_12 rfl rfl (Nat.zero_le _) (Nat.zero_le _) ?_
  exact ⟨rfl, rfl⟩
theorem c_at {V : x_E} {n : Nat} {L : List Nat} {D : y_D} {s f : Nat} : x_Fn V yX11_at cX11_at 2 (some .int) 0 [.int (nI s), .int (nI f)] (y_mk n L D) (some (.int (nI (16 * s + f)))) (y_mk n L D) := by
  refine x_fn (by decide) (Nat.le_of_ble_eq_true rfl) (fun E hE => ?_)
  change E 0 0 0 [(0, .int (nI s)), (1, .int (nI f))] [] (y_mk n L D)
  refine r_bipush (v := 16) hE dX11_at_0 (by decide) ?_
  refine r_iload_n hE dX11_at_2 rfl ?_
  refine r_imulN (a := 16) (b := s) hE dX11_at_3 ?_
  refine r_iload_n hE dX11_at_4 rfl ?_
  refine r_iaddN (a := 16 * s) (b := f) hE dX11_at_5 ?_
  refine r_ireturn hE dX11_at_6 rfl rfl (Nat.zero_le _) (Nat.zero_le _) ?_
  exact ⟨rfl, rfl⟩
theorem c_runAt {V : x_E} {n : Nat} {L : List Nat} {D : y_D} {w f s : Nat} : x_Fn V yX11_runAt cX11_runAt 3 (some .int) 0 [.int (nI w), .int (nI f), .int (nI s)] (y_mk n L D) (some (.int (nI ((16 * w + f) * 302 + s)))) (y_mk n L D) := by
  refine x_fn (by decide) (Nat.le_of_ble_eq_true rfl) (fun E hE => ?_)
  change E 0 0 0 [(0, .int (nI w)), (1, .int (nI f)), (2, .int (nI s))] [] (y_mk n L D)
  refine r_bipush (v := 16) hE dX11_runAt_0 (by decide) ?_
  refine r_iload_n hE dX11_runAt_2 rfl ?_
  refine r_imulN (a := 16) (b := w) hE dX11_runAt_3 ?_
  refine r_iload_n hE dX11_runAt_4 rfl ?_
  refine r_iaddN (a := 16 * w) (b := f) hE dX11_runAt_5 ?_
  refine r_sipush (v := 302) hE dX11_runAt_6 (by decide) ?_
  refine r_imulN (a := (16 * w) + f) (b := 302) hE dX11_runAt_9 ?_
  refine r_iload_n hE dX11_runAt_10 rfl ?_
  refine r_iaddN (a := ((16 * w) + f) * 302) (b := s) hE dX11_runAt_11 ?_
  refine r_ireturn hE dX11_runAt_12 rfl rfl (Nat.zero_le _) (Nat.zero_le _) ?_
  exact ⟨rfl, rfl⟩
theorem c_tells {V : x_E} {n : Nat} {L : List Nat} {D : y_D} {k : Nat} {v : Int32} (hL : y_ok L) (hk : k < 9598) : x_Fn V yX11_tells cX11_tells 3 (some .boolean) 0 [.ref 169, .int (nI k), .int v] (y_mk n L D) (some (.int (y_b (0 ≤ v)))) (y_mk n L (y_si D 170 k v)) := by
  refine x_fn (by decide) (Nat.le_of_ble_eq_true rfl) (fun E hE => ?_)
  change E 0 0 0 [(0, .ref 169), (1, .int (nI k)), (2, .int v)] [] (y_mk n L D)
  refine r_aload_n hE dX11_tells_0 rfl ?_
  refine t_getr hE f_X11_13 y_R_169_1 dX11_tells_1 (hL 169 (by decide)) ?_
  refine r_iload_n hE dX11_tells_4 rfl ?_
  refine r_iload_n hE dX11_tells_5 rfl ?_
  refine t_iastN (e := k) hE y_A_170 dX11_tells_6 (hL 170 (by decide)) (by omega) (by decide) ?_
  refine r_iload_n hE dX11_tells_7 rfl ?_
  refine r_if_lt (tgt := 15) hE dX11_tells_8 (by decide) (fun c8 => ?_) (fun c8 => ?_)
  · refine r_iconst (v := 0) hE dX11_tells_15 (by decide) ?_
    refine r_ireturn hE dX11_tells_16 rfl (by decide) (Nat.zero_le _) (Nat.zero_le _) ?_
    exact ⟨by grind [y_b], rfl⟩
  · refine r_iconst (v := 1) hE dX11_tells_11 (by decide) ?_
    refine r_goto (tgt := 16) hE dX11_tells_12 (by decide) ?_
    refine r_ireturn hE dX11_tells_16 rfl (by decide) (Nat.zero_le _) (Nat.zero_le _) ?_
    exact ⟨by grind [y_b], rfl⟩
theorem c_hasOthers {V : x_E} {n : Nat} {L : List Nat} {D : y_D} {set : Int32} {c : Nat} (hc : c < 31) : x_Fn V yX11_hasOthers cX11_hasOthers 3 (some .boolean) 0 [.ref 169, .int set, .int (nI c)] (y_mk n L D) (some (.int (y_b (¬ set &&& ((nI (2 ^ c) - 1) ^^^ (-1)) = 0)))) (y_mk n L D) := by
  refine x_fn (by decide) (Nat.le_of_ble_eq_true rfl) (fun E hE => ?_)
  change E 0 0 0 [(0, .ref 169), (1, .int set), (2, .int (nI c))] [] (y_mk n L D)
  refine r_iload_n hE dX11_hasOthers_0 rfl ?_
  refine r_iconst (v := 1) hE dX11_hasOthers_1 (by decide) ?_
  refine r_iload_n hE dX11_hasOthers_2 rfl ?_
  refine r_shl1N (k := c) hE dX11_hasOthers_3 (by omega) ?_
  refine r_iconst (v := 1) hE dX11_hasOthers_4 (by decide) ?_
  refine r_isub hE dX11_hasOthers_5 ?_
  refine r_iconst (v := (-1)) hE dX11_hasOthers_6 (by decide) ?_
  refine r_ixor hE dX11_hasOthers_7 ?_
  refine r_iand hE dX11_hasOthers_8 ?_
  refine r_if_eq (tgt := 16) hE dX11_hasOthers_9 (by decide) (fun c9 => ?_) (fun c9 => ?_)
  · refine r_iconst (v := 0) hE dX11_hasOthers_16 (by decide) ?_
    refine r_ireturn hE dX11_hasOthers_17 rfl (by decide) (Nat.zero_le _) (Nat.zero_le _) ?_
    exact ⟨by grind [y_b], rfl⟩
  · refine r_iconst (v := 1) hE dX11_hasOthers_12 (by decide) ?_
    refine r_goto (tgt := 17) hE dX11_hasOthers_13 (by decide) ?_
    refine r_ireturn hE dX11_hasOthers_17 rfl (by decide) (Nat.zero_le _) (Nat.zero_le _) ?_
    exact ⟨by grind [y_b], rfl⟩
theorem c_puts2 {V : x_E} {n : Nat} {L : List Nat} {D : y_D} {c b k : Nat} {x y z : Int32} (hL : y_ok L) (hk : (D 170).1 c = nI k) (hb : b + 2 * k + 3 < 9000) (hc : c < 12) (hcb : 12 ≤ b) : x_Fn V yX11_puts cX11_puts 8 (some .int) 0 [.ref 169, .int (nI c), .int (nI b), .int 2, .int x, .int y, .int z] (y_mk n L D) (some (.int (nI k))) (y_mk n L (y_si (y_si (y_si D 170 (b + 2 * k) x) 170 (b + 2 * k + 1) y) 170 c (nI (k + 1)))) := by
  refine x_fn (by decide) (Nat.le_of_ble_eq_true rfl) (fun E hE => ?_)
  change E 0 0 0 [(0, .ref 169), (1, .int (nI c)), (2, .int (nI b)), (3, .int 2), (4, .int x), (5, .int y), (6, .int z)] [] (y_mk n L D)
  refine r_aload_n hE dX11_puts_0 rfl ?_
  refine t_getr hE f_X11_13 y_R_169_1 dX11_puts_1 (hL 169 (by decide)) ?_
  refine r_iload_n hE dX11_puts_4 rfl ?_
  refine t_ialdN (e := c) hE y_A_170 dX11_puts_5 (hL 170 (by decide)) (by omega) (by decide) ?_
  refine r_top (y := (nI k)) hk ?_
  refine r_istore (ls2 := [(0, .ref 169), (1, .int (nI c)), (2, .int (nI b)), (3, .int 2), (4, .int x), (5, .int y), (6, .int z), (7, .int (nI k))]) hE dX11_puts_6 (by decide) rfl ?_
  refine r_aload_n hE dX11_puts_8 rfl ?_
  refine t_getr hE f_X11_13 y_R_169_1 dX11_puts_9 (hL 169 (by decide)) ?_
  refine r_iload_n hE dX11_puts_12 rfl ?_
  refine r_iload_n hE dX11_puts_13 rfl ?_
  refine r_iload hE dX11_puts_14 rfl ?_
  refine r_imulN (a := 2) (b := k) hE dX11_puts_16 ?_
  refine r_iaddN (a := b) (b := 2 * k) hE dX11_puts_17 ?_
  refine r_iload hE dX11_puts_18 rfl ?_
  refine t_iastN (e := b + (2 * k)) hE y_A_170 dX11_puts_20 (hL 170 (by decide)) (by omega) (by decide) ?_
  refine r_aload_n hE dX11_puts_21 rfl ?_
  refine t_getr hE f_X11_13 y_R_169_1 dX11_puts_22 (hL 169 (by decide)) ?_
  refine r_iload_n hE dX11_puts_25 rfl ?_
  refine r_iload_n hE dX11_puts_26 rfl ?_
  refine r_iload hE dX11_puts_27 rfl ?_
  refine r_imulN (a := 2) (b := k) hE dX11_puts_29 ?_
  refine r_iaddN (a := b) (b := 2 * k) hE dX11_puts_30 ?_
  refine r_iconst (v := 1) hE dX11_puts_31 (by decide) ?_
  refine r_iaddN (a := b + (2 * k)) (b := 1) hE dX11_puts_32 ?_
  refine r_iload hE dX11_puts_33 rfl ?_
  refine t_iastN (e := (b + (2 * k)) + 1) hE y_A_170 dX11_puts_35 (hL 170 (by decide)) (by omega) (by decide) ?_
  refine r_iload_n hE dX11_puts_36 rfl ?_
  refine r_iconst (v := 2) hE dX11_puts_37 (by decide) ?_
  refine r_icmp_le (tgt := 56) hE dX11_puts_38 (by decide) (fun _ => ?_) (fun c38 => by first | exact absurd c38 (by decide) | exact absurd (by decide) c38)
  refine r_aload_n hE dX11_puts_56 rfl ?_
  refine t_getr hE f_X11_13 y_R_169_1 dX11_puts_57 (hL 169 (by decide)) ?_
  refine r_iload_n hE dX11_puts_60 rfl ?_
  refine r_dup2 hE dX11_puts_61 rfl rfl ?_
  refine t_ialdN (e := c) hE y_A_170 dX11_puts_62 (hL 170 (by decide)) (by omega) (by decide) ?_
  refine r_top (y := (nI k)) (by simp [y_si, upd, hk, show c ≠ b + 2 * k by omega, show c ≠ b + 2 * k + 1 by omega]) ?_
  refine r_iconst (v := 1) hE dX11_puts_63 (by decide) ?_
  refine r_iaddN (a := k) (b := 1) hE dX11_puts_64 ?_
  refine t_iastN (e := c) hE y_A_170 dX11_puts_65 (hL 170 (by decide)) (by omega) (by decide) ?_
  refine r_iload hE dX11_puts_66 rfl ?_
  refine r_ireturn hE dX11_puts_68 rfl rfl (Nat.zero_le _) (Nat.zero_le _) ?_
  exact ⟨rfl, rfl⟩
theorem c_puts3 {V : x_E} {n : Nat} {L : List Nat} {D : y_D} {c b k : Nat} {x y z : Int32} (hL : y_ok L) (hk : (D 170).1 c = nI k) (hb : b + 3 * k + 3 < 9000) (hc : c < 12) (hcb : 12 ≤ b) : x_Fn V yX11_puts cX11_puts 8 (some .int) 0 [.ref 169, .int (nI c), .int (nI b), .int 3, .int x, .int y, .int z] (y_mk n L D) (some (.int (nI k))) (y_mk n L (y_si (y_si (y_si (y_si D 170 (b + 3 * k) x) 170 (b + 3 * k + 1) y) 170 (b + 3 * k + 2) z) 170 c (nI (k + 1)))) := by
  refine x_fn (by decide) (Nat.le_of_ble_eq_true rfl) (fun E hE => ?_)
  change E 0 0 0 [(0, .ref 169), (1, .int (nI c)), (2, .int (nI b)), (3, .int 3), (4, .int x), (5, .int y), (6, .int z)] [] (y_mk n L D)
  refine r_aload_n hE dX11_puts_0 rfl ?_
  refine t_getr hE f_X11_13 y_R_169_1 dX11_puts_1 (hL 169 (by decide)) ?_
  refine r_iload_n hE dX11_puts_4 rfl ?_
  refine t_ialdN (e := c) hE y_A_170 dX11_puts_5 (hL 170 (by decide)) (by omega) (by decide) ?_
  refine r_top (y := (nI k)) hk ?_
  refine r_istore (ls2 := [(0, .ref 169), (1, .int (nI c)), (2, .int (nI b)), (3, .int 3), (4, .int x), (5, .int y), (6, .int z), (7, .int (nI k))]) hE dX11_puts_6 (by decide) rfl ?_
  refine r_aload_n hE dX11_puts_8 rfl ?_
  refine t_getr hE f_X11_13 y_R_169_1 dX11_puts_9 (hL 169 (by decide)) ?_
  refine r_iload_n hE dX11_puts_12 rfl ?_
  refine r_iload_n hE dX11_puts_13 rfl ?_
  refine r_iload hE dX11_puts_14 rfl ?_
  refine r_imulN (a := 3) (b := k) hE dX11_puts_16 ?_
  refine r_iaddN (a := b) (b := 3 * k) hE dX11_puts_17 ?_
  refine r_iload hE dX11_puts_18 rfl ?_
  refine t_iastN (e := b + (3 * k)) hE y_A_170 dX11_puts_20 (hL 170 (by decide)) (by omega) (by decide) ?_
  refine r_aload_n hE dX11_puts_21 rfl ?_
  refine t_getr hE f_X11_13 y_R_169_1 dX11_puts_22 (hL 169 (by decide)) ?_
  refine r_iload_n hE dX11_puts_25 rfl ?_
  refine r_iload_n hE dX11_puts_26 rfl ?_
  refine r_iload hE dX11_puts_27 rfl ?_
  refine r_imulN (a := 3) (b := k) hE dX11_puts_29 ?_
  refine r_iaddN (a := b) (b := 3 * k) hE dX11_puts_30 ?_
  refine r_iconst (v := 1) hE dX11_puts_31 (by decide) ?_
  refine r_iaddN (a := b + (3 * k)) (b := 1) hE dX11_puts_32 ?_
  refine r_iload hE dX11_puts_33 rfl ?_
  refine t_iastN (e := (b + (3 * k)) + 1) hE y_A_170 dX11_puts_35 (hL 170 (by decide)) (by omega) (by decide) ?_
  refine r_iload_n hE dX11_puts_36 rfl ?_
  refine r_iconst (v := 2) hE dX11_puts_37 (by decide) ?_
  refine r_icmp_le (tgt := 56) hE dX11_puts_38 (by decide) (fun c38 => by first | exact absurd c38 (by decide) | exact absurd (by decide) c38) (fun _ => ?_)
  refine r_aload_n hE dX11_puts_41 rfl ?_
  refine t_getr hE f_X11_13 y_R_169_1 dX11_puts_42 (hL 169 (by decide)) ?_
  refine r_iload_n hE dX11_puts_45 rfl ?_
  refine r_iload_n hE dX11_puts_46 rfl ?_
  refine r_iload hE dX11_puts_47 rfl ?_
  refine r_imulN (a := 3) (b := k) hE dX11_puts_49 ?_
  refine r_iaddN (a := b) (b := 3 * k) hE dX11_puts_50 ?_
  refine r_iconst (v := 2) hE dX11_puts_51 (by decide) ?_
  refine r_iaddN (a := b + (3 * k)) (b := 2) hE dX11_puts_52 ?_
  refine r_iload hE dX11_puts_53 rfl ?_
  refine t_iastN (e := (b + (3 * k)) + 2) hE y_A_170 dX11_puts_55 (hL 170 (by decide)) (by omega) (by decide) ?_
  refine r_aload_n hE dX11_puts_56 rfl ?_
  refine t_getr hE f_X11_13 y_R_169_1 dX11_puts_57 (hL 169 (by decide)) ?_
  refine r_iload_n hE dX11_puts_60 rfl ?_
  refine r_dup2 hE dX11_puts_61 rfl rfl ?_
  refine t_ialdN (e := c) hE y_A_170 dX11_puts_62 (hL 170 (by decide)) (by omega) (by decide) ?_
  refine r_top (y := (nI k)) (by simp [y_si, upd, hk, show c ≠ b + 3 * k by omega, show c ≠ b + 3 * k + 1 by omega, show c ≠ b + 3 * k + 2 by omega]) ?_
  refine r_iconst (v := 1) hE dX11_puts_63 (by decide) ?_
  refine r_iaddN (a := k) (b := 1) hE dX11_puts_64 ?_
  refine t_iastN (e := c) hE y_A_170 dX11_puts_65 (hL 170 (by decide)) (by omega) (by decide) ?_
  refine r_iload hE dX11_puts_66 rfl ?_
  refine r_ireturn hE dX11_puts_68 rfl rfl (Nat.zero_le _) (Nat.zero_le _) ?_
  exact ⟨rfl, rfl⟩
/-- person: answer and state -/
def M_person (D : y_D) (k : Nat) (p q : Int32) : Int32 × y_D := if ¬ (0 ≤ p ∧ p ≤ 9 ∧ 0 ≤ q ∧ q ≤ 400) then (0, y_si (y_si D 169 0 0) 169 0 1) else if k = 8 then (0, y_si (y_si D 169 0 0) 169 0 2) else (nI k, y_si (y_si (y_si (y_si D 169 0 0) 170 (12 + 2 * k) p) 170 (12 + 2 * k + 1) q) 170 0 (nI (k + 1)))
theorem c_person {V : x_E} {n : Nat} {L : List Nat} {D : y_D} {p q : Int32} {k : Nat} (hL : y_ok L) (hk : (D 170).1 0 = nI k) (hk8 : k ≤ 8) : x_Fn V yX11_person cX11_person 3 (some .int) 2 [.ref 169, .int p, .int q] (y_mk n L D) (some (.int ((M_person D k p q).1))) (y_mk n L ((M_person D k p q).2)) := by
  refine x_fn (by decide) (Nat.le_of_ble_eq_true rfl) (fun E hE => ?_)
  change E 0 0 0 [(0, .ref 169), (1, .int p), (2, .int q)] [] (y_mk n L D)
  refine r_aload_n hE dX11_person_0 rfl ?_
  refine r_iconst (v := 0) hE dX11_person_1 (by decide) ?_
  refine t_puti hE f_X11_3 y_I_169_0 dX11_person_2 (hL 169 (by decide)) rfl rfl ?_
  refine r_aload_n hE dX11_person_5 rfl ?_
  refine r_iload_n hE dX11_person_6 rfl ?_
  refine r_iconst (v := 0) hE dX11_person_7 (by decide) ?_
  refine r_bipush (v := 9) hE dX11_person_8 (by decide) ?_
  refine t_invs (r := (some (.int (y_b (0 ≤ p ∧ p ≤ 9))))) (S2 := (y_mk n L (y_si D 169 0 0))) hE [.int p, .int 0, .int 9] (c_in) s_yX11_in m_X11_81 dX11_person_10 rfl (by decide) ⟨Nat.le_refl _, Nat.le_refl _⟩ (Nat.le_of_ble_eq_true rfl) ?_
  show E 0 0 13 [(0, .ref 169), (1, .int p), (2, .int q)] [.int (y_b (0 ≤ p ∧ p ≤ 9)), .ref 169] (y_mk n L (y_si D 169 0 0))
  refine r_ifb_eq (tgt := 27) hE dX11_person_13 (by decide) (fun c13 => ?_) (fun c13 => ?_)
  · refine r_iconst (v := 1) hE dX11_person_27 (by decide) ?_
    refine r_goto (tgt := 32) hE dX11_person_28 (by decide) ?_
    refine r_iconst (v := 1) hE dX11_person_32 (by decide) ?_
    refine t_invv (r := (some (.int 1))) (S2 := (y_mk n L (y_si (y_si D 169 0 0) 169 0 1))) hE [.int 1, .int 1] (c_throwsT hL) v_yX11_throwsIf m_X11_85 dX11_person_33 rfl (hL 169 (by decide)) (y_l_169 ((y_si D 169 0 0) 169)) rfl (by decide) ⟨Nat.le_refl _, Nat.le_refl _⟩ (Nat.le_of_ble_eq_true rfl) ?_
    show E 0 0 36 [(0, .ref 169), (1, .int p), (2, .int q)] [.int 1] (y_mk n L (y_si (y_si D 169 0 0) 169 0 1))
    refine r_if_ne (tgt := 63) hE dX11_person_36 (by decide) (fun _ => ?_) (fun c36 => by first | exact absurd c36 (by decide) | exact absurd (by decide) c36)
    refine r_iconst (v := 0) hE dX11_person_63 (by decide) ?_
    refine r_ireturn hE dX11_person_64 rfl rfl (Nat.zero_le _) (Nat.zero_le _) ?_
    unfold M_person
    repeat first | rw [if_pos (by grind)] | rw [if_neg (by grind)]
    exact ⟨rfl, rfl⟩
  · refine r_iload_n hE dX11_person_16 rfl ?_
    refine r_iconst (v := 0) hE dX11_person_17 (by decide) ?_
    refine r_sipush (v := 400) hE dX11_person_18 (by decide) ?_
    refine t_invs (r := (some (.int (y_b (0 ≤ q ∧ q ≤ 400))))) (S2 := (y_mk n L (y_si D 169 0 0))) hE [.int q, .int 0, .int 400] (c_in) s_yX11_in m_X11_81 dX11_person_21 rfl (by decide) ⟨Nat.le_refl _, Nat.le_refl _⟩ (Nat.le_of_ble_eq_true rfl) ?_
    show E 0 0 24 [(0, .ref 169), (1, .int p), (2, .int q)] [.int (y_b (0 ≤ q ∧ q ≤ 400)), .ref 169] (y_mk n L (y_si D 169 0 0))
    refine r_ifb_ne (tgt := 31) hE dX11_person_24 (by decide) (fun c24 => ?_) (fun c24 => ?_)
    · refine r_iconst (v := 0) hE dX11_person_31 (by decide) ?_
      refine r_iconst (v := 1) hE dX11_person_32 (by decide) ?_
      refine t_invv (r := (some (.int 0))) (S2 := (y_mk n L (y_si D 169 0 0))) hE [.int 0, .int 1] (c_throwsF) v_yX11_throwsIf m_X11_85 dX11_person_33 rfl (hL 169 (by decide)) (y_l_169 ((y_si D 169 0 0) 169)) rfl (by decide) ⟨Nat.le_refl _, Nat.le_refl _⟩ (Nat.le_of_ble_eq_true rfl) ?_
      show E 0 0 36 [(0, .ref 169), (1, .int p), (2, .int q)] [.int 0] (y_mk n L (y_si D 169 0 0))
      refine r_if_ne (tgt := 63) hE dX11_person_36 (by decide) (fun c36 => by first | exact absurd c36 (by decide) | exact absurd (by decide) c36) (fun _ => ?_)
      refine r_aload_n hE dX11_person_39 rfl ?_
      refine r_aload_n hE dX11_person_40 rfl ?_
      refine t_getr hE f_X11_13 y_R_169_1 dX11_person_41 (hL 169 (by decide)) ?_
      refine r_iconst (v := 0) hE dX11_person_44 (by decide) ?_
      refine t_ialdN (e := 0) hE y_A_170 dX11_person_45 (hL 170 (by decide)) (by omega) (by decide) ?_
      refine r_top (y := (nI k)) hk ?_
      refine r_bipush (v := 8) hE dX11_person_46 (by decide) ?_
      refine r_icmp_neN (a := k) (b := 8) (tgt := 55) hE dX11_person_48 (by decide) (by omega) (by decide) (fun c48 => ?_) (fun c48 => ?_)
      · refine r_iconst (v := 0) hE dX11_person_55 (by decide) ?_
        refine r_iconst (v := 2) hE dX11_person_56 (by decide) ?_
        refine t_invv (r := (some (.int 0))) (S2 := (y_mk n L (y_si D 169 0 0))) hE [.int 0, .int 2] (c_throwsF) v_yX11_throwsIf m_X11_85 dX11_person_57 rfl (hL 169 (by decide)) (y_l_169 ((y_si D 169 0 0) 169)) rfl (by decide) ⟨Nat.le_refl _, Nat.le_refl _⟩ (Nat.le_of_ble_eq_true rfl) ?_
        show E 0 0 60 [(0, .ref 169), (1, .int p), (2, .int q)] [.int 0] (y_mk n L (y_si D 169 0 0))
        refine r_if_eq (tgt := 65) hE dX11_person_60 (by decide) (fun _ => ?_) (fun c60 => by first | exact absurd c60 (by decide) | exact absurd (by decide) c60)
        refine r_aload_n hE dX11_person_65 rfl ?_
        refine r_iconst (v := 0) hE dX11_person_66 (by decide) ?_
        refine r_bipush (v := 12) hE dX11_person_67 (by decide) ?_
        refine r_iconst (v := 2) hE dX11_person_69 (by decide) ?_
        refine r_iload_n hE dX11_person_70 rfl ?_
        refine r_iload_n hE dX11_person_71 rfl ?_
        refine r_iconst (v := 0) hE dX11_person_72 (by decide) ?_
        refine t_invv (r := (some (.int (nI k)))) (S2 := (y_mk n L (y_si (y_si (y_si (y_si D 169 0 0) 170 (12 + 2 * k) p) 170 (12 + 2 * k + 1) q) 170 0 (nI (k + 1))))) hE [.int 0, .int 12, .int 2, .int p, .int q, .int 0] (c_puts2 (c := 0) (b := 12) (k := k) hL (by simpa [y_si] using hk) (by omega) (by decide) (by decide)) v_yX11_puts m_X11_89 dX11_person_73 rfl (hL 169 (by decide)) (y_l_169 ((y_si D 169 0 0) 169)) rfl (by decide) ⟨Nat.le_refl _, Nat.le_refl _⟩ (Nat.le_of_ble_eq_true rfl) ?_
        show E 0 0 76 [(0, .ref 169), (1, .int p), (2, .int q)] [.int (nI k)] (y_mk n L (y_si (y_si (y_si (y_si D 169 0 0) 170 (12 + 2 * k) p) 170 (12 + 2 * k + 1) q) 170 0 (nI (k + 1))))
        refine r_ireturn hE dX11_person_76 rfl rfl (Nat.zero_le _) (Nat.zero_le _) ?_
        unfold M_person
        repeat first | rw [if_pos (by grind)] | rw [if_neg (by grind)]
        exact ⟨rfl, rfl⟩
      · refine r_iconst (v := 1) hE dX11_person_51 (by decide) ?_
        refine r_goto (tgt := 56) hE dX11_person_52 (by decide) ?_
        refine r_iconst (v := 2) hE dX11_person_56 (by decide) ?_
        refine t_invv (r := (some (.int 1))) (S2 := (y_mk n L (y_si (y_si D 169 0 0) 169 0 2))) hE [.int 1, .int 2] (c_throwsT hL) v_yX11_throwsIf m_X11_85 dX11_person_57 rfl (hL 169 (by decide)) (y_l_169 ((y_si D 169 0 0) 169)) rfl (by decide) ⟨Nat.le_refl _, Nat.le_refl _⟩ (Nat.le_of_ble_eq_true rfl) ?_
        show E 0 0 60 [(0, .ref 169), (1, .int p), (2, .int q)] [.int 1] (y_mk n L (y_si (y_si D 169 0 0) 169 0 2))
        refine r_if_eq (tgt := 65) hE dX11_person_60 (by decide) (fun c60 => by first | exact absurd c60 (by decide) | exact absurd (by decide) c60) (fun _ => ?_)
        refine r_iconst (v := 0) hE dX11_person_63 (by decide) ?_
        refine r_ireturn hE dX11_person_64 rfl rfl (Nat.zero_le _) (Nat.zero_le _) ?_
        unfold M_person
        repeat first | rw [if_pos (by grind)] | rw [if_neg (by grind)]
        exact ⟨rfl, rfl⟩
    · refine r_iconst (v := 1) hE dX11_person_27 (by decide) ?_
      refine r_goto (tgt := 32) hE dX11_person_28 (by decide) ?_
      refine r_iconst (v := 1) hE dX11_person_32 (by decide) ?_
      refine t_invv (r := (some (.int 1))) (S2 := (y_mk n L (y_si (y_si D 169 0 0) 169 0 1))) hE [.int 1, .int 1] (c_throwsT hL) v_yX11_throwsIf m_X11_85 dX11_person_33 rfl (hL 169 (by decide)) (y_l_169 ((y_si D 169 0 0) 169)) rfl (by decide) ⟨Nat.le_refl _, Nat.le_refl _⟩ (Nat.le_of_ble_eq_true rfl) ?_
      show E 0 0 36 [(0, .ref 169), (1, .int p), (2, .int q)] [.int 1] (y_mk n L (y_si (y_si D 169 0 0) 169 0 1))
      refine r_if_ne (tgt := 63) hE dX11_person_36 (by decide) (fun _ => ?_) (fun c36 => by first | exact absurd c36 (by decide) | exact absurd (by decide) c36)
      refine r_iconst (v := 0) hE dX11_person_63 (by decide) ?_
      refine r_ireturn hE dX11_person_64 rfl rfl (Nat.zero_le _) (Nat.zero_le _) ?_
      unfold M_person
      repeat first | rw [if_pos (by grind)] | rw [if_neg (by grind)]
      exact ⟨rfl, rfl⟩
/-- thing: answer and state -/
def M_thing (D : y_D) (k : Nat) (p q r : Int32) : Int32 × y_D := if ¬ (0 ≤ p ∧ p ≤ 2 ∧ 0 ≤ q ∧ q ≤ 2 ∧ 0 ≤ r ∧ r ≤ 9) then (0, y_si (y_si D 169 0 0) 169 0 1) else if k = 6 then (0, y_si (y_si D 169 0 0) 169 0 2) else (nI k, y_si (y_si (y_si (y_si (y_si D 169 0 0) 170 (28 + 3 * k) p) 170 (28 + 3 * k + 1) q) 170 (28 + 3 * k + 2) r) 170 3 (nI (k + 1)))
theorem c_thing {V : x_E} {n : Nat} {L : List Nat} {D : y_D} {p q r : Int32} {k : Nat} (hL : y_ok L) (hk : (D 170).1 3 = nI k) (hk8 : k ≤ 6) : x_Fn V yX11_thing cX11_thing 4 (some .int) 2 [.ref 169, .int p, .int q, .int r] (y_mk n L D) (some (.int ((M_thing D k p q r).1))) (y_mk n L ((M_thing D k p q r).2)) := by
  refine x_fn (by decide) (Nat.le_of_ble_eq_true rfl) (fun E hE => ?_)
  change E 0 0 0 [(0, .ref 169), (1, .int p), (2, .int q), (3, .int r)] [] (y_mk n L D)
  refine r_aload_n hE dX11_thing_0 rfl ?_
  refine r_iconst (v := 0) hE dX11_thing_1 (by decide) ?_
  refine t_puti hE f_X11_3 y_I_169_0 dX11_thing_2 (hL 169 (by decide)) rfl rfl ?_
  refine r_aload_n hE dX11_thing_5 rfl ?_
  refine r_iload_n hE dX11_thing_6 rfl ?_
  refine r_iconst (v := 0) hE dX11_thing_7 (by decide) ?_
  refine r_iconst (v := 2) hE dX11_thing_8 (by decide) ?_
  refine t_invs (r := (some (.int (y_b (0 ≤ p ∧ p ≤ 2))))) (S2 := (y_mk n L (y_si D 169 0 0))) hE [.int p, .int 0, .int 2] (c_in) s_yX11_in m_X11_81 dX11_thing_9 rfl (by decide) ⟨Nat.le_refl _, Nat.le_refl _⟩ (Nat.le_of_ble_eq_true rfl) ?_
  show E 0 0 12 [(0, .ref 169), (1, .int p), (2, .int q), (3, .int r)] [.int (y_b (0 ≤ p ∧ p ≤ 2)), .ref 169] (y_mk n L (y_si D 169 0 0))
  refine r_ifb_eq (tgt := 34) hE dX11_thing_12 (by decide) (fun c12 => ?_) (fun c12 => ?_)
  · refine r_iconst (v := 1) hE dX11_thing_34 (by decide) ?_
    refine r_goto (tgt := 39) hE dX11_thing_35 (by decide) ?_
    refine r_iconst (v := 1) hE dX11_thing_39 (by decide) ?_
    refine t_invv (r := (some (.int 1))) (S2 := (y_mk n L (y_si (y_si D 169 0 0) 169 0 1))) hE [.int 1, .int 1] (c_throwsT hL) v_yX11_throwsIf m_X11_85 dX11_thing_40 rfl (hL 169 (by decide)) (y_l_169 ((y_si D 169 0 0) 169)) rfl (by decide) ⟨Nat.le_refl _, Nat.le_refl _⟩ (Nat.le_of_ble_eq_true rfl) ?_
    show E 0 0 43 [(0, .ref 169), (1, .int p), (2, .int q), (3, .int r)] [.int 1] (y_mk n L (y_si (y_si D 169 0 0) 169 0 1))
    refine r_if_ne (tgt := 70) hE dX11_thing_43 (by decide) (fun _ => ?_) (fun c43 => by first | exact absurd c43 (by decide) | exact absurd (by decide) c43)
    refine r_iconst (v := 0) hE dX11_thing_70 (by decide) ?_
    refine r_ireturn hE dX11_thing_71 rfl rfl (Nat.zero_le _) (Nat.zero_le _) ?_
    unfold M_thing
    repeat first | rw [if_pos (by grind)] | rw [if_neg (by grind)]
    exact ⟨rfl, rfl⟩
  · refine r_iload_n hE dX11_thing_15 rfl ?_
    refine r_iconst (v := 0) hE dX11_thing_16 (by decide) ?_
    refine r_iconst (v := 2) hE dX11_thing_17 (by decide) ?_
    refine t_invs (r := (some (.int (y_b (0 ≤ q ∧ q ≤ 2))))) (S2 := (y_mk n L (y_si D 169 0 0))) hE [.int q, .int 0, .int 2] (c_in) s_yX11_in m_X11_81 dX11_thing_18 rfl (by decide) ⟨Nat.le_refl _, Nat.le_refl _⟩ (Nat.le_of_ble_eq_true rfl) ?_
    show E 0 0 21 [(0, .ref 169), (1, .int p), (2, .int q), (3, .int r)] [.int (y_b (0 ≤ q ∧ q ≤ 2)), .ref 169] (y_mk n L (y_si D 169 0 0))
    refine r_ifb_eq (tgt := 34) hE dX11_thing_21 (by decide) (fun c21 => ?_) (fun c21 => ?_)
    · refine r_iconst (v := 1) hE dX11_thing_34 (by decide) ?_
      refine r_goto (tgt := 39) hE dX11_thing_35 (by decide) ?_
      refine r_iconst (v := 1) hE dX11_thing_39 (by decide) ?_
      refine t_invv (r := (some (.int 1))) (S2 := (y_mk n L (y_si (y_si D 169 0 0) 169 0 1))) hE [.int 1, .int 1] (c_throwsT hL) v_yX11_throwsIf m_X11_85 dX11_thing_40 rfl (hL 169 (by decide)) (y_l_169 ((y_si D 169 0 0) 169)) rfl (by decide) ⟨Nat.le_refl _, Nat.le_refl _⟩ (Nat.le_of_ble_eq_true rfl) ?_
      show E 0 0 43 [(0, .ref 169), (1, .int p), (2, .int q), (3, .int r)] [.int 1] (y_mk n L (y_si (y_si D 169 0 0) 169 0 1))
      refine r_if_ne (tgt := 70) hE dX11_thing_43 (by decide) (fun _ => ?_) (fun c43 => by first | exact absurd c43 (by decide) | exact absurd (by decide) c43)
      refine r_iconst (v := 0) hE dX11_thing_70 (by decide) ?_
      refine r_ireturn hE dX11_thing_71 rfl rfl (Nat.zero_le _) (Nat.zero_le _) ?_
      unfold M_thing
      repeat first | rw [if_pos (by grind)] | rw [if_neg (by grind)]
      exact ⟨rfl, rfl⟩
    · refine r_iload_n hE dX11_thing_24 rfl ?_
      refine r_iconst (v := 0) hE dX11_thing_25 (by decide) ?_
      refine r_bipush (v := 9) hE dX11_thing_26 (by decide) ?_
      refine t_invs (r := (some (.int (y_b (0 ≤ r ∧ r ≤ 9))))) (S2 := (y_mk n L (y_si D 169 0 0))) hE [.int r, .int 0, .int 9] (c_in) s_yX11_in m_X11_81 dX11_thing_28 rfl (by decide) ⟨Nat.le_refl _, Nat.le_refl _⟩ (Nat.le_of_ble_eq_true rfl) ?_
      show E 0 0 31 [(0, .ref 169), (1, .int p), (2, .int q), (3, .int r)] [.int (y_b (0 ≤ r ∧ r ≤ 9)), .ref 169] (y_mk n L (y_si D 169 0 0))
      refine r_ifb_ne (tgt := 38) hE dX11_thing_31 (by decide) (fun c31 => ?_) (fun c31 => ?_)
      · refine r_iconst (v := 0) hE dX11_thing_38 (by decide) ?_
        refine r_iconst (v := 1) hE dX11_thing_39 (by decide) ?_
        refine t_invv (r := (some (.int 0))) (S2 := (y_mk n L (y_si D 169 0 0))) hE [.int 0, .int 1] (c_throwsF) v_yX11_throwsIf m_X11_85 dX11_thing_40 rfl (hL 169 (by decide)) (y_l_169 ((y_si D 169 0 0) 169)) rfl (by decide) ⟨Nat.le_refl _, Nat.le_refl _⟩ (Nat.le_of_ble_eq_true rfl) ?_
        show E 0 0 43 [(0, .ref 169), (1, .int p), (2, .int q), (3, .int r)] [.int 0] (y_mk n L (y_si D 169 0 0))
        refine r_if_ne (tgt := 70) hE dX11_thing_43 (by decide) (fun c43 => by first | exact absurd c43 (by decide) | exact absurd (by decide) c43) (fun _ => ?_)
        refine r_aload_n hE dX11_thing_46 rfl ?_
        refine r_aload_n hE dX11_thing_47 rfl ?_
        refine t_getr hE f_X11_13 y_R_169_1 dX11_thing_48 (hL 169 (by decide)) ?_
        refine r_iconst (v := 3) hE dX11_thing_51 (by decide) ?_
        refine t_ialdN (e := 3) hE y_A_170 dX11_thing_52 (hL 170 (by decide)) (by omega) (by decide) ?_
        refine r_top (y := (nI k)) hk ?_
        refine r_bipush (v := 6) hE dX11_thing_53 (by decide) ?_
        refine r_icmp_neN (a := k) (b := 6) (tgt := 62) hE dX11_thing_55 (by decide) (by omega) (by decide) (fun c55 => ?_) (fun c55 => ?_)
        · refine r_iconst (v := 0) hE dX11_thing_62 (by decide) ?_
          refine r_iconst (v := 2) hE dX11_thing_63 (by decide) ?_
          refine t_invv (r := (some (.int 0))) (S2 := (y_mk n L (y_si D 169 0 0))) hE [.int 0, .int 2] (c_throwsF) v_yX11_throwsIf m_X11_85 dX11_thing_64 rfl (hL 169 (by decide)) (y_l_169 ((y_si D 169 0 0) 169)) rfl (by decide) ⟨Nat.le_refl _, Nat.le_refl _⟩ (Nat.le_of_ble_eq_true rfl) ?_
          show E 0 0 67 [(0, .ref 169), (1, .int p), (2, .int q), (3, .int r)] [.int 0] (y_mk n L (y_si D 169 0 0))
          refine r_if_eq (tgt := 72) hE dX11_thing_67 (by decide) (fun _ => ?_) (fun c67 => by first | exact absurd c67 (by decide) | exact absurd (by decide) c67)
          refine r_aload_n hE dX11_thing_72 rfl ?_
          refine r_iconst (v := 3) hE dX11_thing_73 (by decide) ?_
          refine r_bipush (v := 28) hE dX11_thing_74 (by decide) ?_
          refine r_iconst (v := 3) hE dX11_thing_76 (by decide) ?_
          refine r_iload_n hE dX11_thing_77 rfl ?_
          refine r_iload_n hE dX11_thing_78 rfl ?_
          refine r_iload_n hE dX11_thing_79 rfl ?_
          refine t_invv (r := (some (.int (nI k)))) (S2 := (y_mk n L (y_si (y_si (y_si (y_si (y_si D 169 0 0) 170 (28 + 3 * k) p) 170 (28 + 3 * k + 1) q) 170 (28 + 3 * k + 2) r) 170 3 (nI (k + 1))))) hE [.int 3, .int 28, .int 3, .int p, .int q, .int r] (c_puts3 (c := 3) (b := 28) (k := k) hL (by simpa [y_si] using hk) (by omega) (by decide) (by decide)) v_yX11_puts m_X11_89 dX11_thing_80 rfl (hL 169 (by decide)) (y_l_169 ((y_si D 169 0 0) 169)) rfl (by decide) ⟨Nat.le_refl _, Nat.le_refl _⟩ (Nat.le_of_ble_eq_true rfl) ?_
          show E 0 0 83 [(0, .ref 169), (1, .int p), (2, .int q), (3, .int r)] [.int (nI k)] (y_mk n L (y_si (y_si (y_si (y_si (y_si D 169 0 0) 170 (28 + 3 * k) p) 170 (28 + 3 * k + 1) q) 170 (28 + 3 * k + 2) r) 170 3 (nI (k + 1))))
          refine r_ireturn hE dX11_thing_83 rfl rfl (Nat.zero_le _) (Nat.zero_le _) ?_
          unfold M_thing
          repeat first | rw [if_pos (by grind)] | rw [if_neg (by grind)]
          exact ⟨rfl, rfl⟩
        · refine r_iconst (v := 1) hE dX11_thing_58 (by decide) ?_
          refine r_goto (tgt := 63) hE dX11_thing_59 (by decide) ?_
          refine r_iconst (v := 2) hE dX11_thing_63 (by decide) ?_
          refine t_invv (r := (some (.int 1))) (S2 := (y_mk n L (y_si (y_si D 169 0 0) 169 0 2))) hE [.int 1, .int 2] (c_throwsT hL) v_yX11_throwsIf m_X11_85 dX11_thing_64 rfl (hL 169 (by decide)) (y_l_169 ((y_si D 169 0 0) 169)) rfl (by decide) ⟨Nat.le_refl _, Nat.le_refl _⟩ (Nat.le_of_ble_eq_true rfl) ?_
          show E 0 0 67 [(0, .ref 169), (1, .int p), (2, .int q), (3, .int r)] [.int 1] (y_mk n L (y_si (y_si D 169 0 0) 169 0 2))
          refine r_if_eq (tgt := 72) hE dX11_thing_67 (by decide) (fun c67 => by first | exact absurd c67 (by decide) | exact absurd (by decide) c67) (fun _ => ?_)
          refine r_iconst (v := 0) hE dX11_thing_70 (by decide) ?_
          refine r_ireturn hE dX11_thing_71 rfl rfl (Nat.zero_le _) (Nat.zero_le _) ?_
          unfold M_thing
          repeat first | rw [if_pos (by grind)] | rw [if_neg (by grind)]
          exact ⟨rfl, rfl⟩
      · refine r_iconst (v := 1) hE dX11_thing_34 (by decide) ?_
        refine r_goto (tgt := 39) hE dX11_thing_35 (by decide) ?_
        refine r_iconst (v := 1) hE dX11_thing_39 (by decide) ?_
        refine t_invv (r := (some (.int 1))) (S2 := (y_mk n L (y_si (y_si D 169 0 0) 169 0 1))) hE [.int 1, .int 1] (c_throwsT hL) v_yX11_throwsIf m_X11_85 dX11_thing_40 rfl (hL 169 (by decide)) (y_l_169 ((y_si D 169 0 0) 169)) rfl (by decide) ⟨Nat.le_refl _, Nat.le_refl _⟩ (Nat.le_of_ble_eq_true rfl) ?_
        show E 0 0 43 [(0, .ref 169), (1, .int p), (2, .int q), (3, .int r)] [.int 1] (y_mk n L (y_si (y_si D 169 0 0) 169 0 1))
        refine r_if_ne (tgt := 70) hE dX11_thing_43 (by decide) (fun _ => ?_) (fun c43 => by first | exact absurd c43 (by decide) | exact absurd (by decide) c43)
        refine r_iconst (v := 0) hE dX11_thing_70 (by decide) ?_
        refine r_ireturn hE dX11_thing_71 rfl rfl (Nat.zero_le _) (Nat.zero_le _) ?_
        unfold M_thing
        repeat first | rw [if_pos (by grind)] | rw [if_neg (by grind)]
        exact ⟨rfl, rfl⟩
/-- note: answer and state -/
def M_note (D : y_D) (k : Nat) (p q : Int32) : Int32 × y_D := if ¬ (0 ≤ p ∧ p ≤ (D 170).1 3 - 1) then (0, y_si (y_si D 169 0 0) 169 0 1) else if ¬ (0 ≤ q ∧ q ≤ 300) then (0, y_si (y_si D 169 0 0) 169 0 2) else if k = 10 then (0, y_si (y_si D 169 0 0) 169 0 3) else (nI k, y_si (y_si (y_si (y_si D 169 0 0) 170 (46 + 2 * k) p) 170 (46 + 2 * k + 1) q) 170 4 (nI (k + 1)))
theorem c_note {V : x_E} {n : Nat} {L : List Nat} {D : y_D} {p q : Int32} {k : Nat} (hL : y_ok L) (hk : (D 170).1 4 = nI k) (hk8 : k ≤ 10) : x_Fn V yX11_note cX11_note 3 (some .int) 2 [.ref 169, .int p, .int q] (y_mk n L D) (some (.int ((M_note D k p q).1))) (y_mk n L ((M_note D k p q).2)) := by
  refine x_fn (by decide) (Nat.le_of_ble_eq_true rfl) (fun E hE => ?_)
  change E 0 0 0 [(0, .ref 169), (1, .int p), (2, .int q)] [] (y_mk n L D)
  refine r_aload_n hE dX11_note_0 rfl ?_
  refine r_iconst (v := 0) hE dX11_note_1 (by decide) ?_
  refine t_puti hE f_X11_3 y_I_169_0 dX11_note_2 (hL 169 (by decide)) rfl rfl ?_
  refine r_aload_n hE dX11_note_5 rfl ?_
  refine r_aload_n hE dX11_note_6 rfl ?_
  refine r_iload_n hE dX11_note_7 rfl ?_
  refine r_iconst (v := 3) hE dX11_note_8 (by decide) ?_
  refine t_invv (r := (some (.int (y_b (¬ (0 ≤ p ∧ p ≤ (D 170).1 3 - 1)))))) (S2 := (y_mk n L (y_si D 169 0 0))) hE [.int p, .int 3] (c_none (c := 3) hL (by decide)) v_yX11_none m_X11_262 dX11_note_9 rfl (hL 169 (by decide)) (y_l_169 ((y_si D 169 0 0) 169)) rfl (by decide) ⟨Nat.le_refl _, Nat.le_refl _⟩ (Nat.le_of_ble_eq_true rfl) ?_
  show E 0 0 12 [(0, .ref 169), (1, .int p), (2, .int q)] [.int (y_b (¬ (0 ≤ p ∧ p ≤ (D 170).1 3 - 1))), .ref 169] (y_mk n L (y_si D 169 0 0))
  refine r_iconst (v := 1) hE dX11_note_12 (by decide) ?_
  refine t_invv (r := (some (.int (y_b (¬ (0 ≤ p ∧ p ≤ (D 170).1 3 - 1)))))) (S2 := (y_mk n L (if (¬ (0 ≤ p ∧ p ≤ (D 170).1 3 - 1)) then y_si (y_si D 169 0 0) 169 0 1 else y_si D 169 0 0))) hE [.int (y_b (¬ (0 ≤ p ∧ p ≤ (D 170).1 3 - 1))), .int 1] (c_throwsIf hL) v_yX11_throwsIf m_X11_85 dX11_note_13 rfl (hL 169 (by decide)) (y_l_169 ((y_si D 169 0 0) 169)) rfl (by decide) ⟨Nat.le_refl _, Nat.le_refl _⟩ (Nat.le_of_ble_eq_true rfl) ?_
  show E 0 0 16 [(0, .ref 169), (1, .int p), (2, .int q)] [.int (y_b (¬ (0 ≤ p ∧ p ≤ (D 170).1 3 - 1)))] (y_mk n L (if (¬ (0 ≤ p ∧ p ≤ (D 170).1 3 - 1)) then y_si (y_si D 169 0 0) 169 0 1 else y_si D 169 0 0))
  refine r_ifb_ne (tgt := 67) hE dX11_note_16 (by decide) (fun c16 => ?_) (fun c16 => ?_)
  · rw [if_pos c16]
    refine r_iconst (v := 0) hE dX11_note_67 (by decide) ?_
    refine r_ireturn hE dX11_note_68 rfl rfl (Nat.zero_le _) (Nat.zero_le _) ?_
    unfold M_note
    repeat first | rw [if_pos (by grind)] | rw [if_neg (by grind)]
    exact ⟨rfl, rfl⟩
  · rw [if_neg c16]
    refine r_aload_n hE dX11_note_19 rfl ?_
    refine r_iload_n hE dX11_note_20 rfl ?_
    refine r_iconst (v := 0) hE dX11_note_21 (by decide) ?_
    refine r_sipush (v := 300) hE dX11_note_22 (by decide) ?_
    refine t_invs (r := (some (.int (y_b (0 ≤ q ∧ q ≤ 300))))) (S2 := (y_mk n L (y_si D 169 0 0))) hE [.int q, .int 0, .int 300] (c_in) s_yX11_in m_X11_81 dX11_note_25 rfl (by decide) ⟨Nat.le_refl _, Nat.le_refl _⟩ (Nat.le_of_ble_eq_true rfl) ?_
    show E 0 0 28 [(0, .ref 169), (1, .int p), (2, .int q)] [.int (y_b (0 ≤ q ∧ q ≤ 300)), .ref 169] (y_mk n L (y_si D 169 0 0))
    refine r_ifb_ne (tgt := 35) hE dX11_note_28 (by decide) (fun c28 => ?_) (fun c28 => ?_)
    · refine r_iconst (v := 0) hE dX11_note_35 (by decide) ?_
      refine r_iconst (v := 2) hE dX11_note_36 (by decide) ?_
      refine t_invv (r := (some (.int 0))) (S2 := (y_mk n L (y_si D 169 0 0))) hE [.int 0, .int 2] (c_throwsF) v_yX11_throwsIf m_X11_85 dX11_note_37 rfl (hL 169 (by decide)) (y_l_169 ((y_si D 169 0 0) 169)) rfl (by decide) ⟨Nat.le_refl _, Nat.le_refl _⟩ (Nat.le_of_ble_eq_true rfl) ?_
      show E 0 0 40 [(0, .ref 169), (1, .int p), (2, .int q)] [.int 0] (y_mk n L (y_si D 169 0 0))
      refine r_if_ne (tgt := 67) hE dX11_note_40 (by decide) (fun c40 => by first | exact absurd c40 (by decide) | exact absurd (by decide) c40) (fun _ => ?_)
      refine r_aload_n hE dX11_note_43 rfl ?_
      refine r_aload_n hE dX11_note_44 rfl ?_
      refine t_getr hE f_X11_13 y_R_169_1 dX11_note_45 (hL 169 (by decide)) ?_
      refine r_iconst (v := 4) hE dX11_note_48 (by decide) ?_
      refine t_ialdN (e := 4) hE y_A_170 dX11_note_49 (hL 170 (by decide)) (by omega) (by decide) ?_
      refine r_top (y := (nI k)) hk ?_
      refine r_bipush (v := 10) hE dX11_note_50 (by decide) ?_
      refine r_icmp_neN (a := k) (b := 10) (tgt := 59) hE dX11_note_52 (by decide) (by omega) (by decide) (fun c52 => ?_) (fun c52 => ?_)
      · refine r_iconst (v := 0) hE dX11_note_59 (by decide) ?_
        refine r_iconst (v := 3) hE dX11_note_60 (by decide) ?_
        refine t_invv (r := (some (.int 0))) (S2 := (y_mk n L (y_si D 169 0 0))) hE [.int 0, .int 3] (c_throwsF) v_yX11_throwsIf m_X11_85 dX11_note_61 rfl (hL 169 (by decide)) (y_l_169 ((y_si D 169 0 0) 169)) rfl (by decide) ⟨Nat.le_refl _, Nat.le_refl _⟩ (Nat.le_of_ble_eq_true rfl) ?_
        show E 0 0 64 [(0, .ref 169), (1, .int p), (2, .int q)] [.int 0] (y_mk n L (y_si D 169 0 0))
        refine r_if_eq (tgt := 69) hE dX11_note_64 (by decide) (fun _ => ?_) (fun c64 => by first | exact absurd c64 (by decide) | exact absurd (by decide) c64)
        refine r_aload_n hE dX11_note_69 rfl ?_
        refine r_iconst (v := 4) hE dX11_note_70 (by decide) ?_
        refine r_bipush (v := 46) hE dX11_note_71 (by decide) ?_
        refine r_iconst (v := 2) hE dX11_note_73 (by decide) ?_
        refine r_iload_n hE dX11_note_74 rfl ?_
        refine r_iload_n hE dX11_note_75 rfl ?_
        refine r_iconst (v := 0) hE dX11_note_76 (by decide) ?_
        refine t_invv (r := (some (.int (nI k)))) (S2 := (y_mk n L (y_si (y_si (y_si (y_si D 169 0 0) 170 (46 + 2 * k) p) 170 (46 + 2 * k + 1) q) 170 4 (nI (k + 1))))) hE [.int 4, .int 46, .int 2, .int p, .int q, .int 0] (c_puts2 (c := 4) (b := 46) (k := k) hL (by simpa [y_si] using hk) (by omega) (by decide) (by decide)) v_yX11_puts m_X11_89 dX11_note_77 rfl (hL 169 (by decide)) (y_l_169 ((y_si D 169 0 0) 169)) rfl (by decide) ⟨Nat.le_refl _, Nat.le_refl _⟩ (Nat.le_of_ble_eq_true rfl) ?_
        show E 0 0 80 [(0, .ref 169), (1, .int p), (2, .int q)] [.int (nI k)] (y_mk n L (y_si (y_si (y_si (y_si D 169 0 0) 170 (46 + 2 * k) p) 170 (46 + 2 * k + 1) q) 170 4 (nI (k + 1))))
        refine r_ireturn hE dX11_note_80 rfl rfl (Nat.zero_le _) (Nat.zero_le _) ?_
        unfold M_note
        repeat first | rw [if_pos (by grind)] | rw [if_neg (by grind)]
        exact ⟨rfl, rfl⟩
      · refine r_iconst (v := 1) hE dX11_note_55 (by decide) ?_
        refine r_goto (tgt := 60) hE dX11_note_56 (by decide) ?_
        refine r_iconst (v := 3) hE dX11_note_60 (by decide) ?_
        refine t_invv (r := (some (.int 1))) (S2 := (y_mk n L (y_si (y_si D 169 0 0) 169 0 3))) hE [.int 1, .int 3] (c_throwsT hL) v_yX11_throwsIf m_X11_85 dX11_note_61 rfl (hL 169 (by decide)) (y_l_169 ((y_si D 169 0 0) 169)) rfl (by decide) ⟨Nat.le_refl _, Nat.le_refl _⟩ (Nat.le_of_ble_eq_true rfl) ?_
        show E 0 0 64 [(0, .ref 169), (1, .int p), (2, .int q)] [.int 1] (y_mk n L (y_si (y_si D 169 0 0) 169 0 3))
        refine r_if_eq (tgt := 69) hE dX11_note_64 (by decide) (fun c64 => by first | exact absurd c64 (by decide) | exact absurd (by decide) c64) (fun _ => ?_)
        refine r_iconst (v := 0) hE dX11_note_67 (by decide) ?_
        refine r_ireturn hE dX11_note_68 rfl rfl (Nat.zero_le _) (Nat.zero_le _) ?_
        unfold M_note
        repeat first | rw [if_pos (by grind)] | rw [if_neg (by grind)]
        exact ⟨rfl, rfl⟩
    · refine r_iconst (v := 1) hE dX11_note_31 (by decide) ?_
      refine r_goto (tgt := 36) hE dX11_note_32 (by decide) ?_
      refine r_iconst (v := 2) hE dX11_note_36 (by decide) ?_
      refine t_invv (r := (some (.int 1))) (S2 := (y_mk n L (y_si (y_si D 169 0 0) 169 0 2))) hE [.int 1, .int 2] (c_throwsT hL) v_yX11_throwsIf m_X11_85 dX11_note_37 rfl (hL 169 (by decide)) (y_l_169 ((y_si D 169 0 0) 169)) rfl (by decide) ⟨Nat.le_refl _, Nat.le_refl _⟩ (Nat.le_of_ble_eq_true rfl) ?_
      show E 0 0 40 [(0, .ref 169), (1, .int p), (2, .int q)] [.int 1] (y_mk n L (y_si (y_si D 169 0 0) 169 0 2))
      refine r_if_ne (tgt := 67) hE dX11_note_40 (by decide) (fun _ => ?_) (fun c40 => by first | exact absurd c40 (by decide) | exact absurd (by decide) c40)
      refine r_iconst (v := 0) hE dX11_note_67 (by decide) ?_
      refine r_ireturn hE dX11_note_68 rfl rfl (Nat.zero_le _) (Nat.zero_le _) ?_
      unfold M_note
      repeat first | rw [if_pos (by grind)] | rw [if_neg (by grind)]
      exact ⟨rfl, rfl⟩
/-- trap: answer and state -/
def M_trap (D : y_D) (k : Nat) (p q r : Int32) : Int32 × y_D := if ¬ (0 ≤ p ∧ p ≤ (D 170).1 2 - 1) then (0, y_si (y_si D 169 0 0) 169 0 1) else if ¬ (1 ≤ q ∧ q ≤ 9 ∧ 1 ≤ r ∧ r ≤ 9) then (0, y_si (y_si D 169 0 0) 169 0 2) else if k = 4 then (0, y_si (y_si D 169 0 0) 169 0 3) else (nI k, y_si (y_si (y_si (y_si (y_si D 169 0 0) 170 (66 + 3 * k) p) 170 (66 + 3 * k + 1) q) 170 (66 + 3 * k + 2) r) 170 5 (nI (k + 1)))
theorem c_trap {V : x_E} {n : Nat} {L : List Nat} {D : y_D} {p q r : Int32} {k : Nat} (hL : y_ok L) (hk : (D 170).1 5 = nI k) (hk8 : k ≤ 4) : x_Fn V yX11_trap cX11_trap 4 (some .int) 2 [.ref 169, .int p, .int q, .int r] (y_mk n L D) (some (.int ((M_trap D k p q r).1))) (y_mk n L ((M_trap D k p q r).2)) := by
  refine x_fn (by decide) (Nat.le_of_ble_eq_true rfl) (fun E hE => ?_)
  change E 0 0 0 [(0, .ref 169), (1, .int p), (2, .int q), (3, .int r)] [] (y_mk n L D)
  refine r_aload_n hE dX11_trap_0 rfl ?_
  refine r_iconst (v := 0) hE dX11_trap_1 (by decide) ?_
  refine t_puti hE f_X11_3 y_I_169_0 dX11_trap_2 (hL 169 (by decide)) rfl rfl ?_
  refine r_aload_n hE dX11_trap_5 rfl ?_
  refine r_aload_n hE dX11_trap_6 rfl ?_
  refine r_iload_n hE dX11_trap_7 rfl ?_
  refine r_iconst (v := 2) hE dX11_trap_8 (by decide) ?_
  refine t_invv (r := (some (.int (y_b (¬ (0 ≤ p ∧ p ≤ (D 170).1 2 - 1)))))) (S2 := (y_mk n L (y_si D 169 0 0))) hE [.int p, .int 2] (c_none (c := 2) hL (by decide)) v_yX11_none m_X11_262 dX11_trap_9 rfl (hL 169 (by decide)) (y_l_169 ((y_si D 169 0 0) 169)) rfl (by decide) ⟨Nat.le_refl _, Nat.le_refl _⟩ (Nat.le_of_ble_eq_true rfl) ?_
  show E 0 0 12 [(0, .ref 169), (1, .int p), (2, .int q), (3, .int r)] [.int (y_b (¬ (0 ≤ p ∧ p ≤ (D 170).1 2 - 1))), .ref 169] (y_mk n L (y_si D 169 0 0))
  refine r_iconst (v := 1) hE dX11_trap_12 (by decide) ?_
  refine t_invv (r := (some (.int (y_b (¬ (0 ≤ p ∧ p ≤ (D 170).1 2 - 1)))))) (S2 := (y_mk n L (if (¬ (0 ≤ p ∧ p ≤ (D 170).1 2 - 1)) then y_si (y_si D 169 0 0) 169 0 1 else y_si D 169 0 0))) hE [.int (y_b (¬ (0 ≤ p ∧ p ≤ (D 170).1 2 - 1))), .int 1] (c_throwsIf hL) v_yX11_throwsIf m_X11_85 dX11_trap_13 rfl (hL 169 (by decide)) (y_l_169 ((y_si D 169 0 0) 169)) rfl (by decide) ⟨Nat.le_refl _, Nat.le_refl _⟩ (Nat.le_of_ble_eq_true rfl) ?_
  show E 0 0 16 [(0, .ref 169), (1, .int p), (2, .int q), (3, .int r)] [.int (y_b (¬ (0 ≤ p ∧ p ≤ (D 170).1 2 - 1)))] (y_mk n L (if (¬ (0 ≤ p ∧ p ≤ (D 170).1 2 - 1)) then y_si (y_si D 169 0 0) 169 0 1 else y_si D 169 0 0))
  refine r_ifb_ne (tgt := 75) hE dX11_trap_16 (by decide) (fun c16 => ?_) (fun c16 => ?_)
  · rw [if_pos c16]
    refine r_iconst (v := 0) hE dX11_trap_75 (by decide) ?_
    refine r_ireturn hE dX11_trap_76 rfl rfl (Nat.zero_le _) (Nat.zero_le _) ?_
    unfold M_trap
    repeat first | rw [if_pos (by grind)] | rw [if_neg (by grind)]
    exact ⟨rfl, rfl⟩
  · rw [if_neg c16]
    refine r_aload_n hE dX11_trap_19 rfl ?_
    refine r_iload_n hE dX11_trap_20 rfl ?_
    refine r_iconst (v := 1) hE dX11_trap_21 (by decide) ?_
    refine r_bipush (v := 9) hE dX11_trap_22 (by decide) ?_
    refine t_invs (r := (some (.int (y_b (1 ≤ q ∧ q ≤ 9))))) (S2 := (y_mk n L (y_si D 169 0 0))) hE [.int q, .int 1, .int 9] (c_in) s_yX11_in m_X11_81 dX11_trap_24 rfl (by decide) ⟨Nat.le_refl _, Nat.le_refl _⟩ (Nat.le_of_ble_eq_true rfl) ?_
    show E 0 0 27 [(0, .ref 169), (1, .int p), (2, .int q), (3, .int r)] [.int (y_b (1 ≤ q ∧ q ≤ 9)), .ref 169] (y_mk n L (y_si D 169 0 0))
    refine r_ifb_eq (tgt := 40) hE dX11_trap_27 (by decide) (fun c27 => ?_) (fun c27 => ?_)
    · refine r_iconst (v := 1) hE dX11_trap_40 (by decide) ?_
      refine r_goto (tgt := 45) hE dX11_trap_41 (by decide) ?_
      refine r_iconst (v := 2) hE dX11_trap_45 (by decide) ?_
      refine t_invv (r := (some (.int 1))) (S2 := (y_mk n L (y_si (y_si D 169 0 0) 169 0 2))) hE [.int 1, .int 2] (c_throwsT hL) v_yX11_throwsIf m_X11_85 dX11_trap_46 rfl (hL 169 (by decide)) (y_l_169 ((y_si D 169 0 0) 169)) rfl (by decide) ⟨Nat.le_refl _, Nat.le_refl _⟩ (Nat.le_of_ble_eq_true rfl) ?_
      show E 0 0 49 [(0, .ref 169), (1, .int p), (2, .int q), (3, .int r)] [.int 1] (y_mk n L (y_si (y_si D 169 0 0) 169 0 2))
      refine r_if_ne (tgt := 75) hE dX11_trap_49 (by decide) (fun _ => ?_) (fun c49 => by first | exact absurd c49 (by decide) | exact absurd (by decide) c49)
      refine r_iconst (v := 0) hE dX11_trap_75 (by decide) ?_
      refine r_ireturn hE dX11_trap_76 rfl rfl (Nat.zero_le _) (Nat.zero_le _) ?_
      unfold M_trap
      repeat first | rw [if_pos (by grind)] | rw [if_neg (by grind)]
      exact ⟨rfl, rfl⟩
    · refine r_iload_n hE dX11_trap_30 rfl ?_
      refine r_iconst (v := 1) hE dX11_trap_31 (by decide) ?_
      refine r_bipush (v := 9) hE dX11_trap_32 (by decide) ?_
      refine t_invs (r := (some (.int (y_b (1 ≤ r ∧ r ≤ 9))))) (S2 := (y_mk n L (y_si D 169 0 0))) hE [.int r, .int 1, .int 9] (c_in) s_yX11_in m_X11_81 dX11_trap_34 rfl (by decide) ⟨Nat.le_refl _, Nat.le_refl _⟩ (Nat.le_of_ble_eq_true rfl) ?_
      show E 0 0 37 [(0, .ref 169), (1, .int p), (2, .int q), (3, .int r)] [.int (y_b (1 ≤ r ∧ r ≤ 9)), .ref 169] (y_mk n L (y_si D 169 0 0))
      refine r_ifb_ne (tgt := 44) hE dX11_trap_37 (by decide) (fun c37 => ?_) (fun c37 => ?_)
      · refine r_iconst (v := 0) hE dX11_trap_44 (by decide) ?_
        refine r_iconst (v := 2) hE dX11_trap_45 (by decide) ?_
        refine t_invv (r := (some (.int 0))) (S2 := (y_mk n L (y_si D 169 0 0))) hE [.int 0, .int 2] (c_throwsF) v_yX11_throwsIf m_X11_85 dX11_trap_46 rfl (hL 169 (by decide)) (y_l_169 ((y_si D 169 0 0) 169)) rfl (by decide) ⟨Nat.le_refl _, Nat.le_refl _⟩ (Nat.le_of_ble_eq_true rfl) ?_
        show E 0 0 49 [(0, .ref 169), (1, .int p), (2, .int q), (3, .int r)] [.int 0] (y_mk n L (y_si D 169 0 0))
        refine r_if_ne (tgt := 75) hE dX11_trap_49 (by decide) (fun c49 => by first | exact absurd c49 (by decide) | exact absurd (by decide) c49) (fun _ => ?_)
        refine r_aload_n hE dX11_trap_52 rfl ?_
        refine r_aload_n hE dX11_trap_53 rfl ?_
        refine t_getr hE f_X11_13 y_R_169_1 dX11_trap_54 (hL 169 (by decide)) ?_
        refine r_iconst (v := 5) hE dX11_trap_57 (by decide) ?_
        refine t_ialdN (e := 5) hE y_A_170 dX11_trap_58 (hL 170 (by decide)) (by omega) (by decide) ?_
        refine r_top (y := (nI k)) hk ?_
        refine r_iconst (v := 4) hE dX11_trap_59 (by decide) ?_
        refine r_icmp_neN (a := k) (b := 4) (tgt := 67) hE dX11_trap_60 (by decide) (by omega) (by decide) (fun c60 => ?_) (fun c60 => ?_)
        · refine r_iconst (v := 0) hE dX11_trap_67 (by decide) ?_
          refine r_iconst (v := 3) hE dX11_trap_68 (by decide) ?_
          refine t_invv (r := (some (.int 0))) (S2 := (y_mk n L (y_si D 169 0 0))) hE [.int 0, .int 3] (c_throwsF) v_yX11_throwsIf m_X11_85 dX11_trap_69 rfl (hL 169 (by decide)) (y_l_169 ((y_si D 169 0 0) 169)) rfl (by decide) ⟨Nat.le_refl _, Nat.le_refl _⟩ (Nat.le_of_ble_eq_true rfl) ?_
          show E 0 0 72 [(0, .ref 169), (1, .int p), (2, .int q), (3, .int r)] [.int 0] (y_mk n L (y_si D 169 0 0))
          refine r_if_eq (tgt := 77) hE dX11_trap_72 (by decide) (fun _ => ?_) (fun c72 => by first | exact absurd c72 (by decide) | exact absurd (by decide) c72)
          refine r_aload_n hE dX11_trap_77 rfl ?_
          refine r_iconst (v := 5) hE dX11_trap_78 (by decide) ?_
          refine r_bipush (v := 66) hE dX11_trap_79 (by decide) ?_
          refine r_iconst (v := 3) hE dX11_trap_81 (by decide) ?_
          refine r_iload_n hE dX11_trap_82 rfl ?_
          refine r_iload_n hE dX11_trap_83 rfl ?_
          refine r_iload_n hE dX11_trap_84 rfl ?_
          refine t_invv (r := (some (.int (nI k)))) (S2 := (y_mk n L (y_si (y_si (y_si (y_si (y_si D 169 0 0) 170 (66 + 3 * k) p) 170 (66 + 3 * k + 1) q) 170 (66 + 3 * k + 2) r) 170 5 (nI (k + 1))))) hE [.int 5, .int 66, .int 3, .int p, .int q, .int r] (c_puts3 (c := 5) (b := 66) (k := k) hL (by simpa [y_si] using hk) (by omega) (by decide) (by decide)) v_yX11_puts m_X11_89 dX11_trap_85 rfl (hL 169 (by decide)) (y_l_169 ((y_si D 169 0 0) 169)) rfl (by decide) ⟨Nat.le_refl _, Nat.le_refl _⟩ (Nat.le_of_ble_eq_true rfl) ?_
          show E 0 0 88 [(0, .ref 169), (1, .int p), (2, .int q), (3, .int r)] [.int (nI k)] (y_mk n L (y_si (y_si (y_si (y_si (y_si D 169 0 0) 170 (66 + 3 * k) p) 170 (66 + 3 * k + 1) q) 170 (66 + 3 * k + 2) r) 170 5 (nI (k + 1))))
          refine r_ireturn hE dX11_trap_88 rfl rfl (Nat.zero_le _) (Nat.zero_le _) ?_
          unfold M_trap
          repeat first | rw [if_pos (by grind)] | rw [if_neg (by grind)]
          exact ⟨rfl, rfl⟩
        · refine r_iconst (v := 1) hE dX11_trap_63 (by decide) ?_
          refine r_goto (tgt := 68) hE dX11_trap_64 (by decide) ?_
          refine r_iconst (v := 3) hE dX11_trap_68 (by decide) ?_
          refine t_invv (r := (some (.int 1))) (S2 := (y_mk n L (y_si (y_si D 169 0 0) 169 0 3))) hE [.int 1, .int 3] (c_throwsT hL) v_yX11_throwsIf m_X11_85 dX11_trap_69 rfl (hL 169 (by decide)) (y_l_169 ((y_si D 169 0 0) 169)) rfl (by decide) ⟨Nat.le_refl _, Nat.le_refl _⟩ (Nat.le_of_ble_eq_true rfl) ?_
          show E 0 0 72 [(0, .ref 169), (1, .int p), (2, .int q), (3, .int r)] [.int 1] (y_mk n L (y_si (y_si D 169 0 0) 169 0 3))
          refine r_if_eq (tgt := 77) hE dX11_trap_72 (by decide) (fun c72 => by first | exact absurd c72 (by decide) | exact absurd (by decide) c72) (fun _ => ?_)
          refine r_iconst (v := 0) hE dX11_trap_75 (by decide) ?_
          refine r_ireturn hE dX11_trap_76 rfl rfl (Nat.zero_le _) (Nat.zero_le _) ?_
          unfold M_trap
          repeat first | rw [if_pos (by grind)] | rw [if_neg (by grind)]
          exact ⟨rfl, rfl⟩
      · refine r_iconst (v := 1) hE dX11_trap_40 (by decide) ?_
        refine r_goto (tgt := 45) hE dX11_trap_41 (by decide) ?_
        refine r_iconst (v := 2) hE dX11_trap_45 (by decide) ?_
        refine t_invv (r := (some (.int 1))) (S2 := (y_mk n L (y_si (y_si D 169 0 0) 169 0 2))) hE [.int 1, .int 2] (c_throwsT hL) v_yX11_throwsIf m_X11_85 dX11_trap_46 rfl (hL 169 (by decide)) (y_l_169 ((y_si D 169 0 0) 169)) rfl (by decide) ⟨Nat.le_refl _, Nat.le_refl _⟩ (Nat.le_of_ble_eq_true rfl) ?_
        show E 0 0 49 [(0, .ref 169), (1, .int p), (2, .int q), (3, .int r)] [.int 1] (y_mk n L (y_si (y_si D 169 0 0) 169 0 2))
        refine r_if_ne (tgt := 75) hE dX11_trap_49 (by decide) (fun _ => ?_) (fun c49 => by first | exact absurd c49 (by decide) | exact absurd (by decide) c49)
        refine r_iconst (v := 0) hE dX11_trap_75 (by decide) ?_
        refine r_ireturn hE dX11_trap_76 rfl rfl (Nat.zero_le _) (Nat.zero_le _) ?_
        unfold M_trap
        repeat first | rw [if_pos (by grind)] | rw [if_neg (by grind)]
        exact ⟨rfl, rfl⟩
/-- story: answer and state -/
def M_story (D : y_D) (k : Nat) (p q r : Int32) : Int32 × y_D := if ¬ (1 ≤ p ∧ p ≤ 99 ∧ (r = -1 ∨ (1 ≤ r ∧ r ≤ 7))) then (0, y_si (y_si D 169 0 0) 169 0 1) else if k = 5 then (0, y_si (y_si D 169 0 0) 169 0 2) else (nI k, y_si (y_si (y_si (y_si (y_si D 169 0 0) 170 (78 + 3 * k) p) 170 (78 + 3 * k + 1) q) 170 (78 + 3 * k + 2) r) 170 6 (nI (k + 1)))
theorem c_story {V : x_E} {n : Nat} {L : List Nat} {D : y_D} {p q r : Int32} {k : Nat} (hL : y_ok L) (hk : (D 170).1 6 = nI k) (hk8 : k ≤ 5) : x_Fn V yX11_story cX11_story 4 (some .int) 2 [.ref 169, .int p, .int q, .int r] (y_mk n L D) (some (.int ((M_story D k p q r).1))) (y_mk n L ((M_story D k p q r).2)) := by
  refine x_fn (by decide) (Nat.le_of_ble_eq_true rfl) (fun E hE => ?_)
  change E 0 0 0 [(0, .ref 169), (1, .int p), (2, .int q), (3, .int r)] [] (y_mk n L D)
  refine r_aload_n hE dX11_story_0 rfl ?_
  refine r_iconst (v := 0) hE dX11_story_1 (by decide) ?_
  refine t_puti hE f_X11_3 y_I_169_0 dX11_story_2 (hL 169 (by decide)) rfl rfl ?_
  refine r_aload_n hE dX11_story_5 rfl ?_
  refine r_iload_n hE dX11_story_6 rfl ?_
  refine r_iconst (v := 1) hE dX11_story_7 (by decide) ?_
  refine r_bipush (v := 99) hE dX11_story_8 (by decide) ?_
  refine t_invs (r := (some (.int (y_b (1 ≤ p ∧ p ≤ 99))))) (S2 := (y_mk n L (y_si D 169 0 0))) hE [.int p, .int 1, .int 99] (c_in) s_yX11_in m_X11_81 dX11_story_10 rfl (by decide) ⟨Nat.le_refl _, Nat.le_refl _⟩ (Nat.le_of_ble_eq_true rfl) ?_
  show E 0 0 13 [(0, .ref 169), (1, .int p), (2, .int q), (3, .int r)] [.int (y_b (1 ≤ p ∧ p ≤ 99)), .ref 169] (y_mk n L (y_si D 169 0 0))
  refine r_ifb_eq (tgt := 31) hE dX11_story_13 (by decide) (fun c13 => ?_) (fun c13 => ?_)
  · refine r_iconst (v := 1) hE dX11_story_31 (by decide) ?_
    refine r_goto (tgt := 36) hE dX11_story_32 (by decide) ?_
    refine r_iconst (v := 1) hE dX11_story_36 (by decide) ?_
    refine t_invv (r := (some (.int 1))) (S2 := (y_mk n L (y_si (y_si D 169 0 0) 169 0 1))) hE [.int 1, .int 1] (c_throwsT hL) v_yX11_throwsIf m_X11_85 dX11_story_37 rfl (hL 169 (by decide)) (y_l_169 ((y_si D 169 0 0) 169)) rfl (by decide) ⟨Nat.le_refl _, Nat.le_refl _⟩ (Nat.le_of_ble_eq_true rfl) ?_
    show E 0 0 40 [(0, .ref 169), (1, .int p), (2, .int q), (3, .int r)] [.int 1] (y_mk n L (y_si (y_si D 169 0 0) 169 0 1))
    refine r_if_ne (tgt := 67) hE dX11_story_40 (by decide) (fun _ => ?_) (fun c40 => by first | exact absurd c40 (by decide) | exact absurd (by decide) c40)
    refine r_iconst (v := 0) hE dX11_story_67 (by decide) ?_
    refine r_ireturn hE dX11_story_68 rfl rfl (Nat.zero_le _) (Nat.zero_le _) ?_
    unfold M_story
    repeat first | rw [if_pos (by grind)] | rw [if_neg (by grind)]
    exact ⟨rfl, rfl⟩
  · refine r_iload_n hE dX11_story_16 rfl ?_
    refine r_iconst (v := (-1)) hE dX11_story_17 (by decide) ?_
    refine r_icmp_eq (tgt := 35) hE dX11_story_18 (by decide) (fun c18 => ?_) (fun c18 => ?_)
    · refine r_iconst (v := 0) hE dX11_story_35 (by decide) ?_
      refine r_iconst (v := 1) hE dX11_story_36 (by decide) ?_
      refine t_invv (r := (some (.int 0))) (S2 := (y_mk n L (y_si D 169 0 0))) hE [.int 0, .int 1] (c_throwsF) v_yX11_throwsIf m_X11_85 dX11_story_37 rfl (hL 169 (by decide)) (y_l_169 ((y_si D 169 0 0) 169)) rfl (by decide) ⟨Nat.le_refl _, Nat.le_refl _⟩ (Nat.le_of_ble_eq_true rfl) ?_
      show E 0 0 40 [(0, .ref 169), (1, .int p), (2, .int q), (3, .int r)] [.int 0] (y_mk n L (y_si D 169 0 0))
      refine r_if_ne (tgt := 67) hE dX11_story_40 (by decide) (fun c40 => by first | exact absurd c40 (by decide) | exact absurd (by decide) c40) (fun _ => ?_)
      refine r_aload_n hE dX11_story_43 rfl ?_
      refine r_aload_n hE dX11_story_44 rfl ?_
      refine t_getr hE f_X11_13 y_R_169_1 dX11_story_45 (hL 169 (by decide)) ?_
      refine r_bipush (v := 6) hE dX11_story_48 (by decide) ?_
      refine t_ialdN (e := 6) hE y_A_170 dX11_story_50 (hL 170 (by decide)) (by omega) (by decide) ?_
      refine r_top (y := (nI k)) hk ?_
      refine r_iconst (v := 5) hE dX11_story_51 (by decide) ?_
      refine r_icmp_neN (a := k) (b := 5) (tgt := 59) hE dX11_story_52 (by decide) (by omega) (by decide) (fun c52 => ?_) (fun c52 => ?_)
      · refine r_iconst (v := 0) hE dX11_story_59 (by decide) ?_
        refine r_iconst (v := 2) hE dX11_story_60 (by decide) ?_
        refine t_invv (r := (some (.int 0))) (S2 := (y_mk n L (y_si D 169 0 0))) hE [.int 0, .int 2] (c_throwsF) v_yX11_throwsIf m_X11_85 dX11_story_61 rfl (hL 169 (by decide)) (y_l_169 ((y_si D 169 0 0) 169)) rfl (by decide) ⟨Nat.le_refl _, Nat.le_refl _⟩ (Nat.le_of_ble_eq_true rfl) ?_
        show E 0 0 64 [(0, .ref 169), (1, .int p), (2, .int q), (3, .int r)] [.int 0] (y_mk n L (y_si D 169 0 0))
        refine r_if_eq (tgt := 69) hE dX11_story_64 (by decide) (fun _ => ?_) (fun c64 => by first | exact absurd c64 (by decide) | exact absurd (by decide) c64)
        refine r_aload_n hE dX11_story_69 rfl ?_
        refine r_bipush (v := 6) hE dX11_story_70 (by decide) ?_
        refine r_bipush (v := 78) hE dX11_story_72 (by decide) ?_
        refine r_iconst (v := 3) hE dX11_story_74 (by decide) ?_
        refine r_iload_n hE dX11_story_75 rfl ?_
        refine r_iload_n hE dX11_story_76 rfl ?_
        refine r_iload_n hE dX11_story_77 rfl ?_
        refine t_invv (r := (some (.int (nI k)))) (S2 := (y_mk n L (y_si (y_si (y_si (y_si (y_si D 169 0 0) 170 (78 + 3 * k) p) 170 (78 + 3 * k + 1) q) 170 (78 + 3 * k + 2) r) 170 6 (nI (k + 1))))) hE [.int 6, .int 78, .int 3, .int p, .int q, .int r] (c_puts3 (c := 6) (b := 78) (k := k) hL (by simpa [y_si] using hk) (by omega) (by decide) (by decide)) v_yX11_puts m_X11_89 dX11_story_78 rfl (hL 169 (by decide)) (y_l_169 ((y_si D 169 0 0) 169)) rfl (by decide) ⟨Nat.le_refl _, Nat.le_refl _⟩ (Nat.le_of_ble_eq_true rfl) ?_
        show E 0 0 81 [(0, .ref 169), (1, .int p), (2, .int q), (3, .int r)] [.int (nI k)] (y_mk n L (y_si (y_si (y_si (y_si (y_si D 169 0 0) 170 (78 + 3 * k) p) 170 (78 + 3 * k + 1) q) 170 (78 + 3 * k + 2) r) 170 6 (nI (k + 1))))
        refine r_ireturn hE dX11_story_81 rfl rfl (Nat.zero_le _) (Nat.zero_le _) ?_
        unfold M_story
        repeat first | rw [if_pos (by grind)] | rw [if_neg (by grind)]
        exact ⟨rfl, rfl⟩
      · refine r_iconst (v := 1) hE dX11_story_55 (by decide) ?_
        refine r_goto (tgt := 60) hE dX11_story_56 (by decide) ?_
        refine r_iconst (v := 2) hE dX11_story_60 (by decide) ?_
        refine t_invv (r := (some (.int 1))) (S2 := (y_mk n L (y_si (y_si D 169 0 0) 169 0 2))) hE [.int 1, .int 2] (c_throwsT hL) v_yX11_throwsIf m_X11_85 dX11_story_61 rfl (hL 169 (by decide)) (y_l_169 ((y_si D 169 0 0) 169)) rfl (by decide) ⟨Nat.le_refl _, Nat.le_refl _⟩ (Nat.le_of_ble_eq_true rfl) ?_
        show E 0 0 64 [(0, .ref 169), (1, .int p), (2, .int q), (3, .int r)] [.int 1] (y_mk n L (y_si (y_si D 169 0 0) 169 0 2))
        refine r_if_eq (tgt := 69) hE dX11_story_64 (by decide) (fun c64 => by first | exact absurd c64 (by decide) | exact absurd (by decide) c64) (fun _ => ?_)
        refine r_iconst (v := 0) hE dX11_story_67 (by decide) ?_
        refine r_ireturn hE dX11_story_68 rfl rfl (Nat.zero_le _) (Nat.zero_le _) ?_
        unfold M_story
        repeat first | rw [if_pos (by grind)] | rw [if_neg (by grind)]
        exact ⟨rfl, rfl⟩
    · refine r_iload_n hE dX11_story_21 rfl ?_
      refine r_iconst (v := 1) hE dX11_story_22 (by decide) ?_
      refine r_bipush (v := 7) hE dX11_story_23 (by decide) ?_
      refine t_invs (r := (some (.int (y_b (1 ≤ r ∧ r ≤ 7))))) (S2 := (y_mk n L (y_si D 169 0 0))) hE [.int r, .int 1, .int 7] (c_in) s_yX11_in m_X11_81 dX11_story_25 rfl (by decide) ⟨Nat.le_refl _, Nat.le_refl _⟩ (Nat.le_of_ble_eq_true rfl) ?_
      show E 0 0 28 [(0, .ref 169), (1, .int p), (2, .int q), (3, .int r)] [.int (y_b (1 ≤ r ∧ r ≤ 7)), .ref 169] (y_mk n L (y_si D 169 0 0))
      refine r_ifb_ne (tgt := 35) hE dX11_story_28 (by decide) (fun c28 => ?_) (fun c28 => ?_)
      · refine r_iconst (v := 0) hE dX11_story_35 (by decide) ?_
        refine r_iconst (v := 1) hE dX11_story_36 (by decide) ?_
        refine t_invv (r := (some (.int 0))) (S2 := (y_mk n L (y_si D 169 0 0))) hE [.int 0, .int 1] (c_throwsF) v_yX11_throwsIf m_X11_85 dX11_story_37 rfl (hL 169 (by decide)) (y_l_169 ((y_si D 169 0 0) 169)) rfl (by decide) ⟨Nat.le_refl _, Nat.le_refl _⟩ (Nat.le_of_ble_eq_true rfl) ?_
        show E 0 0 40 [(0, .ref 169), (1, .int p), (2, .int q), (3, .int r)] [.int 0] (y_mk n L (y_si D 169 0 0))
        refine r_if_ne (tgt := 67) hE dX11_story_40 (by decide) (fun c40 => by first | exact absurd c40 (by decide) | exact absurd (by decide) c40) (fun _ => ?_)
        refine r_aload_n hE dX11_story_43 rfl ?_
        refine r_aload_n hE dX11_story_44 rfl ?_
        refine t_getr hE f_X11_13 y_R_169_1 dX11_story_45 (hL 169 (by decide)) ?_
        refine r_bipush (v := 6) hE dX11_story_48 (by decide) ?_
        refine t_ialdN (e := 6) hE y_A_170 dX11_story_50 (hL 170 (by decide)) (by omega) (by decide) ?_
        refine r_top (y := (nI k)) hk ?_
        refine r_iconst (v := 5) hE dX11_story_51 (by decide) ?_
        refine r_icmp_neN (a := k) (b := 5) (tgt := 59) hE dX11_story_52 (by decide) (by omega) (by decide) (fun c52 => ?_) (fun c52 => ?_)
        · refine r_iconst (v := 0) hE dX11_story_59 (by decide) ?_
          refine r_iconst (v := 2) hE dX11_story_60 (by decide) ?_
          refine t_invv (r := (some (.int 0))) (S2 := (y_mk n L (y_si D 169 0 0))) hE [.int 0, .int 2] (c_throwsF) v_yX11_throwsIf m_X11_85 dX11_story_61 rfl (hL 169 (by decide)) (y_l_169 ((y_si D 169 0 0) 169)) rfl (by decide) ⟨Nat.le_refl _, Nat.le_refl _⟩ (Nat.le_of_ble_eq_true rfl) ?_
          show E 0 0 64 [(0, .ref 169), (1, .int p), (2, .int q), (3, .int r)] [.int 0] (y_mk n L (y_si D 169 0 0))
          refine r_if_eq (tgt := 69) hE dX11_story_64 (by decide) (fun _ => ?_) (fun c64 => by first | exact absurd c64 (by decide) | exact absurd (by decide) c64)
          refine r_aload_n hE dX11_story_69 rfl ?_
          refine r_bipush (v := 6) hE dX11_story_70 (by decide) ?_
          refine r_bipush (v := 78) hE dX11_story_72 (by decide) ?_
          refine r_iconst (v := 3) hE dX11_story_74 (by decide) ?_
          refine r_iload_n hE dX11_story_75 rfl ?_
          refine r_iload_n hE dX11_story_76 rfl ?_
          refine r_iload_n hE dX11_story_77 rfl ?_
          refine t_invv (r := (some (.int (nI k)))) (S2 := (y_mk n L (y_si (y_si (y_si (y_si (y_si D 169 0 0) 170 (78 + 3 * k) p) 170 (78 + 3 * k + 1) q) 170 (78 + 3 * k + 2) r) 170 6 (nI (k + 1))))) hE [.int 6, .int 78, .int 3, .int p, .int q, .int r] (c_puts3 (c := 6) (b := 78) (k := k) hL (by simpa [y_si] using hk) (by omega) (by decide) (by decide)) v_yX11_puts m_X11_89 dX11_story_78 rfl (hL 169 (by decide)) (y_l_169 ((y_si D 169 0 0) 169)) rfl (by decide) ⟨Nat.le_refl _, Nat.le_refl _⟩ (Nat.le_of_ble_eq_true rfl) ?_
          show E 0 0 81 [(0, .ref 169), (1, .int p), (2, .int q), (3, .int r)] [.int (nI k)] (y_mk n L (y_si (y_si (y_si (y_si (y_si D 169 0 0) 170 (78 + 3 * k) p) 170 (78 + 3 * k + 1) q) 170 (78 + 3 * k + 2) r) 170 6 (nI (k + 1))))
          refine r_ireturn hE dX11_story_81 rfl rfl (Nat.zero_le _) (Nat.zero_le _) ?_
          unfold M_story
          repeat first | rw [if_pos (by grind)] | rw [if_neg (by grind)]
          exact ⟨rfl, rfl⟩
        · refine r_iconst (v := 1) hE dX11_story_55 (by decide) ?_
          refine r_goto (tgt := 60) hE dX11_story_56 (by decide) ?_
          refine r_iconst (v := 2) hE dX11_story_60 (by decide) ?_
          refine t_invv (r := (some (.int 1))) (S2 := (y_mk n L (y_si (y_si D 169 0 0) 169 0 2))) hE [.int 1, .int 2] (c_throwsT hL) v_yX11_throwsIf m_X11_85 dX11_story_61 rfl (hL 169 (by decide)) (y_l_169 ((y_si D 169 0 0) 169)) rfl (by decide) ⟨Nat.le_refl _, Nat.le_refl _⟩ (Nat.le_of_ble_eq_true rfl) ?_
          show E 0 0 64 [(0, .ref 169), (1, .int p), (2, .int q), (3, .int r)] [.int 1] (y_mk n L (y_si (y_si D 169 0 0) 169 0 2))
          refine r_if_eq (tgt := 69) hE dX11_story_64 (by decide) (fun c64 => by first | exact absurd c64 (by decide) | exact absurd (by decide) c64) (fun _ => ?_)
          refine r_iconst (v := 0) hE dX11_story_67 (by decide) ?_
          refine r_ireturn hE dX11_story_68 rfl rfl (Nat.zero_le _) (Nat.zero_le _) ?_
          unfold M_story
          repeat first | rw [if_pos (by grind)] | rw [if_neg (by grind)]
          exact ⟨rfl, rfl⟩
      · refine r_iconst (v := 1) hE dX11_story_31 (by decide) ?_
        refine r_goto (tgt := 36) hE dX11_story_32 (by decide) ?_
        refine r_iconst (v := 1) hE dX11_story_36 (by decide) ?_
        refine t_invv (r := (some (.int 1))) (S2 := (y_mk n L (y_si (y_si D 169 0 0) 169 0 1))) hE [.int 1, .int 1] (c_throwsT hL) v_yX11_throwsIf m_X11_85 dX11_story_37 rfl (hL 169 (by decide)) (y_l_169 ((y_si D 169 0 0) 169)) rfl (by decide) ⟨Nat.le_refl _, Nat.le_refl _⟩ (Nat.le_of_ble_eq_true rfl) ?_
        show E 0 0 40 [(0, .ref 169), (1, .int p), (2, .int q), (3, .int r)] [.int 1] (y_mk n L (y_si (y_si D 169 0 0) 169 0 1))
        refine r_if_ne (tgt := 67) hE dX11_story_40 (by decide) (fun _ => ?_) (fun c40 => by first | exact absurd c40 (by decide) | exact absurd (by decide) c40)
        refine r_iconst (v := 0) hE dX11_story_67 (by decide) ?_
        refine r_ireturn hE dX11_story_68 rfl rfl (Nat.zero_le _) (Nat.zero_le _) ?_
        unfold M_story
        repeat first | rw [if_pos (by grind)] | rw [if_neg (by grind)]
        exact ⟨rfl, rfl⟩
/-- told: answer and state -/
def M_told (D : y_D) (k : Nat) (p q r : Int32) : Int32 × y_D := if ¬ (0 ≤ p ∧ p ≤ 7 ∧ 0 ≤ q ∧ q ≤ 7) then (0, y_si (y_si D 169 0 0) 169 0 1) else if p = q ∨ ¬ (0 ≤ r ∧ r ≤ 365) then (0, y_si (y_si D 169 0 0) 169 0 2) else if k = 20 then (0, y_si (y_si D 169 0 0) 169 0 3) else (nI k, y_si (y_si (y_si (y_si (y_si D 169 0 0) 170 (153 + 3 * k) p) 170 (153 + 3 * k + 1) q) 170 (153 + 3 * k + 2) r) 170 8 (nI (k + 1)))
theorem c_told {V : x_E} {n : Nat} {L : List Nat} {D : y_D} {p q r : Int32} {k : Nat} (hL : y_ok L) (hk : (D 170).1 8 = nI k) (hk8 : k ≤ 20) : x_Fn V yX11_told cX11_told 4 (some .int) 2 [.ref 169, .int p, .int q, .int r] (y_mk n L D) (some (.int ((M_told D k p q r).1))) (y_mk n L ((M_told D k p q r).2)) := by
  refine x_fn (by decide) (Nat.le_of_ble_eq_true rfl) (fun E hE => ?_)
  change E 0 0 0 [(0, .ref 169), (1, .int p), (2, .int q), (3, .int r)] [] (y_mk n L D)
  refine r_aload_n hE dX11_told_0 rfl ?_
  refine r_iconst (v := 0) hE dX11_told_1 (by decide) ?_
  refine t_puti hE f_X11_3 y_I_169_0 dX11_told_2 (hL 169 (by decide)) rfl rfl ?_
  refine r_aload_n hE dX11_told_5 rfl ?_
  refine r_iload_n hE dX11_told_6 rfl ?_
  refine r_iconst (v := 0) hE dX11_told_7 (by decide) ?_
  refine r_bipush (v := 7) hE dX11_told_8 (by decide) ?_
  refine t_invs (r := (some (.int (y_b (0 ≤ p ∧ p ≤ 7))))) (S2 := (y_mk n L (y_si D 169 0 0))) hE [.int p, .int 0, .int 7] (c_in) s_yX11_in m_X11_81 dX11_told_10 rfl (by decide) ⟨Nat.le_refl _, Nat.le_refl _⟩ (Nat.le_of_ble_eq_true rfl) ?_
  show E 0 0 13 [(0, .ref 169), (1, .int p), (2, .int q), (3, .int r)] [.int (y_b (0 ≤ p ∧ p ≤ 7)), .ref 169] (y_mk n L (y_si D 169 0 0))
  refine r_ifb_eq (tgt := 26) hE dX11_told_13 (by decide) (fun c13 => ?_) (fun c13 => ?_)
  · refine r_iconst (v := 1) hE dX11_told_26 (by decide) ?_
    refine r_goto (tgt := 31) hE dX11_told_27 (by decide) ?_
    refine r_iconst (v := 1) hE dX11_told_31 (by decide) ?_
    refine t_invv (r := (some (.int 1))) (S2 := (y_mk n L (y_si (y_si D 169 0 0) 169 0 1))) hE [.int 1, .int 1] (c_throwsT hL) v_yX11_throwsIf m_X11_85 dX11_told_32 rfl (hL 169 (by decide)) (y_l_169 ((y_si D 169 0 0) 169)) rfl (by decide) ⟨Nat.le_refl _, Nat.le_refl _⟩ (Nat.le_of_ble_eq_true rfl) ?_
    show E 0 0 35 [(0, .ref 169), (1, .int p), (2, .int q), (3, .int r)] [.int 1] (y_mk n L (y_si (y_si D 169 0 0) 169 0 1))
    refine r_if_ne (tgt := 92) hE dX11_told_35 (by decide) (fun _ => ?_) (fun c35 => by first | exact absurd c35 (by decide) | exact absurd (by decide) c35)
    refine r_iconst (v := 0) hE dX11_told_92 (by decide) ?_
    refine r_ireturn hE dX11_told_93 rfl rfl (Nat.zero_le _) (Nat.zero_le _) ?_
    unfold M_told
    repeat first | rw [if_pos (by grind)] | rw [if_neg (by grind)]
    exact ⟨rfl, rfl⟩
  · refine r_iload_n hE dX11_told_16 rfl ?_
    refine r_iconst (v := 0) hE dX11_told_17 (by decide) ?_
    refine r_bipush (v := 7) hE dX11_told_18 (by decide) ?_
    refine t_invs (r := (some (.int (y_b (0 ≤ q ∧ q ≤ 7))))) (S2 := (y_mk n L (y_si D 169 0 0))) hE [.int q, .int 0, .int 7] (c_in) s_yX11_in m_X11_81 dX11_told_20 rfl (by decide) ⟨Nat.le_refl _, Nat.le_refl _⟩ (Nat.le_of_ble_eq_true rfl) ?_
    show E 0 0 23 [(0, .ref 169), (1, .int p), (2, .int q), (3, .int r)] [.int (y_b (0 ≤ q ∧ q ≤ 7)), .ref 169] (y_mk n L (y_si D 169 0 0))
    refine r_ifb_ne (tgt := 30) hE dX11_told_23 (by decide) (fun c23 => ?_) (fun c23 => ?_)
    · refine r_iconst (v := 0) hE dX11_told_30 (by decide) ?_
      refine r_iconst (v := 1) hE dX11_told_31 (by decide) ?_
      refine t_invv (r := (some (.int 0))) (S2 := (y_mk n L (y_si D 169 0 0))) hE [.int 0, .int 1] (c_throwsF) v_yX11_throwsIf m_X11_85 dX11_told_32 rfl (hL 169 (by decide)) (y_l_169 ((y_si D 169 0 0) 169)) rfl (by decide) ⟨Nat.le_refl _, Nat.le_refl _⟩ (Nat.le_of_ble_eq_true rfl) ?_
      show E 0 0 35 [(0, .ref 169), (1, .int p), (2, .int q), (3, .int r)] [.int 0] (y_mk n L (y_si D 169 0 0))
      refine r_if_ne (tgt := 92) hE dX11_told_35 (by decide) (fun c35 => by first | exact absurd c35 (by decide) | exact absurd (by decide) c35) (fun _ => ?_)
      refine r_aload_n hE dX11_told_38 rfl ?_
      refine r_iload_n hE dX11_told_39 rfl ?_
      refine r_iload_n hE dX11_told_40 rfl ?_
      refine r_icmp_eq (tgt := 55) hE dX11_told_41 (by decide) (fun c41 => ?_) (fun c41 => ?_)
      · refine r_iconst (v := 1) hE dX11_told_55 (by decide) ?_
        refine r_goto (tgt := 60) hE dX11_told_56 (by decide) ?_
        refine r_iconst (v := 2) hE dX11_told_60 (by decide) ?_
        refine t_invv (r := (some (.int 1))) (S2 := (y_mk n L (y_si (y_si D 169 0 0) 169 0 2))) hE [.int 1, .int 2] (c_throwsT hL) v_yX11_throwsIf m_X11_85 dX11_told_61 rfl (hL 169 (by decide)) (y_l_169 ((y_si D 169 0 0) 169)) rfl (by decide) ⟨Nat.le_refl _, Nat.le_refl _⟩ (Nat.le_of_ble_eq_true rfl) ?_
        show E 0 0 64 [(0, .ref 169), (1, .int p), (2, .int q), (3, .int r)] [.int 1] (y_mk n L (y_si (y_si D 169 0 0) 169 0 2))
        refine r_if_ne (tgt := 92) hE dX11_told_64 (by decide) (fun _ => ?_) (fun c64 => by first | exact absurd c64 (by decide) | exact absurd (by decide) c64)
        refine r_iconst (v := 0) hE dX11_told_92 (by decide) ?_
        refine r_ireturn hE dX11_told_93 rfl rfl (Nat.zero_le _) (Nat.zero_le _) ?_
        unfold M_told
        repeat first | rw [if_pos (by grind)] | rw [if_neg (by grind)]
        exact ⟨rfl, rfl⟩
      · refine r_iload_n hE dX11_told_44 rfl ?_
        refine r_iconst (v := 0) hE dX11_told_45 (by decide) ?_
        refine r_sipush (v := 365) hE dX11_told_46 (by decide) ?_
        refine t_invs (r := (some (.int (y_b (0 ≤ r ∧ r ≤ 365))))) (S2 := (y_mk n L (y_si D 169 0 0))) hE [.int r, .int 0, .int 365] (c_in) s_yX11_in m_X11_81 dX11_told_49 rfl (by decide) ⟨Nat.le_refl _, Nat.le_refl _⟩ (Nat.le_of_ble_eq_true rfl) ?_
        show E 0 0 52 [(0, .ref 169), (1, .int p), (2, .int q), (3, .int r)] [.int (y_b (0 ≤ r ∧ r ≤ 365)), .ref 169] (y_mk n L (y_si D 169 0 0))
        refine r_ifb_ne (tgt := 59) hE dX11_told_52 (by decide) (fun c52 => ?_) (fun c52 => ?_)
        · refine r_iconst (v := 0) hE dX11_told_59 (by decide) ?_
          refine r_iconst (v := 2) hE dX11_told_60 (by decide) ?_
          refine t_invv (r := (some (.int 0))) (S2 := (y_mk n L (y_si D 169 0 0))) hE [.int 0, .int 2] (c_throwsF) v_yX11_throwsIf m_X11_85 dX11_told_61 rfl (hL 169 (by decide)) (y_l_169 ((y_si D 169 0 0) 169)) rfl (by decide) ⟨Nat.le_refl _, Nat.le_refl _⟩ (Nat.le_of_ble_eq_true rfl) ?_
          show E 0 0 64 [(0, .ref 169), (1, .int p), (2, .int q), (3, .int r)] [.int 0] (y_mk n L (y_si D 169 0 0))
          refine r_if_ne (tgt := 92) hE dX11_told_64 (by decide) (fun c64 => by first | exact absurd c64 (by decide) | exact absurd (by decide) c64) (fun _ => ?_)
          refine r_aload_n hE dX11_told_67 rfl ?_
          refine r_aload_n hE dX11_told_68 rfl ?_
          refine t_getr hE f_X11_13 y_R_169_1 dX11_told_69 (hL 169 (by decide)) ?_
          refine r_bipush (v := 8) hE dX11_told_72 (by decide) ?_
          refine t_ialdN (e := 8) hE y_A_170 dX11_told_74 (hL 170 (by decide)) (by omega) (by decide) ?_
          refine r_top (y := (nI k)) hk ?_
          refine r_bipush (v := 20) hE dX11_told_75 (by decide) ?_
          refine r_icmp_neN (a := k) (b := 20) (tgt := 84) hE dX11_told_77 (by decide) (by omega) (by decide) (fun c77 => ?_) (fun c77 => ?_)
          · refine r_iconst (v := 0) hE dX11_told_84 (by decide) ?_
            refine r_iconst (v := 3) hE dX11_told_85 (by decide) ?_
            refine t_invv (r := (some (.int 0))) (S2 := (y_mk n L (y_si D 169 0 0))) hE [.int 0, .int 3] (c_throwsF) v_yX11_throwsIf m_X11_85 dX11_told_86 rfl (hL 169 (by decide)) (y_l_169 ((y_si D 169 0 0) 169)) rfl (by decide) ⟨Nat.le_refl _, Nat.le_refl _⟩ (Nat.le_of_ble_eq_true rfl) ?_
            show E 0 0 89 [(0, .ref 169), (1, .int p), (2, .int q), (3, .int r)] [.int 0] (y_mk n L (y_si D 169 0 0))
            refine r_if_eq (tgt := 94) hE dX11_told_89 (by decide) (fun _ => ?_) (fun c89 => by first | exact absurd c89 (by decide) | exact absurd (by decide) c89)
            refine r_aload_n hE dX11_told_94 rfl ?_
            refine r_bipush (v := 8) hE dX11_told_95 (by decide) ?_
            refine r_sipush (v := 153) hE dX11_told_97 (by decide) ?_
            refine r_iconst (v := 3) hE dX11_told_100 (by decide) ?_
            refine r_iload_n hE dX11_told_101 rfl ?_
            refine r_iload_n hE dX11_told_102 rfl ?_
            refine r_iload_n hE dX11_told_103 rfl ?_
            refine t_invv (r := (some (.int (nI k)))) (S2 := (y_mk n L (y_si (y_si (y_si (y_si (y_si D 169 0 0) 170 (153 + 3 * k) p) 170 (153 + 3 * k + 1) q) 170 (153 + 3 * k + 2) r) 170 8 (nI (k + 1))))) hE [.int 8, .int 153, .int 3, .int p, .int q, .int r] (c_puts3 (c := 8) (b := 153) (k := k) hL (by simpa [y_si] using hk) (by omega) (by decide) (by decide)) v_yX11_puts m_X11_89 dX11_told_104 rfl (hL 169 (by decide)) (y_l_169 ((y_si D 169 0 0) 169)) rfl (by decide) ⟨Nat.le_refl _, Nat.le_refl _⟩ (Nat.le_of_ble_eq_true rfl) ?_
            show E 0 0 107 [(0, .ref 169), (1, .int p), (2, .int q), (3, .int r)] [.int (nI k)] (y_mk n L (y_si (y_si (y_si (y_si (y_si D 169 0 0) 170 (153 + 3 * k) p) 170 (153 + 3 * k + 1) q) 170 (153 + 3 * k + 2) r) 170 8 (nI (k + 1))))
            refine r_ireturn hE dX11_told_107 rfl rfl (Nat.zero_le _) (Nat.zero_le _) ?_
            unfold M_told
            repeat first | rw [if_pos (by grind)] | rw [if_neg (by grind)]
            exact ⟨rfl, rfl⟩
          · refine r_iconst (v := 1) hE dX11_told_80 (by decide) ?_
            refine r_goto (tgt := 85) hE dX11_told_81 (by decide) ?_
            refine r_iconst (v := 3) hE dX11_told_85 (by decide) ?_
            refine t_invv (r := (some (.int 1))) (S2 := (y_mk n L (y_si (y_si D 169 0 0) 169 0 3))) hE [.int 1, .int 3] (c_throwsT hL) v_yX11_throwsIf m_X11_85 dX11_told_86 rfl (hL 169 (by decide)) (y_l_169 ((y_si D 169 0 0) 169)) rfl (by decide) ⟨Nat.le_refl _, Nat.le_refl _⟩ (Nat.le_of_ble_eq_true rfl) ?_
            show E 0 0 89 [(0, .ref 169), (1, .int p), (2, .int q), (3, .int r)] [.int 1] (y_mk n L (y_si (y_si D 169 0 0) 169 0 3))
            refine r_if_eq (tgt := 94) hE dX11_told_89 (by decide) (fun c89 => by first | exact absurd c89 (by decide) | exact absurd (by decide) c89) (fun _ => ?_)
            refine r_iconst (v := 0) hE dX11_told_92 (by decide) ?_
            refine r_ireturn hE dX11_told_93 rfl rfl (Nat.zero_le _) (Nat.zero_le _) ?_
            unfold M_told
            repeat first | rw [if_pos (by grind)] | rw [if_neg (by grind)]
            exact ⟨rfl, rfl⟩
        · refine r_iconst (v := 1) hE dX11_told_55 (by decide) ?_
          refine r_goto (tgt := 60) hE dX11_told_56 (by decide) ?_
          refine r_iconst (v := 2) hE dX11_told_60 (by decide) ?_
          refine t_invv (r := (some (.int 1))) (S2 := (y_mk n L (y_si (y_si D 169 0 0) 169 0 2))) hE [.int 1, .int 2] (c_throwsT hL) v_yX11_throwsIf m_X11_85 dX11_told_61 rfl (hL 169 (by decide)) (y_l_169 ((y_si D 169 0 0) 169)) rfl (by decide) ⟨Nat.le_refl _, Nat.le_refl _⟩ (Nat.le_of_ble_eq_true rfl) ?_
          show E 0 0 64 [(0, .ref 169), (1, .int p), (2, .int q), (3, .int r)] [.int 1] (y_mk n L (y_si (y_si D 169 0 0) 169 0 2))
          refine r_if_ne (tgt := 92) hE dX11_told_64 (by decide) (fun _ => ?_) (fun c64 => by first | exact absurd c64 (by decide) | exact absurd (by decide) c64)
          refine r_iconst (v := 0) hE dX11_told_92 (by decide) ?_
          refine r_ireturn hE dX11_told_93 rfl rfl (Nat.zero_le _) (Nat.zero_le _) ?_
          unfold M_told
          repeat first | rw [if_pos (by grind)] | rw [if_neg (by grind)]
          exact ⟨rfl, rfl⟩
    · refine r_iconst (v := 1) hE dX11_told_26 (by decide) ?_
      refine r_goto (tgt := 31) hE dX11_told_27 (by decide) ?_
      refine r_iconst (v := 1) hE dX11_told_31 (by decide) ?_
      refine t_invv (r := (some (.int 1))) (S2 := (y_mk n L (y_si (y_si D 169 0 0) 169 0 1))) hE [.int 1, .int 1] (c_throwsT hL) v_yX11_throwsIf m_X11_85 dX11_told_32 rfl (hL 169 (by decide)) (y_l_169 ((y_si D 169 0 0) 169)) rfl (by decide) ⟨Nat.le_refl _, Nat.le_refl _⟩ (Nat.le_of_ble_eq_true rfl) ?_
      show E 0 0 35 [(0, .ref 169), (1, .int p), (2, .int q), (3, .int r)] [.int 1] (y_mk n L (y_si (y_si D 169 0 0) 169 0 1))
      refine r_if_ne (tgt := 92) hE dX11_told_35 (by decide) (fun _ => ?_) (fun c35 => by first | exact absurd c35 (by decide) | exact absurd (by decide) c35)
      refine r_iconst (v := 0) hE dX11_told_92 (by decide) ?_
      refine r_ireturn hE dX11_told_93 rfl rfl (Nat.zero_le _) (Nat.zero_le _) ?_
      unfold M_told
      repeat first | rw [if_pos (by grind)] | rw [if_neg (by grind)]
      exact ⟨rfl, rfl⟩
/-- night: answer and state -/
def M_night (D : y_D) (k kt kp : Nat) (p q r s t : Int32) : Int32 × y_D := if ¬ (0 ≤ p ∧ p ≤ (D 170).1 1 - 1) then (0, y_si (y_si D 169 0 0) 169 0 1) else if (¬ q &&& ((nI (2 ^ 8) - 1) ^^^ (-1)) = 0) ∨ (¬ r &&& ((nI (2 ^ kt) - 1) ^^^ (-1)) = 0) ∨ (¬ s &&& ((nI (2 ^ kp) - 1) ^^^ (-1)) = 0) ∨ ¬ t &&& (s ^^^ (-1)) = 0 then (0, y_si (y_si D 169 0 0) 169 0 2) else if k = 12 then (0, y_si (y_si D 169 0 0) 169 0 3) else (nI k, y_si (y_si (y_si (y_si (y_si (y_si (y_si D 169 0 0) 170 (93 + 5 * k) p) 170 (93 + 5 * k + 1) q) 170 (93 + 5 * k + 2) r) 170 (93 + 5 * k + 3) s) 170 (93 + 5 * k + 4) t) 170 7 (nI (k + 1)))
theorem c_night {V : x_E} {n : Nat} {L : List Nat} {D : y_D} {p q r s t : Int32} {k kt kp : Nat} (hL : y_ok L) (hk : (D 170).1 7 = nI k) (hk8 : k ≤ 12) (ht : (D 170).1 3 = nI kt) (hkt : kt ≤ 6) (hp : (D 170).1 5 = nI kp) (hkp : kp ≤ 4) : x_Fn V yX11_night cX11_night 8 (some .int) 2 [.ref 169, .int p, .int q, .int r, .int s, .int t] (y_mk n L D) (some (.int ((M_night D k kt kp p q r s t).1))) (y_mk n L ((M_night D k kt kp p q r s t).2)) := by
  refine x_fn (by decide) (Nat.le_of_ble_eq_true rfl) (fun E hE => ?_)
  change E 0 0 0 [(0, .ref 169), (1, .int p), (2, .int q), (3, .int r), (4, .int s), (5, .int t)] [] (y_mk n L D)
  refine r_aload_n hE dX11_night_0 rfl ?_
  refine r_iconst (v := 0) hE dX11_night_1 (by decide) ?_
  refine t_puti hE f_X11_3 y_I_169_0 dX11_night_2 (hL 169 (by decide)) rfl rfl ?_
  refine r_aload_n hE dX11_night_5 rfl ?_
  refine r_aload_n hE dX11_night_6 rfl ?_
  refine r_iload_n hE dX11_night_7 rfl ?_
  refine r_iconst (v := 1) hE dX11_night_8 (by decide) ?_
  refine t_invv (r := (some (.int (y_b (¬ (0 ≤ p ∧ p ≤ (D 170).1 1 - 1)))))) (S2 := (y_mk n L (y_si D 169 0 0))) hE [.int p, .int 1] (c_none (c := 1) hL (by decide)) v_yX11_none m_X11_262 dX11_night_9 rfl (hL 169 (by decide)) (y_l_169 ((y_si D 169 0 0) 169)) rfl (by decide) ⟨Nat.le_refl _, Nat.le_refl _⟩ (Nat.le_of_ble_eq_true rfl) ?_
  show E 0 0 12 [(0, .ref 169), (1, .int p), (2, .int q), (3, .int r), (4, .int s), (5, .int t)] [.int (y_b (¬ (0 ≤ p ∧ p ≤ (D 170).1 1 - 1))), .ref 169] (y_mk n L (y_si D 169 0 0))
  refine r_iconst (v := 1) hE dX11_night_12 (by decide) ?_
  refine t_invv (r := (some (.int (y_b (¬ (0 ≤ p ∧ p ≤ (D 170).1 1 - 1)))))) (S2 := (y_mk n L (if (¬ (0 ≤ p ∧ p ≤ (D 170).1 1 - 1)) then y_si (y_si D 169 0 0) 169 0 1 else y_si D 169 0 0))) hE [.int (y_b (¬ (0 ≤ p ∧ p ≤ (D 170).1 1 - 1))), .int 1] (c_throwsIf hL) v_yX11_throwsIf m_X11_85 dX11_night_13 rfl (hL 169 (by decide)) (y_l_169 ((y_si D 169 0 0) 169)) rfl (by decide) ⟨Nat.le_refl _, Nat.le_refl _⟩ (Nat.le_of_ble_eq_true rfl) ?_
  show E 0 0 16 [(0, .ref 169), (1, .int p), (2, .int q), (3, .int r), (4, .int s), (5, .int t)] [.int (y_b (¬ (0 ≤ p ∧ p ≤ (D 170).1 1 - 1)))] (y_mk n L (if (¬ (0 ≤ p ∧ p ≤ (D 170).1 1 - 1)) then y_si (y_si D 169 0 0) 169 0 1 else y_si D 169 0 0))
  refine r_ifb_eq (tgt := 21) hE dX11_night_16 (by decide) (fun c16 => ?_) (fun c16 => ?_)
  · rw [if_neg c16]
    refine r_aload_n hE dX11_night_21 rfl ?_
    refine r_iload_n hE dX11_night_22 rfl ?_
    refine r_bipush (v := 8) hE dX11_night_23 (by decide) ?_
    refine t_invv (r := (some (.int (y_b (¬ q &&& ((nI (2 ^ 8) - 1) ^^^ (-1)) = 0))))) (S2 := (y_mk n L (y_si D 169 0 0))) hE [.int q, .int 8] (c_hasOthers (by decide)) v_yX11_hasOthers m_X11_340 dX11_night_25 rfl (hL 169 (by decide)) (y_l_169 ((y_si D 169 0 0) 169)) rfl (by decide) ⟨Nat.le_refl _, Nat.le_refl _⟩ (Nat.le_of_ble_eq_true rfl) ?_
    show E 0 0 28 [(0, .ref 169), (1, .int p), (2, .int q), (3, .int r), (4, .int s), (5, .int t)] [.int (y_b (¬ q &&& ((nI (2 ^ 8) - 1) ^^^ (-1)) = 0))] (y_mk n L (y_si D 169 0 0))
    refine r_ifb_ne (tgt := 70) hE dX11_night_28 (by decide) (fun c28 => ?_) (fun c28 => ?_)
    · refine r_iconst (v := 1) hE dX11_night_70 (by decide) ?_
      refine r_goto (tgt := 75) hE dX11_night_71 (by decide) ?_
      refine r_istore (ls2 := [(0, .ref 169), (1, .int p), (2, .int q), (3, .int r), (4, .int s), (5, .int t), (6, .int 1)]) hE dX11_night_75 (by decide) rfl ?_
      refine r_aload_n hE dX11_night_77 rfl ?_
      refine r_iload hE dX11_night_78 rfl ?_
      refine r_iconst (v := 2) hE dX11_night_80 (by decide) ?_
      refine t_invv (r := (some (.int 1))) (S2 := (y_mk n L (y_si (y_si D 169 0 0) 169 0 2))) hE [.int 1, .int 2] (c_throwsT hL) v_yX11_throwsIf m_X11_85 dX11_night_81 rfl (hL 169 (by decide)) (y_l_169 ((y_si D 169 0 0) 169)) rfl (by decide) ⟨Nat.le_refl _, Nat.le_refl _⟩ (Nat.le_of_ble_eq_true rfl) ?_
      show E 0 0 84 [(0, .ref 169), (1, .int p), (2, .int q), (3, .int r), (4, .int s), (5, .int t), (6, .int 1)] [.int 1] (y_mk n L (y_si (y_si D 169 0 0) 169 0 2))
      refine r_if_ne (tgt := 112) hE dX11_night_84 (by decide) (fun _ => ?_) (fun c84 => by first | exact absurd c84 (by decide) | exact absurd (by decide) c84)
      refine r_iconst (v := 0) hE dX11_night_112 (by decide) ?_
      refine r_ireturn hE dX11_night_113 rfl rfl (Nat.zero_le _) (Nat.zero_le _) ?_
      unfold M_night
      repeat first | rw [if_pos (by grind)] | rw [if_neg (by grind)]
      exact ⟨rfl, rfl⟩
    · refine r_aload_n hE dX11_night_31 rfl ?_
      refine r_iload_n hE dX11_night_32 rfl ?_
      refine r_aload_n hE dX11_night_33 rfl ?_
      refine t_getr hE f_X11_13 y_R_169_1 dX11_night_34 (hL 169 (by decide)) ?_
      refine r_iconst (v := 3) hE dX11_night_37 (by decide) ?_
      refine t_ialdN (e := 3) hE y_A_170 dX11_night_38 (hL 170 (by decide)) (by omega) (by decide) ?_
      refine r_top (y := (nI kt)) ht ?_
      refine t_invv (r := (some (.int (y_b (¬ r &&& ((nI (2 ^ kt) - 1) ^^^ (-1)) = 0))))) (S2 := (y_mk n L (y_si D 169 0 0))) hE [.int r, .int (nI kt)] (c_hasOthers (by omega)) v_yX11_hasOthers m_X11_340 dX11_night_39 rfl (hL 169 (by decide)) (y_l_169 ((y_si D 169 0 0) 169)) rfl (by decide) ⟨Nat.le_refl _, Nat.le_refl _⟩ (Nat.le_of_ble_eq_true rfl) ?_
      show E 0 0 42 [(0, .ref 169), (1, .int p), (2, .int q), (3, .int r), (4, .int s), (5, .int t)] [.int (y_b (¬ r &&& ((nI (2 ^ kt) - 1) ^^^ (-1)) = 0))] (y_mk n L (y_si D 169 0 0))
      refine r_ifb_ne (tgt := 70) hE dX11_night_42 (by decide) (fun c42 => ?_) (fun c42 => ?_)
      · refine r_iconst (v := 1) hE dX11_night_70 (by decide) ?_
        refine r_goto (tgt := 75) hE dX11_night_71 (by decide) ?_
        refine r_istore (ls2 := [(0, .ref 169), (1, .int p), (2, .int q), (3, .int r), (4, .int s), (5, .int t), (6, .int 1)]) hE dX11_night_75 (by decide) rfl ?_
        refine r_aload_n hE dX11_night_77 rfl ?_
        refine r_iload hE dX11_night_78 rfl ?_
        refine r_iconst (v := 2) hE dX11_night_80 (by decide) ?_
        refine t_invv (r := (some (.int 1))) (S2 := (y_mk n L (y_si (y_si D 169 0 0) 169 0 2))) hE [.int 1, .int 2] (c_throwsT hL) v_yX11_throwsIf m_X11_85 dX11_night_81 rfl (hL 169 (by decide)) (y_l_169 ((y_si D 169 0 0) 169)) rfl (by decide) ⟨Nat.le_refl _, Nat.le_refl _⟩ (Nat.le_of_ble_eq_true rfl) ?_
        show E 0 0 84 [(0, .ref 169), (1, .int p), (2, .int q), (3, .int r), (4, .int s), (5, .int t), (6, .int 1)] [.int 1] (y_mk n L (y_si (y_si D 169 0 0) 169 0 2))
        refine r_if_ne (tgt := 112) hE dX11_night_84 (by decide) (fun _ => ?_) (fun c84 => by first | exact absurd c84 (by decide) | exact absurd (by decide) c84)
        refine r_iconst (v := 0) hE dX11_night_112 (by decide) ?_
        refine r_ireturn hE dX11_night_113 rfl rfl (Nat.zero_le _) (Nat.zero_le _) ?_
        unfold M_night
        repeat first | rw [if_pos (by grind)] | rw [if_neg (by grind)]
        exact ⟨rfl, rfl⟩
      · refine r_aload_n hE dX11_night_45 rfl ?_
        refine r_iload hE dX11_night_46 rfl ?_
        refine r_aload_n hE dX11_night_48 rfl ?_
        refine t_getr hE f_X11_13 y_R_169_1 dX11_night_49 (hL 169 (by decide)) ?_
        refine r_iconst (v := 5) hE dX11_night_52 (by decide) ?_
        refine t_ialdN (e := 5) hE y_A_170 dX11_night_53 (hL 170 (by decide)) (by omega) (by decide) ?_
        refine r_top (y := (nI kp)) hp ?_
        refine t_invv (r := (some (.int (y_b (¬ s &&& ((nI (2 ^ kp) - 1) ^^^ (-1)) = 0))))) (S2 := (y_mk n L (y_si D 169 0 0))) hE [.int s, .int (nI kp)] (c_hasOthers (by omega)) v_yX11_hasOthers m_X11_340 dX11_night_54 rfl (hL 169 (by decide)) (y_l_169 ((y_si D 169 0 0) 169)) rfl (by decide) ⟨Nat.le_refl _, Nat.le_refl _⟩ (Nat.le_of_ble_eq_true rfl) ?_
        show E 0 0 57 [(0, .ref 169), (1, .int p), (2, .int q), (3, .int r), (4, .int s), (5, .int t)] [.int (y_b (¬ s &&& ((nI (2 ^ kp) - 1) ^^^ (-1)) = 0))] (y_mk n L (y_si D 169 0 0))
        refine r_ifb_ne (tgt := 70) hE dX11_night_57 (by decide) (fun c57 => ?_) (fun c57 => ?_)
        · refine r_iconst (v := 1) hE dX11_night_70 (by decide) ?_
          refine r_goto (tgt := 75) hE dX11_night_71 (by decide) ?_
          refine r_istore (ls2 := [(0, .ref 169), (1, .int p), (2, .int q), (3, .int r), (4, .int s), (5, .int t), (6, .int 1)]) hE dX11_night_75 (by decide) rfl ?_
          refine r_aload_n hE dX11_night_77 rfl ?_
          refine r_iload hE dX11_night_78 rfl ?_
          refine r_iconst (v := 2) hE dX11_night_80 (by decide) ?_
          refine t_invv (r := (some (.int 1))) (S2 := (y_mk n L (y_si (y_si D 169 0 0) 169 0 2))) hE [.int 1, .int 2] (c_throwsT hL) v_yX11_throwsIf m_X11_85 dX11_night_81 rfl (hL 169 (by decide)) (y_l_169 ((y_si D 169 0 0) 169)) rfl (by decide) ⟨Nat.le_refl _, Nat.le_refl _⟩ (Nat.le_of_ble_eq_true rfl) ?_
          show E 0 0 84 [(0, .ref 169), (1, .int p), (2, .int q), (3, .int r), (4, .int s), (5, .int t), (6, .int 1)] [.int 1] (y_mk n L (y_si (y_si D 169 0 0) 169 0 2))
          refine r_if_ne (tgt := 112) hE dX11_night_84 (by decide) (fun _ => ?_) (fun c84 => by first | exact absurd c84 (by decide) | exact absurd (by decide) c84)
          refine r_iconst (v := 0) hE dX11_night_112 (by decide) ?_
          refine r_ireturn hE dX11_night_113 rfl rfl (Nat.zero_le _) (Nat.zero_le _) ?_
          unfold M_night
          repeat first | rw [if_pos (by grind)] | rw [if_neg (by grind)]
          exact ⟨rfl, rfl⟩
        · refine r_iload hE dX11_night_60 rfl ?_
          refine r_iload hE dX11_night_62 rfl ?_
          refine r_iconst (v := (-1)) hE dX11_night_64 (by decide) ?_
          refine r_ixor hE dX11_night_65 ?_
          refine r_iand hE dX11_night_66 ?_
          refine r_if_eq (tgt := 74) hE dX11_night_67 (by decide) (fun c67 => ?_) (fun c67 => ?_)
          · refine r_iconst (v := 0) hE dX11_night_74 (by decide) ?_
            refine r_istore (ls2 := [(0, .ref 169), (1, .int p), (2, .int q), (3, .int r), (4, .int s), (5, .int t), (6, .int 0)]) hE dX11_night_75 (by decide) rfl ?_
            refine r_aload_n hE dX11_night_77 rfl ?_
            refine r_iload hE dX11_night_78 rfl ?_
            refine r_iconst (v := 2) hE dX11_night_80 (by decide) ?_
            refine t_invv (r := (some (.int 0))) (S2 := (y_mk n L (y_si D 169 0 0))) hE [.int 0, .int 2] (c_throwsF) v_yX11_throwsIf m_X11_85 dX11_night_81 rfl (hL 169 (by decide)) (y_l_169 ((y_si D 169 0 0) 169)) rfl (by decide) ⟨Nat.le_refl _, Nat.le_refl _⟩ (Nat.le_of_ble_eq_true rfl) ?_
            show E 0 0 84 [(0, .ref 169), (1, .int p), (2, .int q), (3, .int r), (4, .int s), (5, .int t), (6, .int 0)] [.int 0] (y_mk n L (y_si D 169 0 0))
            refine r_if_ne (tgt := 112) hE dX11_night_84 (by decide) (fun c84 => by first | exact absurd c84 (by decide) | exact absurd (by decide) c84) (fun _ => ?_)
            refine r_aload_n hE dX11_night_87 rfl ?_
            refine r_aload_n hE dX11_night_88 rfl ?_
            refine t_getr hE f_X11_13 y_R_169_1 dX11_night_89 (hL 169 (by decide)) ?_
            refine r_bipush (v := 7) hE dX11_night_92 (by decide) ?_
            refine t_ialdN (e := 7) hE y_A_170 dX11_night_94 (hL 170 (by decide)) (by omega) (by decide) ?_
            refine r_top (y := (nI k)) hk ?_
            refine r_bipush (v := 12) hE dX11_night_95 (by decide) ?_
            refine r_icmp_neN (a := k) (b := 12) (tgt := 104) hE dX11_night_97 (by decide) (by omega) (by decide) (fun c97 => ?_) (fun c97 => ?_)
            · refine r_iconst (v := 0) hE dX11_night_104 (by decide) ?_
              refine r_iconst (v := 3) hE dX11_night_105 (by decide) ?_
              refine t_invv (r := (some (.int 0))) (S2 := (y_mk n L (y_si D 169 0 0))) hE [.int 0, .int 3] (c_throwsF) v_yX11_throwsIf m_X11_85 dX11_night_106 rfl (hL 169 (by decide)) (y_l_169 ((y_si D 169 0 0) 169)) rfl (by decide) ⟨Nat.le_refl _, Nat.le_refl _⟩ (Nat.le_of_ble_eq_true rfl) ?_
              show E 0 0 109 [(0, .ref 169), (1, .int p), (2, .int q), (3, .int r), (4, .int s), (5, .int t), (6, .int 0)] [.int 0] (y_mk n L (y_si D 169 0 0))
              refine r_if_eq (tgt := 114) hE dX11_night_109 (by decide) (fun _ => ?_) (fun c109 => by first | exact absurd c109 (by decide) | exact absurd (by decide) c109)
              refine r_bipush (v := 93) hE dX11_night_114 (by decide) ?_
              refine r_iconst (v := 5) hE dX11_night_116 (by decide) ?_
              refine r_aload_n hE dX11_night_117 rfl ?_
              refine t_getr hE f_X11_13 y_R_169_1 dX11_night_118 (hL 169 (by decide)) ?_
              refine r_bipush (v := 7) hE dX11_night_121 (by decide) ?_
              refine t_ialdN (e := 7) hE y_A_170 dX11_night_123 (hL 170 (by decide)) (by omega) (by decide) ?_
              refine r_top (y := (nI k)) hk ?_
              refine r_imulN (a := 5) (b := k) hE dX11_night_124 ?_
              refine r_iaddN (a := 93) (b := 5 * k) hE dX11_night_125 ?_
              refine r_istore (ls2 := [(0, .ref 169), (1, .int p), (2, .int q), (3, .int r), (4, .int s), (5, .int t), (6, .int 0), (7, .int (nI (93 + (5 * k))))]) hE dX11_night_126 (by decide) rfl ?_
              refine r_aload_n hE dX11_night_128 rfl ?_
              refine t_getr hE f_X11_13 y_R_169_1 dX11_night_129 (hL 169 (by decide)) ?_
              refine r_iload hE dX11_night_132 rfl ?_
              refine r_iload_n hE dX11_night_134 rfl ?_
              refine t_iastN (e := 93 + (5 * k)) hE y_A_170 dX11_night_135 (hL 170 (by decide)) (by omega) (by decide) ?_
              refine r_aload_n hE dX11_night_136 rfl ?_
              refine t_getr hE f_X11_13 y_R_169_1 dX11_night_137 (hL 169 (by decide)) ?_
              refine r_iload hE dX11_night_140 rfl ?_
              refine r_iconst (v := 1) hE dX11_night_142 (by decide) ?_
              refine r_iaddN (a := 93 + (5 * k)) (b := 1) hE dX11_night_143 ?_
              refine r_iload_n hE dX11_night_144 rfl ?_
              refine t_iastN (e := (93 + (5 * k)) + 1) hE y_A_170 dX11_night_145 (hL 170 (by decide)) (by omega) (by decide) ?_
              refine r_aload_n hE dX11_night_146 rfl ?_
              refine t_getr hE f_X11_13 y_R_169_1 dX11_night_147 (hL 169 (by decide)) ?_
              refine r_iload hE dX11_night_150 rfl ?_
              refine r_iconst (v := 2) hE dX11_night_152 (by decide) ?_
              refine r_iaddN (a := 93 + (5 * k)) (b := 2) hE dX11_night_153 ?_
              refine r_iload_n hE dX11_night_154 rfl ?_
              refine t_iastN (e := (93 + (5 * k)) + 2) hE y_A_170 dX11_night_155 (hL 170 (by decide)) (by omega) (by decide) ?_
              refine r_aload_n hE dX11_night_156 rfl ?_
              refine t_getr hE f_X11_13 y_R_169_1 dX11_night_157 (hL 169 (by decide)) ?_
              refine r_iload hE dX11_night_160 rfl ?_
              refine r_iconst (v := 3) hE dX11_night_162 (by decide) ?_
              refine r_iaddN (a := 93 + (5 * k)) (b := 3) hE dX11_night_163 ?_
              refine r_iload hE dX11_night_164 rfl ?_
              refine t_iastN (e := (93 + (5 * k)) + 3) hE y_A_170 dX11_night_166 (hL 170 (by decide)) (by omega) (by decide) ?_
              refine r_aload_n hE dX11_night_167 rfl ?_
              refine t_getr hE f_X11_13 y_R_169_1 dX11_night_168 (hL 169 (by decide)) ?_
              refine r_iload hE dX11_night_171 rfl ?_
              refine r_iconst (v := 4) hE dX11_night_173 (by decide) ?_
              refine r_iaddN (a := 93 + (5 * k)) (b := 4) hE dX11_night_174 ?_
              refine r_iload hE dX11_night_175 rfl ?_
              refine t_iastN (e := (93 + (5 * k)) + 4) hE y_A_170 dX11_night_177 (hL 170 (by decide)) (by omega) (by decide) ?_
              refine r_aload_n hE dX11_night_178 rfl ?_
              refine t_getr hE f_X11_13 y_R_169_1 dX11_night_179 (hL 169 (by decide)) ?_
              refine r_bipush (v := 7) hE dX11_night_182 (by decide) ?_
              refine r_dup2 hE dX11_night_184 rfl rfl ?_
              refine t_ialdN (e := 7) hE y_A_170 dX11_night_185 (hL 170 (by decide)) (by omega) (by decide) ?_
              refine r_top (y := (nI k)) (by simp [y_si, upd, hk, show 7 ≠ 93 + 5 * k by omega, show 7 ≠ 93 + 5 * k + 1 by omega, show 7 ≠ 93 + 5 * k + 2 by omega, show 7 ≠ 93 + 5 * k + 3 by omega, show 7 ≠ 93 + 5 * k + 4 by omega]) ?_
              refine r_iconst (v := 1) hE dX11_night_186 (by decide) ?_
              refine r_iaddN (a := k) (b := 1) hE dX11_night_187 ?_
              refine t_iastN (e := 7) hE y_A_170 dX11_night_188 (hL 170 (by decide)) (by omega) (by decide) ?_
              refine r_aload_n hE dX11_night_189 rfl ?_
              refine t_getr hE f_X11_13 y_R_169_1 dX11_night_190 (hL 169 (by decide)) ?_
              refine r_bipush (v := 7) hE dX11_night_193 (by decide) ?_
              refine t_ialdN (e := 7) hE y_A_170 dX11_night_195 (hL 170 (by decide)) (by omega) (by decide) ?_
              refine r_top (y := (nI (k + 1))) (by simp [y_si, upd]) ?_
              refine r_iconst (v := 1) hE dX11_night_196 (by decide) ?_
              refine r_isubN (a := k + 1) (b := 1) hE dX11_night_197 (by omega) ?_
              refine r_ireturn hE dX11_night_198 rfl rfl (Nat.zero_le _) (Nat.zero_le _) ?_
              unfold M_night
              repeat first | rw [if_pos (by grind)] | rw [if_neg (by grind)]
              exact ⟨rfl, rfl⟩
            · refine r_iconst (v := 1) hE dX11_night_100 (by decide) ?_
              refine r_goto (tgt := 105) hE dX11_night_101 (by decide) ?_
              refine r_iconst (v := 3) hE dX11_night_105 (by decide) ?_
              refine t_invv (r := (some (.int 1))) (S2 := (y_mk n L (y_si (y_si D 169 0 0) 169 0 3))) hE [.int 1, .int 3] (c_throwsT hL) v_yX11_throwsIf m_X11_85 dX11_night_106 rfl (hL 169 (by decide)) (y_l_169 ((y_si D 169 0 0) 169)) rfl (by decide) ⟨Nat.le_refl _, Nat.le_refl _⟩ (Nat.le_of_ble_eq_true rfl) ?_
              show E 0 0 109 [(0, .ref 169), (1, .int p), (2, .int q), (3, .int r), (4, .int s), (5, .int t), (6, .int 0)] [.int 1] (y_mk n L (y_si (y_si D 169 0 0) 169 0 3))
              refine r_if_eq (tgt := 114) hE dX11_night_109 (by decide) (fun c109 => by first | exact absurd c109 (by decide) | exact absurd (by decide) c109) (fun _ => ?_)
              refine r_iconst (v := 0) hE dX11_night_112 (by decide) ?_
              refine r_ireturn hE dX11_night_113 rfl rfl (Nat.zero_le _) (Nat.zero_le _) ?_
              unfold M_night
              repeat first | rw [if_pos (by grind)] | rw [if_neg (by grind)]
              exact ⟨rfl, rfl⟩
          · refine r_iconst (v := 1) hE dX11_night_70 (by decide) ?_
            refine r_goto (tgt := 75) hE dX11_night_71 (by decide) ?_
            refine r_istore (ls2 := [(0, .ref 169), (1, .int p), (2, .int q), (3, .int r), (4, .int s), (5, .int t), (6, .int 1)]) hE dX11_night_75 (by decide) rfl ?_
            refine r_aload_n hE dX11_night_77 rfl ?_
            refine r_iload hE dX11_night_78 rfl ?_
            refine r_iconst (v := 2) hE dX11_night_80 (by decide) ?_
            refine t_invv (r := (some (.int 1))) (S2 := (y_mk n L (y_si (y_si D 169 0 0) 169 0 2))) hE [.int 1, .int 2] (c_throwsT hL) v_yX11_throwsIf m_X11_85 dX11_night_81 rfl (hL 169 (by decide)) (y_l_169 ((y_si D 169 0 0) 169)) rfl (by decide) ⟨Nat.le_refl _, Nat.le_refl _⟩ (Nat.le_of_ble_eq_true rfl) ?_
            show E 0 0 84 [(0, .ref 169), (1, .int p), (2, .int q), (3, .int r), (4, .int s), (5, .int t), (6, .int 1)] [.int 1] (y_mk n L (y_si (y_si D 169 0 0) 169 0 2))
            refine r_if_ne (tgt := 112) hE dX11_night_84 (by decide) (fun _ => ?_) (fun c84 => by first | exact absurd c84 (by decide) | exact absurd (by decide) c84)
            refine r_iconst (v := 0) hE dX11_night_112 (by decide) ?_
            refine r_ireturn hE dX11_night_113 rfl rfl (Nat.zero_le _) (Nat.zero_le _) ?_
            unfold M_night
            repeat first | rw [if_pos (by grind)] | rw [if_neg (by grind)]
            exact ⟨rfl, rfl⟩
  · rw [if_pos c16]
    refine r_iconst (v := 0) hE dX11_night_19 (by decide) ?_
    refine r_ireturn hE dX11_night_20 rfl rfl (Nat.zero_le _) (Nat.zero_le _) ?_
    unfold M_night
    repeat first | rw [if_pos (by grind)] | rw [if_neg (by grind)]
    exact ⟨rfl, rfl⟩
/-- knot: answer and state -/
def M_knot (D : y_D) (k : Nat) (p q r s : Int32) : Int32 × y_D := if ¬ ((1 ≤ p ∧ p ≤ 99) ∧ (1 ≤ q ∧ q ≤ 99) ∧ (0 ≤ r ∧ r ≤ 50) ∧ (0 ≤ s ∧ s ≤ 50)) then (0, y_si (y_si D 169 0 0) 169 0 1) else if k = 6 then (0, y_si (y_si D 169 0 0) 169 0 2) else (nI k, y_si (y_si (y_si (y_si (y_si (y_si D 169 0 0) 170 (213 + 4 * k) p) 170 (213 + 4 * k + 1) q) 170 (213 + 4 * k + 2) r) 170 (213 + 4 * k + 3) s) 170 9 (nI (k + 1)))
theorem c_knot {V : x_E} {n : Nat} {L : List Nat} {D : y_D} {p q r s : Int32} {k : Nat} (hL : y_ok L) (hk : (D 170).1 9 = nI k) (hk8 : k ≤ 6) : x_Fn V yX11_knot cX11_knot 6 (some .int) 2 [.ref 169, .int p, .int q, .int r, .int s] (y_mk n L D) (some (.int ((M_knot D k p q r s).1))) (y_mk n L ((M_knot D k p q r s).2)) := by
  refine x_fn (by decide) (Nat.le_of_ble_eq_true rfl) (fun E hE => ?_)
  change E 0 0 0 [(0, .ref 169), (1, .int p), (2, .int q), (3, .int r), (4, .int s)] [] (y_mk n L D)
  refine r_aload_n hE dX11_knot_0 rfl ?_
  refine r_iconst (v := 0) hE dX11_knot_1 (by decide) ?_
  refine t_puti hE f_X11_3 y_I_169_0 dX11_knot_2 (hL 169 (by decide)) rfl rfl ?_
  refine r_aload_n hE dX11_knot_5 rfl ?_
  refine r_iload_n hE dX11_knot_6 rfl ?_
  refine r_iconst (v := 1) hE dX11_knot_7 (by decide) ?_
  refine r_bipush (v := 99) hE dX11_knot_8 (by decide) ?_
  refine t_invs (r := (some (.int (y_b (1 ≤ p ∧ p ≤ 99))))) (S2 := (y_mk n L (y_si D 169 0 0))) hE [.int p, .int 1, .int 99] (c_in) s_yX11_in m_X11_81 dX11_knot_10 rfl (by decide) ⟨Nat.le_refl _, Nat.le_refl _⟩ (Nat.le_of_ble_eq_true rfl) ?_
  show E 0 0 13 [(0, .ref 169), (1, .int p), (2, .int q), (3, .int r), (4, .int s)] [.int (y_b (1 ≤ p ∧ p ≤ 99)), .ref 169] (y_mk n L (y_si D 169 0 0))
  refine r_ifb_eq (tgt := 47) hE dX11_knot_13 (by decide) (fun c13 => ?_) (fun c13 => ?_)
  · refine r_iconst (v := 1) hE dX11_knot_47 (by decide) ?_
    refine r_goto (tgt := 52) hE dX11_knot_48 (by decide) ?_
    refine r_iconst (v := 1) hE dX11_knot_52 (by decide) ?_
    refine t_invv (r := (some (.int 1))) (S2 := (y_mk n L (y_si (y_si D 169 0 0) 169 0 1))) hE [.int 1, .int 1] (c_throwsT hL) v_yX11_throwsIf m_X11_85 dX11_knot_53 rfl (hL 169 (by decide)) (y_l_169 ((y_si D 169 0 0) 169)) rfl (by decide) ⟨Nat.le_refl _, Nat.le_refl _⟩ (Nat.le_of_ble_eq_true rfl) ?_
    show E 0 0 56 [(0, .ref 169), (1, .int p), (2, .int q), (3, .int r), (4, .int s)] [.int 1] (y_mk n L (y_si (y_si D 169 0 0) 169 0 1))
    refine r_if_ne (tgt := 84) hE dX11_knot_56 (by decide) (fun _ => ?_) (fun c56 => by first | exact absurd c56 (by decide) | exact absurd (by decide) c56)
    refine r_iconst (v := 0) hE dX11_knot_84 (by decide) ?_
    refine r_ireturn hE dX11_knot_85 rfl rfl (Nat.zero_le _) (Nat.zero_le _) ?_
    unfold M_knot
    repeat first | rw [if_pos (by grind)] | rw [if_neg (by grind)]
    exact ⟨rfl, rfl⟩
  · refine r_iload_n hE dX11_knot_16 rfl ?_
    refine r_iconst (v := 1) hE dX11_knot_17 (by decide) ?_
    refine r_bipush (v := 99) hE dX11_knot_18 (by decide) ?_
    refine t_invs (r := (some (.int (y_b (1 ≤ q ∧ q ≤ 99))))) (S2 := (y_mk n L (y_si D 169 0 0))) hE [.int q, .int 1, .int 99] (c_in) s_yX11_in m_X11_81 dX11_knot_20 rfl (by decide) ⟨Nat.le_refl _, Nat.le_refl _⟩ (Nat.le_of_ble_eq_true rfl) ?_
    show E 0 0 23 [(0, .ref 169), (1, .int p), (2, .int q), (3, .int r), (4, .int s)] [.int (y_b (1 ≤ q ∧ q ≤ 99)), .ref 169] (y_mk n L (y_si D 169 0 0))
    refine r_ifb_eq (tgt := 47) hE dX11_knot_23 (by decide) (fun c23 => ?_) (fun c23 => ?_)
    · refine r_iconst (v := 1) hE dX11_knot_47 (by decide) ?_
      refine r_goto (tgt := 52) hE dX11_knot_48 (by decide) ?_
      refine r_iconst (v := 1) hE dX11_knot_52 (by decide) ?_
      refine t_invv (r := (some (.int 1))) (S2 := (y_mk n L (y_si (y_si D 169 0 0) 169 0 1))) hE [.int 1, .int 1] (c_throwsT hL) v_yX11_throwsIf m_X11_85 dX11_knot_53 rfl (hL 169 (by decide)) (y_l_169 ((y_si D 169 0 0) 169)) rfl (by decide) ⟨Nat.le_refl _, Nat.le_refl _⟩ (Nat.le_of_ble_eq_true rfl) ?_
      show E 0 0 56 [(0, .ref 169), (1, .int p), (2, .int q), (3, .int r), (4, .int s)] [.int 1] (y_mk n L (y_si (y_si D 169 0 0) 169 0 1))
      refine r_if_ne (tgt := 84) hE dX11_knot_56 (by decide) (fun _ => ?_) (fun c56 => by first | exact absurd c56 (by decide) | exact absurd (by decide) c56)
      refine r_iconst (v := 0) hE dX11_knot_84 (by decide) ?_
      refine r_ireturn hE dX11_knot_85 rfl rfl (Nat.zero_le _) (Nat.zero_le _) ?_
      unfold M_knot
      repeat first | rw [if_pos (by grind)] | rw [if_neg (by grind)]
      exact ⟨rfl, rfl⟩
    · refine r_iload_n hE dX11_knot_26 rfl ?_
      refine r_iconst (v := 0) hE dX11_knot_27 (by decide) ?_
      refine r_bipush (v := 50) hE dX11_knot_28 (by decide) ?_
      refine t_invs (r := (some (.int (y_b (0 ≤ r ∧ r ≤ 50))))) (S2 := (y_mk n L (y_si D 169 0 0))) hE [.int r, .int 0, .int 50] (c_in) s_yX11_in m_X11_81 dX11_knot_30 rfl (by decide) ⟨Nat.le_refl _, Nat.le_refl _⟩ (Nat.le_of_ble_eq_true rfl) ?_
      show E 0 0 33 [(0, .ref 169), (1, .int p), (2, .int q), (3, .int r), (4, .int s)] [.int (y_b (0 ≤ r ∧ r ≤ 50)), .ref 169] (y_mk n L (y_si D 169 0 0))
      refine r_ifb_eq (tgt := 47) hE dX11_knot_33 (by decide) (fun c33 => ?_) (fun c33 => ?_)
      · refine r_iconst (v := 1) hE dX11_knot_47 (by decide) ?_
        refine r_goto (tgt := 52) hE dX11_knot_48 (by decide) ?_
        refine r_iconst (v := 1) hE dX11_knot_52 (by decide) ?_
        refine t_invv (r := (some (.int 1))) (S2 := (y_mk n L (y_si (y_si D 169 0 0) 169 0 1))) hE [.int 1, .int 1] (c_throwsT hL) v_yX11_throwsIf m_X11_85 dX11_knot_53 rfl (hL 169 (by decide)) (y_l_169 ((y_si D 169 0 0) 169)) rfl (by decide) ⟨Nat.le_refl _, Nat.le_refl _⟩ (Nat.le_of_ble_eq_true rfl) ?_
        show E 0 0 56 [(0, .ref 169), (1, .int p), (2, .int q), (3, .int r), (4, .int s)] [.int 1] (y_mk n L (y_si (y_si D 169 0 0) 169 0 1))
        refine r_if_ne (tgt := 84) hE dX11_knot_56 (by decide) (fun _ => ?_) (fun c56 => by first | exact absurd c56 (by decide) | exact absurd (by decide) c56)
        refine r_iconst (v := 0) hE dX11_knot_84 (by decide) ?_
        refine r_ireturn hE dX11_knot_85 rfl rfl (Nat.zero_le _) (Nat.zero_le _) ?_
        unfold M_knot
        repeat first | rw [if_pos (by grind)] | rw [if_neg (by grind)]
        exact ⟨rfl, rfl⟩
      · refine r_iload hE dX11_knot_36 rfl ?_
        refine r_iconst (v := 0) hE dX11_knot_38 (by decide) ?_
        refine r_bipush (v := 50) hE dX11_knot_39 (by decide) ?_
        refine t_invs (r := (some (.int (y_b (0 ≤ s ∧ s ≤ 50))))) (S2 := (y_mk n L (y_si D 169 0 0))) hE [.int s, .int 0, .int 50] (c_in) s_yX11_in m_X11_81 dX11_knot_41 rfl (by decide) ⟨Nat.le_refl _, Nat.le_refl _⟩ (Nat.le_of_ble_eq_true rfl) ?_
        show E 0 0 44 [(0, .ref 169), (1, .int p), (2, .int q), (3, .int r), (4, .int s)] [.int (y_b (0 ≤ s ∧ s ≤ 50)), .ref 169] (y_mk n L (y_si D 169 0 0))
        refine r_ifb_ne (tgt := 51) hE dX11_knot_44 (by decide) (fun c44 => ?_) (fun c44 => ?_)
        · refine r_iconst (v := 0) hE dX11_knot_51 (by decide) ?_
          refine r_iconst (v := 1) hE dX11_knot_52 (by decide) ?_
          refine t_invv (r := (some (.int 0))) (S2 := (y_mk n L (y_si D 169 0 0))) hE [.int 0, .int 1] (c_throwsF) v_yX11_throwsIf m_X11_85 dX11_knot_53 rfl (hL 169 (by decide)) (y_l_169 ((y_si D 169 0 0) 169)) rfl (by decide) ⟨Nat.le_refl _, Nat.le_refl _⟩ (Nat.le_of_ble_eq_true rfl) ?_
          show E 0 0 56 [(0, .ref 169), (1, .int p), (2, .int q), (3, .int r), (4, .int s)] [.int 0] (y_mk n L (y_si D 169 0 0))
          refine r_if_ne (tgt := 84) hE dX11_knot_56 (by decide) (fun c56 => by first | exact absurd c56 (by decide) | exact absurd (by decide) c56) (fun _ => ?_)
          refine r_aload_n hE dX11_knot_59 rfl ?_
          refine r_aload_n hE dX11_knot_60 rfl ?_
          refine t_getr hE f_X11_13 y_R_169_1 dX11_knot_61 (hL 169 (by decide)) ?_
          refine r_bipush (v := 9) hE dX11_knot_64 (by decide) ?_
          refine t_ialdN (e := 9) hE y_A_170 dX11_knot_66 (hL 170 (by decide)) (by omega) (by decide) ?_
          refine r_top (y := (nI k)) hk ?_
          refine r_bipush (v := 6) hE dX11_knot_67 (by decide) ?_
          refine r_icmp_neN (a := k) (b := 6) (tgt := 76) hE dX11_knot_69 (by decide) (by omega) (by decide) (fun c69 => ?_) (fun c69 => ?_)
          · refine r_iconst (v := 0) hE dX11_knot_76 (by decide) ?_
            refine r_iconst (v := 2) hE dX11_knot_77 (by decide) ?_
            refine t_invv (r := (some (.int 0))) (S2 := (y_mk n L (y_si D 169 0 0))) hE [.int 0, .int 2] (c_throwsF) v_yX11_throwsIf m_X11_85 dX11_knot_78 rfl (hL 169 (by decide)) (y_l_169 ((y_si D 169 0 0) 169)) rfl (by decide) ⟨Nat.le_refl _, Nat.le_refl _⟩ (Nat.le_of_ble_eq_true rfl) ?_
            show E 0 0 81 [(0, .ref 169), (1, .int p), (2, .int q), (3, .int r), (4, .int s)] [.int 0] (y_mk n L (y_si D 169 0 0))
            refine r_if_eq (tgt := 86) hE dX11_knot_81 (by decide) (fun _ => ?_) (fun c81 => by first | exact absurd c81 (by decide) | exact absurd (by decide) c81)
            refine r_sipush (v := 213) hE dX11_knot_86 (by decide) ?_
            refine r_iconst (v := 4) hE dX11_knot_89 (by decide) ?_
            refine r_aload_n hE dX11_knot_90 rfl ?_
            refine t_getr hE f_X11_13 y_R_169_1 dX11_knot_91 (hL 169 (by decide)) ?_
            refine r_bipush (v := 9) hE dX11_knot_94 (by decide) ?_
            refine t_ialdN (e := 9) hE y_A_170 dX11_knot_96 (hL 170 (by decide)) (by omega) (by decide) ?_
            refine r_top (y := (nI k)) hk ?_
            refine r_imulN (a := 4) (b := k) hE dX11_knot_97 ?_
            refine r_iaddN (a := 213) (b := 4 * k) hE dX11_knot_98 ?_
            refine r_istore (ls2 := [(0, .ref 169), (1, .int p), (2, .int q), (3, .int r), (4, .int s), (5, .int (nI (213 + (4 * k))))]) hE dX11_knot_99 (by decide) rfl ?_
            refine r_aload_n hE dX11_knot_101 rfl ?_
            refine t_getr hE f_X11_13 y_R_169_1 dX11_knot_102 (hL 169 (by decide)) ?_
            refine r_iload hE dX11_knot_105 rfl ?_
            refine r_iload_n hE dX11_knot_107 rfl ?_
            refine t_iastN (e := 213 + (4 * k)) hE y_A_170 dX11_knot_108 (hL 170 (by decide)) (by omega) (by decide) ?_
            refine r_aload_n hE dX11_knot_109 rfl ?_
            refine t_getr hE f_X11_13 y_R_169_1 dX11_knot_110 (hL 169 (by decide)) ?_
            refine r_iload hE dX11_knot_113 rfl ?_
            refine r_iconst (v := 1) hE dX11_knot_115 (by decide) ?_
            refine r_iaddN (a := 213 + (4 * k)) (b := 1) hE dX11_knot_116 ?_
            refine r_iload_n hE dX11_knot_117 rfl ?_
            refine t_iastN (e := (213 + (4 * k)) + 1) hE y_A_170 dX11_knot_118 (hL 170 (by decide)) (by omega) (by decide) ?_
            refine r_aload_n hE dX11_knot_119 rfl ?_
            refine t_getr hE f_X11_13 y_R_169_1 dX11_knot_120 (hL 169 (by decide)) ?_
            refine r_iload hE dX11_knot_123 rfl ?_
            refine r_iconst (v := 2) hE dX11_knot_125 (by decide) ?_
            refine r_iaddN (a := 213 + (4 * k)) (b := 2) hE dX11_knot_126 ?_
            refine r_iload_n hE dX11_knot_127 rfl ?_
            refine t_iastN (e := (213 + (4 * k)) + 2) hE y_A_170 dX11_knot_128 (hL 170 (by decide)) (by omega) (by decide) ?_
            refine r_aload_n hE dX11_knot_129 rfl ?_
            refine t_getr hE f_X11_13 y_R_169_1 dX11_knot_130 (hL 169 (by decide)) ?_
            refine r_iload hE dX11_knot_133 rfl ?_
            refine r_iconst (v := 3) hE dX11_knot_135 (by decide) ?_
            refine r_iaddN (a := 213 + (4 * k)) (b := 3) hE dX11_knot_136 ?_
            refine r_iload hE dX11_knot_137 rfl ?_
            refine t_iastN (e := (213 + (4 * k)) + 3) hE y_A_170 dX11_knot_139 (hL 170 (by decide)) (by omega) (by decide) ?_
            refine r_aload_n hE dX11_knot_140 rfl ?_
            refine t_getr hE f_X11_13 y_R_169_1 dX11_knot_141 (hL 169 (by decide)) ?_
            refine r_bipush (v := 9) hE dX11_knot_144 (by decide) ?_
            refine r_dup2 hE dX11_knot_146 rfl rfl ?_
            refine t_ialdN (e := 9) hE y_A_170 dX11_knot_147 (hL 170 (by decide)) (by omega) (by decide) ?_
            refine r_top (y := (nI k)) (by simp [y_si, upd, hk, show 9 ≠ 213 + 4 * k by omega, show 9 ≠ 213 + 4 * k + 1 by omega, show 9 ≠ 213 + 4 * k + 2 by omega, show 9 ≠ 213 + 4 * k + 3 by omega]) ?_
            refine r_iconst (v := 1) hE dX11_knot_148 (by decide) ?_
            refine r_iaddN (a := k) (b := 1) hE dX11_knot_149 ?_
            refine t_iastN (e := 9) hE y_A_170 dX11_knot_150 (hL 170 (by decide)) (by omega) (by decide) ?_
            refine r_aload_n hE dX11_knot_151 rfl ?_
            refine t_getr hE f_X11_13 y_R_169_1 dX11_knot_152 (hL 169 (by decide)) ?_
            refine r_bipush (v := 9) hE dX11_knot_155 (by decide) ?_
            refine t_ialdN (e := 9) hE y_A_170 dX11_knot_157 (hL 170 (by decide)) (by omega) (by decide) ?_
            refine r_top (y := (nI (k + 1))) (by simp [y_si, upd]) ?_
            refine r_iconst (v := 1) hE dX11_knot_158 (by decide) ?_
            refine r_isubN (a := k + 1) (b := 1) hE dX11_knot_159 (by omega) ?_
            refine r_ireturn hE dX11_knot_160 rfl rfl (Nat.zero_le _) (Nat.zero_le _) ?_
            unfold M_knot
            repeat first | rw [if_pos (by grind)] | rw [if_neg (by grind)]
            exact ⟨rfl, rfl⟩
          · refine r_iconst (v := 1) hE dX11_knot_72 (by decide) ?_
            refine r_goto (tgt := 77) hE dX11_knot_73 (by decide) ?_
            refine r_iconst (v := 2) hE dX11_knot_77 (by decide) ?_
            refine t_invv (r := (some (.int 1))) (S2 := (y_mk n L (y_si (y_si D 169 0 0) 169 0 2))) hE [.int 1, .int 2] (c_throwsT hL) v_yX11_throwsIf m_X11_85 dX11_knot_78 rfl (hL 169 (by decide)) (y_l_169 ((y_si D 169 0 0) 169)) rfl (by decide) ⟨Nat.le_refl _, Nat.le_refl _⟩ (Nat.le_of_ble_eq_true rfl) ?_
            show E 0 0 81 [(0, .ref 169), (1, .int p), (2, .int q), (3, .int r), (4, .int s)] [.int 1] (y_mk n L (y_si (y_si D 169 0 0) 169 0 2))
            refine r_if_eq (tgt := 86) hE dX11_knot_81 (by decide) (fun c81 => by first | exact absurd c81 (by decide) | exact absurd (by decide) c81) (fun _ => ?_)
            refine r_iconst (v := 0) hE dX11_knot_84 (by decide) ?_
            refine r_ireturn hE dX11_knot_85 rfl rfl (Nat.zero_le _) (Nat.zero_le _) ?_
            unfold M_knot
            repeat first | rw [if_pos (by grind)] | rw [if_neg (by grind)]
            exact ⟨rfl, rfl⟩
        · refine r_iconst (v := 1) hE dX11_knot_47 (by decide) ?_
          refine r_goto (tgt := 52) hE dX11_knot_48 (by decide) ?_
          refine r_iconst (v := 1) hE dX11_knot_52 (by decide) ?_
          refine t_invv (r := (some (.int 1))) (S2 := (y_mk n L (y_si (y_si D 169 0 0) 169 0 1))) hE [.int 1, .int 1] (c_throwsT hL) v_yX11_throwsIf m_X11_85 dX11_knot_53 rfl (hL 169 (by decide)) (y_l_169 ((y_si D 169 0 0) 169)) rfl (by decide) ⟨Nat.le_refl _, Nat.le_refl _⟩ (Nat.le_of_ble_eq_true rfl) ?_
          show E 0 0 56 [(0, .ref 169), (1, .int p), (2, .int q), (3, .int r), (4, .int s)] [.int 1] (y_mk n L (y_si (y_si D 169 0 0) 169 0 1))
          refine r_if_ne (tgt := 84) hE dX11_knot_56 (by decide) (fun _ => ?_) (fun c56 => by first | exact absurd c56 (by decide) | exact absurd (by decide) c56)
          refine r_iconst (v := 0) hE dX11_knot_84 (by decide) ?_
          refine r_ireturn hE dX11_knot_85 rfl rfl (Nat.zero_le _) (Nat.zero_le _) ?_
          unfold M_knot
          repeat first | rw [if_pos (by grind)] | rw [if_neg (by grind)]
          exact ⟨rfl, rfl⟩
theorem c_torn {V : x_E} {n : Nat} {L : List Nat} {D : y_D} (hL : y_ok L) : x_Fn V yX11_torn cX11_torn 2 (some .int) 0 [.ref 169] (y_mk n L D) (some (.int ((D 170).1 4))) (y_mk n L (y_si (y_si D 169 0 0) 170 4 0)) := by
  refine x_fn (by decide) (Nat.le_of_ble_eq_true rfl) (fun E hE => ?_)
  change E 0 0 0 [(0, .ref 169)] [] (y_mk n L D)
  refine r_aload_n hE dX11_torn_0 rfl ?_
  refine r_iconst (v := 0) hE dX11_torn_1 (by decide) ?_
  refine t_puti hE f_X11_3 y_I_169_0 dX11_torn_2 (hL 169 (by decide)) rfl rfl ?_
  refine r_aload_n hE dX11_torn_5 rfl ?_
  refine t_getr hE f_X11_13 y_R_169_1 dX11_torn_6 (hL 169 (by decide)) ?_
  refine r_iconst (v := 4) hE dX11_torn_9 (by decide) ?_
  refine t_ialdN (e := 4) hE y_A_170 dX11_torn_10 (hL 170 (by decide)) (by omega) (by decide) ?_
  refine r_top (y := (D 170).1 4) rfl ?_
  refine r_istore_n (ls2 := [(0, .ref 169), (1, .int ((D 170).1 4))]) hE dX11_torn_11 (by decide) rfl ?_
  refine r_aload_n hE dX11_torn_12 rfl ?_
  refine t_getr hE f_X11_13 y_R_169_1 dX11_torn_13 (hL 169 (by decide)) ?_
  refine r_iconst (v := 4) hE dX11_torn_16 (by decide) ?_
  refine r_iconst (v := 0) hE dX11_torn_17 (by decide) ?_
  refine t_iastN (e := 4) hE y_A_170 dX11_torn_18 (hL 170 (by decide)) (by omega) (by decide) ?_
  refine r_iload_n hE dX11_torn_19 rfl ?_
  refine r_ireturn hE dX11_torn_20 rfl rfl (Nat.zero_le _) (Nat.zero_le _) ?_
  exact ⟨rfl, rfl⟩
def M_rope (D : y_D) (p : Int32) : y_D := if ¬ (0 ≤ p ∧ p ≤ 50) then y_si (y_si D 169 0 0) 169 0 1 else y_si (y_si D 169 0 0) 170 10 p
theorem c_rope {V : x_E} {n : Nat} {L : List Nat} {D : y_D} {p : Int32} (hL : y_ok L) : x_Fn V yX11_rope cX11_rope 2 none 2 [.ref 169, .int p] (y_mk n L D) none (y_mk n L (M_rope D p)) := by
  refine x_fn (by decide) (Nat.le_of_ble_eq_true rfl) (fun E hE => ?_)
  change E 0 0 0 [(0, .ref 169), (1, .int p)] [] (y_mk n L D)
  refine r_aload_n hE dX11_rope_0 rfl ?_
  refine r_iconst (v := 0) hE dX11_rope_1 (by decide) ?_
  refine t_puti hE f_X11_3 y_I_169_0 dX11_rope_2 (hL 169 (by decide)) rfl rfl ?_
  refine r_aload_n hE dX11_rope_5 rfl ?_
  refine r_iload_n hE dX11_rope_6 rfl ?_
  refine r_iconst (v := 0) hE dX11_rope_7 (by decide) ?_
  refine r_bipush (v := 50) hE dX11_rope_8 (by decide) ?_
  refine t_invs (r := (some (.int (y_b (0 ≤ p ∧ p ≤ 50))))) (S2 := (y_mk n L (y_si D 169 0 0))) hE [.int p, .int 0, .int 50] (c_in) s_yX11_in m_X11_81 dX11_rope_10 rfl (by decide) ⟨Nat.le_refl _, Nat.le_refl _⟩ (Nat.le_of_ble_eq_true rfl) ?_
  show E 0 0 13 [(0, .ref 169), (1, .int p)] [.int (y_b (0 ≤ p ∧ p ≤ 50)), .ref 169] (y_mk n L (y_si D 169 0 0))
  refine r_ifb_ne (tgt := 20) hE dX11_rope_13 (by decide) (fun c13 => ?_) (fun c13 => ?_)
  · refine r_iconst (v := 0) hE dX11_rope_20 (by decide) ?_
    refine r_iconst (v := 1) hE dX11_rope_21 (by decide) ?_
    refine t_invv (r := (some (.int 0))) (S2 := (y_mk n L (y_si D 169 0 0))) hE [.int 0, .int 1] (c_throwsF) v_yX11_throwsIf m_X11_85 dX11_rope_22 rfl (hL 169 (by decide)) (y_l_169 ((y_si D 169 0 0) 169)) rfl (by decide) ⟨Nat.le_refl _, Nat.le_refl _⟩ (Nat.le_of_ble_eq_true rfl) ?_
    show E 0 0 25 [(0, .ref 169), (1, .int p)] [.int 0] (y_mk n L (y_si D 169 0 0))
    refine r_if_eq (tgt := 29) hE dX11_rope_25 (by decide) (fun _ => ?_) (fun c25 => by first | exact absurd c25 (by decide) | exact absurd (by decide) c25)
    refine r_aload_n hE dX11_rope_29 rfl ?_
    refine t_getr hE f_X11_13 y_R_169_1 dX11_rope_30 (hL 169 (by decide)) ?_
    refine r_bipush (v := 10) hE dX11_rope_33 (by decide) ?_
    refine r_iload_n hE dX11_rope_35 rfl ?_
    refine t_iastN (e := 10) hE y_A_170 dX11_rope_36 (hL 170 (by decide)) (by omega) (by decide) ?_
    refine r_return hE dX11_rope_37 rfl (Nat.zero_le _) (Nat.zero_le _) ?_
    unfold M_rope
    repeat first | rw [if_pos (by grind)] | rw [if_neg (by grind)]
    exact ⟨rfl, rfl⟩
  · refine r_iconst (v := 1) hE dX11_rope_16 (by decide) ?_
    refine r_goto (tgt := 21) hE dX11_rope_17 (by decide) ?_
    refine r_iconst (v := 1) hE dX11_rope_21 (by decide) ?_
    refine t_invv (r := (some (.int 1))) (S2 := (y_mk n L (y_si (y_si D 169 0 0) 169 0 1))) hE [.int 1, .int 1] (c_throwsT hL) v_yX11_throwsIf m_X11_85 dX11_rope_22 rfl (hL 169 (by decide)) (y_l_169 ((y_si D 169 0 0) 169)) rfl (by decide) ⟨Nat.le_refl _, Nat.le_refl _⟩ (Nat.le_of_ble_eq_true rfl) ?_
    show E 0 0 25 [(0, .ref 169), (1, .int p)] [.int 1] (y_mk n L (y_si (y_si D 169 0 0) 169 0 1))
    refine r_if_eq (tgt := 29) hE dX11_rope_25 (by decide) (fun c25 => by first | exact absurd c25 (by decide) | exact absurd (by decide) c25) (fun _ => ?_)
    refine r_return hE dX11_rope_28 rfl (Nat.zero_le _) (Nat.zero_le _) ?_
    unfold M_rope
    repeat first | rw [if_pos (by grind)] | rw [if_neg (by grind)]
    exact ⟨rfl, rfl⟩
def M_knew (D : y_D) (p : Int32) : y_D := if ¬ p &&& (-255) = 0 then y_si (y_si D 169 0 0) 169 0 1 else y_si (y_si D 169 0 0) 170 11 p
theorem c_knew {V : x_E} {n : Nat} {L : List Nat} {D : y_D} {p : Int32} (hL : y_ok L) : x_Fn V yX11_knew cX11_knew 2 none 2 [.ref 169, .int p] (y_mk n L D) none (y_mk n L (M_knew D p)) := by
  refine x_fn (by decide) (Nat.le_of_ble_eq_true rfl) (fun E hE => ?_)
  change E 0 0 0 [(0, .ref 169), (1, .int p)] [] (y_mk n L D)
  refine r_aload_n hE dX11_knew_0 rfl ?_
  refine r_iconst (v := 0) hE dX11_knew_1 (by decide) ?_
  refine t_puti hE f_X11_3 y_I_169_0 dX11_knew_2 (hL 169 (by decide)) rfl rfl ?_
  refine r_aload_n hE dX11_knew_5 rfl ?_
  refine r_iload_n hE dX11_knew_6 rfl ?_
  refine r_sipush (v := (-255)) hE dX11_knew_7 (by decide) ?_
  refine r_iand hE dX11_knew_10 ?_
  refine r_if_eq (tgt := 18) hE dX11_knew_11 (by decide) (fun c11 => ?_) (fun c11 => ?_)
  · refine r_iconst (v := 0) hE dX11_knew_18 (by decide) ?_
    refine r_iconst (v := 1) hE dX11_knew_19 (by decide) ?_
    refine t_invv (r := (some (.int 0))) (S2 := (y_mk n L (y_si D 169 0 0))) hE [.int 0, .int 1] (c_throwsF) v_yX11_throwsIf m_X11_85 dX11_knew_20 rfl (hL 169 (by decide)) (y_l_169 ((y_si D 169 0 0) 169)) rfl (by decide) ⟨Nat.le_refl _, Nat.le_refl _⟩ (Nat.le_of_ble_eq_true rfl) ?_
    show E 0 0 23 [(0, .ref 169), (1, .int p)] [.int 0] (y_mk n L (y_si D 169 0 0))
    refine r_if_eq (tgt := 27) hE dX11_knew_23 (by decide) (fun _ => ?_) (fun c23 => by first | exact absurd c23 (by decide) | exact absurd (by decide) c23)
    refine r_aload_n hE dX11_knew_27 rfl ?_
    refine t_getr hE f_X11_13 y_R_169_1 dX11_knew_28 (hL 169 (by decide)) ?_
    refine r_bipush (v := 11) hE dX11_knew_31 (by decide) ?_
    refine r_iload_n hE dX11_knew_33 rfl ?_
    refine t_iastN (e := 11) hE y_A_170 dX11_knew_34 (hL 170 (by decide)) (by omega) (by decide) ?_
    refine r_return hE dX11_knew_35 rfl (Nat.zero_le _) (Nat.zero_le _) ?_
    unfold M_knew
    repeat first | rw [if_pos (by grind)] | rw [if_neg (by grind)]
    exact ⟨rfl, rfl⟩
  · refine r_iconst (v := 1) hE dX11_knew_14 (by decide) ?_
    refine r_goto (tgt := 19) hE dX11_knew_15 (by decide) ?_
    refine r_iconst (v := 1) hE dX11_knew_19 (by decide) ?_
    refine t_invv (r := (some (.int 1))) (S2 := (y_mk n L (y_si (y_si D 169 0 0) 169 0 1))) hE [.int 1, .int 1] (c_throwsT hL) v_yX11_throwsIf m_X11_85 dX11_knew_20 rfl (hL 169 (by decide)) (y_l_169 ((y_si D 169 0 0) 169)) rfl (by decide) ⟨Nat.le_refl _, Nat.le_refl _⟩ (Nat.le_of_ble_eq_true rfl) ?_
    show E 0 0 23 [(0, .ref 169), (1, .int p)] [.int 1] (y_mk n L (y_si (y_si D 169 0 0) 169 0 1))
    refine r_if_eq (tgt := 27) hE dX11_knew_23 (by decide) (fun c23 => by first | exact absurd c23 (by decide) | exact absurd (by decide) c23) (fun _ => ?_)
    refine r_return hE dX11_knew_26 rfl (Nat.zero_le _) (Nat.zero_le _) ?_
    unfold M_knew
    repeat first | rw [if_pos (by grind)] | rw [if_neg (by grind)]
    exact ⟨rfl, rfl⟩
def M_end (D : y_D) (p : Int32) : Int32 × y_D := if p < 0 ∨ (D 169).1 5 < p then (0, y_si D 169 0 0) else (1, y_si (y_si D 169 0 0) 169 5 p)
theorem c_end {V : x_E} {n : Nat} {L : List Nat} {D : y_D} {p : Int32} (hL : y_ok L) : x_Fn V yX11_end cX11_end 2 (some .boolean) 0 [.ref 169, .int p] (y_mk n L D) (some (.int ((M_end D p).1))) (y_mk n L ((M_end D p).2)) := by
  refine x_fn (by decide) (Nat.le_of_ble_eq_true rfl) (fun E hE => ?_)
  change E 0 0 0 [(0, .ref 169), (1, .int p)] [] (y_mk n L D)
  refine r_aload_n hE dX11_end_0 rfl ?_
  refine r_iconst (v := 0) hE dX11_end_1 (by decide) ?_
  refine t_puti hE f_X11_3 y_I_169_0 dX11_end_2 (hL 169 (by decide)) rfl rfl ?_
  refine r_iload_n hE dX11_end_5 rfl ?_
  refine r_if_lt (tgt := 17) hE dX11_end_6 (by decide) (fun c6 => ?_) (fun c6 => ?_)
  · refine r_iconst (v := 0) hE dX11_end_17 (by decide) ?_
    refine r_ireturn hE dX11_end_18 rfl (by first | rfl | decide) (Nat.zero_le _) (Nat.zero_le _) ?_
    unfold M_end
    repeat first | rw [if_pos (by grind)] | rw [if_neg (by grind)]
    exact ⟨rfl, rfl⟩
  · refine r_iload_n hE dX11_end_9 rfl ?_
    refine r_aload_n hE dX11_end_10 rfl ?_
    refine t_geti hE f_X11_93 y_I_169_5 dX11_end_11 (hL 169 (by decide)) ?_
    refine r_top (y := (D 169).1 5) rfl ?_
    refine r_icmp_le (tgt := 19) hE dX11_end_14 (by decide) (fun c14 => ?_) (fun c14 => ?_)
    · refine r_aload_n hE dX11_end_19 rfl ?_
      refine r_iload_n hE dX11_end_20 rfl ?_
      refine t_puti hE f_X11_93 y_I_169_5 dX11_end_21 (hL 169 (by decide)) rfl rfl ?_
      refine r_iconst (v := 1) hE dX11_end_24 (by decide) ?_
      refine r_ireturn hE dX11_end_25 rfl (by first | rfl | decide) (Nat.zero_le _) (Nat.zero_le _) ?_
      unfold M_end
      repeat first | rw [if_pos (by grind)] | rw [if_neg (by grind)]
      exact ⟨rfl, rfl⟩
    · refine r_iconst (v := 0) hE dX11_end_17 (by decide) ?_
      refine r_ireturn hE dX11_end_18 rfl (by first | rfl | decide) (Nat.zero_le _) (Nat.zero_le _) ?_
      unfold M_end
      repeat first | rw [if_pos (by grind)] | rw [if_neg (by grind)]
      exact ⟨rfl, rfl⟩
theorem c_fault {V : x_E} {n : Nat} {L : List Nat} {D : y_D} (hL : y_ok L) : x_Fn V yX11_fault cX11_fault 1 (some .int) 0 [.ref 169] (y_mk n L D) (some (.int ((D 169).1 10))) (y_mk n L (y_si D 169 0 0)) := by
  refine x_fn (by decide) (Nat.le_of_ble_eq_true rfl) (fun E hE => ?_)
  change E 0 0 0 [(0, .ref 169)] [] (y_mk n L D)
  refine r_aload_n hE dX11_fault_0 rfl ?_
  refine r_iconst (v := 0) hE dX11_fault_1 (by decide) ?_
  refine t_puti hE f_X11_3 y_I_169_0 dX11_fault_2 (hL 169 (by decide)) rfl rfl ?_
  refine r_aload_n hE dX11_fault_5 rfl ?_
  refine t_geti hE f_X11_24 y_I_169_10 dX11_fault_6 (hL 169 (by decide)) ?_
  refine r_top (y := (D 169).1 10) rfl ?_
  refine r_ireturn hE dX11_fault_9 rfl rfl (Nat.zero_le _) (Nat.zero_le _) ?_
  exact ⟨rfl, rfl⟩
def M_count (D : y_D) (p : Int32) : Int32 := if 0 ≤ p ∧ p ≤ 9 then (D 170).1 p.toNatClampNeg else -1
theorem c_count {V : x_E} {n : Nat} {L : List Nat} {D : y_D} {p : Int32} (hL : y_ok L) : x_Fn V yX11_count cX11_count 2 (some .int) 1 [.ref 169, .int p] (y_mk n L D) (some (.int (M_count D p))) (y_mk n L (y_si D 169 0 0)) := by
  refine x_fn (by decide) (Nat.le_of_ble_eq_true rfl) (fun E hE => ?_)
  change E 0 0 0 [(0, .ref 169), (1, .int p)] [] (y_mk n L D)
  refine r_aload_n hE dX11_count_0 rfl ?_
  refine r_iconst (v := 0) hE dX11_count_1 (by decide) ?_
  refine t_puti hE f_X11_3 y_I_169_0 dX11_count_2 (hL 169 (by decide)) rfl rfl ?_
  refine r_iload_n hE dX11_count_5 rfl ?_
  refine r_iconst (v := 0) hE dX11_count_6 (by decide) ?_
  refine r_bipush (v := 9) hE dX11_count_7 (by decide) ?_
  refine t_invs (r := (some (.int (y_b (0 ≤ p ∧ p ≤ 9))))) (S2 := (y_mk n L (y_si D 169 0 0))) hE [.int p, .int 0, .int 9] (c_in) s_yX11_in m_X11_81 dX11_count_9 rfl (by decide) ⟨Nat.le_refl _, Nat.le_refl _⟩ (Nat.le_of_ble_eq_true rfl) ?_
  show E 0 0 12 [(0, .ref 169), (1, .int p)] [.int (y_b (0 ≤ p ∧ p ≤ 9))] (y_mk n L (y_si D 169 0 0))
  refine r_ifb_eq (tgt := 24) hE dX11_count_12 (by decide) (fun c12 => ?_) (fun c12 => ?_)
  · refine r_iconst (v := (-1)) hE dX11_count_24 (by decide) ?_
    refine r_ireturn hE dX11_count_25 rfl rfl (Nat.zero_le _) (Nat.zero_le _) ?_
    refine ⟨?_, rfl⟩
    unfold M_count
    first | rw [if_pos (by grind)] | rw [if_neg (by grind)]
    try rfl
  · refine r_aload_n hE dX11_count_15 rfl ?_
    refine t_getr hE f_X11_13 y_R_169_1 dX11_count_16 (hL 169 (by decide)) ?_
    refine r_iload_n hE dX11_count_19 rfl ?_
    refine t_iald hE y_A_170 dX11_count_20 (hL 170 (by decide)) (by exact y_vin (m := 9) c12.1 c12.2 (by decide) (by decide)) ?_
    refine r_goto (tgt := 25) hE dX11_count_21 (by decide) ?_
    refine r_ireturn hE dX11_count_25 rfl rfl (Nat.zero_le _) (Nat.zero_le _) ?_
    refine ⟨?_, rfl⟩
    unfold M_count
    first | rw [if_pos (by grind)] | rw [if_neg (by grind)]
    try rfl

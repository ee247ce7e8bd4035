theorem c_in {V : x_E} {n : Nat} {L : List Nat} {D : y_D} {v lo hi : Int32} : x_Fn V yX11_in cX11_in 3 (some .boolean) 0 [.int v, .int lo, .int hi] (y_mk n L D) (some (.int (y_b (lo ≤ v ∧ v ≤ hi)))) (y_mk n L D) := by
  refine x_fn (by decide) (Nat.le_of_ble_eq_true rfl) (fun E hE => ?_)
  change E 0 0 0 [(0, .int v), (1, .int lo), (2, .int hi)] [] (y_mk n L D)
  refine r_iload_n hE dX11_in_0 rfl ?_
  refine r_iload_n hE dX11_in_1 rfl ?_
  refine r_icmp_lt (tgt := 14) hE dX11_in_2 (by decide) (fun c2 => ?_) (fun c2 => ?_)
  · refine r_iconst (v := 0) hE dX11_in_14 (by decide) ?_
    refine r_ireturn hE dX11_in_15 rfl (by decide) (Nat.zero_le _) (Nat.zero_le _) ?_
    exact ⟨by grind [y_b], rfl⟩
  · refine r_iload_n hE dX11_in_5 rfl ?_
    refine r_iload_n hE dX11_in_6 rfl ?_
    refine r_icmp_gt (tgt := 14) hE dX11_in_7 (by decide) (fun c7 => ?_) (fun c7 => ?_)
    · refine r_iconst (v := 0) hE dX11_in_14 (by decide) ?_
      refine r_ireturn hE dX11_in_15 rfl (by decide) (Nat.zero_le _) (Nat.zero_le _) ?_
      exact ⟨by grind [y_b], rfl⟩
    · refine r_iconst (v := 1) hE dX11_in_10 (by decide) ?_
      refine r_goto (tgt := 15) hE dX11_in_11 (by decide) ?_
      refine r_ireturn hE dX11_in_15 rfl (by decide) (Nat.zero_le _) (Nat.zero_le _) ?_
      exact ⟨by grind [y_b], rfl⟩
theorem c_throwsIf {V : x_E} {n : Nat} {L : List Nat} {D : y_D} {p : Prop} [Decidable p] {code : Int32} (hL : y_ok L) : x_Fn V yX11_throwsIf cX11_throwsIf 3 (some .boolean) 0 [.ref 169, .int (y_b p), .int code] (y_mk n L D) (some (.int (y_b p))) (y_mk n L (if p then y_si D 169 0 code else D)) := by
  refine x_fn (by decide) (Nat.le_of_ble_eq_true rfl) (fun E hE => ?_)
  change E 0 0 0 [(0, .ref 169), (1, .int (y_b p)), (2, .int code)] [] (y_mk n L D)
  refine r_iload_n hE dX11_throwsIf_0 rfl ?_
  refine r_ifb_eq (tgt := 9) hE dX11_throwsIf_1 (by decide) (fun c1 => ?_) (fun c1 => ?_)
  · refine r_iload_n hE dX11_throwsIf_9 rfl ?_
    refine r_ireturn hE dX11_throwsIf_10 rfl (by first | rfl | exact y_nb _) (Nat.zero_le _) (Nat.zero_le _) ?_
    exact ⟨rfl, by simp [*]⟩
  · refine r_aload_n hE dX11_throwsIf_4 rfl ?_
    refine r_iload_n hE dX11_throwsIf_5 rfl ?_
    refine t_puti hE f_X11_3 y_I_169_0 dX11_throwsIf_6 (hL 169 (by decide)) rfl rfl ?_
    refine r_iload_n hE dX11_throwsIf_9 rfl ?_
    refine r_ireturn hE dX11_throwsIf_10 rfl (by first | rfl | exact y_nb _) (Nat.zero_le _) (Nat.zero_le _) ?_
    exact ⟨rfl, by simp [*]⟩
theorem c_thrown {V : x_E} {n : Nat} {L : List Nat} {D : y_D} (hL : y_ok L) : x_Fn V yX11_thrown cX11_thrown 1 (some .int) 0 [.ref 169] (y_mk n L D) (some (.int ((D 169).1 0))) (y_mk n L D) := by
  refine x_fn (by decide) (Nat.le_of_ble_eq_true rfl) (fun E hE => ?_)
  change E 0 0 0 [(0, .ref 169)] [] (y_mk n L D)
  refine r_aload_n hE dX11_thrown_0 rfl ?_
  refine t_geti hE f_X11_3 y_I_169_0 dX11_thrown_1 (hL 169 (by decide)) ?_
  refine r_ireturn hE dX11_thrown_4 rfl rfl (Nat.zero_le _) (Nat.zero_le _) ?_
  exact ⟨rfl, rfl⟩
theorem c_none {V : x_E} {n : Nat} {L : List Nat} {D : y_D} {k : Int32} {c : Nat} (hL : y_ok L) (hc : c < 12) : x_Fn V yX11_none cX11_none 3 (some .boolean) 1 [.ref 169, .int k, .int (nI c)] (y_mk n L D) (some (.int (y_b (¬ (0 ≤ k ∧ k ≤ (D 170).1 c - 1))))) (y_mk n L D) := by
  refine x_fn (by decide) (Nat.le_of_ble_eq_true rfl) (fun E hE => ?_)
  change E 0 0 0 [(0, .ref 169), (1, .int k), (2, .int (nI c))] [] (y_mk n L D)
  refine r_iload_n hE dX11_none_0 rfl ?_
  refine r_iconst (v := 0) hE dX11_none_1 (by decide) ?_
  refine r_aload_n hE dX11_none_2 rfl ?_
  refine t_getr hE f_X11_13 y_R_169_1 dX11_none_3 (hL 169 (by decide)) ?_
  refine r_iload_n hE dX11_none_6 rfl ?_
  refine t_ialdN (e := c) hE y_A_170 dX11_none_7 (hL 170 (by decide)) (by omega) (by decide) ?_
  refine r_iconst (v := 1) hE dX11_none_8 (by decide) ?_
  refine r_isub hE dX11_none_9 ?_
  refine t_invs (r := (some (.int (y_b (0 ≤ k ∧ k ≤ ((D 170).1 c) - 1))))) (S2 := (y_mk n L D)) hE [.int k, .int 0, .int (((D 170).1 c) - 1)] (c_in) s_yX11_in m_X11_81 dX11_none_10 rfl (by decide) ⟨Nat.le_refl _, Nat.le_refl _⟩ (Nat.le_of_ble_eq_true rfl) ?_
  show E 0 0 13 [(0, .ref 169), (1, .int k), (2, .int (nI c))] [.int (y_b (0 ≤ k ∧ k ≤ ((D 170).1 c) - 1))] (y_mk n L D)
  refine r_ifb_ne (tgt := 20) hE dX11_none_13 (by decide) (fun c13 => ?_) (fun c13 => ?_)
  · refine r_iconst (v := 0) hE dX11_none_20 (by decide) ?_
    refine r_ireturn hE dX11_none_21 rfl (by first | exact y_nb _ | decide) (Nat.zero_le _) (Nat.zero_le _) ?_
    exact ⟨by grind [y_b], rfl⟩
  · refine r_iconst (v := 1) hE dX11_none_16 (by decide) ?_
    refine r_goto (tgt := 21) hE dX11_none_17 (by decide) ?_
    refine r_ireturn hE dX11_none_21 rfl (by first | exact y_nb _ | decide) (Nat.zero_le _) (Nat.zero_le _) ?_
    exact ⟨by grind [y_b], rfl⟩
theorem c_textAt {V : x_E} {n : Nat} {L : List Nat} {D : y_D} {t : Nat} : x_Fn V yX11_textAt cX11_textAt 1 (some .int) 0 [.int (nI t)] (y_mk n L D) (some (.int (nI (237 + 851 * t)))) (y_mk n L D) := by
  refine x_fn (by decide) (Nat.le_of_ble_eq_true rfl) (fun E hE => ?_)
  change E 0 0 0 [(0, .int (nI t))] [] (y_mk n L D)
  refine r_sipush (v := 237) hE dX11_textAt_0 (by decide) ?_
  refine r_sipush (v := 851) hE dX11_textAt_3 (by decide) ?_
  refine r_iload_n hE dX11_textAt_6 rfl ?_
  refine r_imulN (a := 851) (b := t) hE dX11_textAt_7 ?_
  refine r_iaddN (a := 237) (b := 851 * t) hE dX11_textAt_8 ?_
  refine r_ireturn hE dX11_textAt_9 rfl rfl (Nat.zero_le _) (Nat.zero_le _) ?_
  exact ⟨rfl, rfl⟩

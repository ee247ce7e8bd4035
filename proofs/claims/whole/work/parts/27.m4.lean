theorem k_fill {V : x_E} {n : Nat} {L : List Nat} {D : y_D} {h len : Nat} {v : Int32} (yA_h : y_A h 0 len) (hm_h : h ∈ L) (hlen : len < 2 ^ 31) : x_Fn V yJ7_fill_53178 cJ7_fill_53178 4 none 0 [.ref h, .int v] (y_mk n L D) none (y_mk n L (y_sw D h (y_cp (fun _ => v) (D h).1 len))) := by
  refine x_fn (by decide) (Nat.le_of_ble_eq_true rfl) (fun E hE => ?_)
  change E 0 0 0 [(0, .ref h), (1, .int v)] [] (y_mk n L D)
  have lp : ∀ (i : Nat), i ≤ len → E 0 0 5 [(0, .ref h), (1, .int v), (2, .int (nI i)), (3, .int (nI len))] [] (y_mk n L (y_sw D h (y_cp (fun _ => v) (D h).1 i))) := by
    intro i
    induction hm9 : (len - i) using Nat.strongRecOn generalizing i with
    | _ m9 ih =>
      intro hi
      refine r_iload_n hE dJ7_fill_53178_5 rfl ?_
      refine r_iload_n hE dJ7_fill_53178_6 rfl ?_
      refine r_icmp_geN (a := i) (b := len) (tgt := 20) hE dJ7_fill_53178_7 (by decide) (by omega) (by omega) (fun c7 => ?_) (fun c7 => ?_)
      · refine r_return hE dJ7_fill_53178_20 rfl (Nat.zero_le _) (Nat.zero_le _) ?_
        have hi2 : i = len := by omega
        subst hi2
        exact ⟨rfl, rfl⟩
      · refine r_aload_n hE dJ7_fill_53178_10 rfl ?_
        refine r_iload_n hE dJ7_fill_53178_11 rfl ?_
        refine r_iload_n hE dJ7_fill_53178_12 rfl ?_
        refine t_iastN (e := i) hE yA_h dJ7_fill_53178_13 hm_h (by omega) (by omega) ?_
        refine r_iincN (a := i) (b := 1) (ls2 := [(0, .ref h), (1, .int v), (2, .int (nI (i + 1))), (3, .int (nI len))]) hE dJ7_fill_53178_14 rfl rfl (by decide) rfl ?_
        refine r_goto (tgt := 5) hE dJ7_fill_53178_17 (by decide) ?_
        rw [y_si_sw, show upd (y_cp (fun _ => v) (D h).1 i) i v = y_cp (fun _ => v) (D h).1 (i + 1) from y_cp_s (f := fun _ => v)]
        exact ih (len - (i + 1)) (by omega) (i + 1) rfl (by omega)
  refine r_iconst (v := 0) hE dJ7_fill_53178_0 (by decide) ?_
  refine r_istore_n (ls2 := [(0, .ref h), (1, .int v), (2, .int 0)]) hE dJ7_fill_53178_1 (by decide) rfl ?_
  refine r_aload_n hE dJ7_fill_53178_2 rfl ?_
  refine t_alen (v := nI len) hE yA_h (by decide) dJ7_fill_53178_3 hm_h rfl ?_
  refine r_istore_n (ls2 := [(0, .ref h), (1, .int v), (2, .int 0), (3, .int (nI len))]) hE dJ7_fill_53178_4 (by decide) rfl ?_
  have h0 := lp 0 (by omega)
  rw [y_cp_0, y_sw_self] at h0
  exact h0
theorem k_forget {V : x_E} {n : Nat} {L : List Nat} {D : y_D} (hL : y_ok L) : x_Fn V yX1_forget cX1_forget 1 none 1 [.ref 151] (y_mk n L D) none (y_mk n L (y_sw D 162 (y_cp (fun _ => 0) (D 162).1 512))) := by
  refine x_fn (by decide) (Nat.le_of_ble_eq_true rfl) (fun E hE => ?_)
  change E 0 0 0 [(0, .ref 151)] [] (y_mk n L D)
  refine r_aload_n hE dX1_forget_0 rfl ?_
  refine t_getr hE f_X1_31 y_R_151_6 dX1_forget_1 (hL 151 (by decide)) ?_
  refine r_iconst (v := 0) hE dX1_forget_4 (by decide) ?_
  refine t_invs (r := none) (S2 := (y_mk n L (y_sw D 162 (y_cp (fun _ => 0) (D 162).1 512)))) hE [.ref 162, .int 0] (k_fill y_A_162 (hL 162 (by decide)) (by decide)) s_yJ7_fill_53178 m_X1_38 dX1_forget_5 rfl (by decide) ⟨Nat.le_refl _, Nat.le_refl _⟩ (Nat.le_of_ble_eq_true rfl) ?_
  show E 0 0 8 [(0, .ref 151)] [] (y_mk n L (y_sw D 162 (y_cp (fun _ => 0) (D 162).1 512)))
  refine r_return hE dX1_forget_8 rfl (Nat.zero_le _) (Nat.zero_le _) ?_
  exact ⟨rfl, rfl⟩
theorem f_person {V : x_E} (hV : y_V V) {n : Nat} {L : List Nat} {D : y_D} (hL : y_ok L) {p q : Int32} {k : Nat} (hs : (D 74).1 2 = nI k) (hw : (D 74).1 0 = nI 2) (hk : k ≤ 8) : y_Fi V yX10_person cX10_person 3 (some .int) 8 2 12 [.ref 64, .int p, .int q] n L D (fun v D2 => ((0 ≤ p ∧ p ≤ 9) ∧ (0 ≤ q ∧ q ≤ 400)) ∧ k < 8 ∧ v = nI k ∧ D2 = y_Tadd (y_sw D 162 (y_cp (fun _ => 0) (D 162).1 512)) 74 75 16 k 2 p q 0 0 0) (fun E9 => (¬ ((0 ≤ p ∧ p ≤ 9) ∧ (0 ≤ q ∧ q ≤ 400)) ∧ E9 = y_IAE) ∨ (((0 ≤ p ∧ p ≤ 9) ∧ (0 ≤ q ∧ q ≤ 400)) ∧ k = 8 ∧ E9 = y_UOE)) := by
  refine x_cx (by decide) hV.1 (fun a0 S0 h => by rw [h.1]; exact Nat.le_of_ble_eq_true rfl) (fun a0 S0 h E EX hX => ?_)
  obtain ⟨rfl, rfl⟩ := h
  have hE := hX.x
  change E 0 0 0 [(0, .ref 64), (1, .int p), (2, .int q)] [] (y_mk n L D)
  refine r_iload_n hE dX10_person_0 rfl ?_
  refine r_iconst (v := 0) hE dX10_person_1 (by decide) ?_
  refine r_bipush (v := 9) hE dX10_person_2 (by decide) ?_
  refine t_invs (r := (some (.int (y_b (0 ≤ p ∧ p ≤ 9))))) (S2 := (y_mk n L D)) hE [.int p, .int 0, .int 9] (k_isBetween) s_yX10_isBetween m_X10_65 dX10_person_4 rfl (by decide) ⟨by decide, by decide⟩ (Nat.le_of_ble_eq_true rfl) ?_
  show E 0 0 7 [(0, .ref 64), (1, .int p), (2, .int q)] [.int (y_b (0 ≤ p ∧ p ≤ 9))] (y_mk n L D)
  refine r_ifb_eq (tgt := 25) hE dX10_person_7 (by decide) (fun c7 => ?_) (fun c7 => ?_)
  · refine r_iconst (v := 0) hE dX10_person_25 (by decide) ?_
    refine t_demand (p := False) hX hV [.int 0] dX10_person_26 m_X10_69 rfl (by decide) ⟨by decide, by decide⟩ (Nat.le_of_ble_eq_true rfl) (fun c26 => c26.elim) (fun c26 n2 hn2 => r_out hX ⟨by first | exact Or.inl ⟨by grind, rfl⟩ | exact Or.inr ⟨by grind, by omega, rfl⟩ | grind, n2, hn2, rfl⟩ (by decide) (by decide))
  · refine r_iload_n hE dX10_person_10 rfl ?_
    refine r_iconst (v := 0) hE dX10_person_11 (by decide) ?_
    refine r_sipush (v := 400) hE dX10_person_12 (by decide) ?_
    refine t_invs (r := (some (.int (y_b (0 ≤ q ∧ q ≤ 400))))) (S2 := (y_mk n L D)) hE [.int q, .int 0, .int 400] (k_isBetween) s_yX10_isBetween m_X10_65 dX10_person_15 rfl (by decide) ⟨by decide, by decide⟩ (Nat.le_of_ble_eq_true rfl) ?_
    show E 0 0 18 [(0, .ref 64), (1, .int p), (2, .int q)] [.int (y_b (0 ≤ q ∧ q ≤ 400))] (y_mk n L D)
    refine r_ifb_eq (tgt := 25) hE dX10_person_18 (by decide) (fun c18 => ?_) (fun c18 => ?_)
    · refine r_iconst (v := 0) hE dX10_person_25 (by decide) ?_
      refine t_demand (p := False) hX hV [.int 0] dX10_person_26 m_X10_69 rfl (by decide) ⟨by decide, by decide⟩ (Nat.le_of_ble_eq_true rfl) (fun c26 => c26.elim) (fun c26 n2 hn2 => r_out hX ⟨by first | exact Or.inl ⟨by grind, rfl⟩ | exact Or.inr ⟨by grind, by omega, rfl⟩ | grind, n2, hn2, rfl⟩ (by decide) (by decide))
    · refine r_iconst (v := 1) hE dX10_person_21 (by decide) ?_
      refine r_goto (tgt := 26) hE dX10_person_22 (by decide) ?_
      refine t_demand (p := True) hX hV [.int 1] dX10_person_26 m_X10_69 rfl (by decide) ⟨by decide, by decide⟩ (Nat.le_of_ble_eq_true rfl) (fun c26 => ?_) (fun c26 _ _ => absurd trivial c26)
      show E 1 6 29 [(0, .ref 64), (1, .int p), (2, .int q)] [] (y_mk n L D)
      refine r_aload_n hE dX10_person_29 rfl ?_
      refine t_getr hE f_X10_23 y_R_64_3 dX10_person_30 (hL 64 (by decide)) ?_
      refine t_getr hE f_X10_73 y_R_73_0 dX10_person_33 (hL 73 (by decide)) ?_
      refine t_invv (r := (some (.int (y_b ((k + 1) * 2 ≤ 16))))) (S2 := (y_mk n L D)) hE [] (k_hasRoom (k := k) (wd := 2) y_T_74 (hL 74 (by decide)) (hL 75 (by decide)) (by simpa [y_sw, y_si] using hs) (by simpa [y_sw, y_si] using hw) (by omega) (by decide) (by decide)) v_yX7_hasRoom m_X10_77 dX10_person_36 rfl (hL 74 (by decide)) (y_l_74 _) rfl (by decide) ⟨by decide, by decide⟩ (Nat.le_of_ble_eq_true rfl) ?_
      show E 1 6 39 [(0, .ref 64), (1, .int p), (2, .int q)] [.int (y_b ((k + 1) * 2 ≤ 16))] (y_mk n L D)
      refine t_demandRoom hX hV [.int (y_b ((k + 1) * 2 ≤ 16))] dX10_person_39 m_X10_83 rfl (by decide) ⟨by decide, by decide⟩ (Nat.le_of_ble_eq_true rfl) (fun c39 => ?_) (fun c39 n2 hn2 => r_out hX ⟨by first | exact Or.inl ⟨by grind, rfl⟩ | exact Or.inr ⟨by grind, by omega, rfl⟩ | grind, n2, hn2, rfl⟩ (by decide) (by decide))
      show E 2 12 42 [(0, .ref 64), (1, .int p), (2, .int q)] [] (y_mk n L D)
      refine r_aload_n hE dX10_person_42 rfl ?_
      refine t_getr hE f_X10_35 y_R_64_6 dX10_person_43 (hL 64 (by decide)) ?_
      refine t_invv (r := none) (S2 := (y_mk n L (y_sw D 162 (y_cp (fun _ => 0) (D 162).1 512)))) hE [] (k_forget hL) v_yX1_forget m_X10_86 dX10_person_46 rfl (hL 151 (by decide)) (y_l_151 _) rfl (by decide) ⟨by decide, by decide⟩ (Nat.le_of_ble_eq_true rfl) ?_
      show E 2 12 49 [(0, .ref 64), (1, .int p), (2, .int q)] [] (y_mk n L (y_sw D 162 (y_cp (fun _ => 0) (D 162).1 512)))
      refine r_aload_n hE dX10_person_49 rfl ?_
      refine t_getr hE f_X10_23 y_R_64_3 dX10_person_50 (hL 64 (by decide)) ?_
      refine t_getr hE f_X10_73 y_R_73_0 dX10_person_53 (hL 73 (by decide)) ?_
      refine r_iload_n hE dX10_person_56 rfl ?_
      refine r_iload_n hE dX10_person_57 rfl ?_
      refine r_iconst (v := 0) hE dX10_person_58 (by decide) ?_
      refine r_iconst (v := 0) hE dX10_person_59 (by decide) ?_
      refine r_iconst (v := 0) hE dX10_person_60 (by decide) ?_
      refine t_invv (r := (some (.int (nI k)))) (S2 := (y_mk n L (y_Tadd (y_sw D 162 (y_cp (fun _ => 0) (D 162).1 512)) 74 75 16 k 2 p q 0 0 0))) hE [.int p, .int q, .int 0, .int 0, .int 0] (k_add (k := k) (wd := 2) y_T_74 (hL 74 (by decide)) (hL 75 (by decide)) (by simpa [y_sw, y_si] using hs) (by simpa [y_sw, y_si] using hw) (by omega) (by decide) (by decide)) v_yX7_add m_X10_89 dX10_person_61 rfl (hL 74 (by decide)) (y_l_74 _) rfl (by decide) ⟨by decide, by decide⟩ (Nat.le_of_ble_eq_true rfl) ?_
      show E 2 12 64 [(0, .ref 64), (1, .int p), (2, .int q)] [.int (nI k)] (y_mk n L (y_Tadd (y_sw D 162 (y_cp (fun _ => 0) (D 162).1 512)) 74 75 16 k 2 p q 0 0 0))
      refine r_ireturn hE dX10_person_64 rfl rfl (by decide) (by decide) ?_
      exact ⟨_, _, rfl, rfl, by grind, by omega, rfl, rfl⟩

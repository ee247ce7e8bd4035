theorem k_fill {V : x_E} {n : Nat} {L : List Nat} {D : y_D} {h len : Nat} {v : Int32} (yA_h : y_A h 0 len) (hm_h : h ∈ L) (hlen : len < 2 ^ 31) : x_Fn V yJ7_fill_53178 cJ7_fill_53178 4 none 0 [.ref h, .int v] (y_mk n L D) none (y_mk n L (y_sw D h (y_cp (fun _ => v) (D h).1 len))) := by
  refine x_fn (by decide) (Nat.le_of_ble_eq_true rfl) (fun E hE => ?_)
  change E 0 0 0 [(0, .ref h), (1, .int v)] [] (y_mk n L D)
  have lp : ∀ (i : Nat), i ≤ len → E 0 0 5 [(0, .ref h), (1, .int v), (2, .int (nI i)), (3, .int (nI len))] [] (y_mk n L (y_sw D h (y_cp (fun _ => v) (D h).1 i))) := by
    intro i
    induction hm9 : (len - i) using Nat.strongRecOn generalizing i with
    | _ m9 ih =>
      intro hi
      refine r_iload_n hE dJ7_fill_53178_5 rfl ?_
      refine r_iload_n hE dJ7_fill_53178_6 rfl ?_
      refine r_icmp_geN (a := i) (b := len) (tgt := 20) hE dJ7_fill_53178_7 (by decide) (by omega) (by omega) (fun c7 => ?_) (fun c7 => ?_)
      · refine r_return hE dJ7_fill_53178_20 rfl (Nat.zero_le _) (Nat.zero_le _) ?_
        have hi2 : i = len := by omega
        subst hi2
        exact ⟨rfl, rfl⟩
      · refine r_aload_n hE dJ7_fill_53178_10 rfl ?_
        refine r_iload_n hE dJ7_fill_53178_11 rfl ?_
        refine r_iload_n hE dJ7_fill_53178_12 rfl ?_
        refine t_iastN (e := i) hE yA_h dJ7_fill_53178_13 hm_h (by omega) (by omega) ?_
        refine r_iincN (a := i) (b := 1) (ls2 := [(0, .ref h), (1, .int v), (2, .int (nI (i + 1))), (3, .int (nI len))]) hE dJ7_fill_53178_14 rfl rfl (by decide) rfl ?_
        refine r_goto (tgt := 5) hE dJ7_fill_53178_17 (by decide) ?_
        rw [y_si_sw, show upd (y_cp (fun _ => v) (D h).1 i) i v = y_cp (fun _ => v) (D h).1 (i + 1) from y_cp_s (f := fun _ => v)]
        exact ih (len - (i + 1)) (by omega) (i + 1) rfl (by omega)
  refine r_iconst (v := 0) hE dJ7_fill_53178_0 (by decide) ?_
  refine r_istore_n (ls2 := [(0, .ref h), (1, .int v), (2, .int 0)]) hE dJ7_fill_53178_1 (by decide) rfl ?_
  refine r_aload_n hE dJ7_fill_53178_2 rfl ?_
  refine t_alen (v := nI len) hE yA_h (by decide) dJ7_fill_53178_3 hm_h rfl ?_
  refine r_istore_n (ls2 := [(0, .ref h), (1, .int v), (2, .int 0), (3, .int (nI len))]) hE dJ7_fill_53178_4 (by decide) rfl ?_
  have h0 := lp 0 (by omega)
  rw [y_cp_0, y_sw_self] at h0
  exact h0
theorem k_forget {V : x_E} {n : Nat} {L : List Nat} {D : y_D} (hL : y_ok L) : x_Fn V yX1_forget cX1_forget 1 none 1 [.ref 151] (y_mk n L D) none (y_mk n L (y_sw D 162 (y_cp (fun _ => 0) (D 162).1 512))) := by
  refine x_fn (by decide) (Nat.le_of_ble_eq_true rfl) (fun E hE => ?_)
  change E 0 0 0 [(0, .ref 151)] [] (y_mk n L D)
  refine r_aload_n hE dX1_forget_0 rfl ?_
  refine t_getr hE f_X1_34 y_R_151_7 dX1_forget_1 (hL 151 (by decide)) ?_
  refine r_iconst (v := 0) hE dX1_forget_4 (by decide) ?_
  refine t_invs (r := none) (S2 := (y_mk n L (y_sw D 162 (y_cp (fun _ => 0) (D 162).1 512)))) hE [.ref 162, .int 0] (k_fill y_A_162 (hL 162 (by decide)) (by decide)) s_yJ7_fill_53178 m_X1_41 dX1_forget_5 rfl (by decide) ⟨Nat.le_refl _, Nat.le_refl _⟩ (Nat.le_of_ble_eq_true rfl) ?_
  show E 0 0 8 [(0, .ref 151)] [] (y_mk n L (y_sw D 162 (y_cp (fun _ => 0) (D 162).1 512)))
  refine r_return hE dX1_forget_8 rfl (Nat.zero_le _) (Nat.zero_le _) ?_
  exact ⟨rfl, rfl⟩
theorem f_person {V : x_E} (hV : y_V V) {n : Nat} {L : List Nat} {D : y_D} (hL : y_ok L) {p q : Int32} {k : Nat} (hs : (D 74).1 2 = nI k) (hw : (D 74).1 0 = nI 2) (hk : k ≤ 8) : y_Fi V yX10_person cX10_person 3 (some .int) 8 2 12 [.ref 64, .int p, .int q] n L D (fun v D2 => ((0 ≤ p ∧ p ≤ 9) ∧ (0 ≤ q ∧ q ≤ 400)) ∧ k < 8 ∧ v = nI k ∧ D2 = y_Tadd (y_sw D 162 (y_cp (fun _ => 0) (D 162).1 512)) 74 75 16 k 2 p q 0 0 0) (fun E9 => (¬ ((0 ≤ p ∧ p ≤ 9) ∧ (0 ≤ q ∧ q ≤ 400)) ∧ E9 = y_IAE) ∨ (((0 ≤ p ∧ p ≤ 9) ∧ (0 ≤ q ∧ q ≤ 400)) ∧ k = 8 ∧ E9 = y_UOE)) := by
  refine x_cx (by decide) hV.1 (fun a0 S0 h => by rw [h.1]; exact Nat.le_of_ble_eq_true rfl) (fun a0 S0 h E EX hX => ?_)
  obtain ⟨rfl, rfl⟩ := h
  have hE := hX.x
  change E 0 0 0 [(0, .ref 64), (1, .int p), (2, .int q)] [] (y_mk n L D)
  refine r_iload_n hE dX10_person_0 rfl ?_
  refine r_iconst (v := 0) hE dX10_person_1 (by decide) ?_
  refine r_bipush (v := 9) hE dX10_person_2 (by decide) ?_
  refine t_invs (r := (some (.int (y_b (0 ≤ p ∧ p ≤ 9))))) (S2 := (y_mk n L D)) hE [.int p, .int 0, .int 9] (k_isBetween) s_yX10_isBetween m_X10_65 dX10_person_4 rfl (by decide) ⟨by decide, by decide⟩ (Nat.le_of_ble_eq_true rfl) ?_
  show E 0 0 7 [(0, .ref 64), (1, .int p), (2, .int q)] [.int (y_b (0 ≤ p ∧ p ≤ 9))] (y_mk n L D)
  refine r_ifb_eq (tgt := 25) hE dX10_person_7 (by decide) (fun c7 => ?_) (fun c7 => ?_)
  · refine r_iconst (v := 0) hE dX10_person_25 (by decide) ?_
    refine t_demand (p := False) hX hV [.int 0] dX10_person_26 m_X10_69 rfl (by decide) ⟨by decide, by decide⟩ (Nat.le_of_ble_eq_true rfl) (fun c26 => c26.elim) (fun c26 n2 hn2 => r_out hX ⟨by first | exact Or.inl ⟨by grind, rfl⟩ | exact Or.inr ⟨by grind, by omega, rfl⟩ | grind, n2, hn2, rfl⟩ (by decide) (by decide))
  · refine r_iload_n hE dX10_person_10 rfl ?_
    refine r_iconst (v := 0) hE dX10_person_11 (by decide) ?_
    refine r_sipush (v := 400) hE dX10_person_12 (by decide) ?_
    refine t_invs (r := (some (.int (y_b (0 ≤ q ∧ q ≤ 400))))) (S2 := (y_mk n L D)) hE [.int q, .int 0, .int 400] (k_isBetween) s_yX10_isBetween m_X10_65 dX10_person_15 rfl (by decide) ⟨by decide, by decide⟩ (Nat.le_of_ble_eq_true rfl) ?_
    show E 0 0 18 [(0, .ref 64), (1, .int p), (2, .int q)] [.int (y_b (0 ≤ q ∧ q ≤ 400))] (y_mk n L D)
    refine r_ifb_eq (tgt := 25) hE dX10_person_18 (by decide) (fun c18 => ?_) (fun c18 => ?_)
    · refine r_iconst (v := 0) hE dX10_person_25 (by decide) ?_
      refine t_demand (p := False) hX hV [.int 0] dX10_person_26 m_X10_69 rfl (by decide) ⟨by decide, by decide⟩ (Nat.le_of_ble_eq_true rfl) (fun c26 => c26.elim) (fun c26 n2 hn2 => r_out hX ⟨by first | exact Or.inl ⟨by grind, rfl⟩ | exact Or.inr ⟨by grind, by omega, rfl⟩ | grind, n2, hn2, rfl⟩ (by decide) (by decide))
    · refine r_iconst (v := 1) hE dX10_person_21 (by decide) ?_
      refine r_goto (tgt := 26) hE dX10_person_22 (by decide) ?_
      refine t_demand (p := True) hX hV [.int 1] dX10_person_26 m_X10_69 rfl (by decide) ⟨by decide, by decide⟩ (Nat.le_of_ble_eq_true rfl) (fun c26 => ?_) (fun c26 _ _ => absurd trivial c26)
      show E 1 6 29 [(0, .ref 64), (1, .int p), (2, .int q)] [] (y_mk n L D)
      refine r_aload_n hE dX10_person_29 rfl ?_
      refine t_getr hE f_X10_23 y_R_64_3 dX10_person_30 (hL 64 (by decide)) ?_
      refine t_getr hE f_X10_73 y_R_73_0 dX10_person_33 (hL 73 (by decide)) ?_
      refine t_invv (r := (some (.int (y_b ((k + 1) * 2 ≤ 16))))) (S2 := (y_mk n L D)) hE [] (k_hasRoom (k := k) (wd := 2) y_T_74 (hL 74 (by decide)) (hL 75 (by decide)) (by simpa [y_sw, y_si] using hs) (by simpa [y_sw, y_si] using hw) (by omega) (by decide) (by decide)) v_yX7_hasRoom m_X10_77 dX10_person_36 rfl (hL 74 (by decide)) (y_l_74 (D 74)) rfl (by decide) ⟨by decide, by decide⟩ (Nat.le_of_ble_eq_true rfl) ?_
      show E 1 6 39 [(0, .ref 64), (1, .int p), (2, .int q)] [.int (y_b ((k + 1) * 2 ≤ 16))] (y_mk n L D)
      refine t_demandRoom hX hV [.int (y_b ((k + 1) * 2 ≤ 16))] dX10_person_39 m_X10_83 rfl (by decide) ⟨by decide, by decide⟩ (Nat.le_of_ble_eq_true rfl) (fun c39 => ?_) (fun c39 n2 hn2 => r_out hX ⟨by first | exact Or.inl ⟨by grind, rfl⟩ | exact Or.inr ⟨by grind, by omega, rfl⟩ | grind, n2, hn2, rfl⟩ (by decide) (by decide))
      show E 2 12 42 [(0, .ref 64), (1, .int p), (2, .int q)] [] (y_mk n L D)
      refine r_aload_n hE dX10_person_42 rfl ?_
      refine t_getr hE f_X10_35 y_R_64_6 dX10_person_43 (hL 64 (by decide)) ?_
      refine t_invv (r := none) (S2 := (y_mk n L (y_sw D 162 (y_cp (fun _ => 0) (D 162).1 512)))) hE [] (k_forget hL) v_yX1_forget m_X10_86 dX10_person_46 rfl (hL 151 (by decide)) (y_l_151 (D 151)) rfl (by decide) ⟨by decide, by decide⟩ (Nat.le_of_ble_eq_true rfl) ?_
      show E 2 12 49 [(0, .ref 64), (1, .int p), (2, .int q)] [] (y_mk n L (y_sw D 162 (y_cp (fun _ => 0) (D 162).1 512)))
      refine r_aload_n hE dX10_person_49 rfl ?_
      refine t_getr hE f_X10_23 y_R_64_3 dX10_person_50 (hL 64 (by decide)) ?_
      refine t_getr hE f_X10_73 y_R_73_0 dX10_person_53 (hL 73 (by decide)) ?_
      refine r_iload_n hE dX10_person_56 rfl ?_
      refine r_iload_n hE dX10_person_57 rfl ?_
      refine r_iconst (v := 0) hE dX10_person_58 (by decide) ?_
      refine r_iconst (v := 0) hE dX10_person_59 (by decide) ?_
      refine r_iconst (v := 0) hE dX10_person_60 (by decide) ?_
      refine t_invv (r := (some (.int (nI k)))) (S2 := (y_mk n L (y_Tadd (y_sw D 162 (y_cp (fun _ => 0) (D 162).1 512)) 74 75 16 k 2 p q 0 0 0))) hE [.int p, .int q, .int 0, .int 0, .int 0] (k_add (k := k) (wd := 2) y_T_74 (hL 74 (by decide)) (hL 75 (by decide)) (by simpa [y_sw, y_si] using hs) (by simpa [y_sw, y_si] using hw) (by omega) (by decide) (by decide)) v_yX7_add m_X10_89 dX10_person_61 rfl (hL 74 (by decide)) (y_l_74 ((y_sw D 162 (y_cp (fun _ => 0) (D 162).1 512)) 74)) rfl (by decide) ⟨by decide, by decide⟩ (Nat.le_of_ble_eq_true rfl) ?_
      show E 2 12 64 [(0, .ref 64), (1, .int p), (2, .int q)] [.int (nI k)] (y_mk n L (y_Tadd (y_sw D 162 (y_cp (fun _ => 0) (D 162).1 512)) 74 75 16 k 2 p q 0 0 0))
      refine r_ireturn hE dX10_person_64 rfl rfl (by decide) (by decide) ?_
      exact ⟨_, _, rfl, rfl, by grind, by omega, rfl, rfl⟩
theorem f_thing {V : x_E} (hV : y_V V) {n : Nat} {L : List Nat} {D : y_D} (hL : y_ok L) {p q r : Int32} {k : Nat} (hs : (D 78).1 2 = nI k) (hw : (D 78).1 0 = nI 3) (hk : k ≤ 6)  : y_Fi V yX10_thing cX10_thing 4 (some .int) 8 2 12 [.ref 64, .int p, .int q, .int r] n L D (fun v D2 => (((0 ≤ p ∧ p ≤ 2) ∧ (0 ≤ q ∧ q ≤ 2) ∧ (0 ≤ r ∧ r ≤ 9))) ∧ k < 6 ∧ v = nI k ∧ D2 = y_Tadd D 78 79 18 k 3 p q r 0 0) (fun E9 => (¬ ((0 ≤ p ∧ p ≤ 2) ∧ (0 ≤ q ∧ q ≤ 2) ∧ (0 ≤ r ∧ r ≤ 9)) ∧ E9 = y_IAE) ∨ (((0 ≤ p ∧ p ≤ 2) ∧ (0 ≤ q ∧ q ≤ 2) ∧ (0 ≤ r ∧ r ≤ 9)) ∧ k = 6 ∧ E9 = y_UOE)) := by
  refine x_cx (by decide) hV.1 (fun a0 S0 h => by rw [h.1]; exact Nat.le_of_ble_eq_true rfl) (fun a0 S0 h E EX hX => ?_)
  obtain ⟨rfl, rfl⟩ := h
  have hE := hX.x
  change E 0 0 0 [(0, .ref 64), (1, .int p), (2, .int q), (3, .int r)] [] (y_mk n L D)
  refine r_iload_n hE dX10_thing_0 rfl ?_
  refine r_iconst (v := 0) hE dX10_thing_1 (by decide) ?_
  refine r_iconst (v := 2) hE dX10_thing_2 (by decide) ?_
  refine t_invs (r := (some (.int (y_b (0 ≤ p ∧ p ≤ 2))))) (S2 := (y_mk n L D)) hE [.int p, .int 0, .int 2] (k_isBetween) s_yX10_isBetween m_X10_65 dX10_thing_3 rfl (by decide) ⟨by decide, by decide⟩ (Nat.le_of_ble_eq_true rfl) ?_
  show E 0 0 6 [(0, .ref 64), (1, .int p), (2, .int q), (3, .int r)] [.int (y_b (0 ≤ p ∧ p ≤ 2))] (y_mk n L D)
  refine r_ifb_eq (tgt := 32) hE dX10_thing_6 (by decide) (fun c6 => ?_) (fun c6 => ?_)
  · refine r_iconst (v := 0) hE dX10_thing_32 (by decide) ?_
    refine t_demand (p := False) hX hV [.int 0] dX10_thing_33 m_X10_69 rfl (by decide) ⟨by decide, by decide⟩ (Nat.le_of_ble_eq_true rfl) (fun c33 => c33.elim) (fun c33 n2 hn2 => r_out hX ⟨by grind, n2, hn2, rfl⟩ (by decide) (by decide))
  · refine r_iload_n hE dX10_thing_9 rfl ?_
    refine r_iconst (v := 0) hE dX10_thing_10 (by decide) ?_
    refine r_iconst (v := 2) hE dX10_thing_11 (by decide) ?_
    refine t_invs (r := (some (.int (y_b (0 ≤ q ∧ q ≤ 2))))) (S2 := (y_mk n L D)) hE [.int q, .int 0, .int 2] (k_isBetween) s_yX10_isBetween m_X10_65 dX10_thing_12 rfl (by decide) ⟨by decide, by decide⟩ (Nat.le_of_ble_eq_true rfl) ?_
    show E 0 0 15 [(0, .ref 64), (1, .int p), (2, .int q), (3, .int r)] [.int (y_b (0 ≤ q ∧ q ≤ 2))] (y_mk n L D)
    refine r_ifb_eq (tgt := 32) hE dX10_thing_15 (by decide) (fun c15 => ?_) (fun c15 => ?_)
    · refine r_iconst (v := 0) hE dX10_thing_32 (by decide) ?_
      refine t_demand (p := False) hX hV [.int 0] dX10_thing_33 m_X10_69 rfl (by decide) ⟨by decide, by decide⟩ (Nat.le_of_ble_eq_true rfl) (fun c33 => c33.elim) (fun c33 n2 hn2 => r_out hX ⟨by grind, n2, hn2, rfl⟩ (by decide) (by decide))
    · refine r_iload_n hE dX10_thing_18 rfl ?_
      refine r_iconst (v := 0) hE dX10_thing_19 (by decide) ?_
      refine r_bipush (v := 9) hE dX10_thing_20 (by decide) ?_
      refine t_invs (r := (some (.int (y_b (0 ≤ r ∧ r ≤ 9))))) (S2 := (y_mk n L D)) hE [.int r, .int 0, .int 9] (k_isBetween) s_yX10_isBetween m_X10_65 dX10_thing_22 rfl (by decide) ⟨by decide, by decide⟩ (Nat.le_of_ble_eq_true rfl) ?_
      show E 0 0 25 [(0, .ref 64), (1, .int p), (2, .int q), (3, .int r)] [.int (y_b (0 ≤ r ∧ r ≤ 9))] (y_mk n L D)
      refine r_ifb_eq (tgt := 32) hE dX10_thing_25 (by decide) (fun c25 => ?_) (fun c25 => ?_)
      · refine r_iconst (v := 0) hE dX10_thing_32 (by decide) ?_
        refine t_demand (p := False) hX hV [.int 0] dX10_thing_33 m_X10_69 rfl (by decide) ⟨by decide, by decide⟩ (Nat.le_of_ble_eq_true rfl) (fun c33 => c33.elim) (fun c33 n2 hn2 => r_out hX ⟨by grind, n2, hn2, rfl⟩ (by decide) (by decide))
      · refine r_iconst (v := 1) hE dX10_thing_28 (by decide) ?_
        refine r_goto (tgt := 33) hE dX10_thing_29 (by decide) ?_
        refine t_demand (p := True) hX hV [.int 1] dX10_thing_33 m_X10_69 rfl (by decide) ⟨by decide, by decide⟩ (Nat.le_of_ble_eq_true rfl) (fun c33 => ?_) (fun c33 _ _ => absurd trivial c33)
        show E 1 6 36 [(0, .ref 64), (1, .int p), (2, .int q), (3, .int r)] [] (y_mk n L D)
        refine r_aload_n hE dX10_thing_36 rfl ?_
        refine t_getr hE f_X10_23 y_R_64_3 dX10_thing_37 (hL 64 (by decide)) ?_
        refine t_getr hE f_X10_122 y_R_73_5 dX10_thing_40 (hL 73 (by decide)) ?_
        refine t_invv (r := (some (.int (y_b ((k + 1) * 3 ≤ 18))))) (S2 := (y_mk n L D)) hE [] (k_hasRoom (k := k) (wd := 3) y_T_78 (hL 78 (by decide)) (hL 79 (by decide)) (by simpa [y_sw, y_si] using hs) (by simpa [y_sw, y_si] using hw) (by omega) (by decide) (by decide)) v_yX7_hasRoom m_X10_77 dX10_thing_43 rfl (hL 78 (by decide)) (y_l_78 (D 78)) rfl (by decide) ⟨by decide, by decide⟩ (Nat.le_of_ble_eq_true rfl) ?_
        show E 1 6 46 [(0, .ref 64), (1, .int p), (2, .int q), (3, .int r)] [.int (y_b ((k + 1) * 3 ≤ 18))] (y_mk n L D)
        refine t_demandRoom hX hV [.int (y_b ((k + 1) * 3 ≤ 18))] dX10_thing_46 m_X10_83 rfl (by decide) ⟨by decide, by decide⟩ (Nat.le_of_ble_eq_true rfl) (fun c46 => ?_) (fun c46 n2 hn2 => r_out hX ⟨by grind, n2, hn2, rfl⟩ (by decide) (by decide))
        show E 2 12 49 [(0, .ref 64), (1, .int p), (2, .int q), (3, .int r)] [] (y_mk n L D)
        refine r_aload_n hE dX10_thing_49 rfl ?_
        refine t_getr hE f_X10_23 y_R_64_3 dX10_thing_50 (hL 64 (by decide)) ?_
        refine t_getr hE f_X10_122 y_R_73_5 dX10_thing_53 (hL 73 (by decide)) ?_
        refine r_iload_n hE dX10_thing_56 rfl ?_
        refine r_iload_n hE dX10_thing_57 rfl ?_
        refine r_iload_n hE dX10_thing_58 rfl ?_
        refine r_iconst (v := 0) hE dX10_thing_59 (by decide) ?_
        refine r_iconst (v := 0) hE dX10_thing_60 (by decide) ?_
        refine t_invv (r := (some (.int (nI k)))) (S2 := (y_mk n L (y_Tadd D 78 79 18 k 3 p q r 0 0))) hE [.int p, .int q, .int r, .int 0, .int 0] (k_add (k := k) (wd := 3) y_T_78 (hL 78 (by decide)) (hL 79 (by decide)) (by simpa [y_sw, y_si] using hs) (by simpa [y_sw, y_si] using hw) (by omega) (by decide) (by decide)) v_yX7_add m_X10_89 dX10_thing_61 rfl (hL 78 (by decide)) (y_l_78 (D 78)) rfl (by decide) ⟨by decide, by decide⟩ (Nat.le_of_ble_eq_true rfl) ?_
        show E 2 12 64 [(0, .ref 64), (1, .int p), (2, .int q), (3, .int r)] [.int (nI k)] (y_mk n L (y_Tadd D 78 79 18 k 3 p q r 0 0))
        refine r_ireturn hE dX10_thing_64 rfl rfl (by decide) (by decide) ?_
        exact ⟨_, _, rfl, rfl, by grind, by omega, rfl, rfl⟩
theorem f_note {V : x_E} (hV : y_V V) {n : Nat} {L : List Nat} {D : y_D} (hL : y_ok L) {p q : Int32} {k : Nat} (hs : (D 80).1 2 = nI k) (hw : (D 80).1 0 = nI 2) (hk : k ≤ 10)  : y_Fi V yX10_note cX10_note 3 (some .int) 8 3 18 [.ref 64, .int p, .int q] n L D (fun v D2 => ((0 ≤ p ∧ p < (D 78).1 2) ∧ (0 ≤ q ∧ q ≤ 300)) ∧ k < 10 ∧ v = nI k ∧ D2 = y_Tadd D 80 81 20 k 2 p q 0 0 0) (fun E9 => (¬ (0 ≤ p ∧ p < (D 78).1 2) ∧ E9 = y_IOB) ∨ ((0 ≤ p ∧ p < (D 78).1 2) ∧ ¬ (0 ≤ q ∧ q ≤ 300) ∧ E9 = y_IAE) ∨ ((0 ≤ p ∧ p < (D 78).1 2) ∧ (0 ≤ q ∧ q ≤ 300) ∧ k = 10 ∧ E9 = y_UOE)) := by
  refine x_cx (by decide) hV.1 (fun a0 S0 h => by rw [h.1]; exact Nat.le_of_ble_eq_true rfl) (fun a0 S0 h E EX hX => ?_)
  obtain ⟨rfl, rfl⟩ := h
  have hE := hX.x
  change E 0 0 0 [(0, .ref 64), (1, .int p), (2, .int q)] [] (y_mk n L D)
  refine r_iload_n hE dX10_note_0 rfl ?_
  refine r_aload_n hE dX10_note_1 rfl ?_
  refine t_getr hE f_X10_23 y_R_64_3 dX10_note_2 (hL 64 (by decide)) ?_
  refine t_getr hE f_X10_122 y_R_73_5 dX10_note_5 (hL 73 (by decide)) ?_
  refine t_geti hE f_X10_176 y_I_78_2 dX10_note_8 (hL 78 (by decide)) ?_
  refine t_demandRow hX hV [.int p, .int ((D 78).1 2)] dX10_note_11 m_X10_125 rfl (by decide) ⟨by decide, by decide⟩ (Nat.le_of_ble_eq_true rfl) (fun c11 => ?_) (fun c11 n2 hn2 => r_out hX ⟨by grind, n2, hn2, rfl⟩ (by decide) (by decide))
  show E 1 6 14 [(0, .ref 64), (1, .int p), (2, .int q)] [] (y_mk n L D)
  refine r_iload_n hE dX10_note_14 rfl ?_
  refine r_iconst (v := 0) hE dX10_note_15 (by decide) ?_
  refine r_sipush (v := 300) hE dX10_note_16 (by decide) ?_
  refine t_invs (r := (some (.int (y_b (0 ≤ q ∧ q ≤ 300))))) (S2 := (y_mk n L D)) hE [.int q, .int 0, .int 300] (k_isBetween) s_yX10_isBetween m_X10_65 dX10_note_19 rfl (by decide) ⟨by decide, by decide⟩ (Nat.le_of_ble_eq_true rfl) ?_
  show E 1 6 22 [(0, .ref 64), (1, .int p), (2, .int q)] [.int (y_b (0 ≤ q ∧ q ≤ 300))] (y_mk n L D)
  refine t_demand hX hV [.int (y_b (0 ≤ q ∧ q ≤ 300))] dX10_note_22 m_X10_69 rfl (by decide) ⟨by decide, by decide⟩ (Nat.le_of_ble_eq_true rfl) (fun c22 => ?_) (fun c22 n2 hn2 => r_out hX ⟨by grind, n2, hn2, rfl⟩ (by decide) (by decide))
  show E 2 12 25 [(0, .ref 64), (1, .int p), (2, .int q)] [] (y_mk n L D)
  refine r_aload_n hE dX10_note_25 rfl ?_
  refine t_getr hE f_X10_23 y_R_64_3 dX10_note_26 (hL 64 (by decide)) ?_
  refine t_getr hE f_X10_179 y_R_73_6 dX10_note_29 (hL 73 (by decide)) ?_
  refine t_invv (r := (some (.int (y_b ((k + 1) * 2 ≤ 20))))) (S2 := (y_mk n L D)) hE [] (k_hasRoom (k := k) (wd := 2) y_T_80 (hL 80 (by decide)) (hL 81 (by decide)) (by simpa [y_sw, y_si] using hs) (by simpa [y_sw, y_si] using hw) (by omega) (by decide) (by decide)) v_yX7_hasRoom m_X10_77 dX10_note_32 rfl (hL 80 (by decide)) (y_l_80 (D 80)) rfl (by decide) ⟨by decide, by decide⟩ (Nat.le_of_ble_eq_true rfl) ?_
  show E 2 12 35 [(0, .ref 64), (1, .int p), (2, .int q)] [.int (y_b ((k + 1) * 2 ≤ 20))] (y_mk n L D)
  refine t_demandRoom hX hV [.int (y_b ((k + 1) * 2 ≤ 20))] dX10_note_35 m_X10_83 rfl (by decide) ⟨by decide, by decide⟩ (Nat.le_of_ble_eq_true rfl) (fun c35 => ?_) (fun c35 n2 hn2 => r_out hX ⟨by grind, n2, hn2, rfl⟩ (by decide) (by decide))
  show E 3 18 38 [(0, .ref 64), (1, .int p), (2, .int q)] [] (y_mk n L D)
  refine r_aload_n hE dX10_note_38 rfl ?_
  refine t_getr hE f_X10_23 y_R_64_3 dX10_note_39 (hL 64 (by decide)) ?_
  refine t_getr hE f_X10_179 y_R_73_6 dX10_note_42 (hL 73 (by decide)) ?_
  refine r_iload_n hE dX10_note_45 rfl ?_
  refine r_iload_n hE dX10_note_46 rfl ?_
  refine r_iconst (v := 0) hE dX10_note_47 (by decide) ?_
  refine r_iconst (v := 0) hE dX10_note_48 (by decide) ?_
  refine r_iconst (v := 0) hE dX10_note_49 (by decide) ?_
  refine t_invv (r := (some (.int (nI k)))) (S2 := (y_mk n L (y_Tadd D 80 81 20 k 2 p q 0 0 0))) hE [.int p, .int q, .int 0, .int 0, .int 0] (k_add (k := k) (wd := 2) y_T_80 (hL 80 (by decide)) (hL 81 (by decide)) (by simpa [y_sw, y_si] using hs) (by simpa [y_sw, y_si] using hw) (by omega) (by decide) (by decide)) v_yX7_add m_X10_89 dX10_note_50 rfl (hL 80 (by decide)) (y_l_80 (D 80)) rfl (by decide) ⟨by decide, by decide⟩ (Nat.le_of_ble_eq_true rfl) ?_
  show E 3 18 53 [(0, .ref 64), (1, .int p), (2, .int q)] [.int (nI k)] (y_mk n L (y_Tadd D 80 81 20 k 2 p q 0 0 0))
  refine r_ireturn hE dX10_note_53 rfl rfl (by decide) (by decide) ?_
  exact ⟨_, _, rfl, rfl, by grind, by omega, rfl, rfl⟩
theorem f_trap {V : x_E} (hV : y_V V) {n : Nat} {L : List Nat} {D : y_D} (hL : y_ok L) {p q r : Int32} {k : Nat} (hs : (D 82).1 2 = nI k) (hw : (D 82).1 0 = nI 3) (hk : k ≤ 4)  : y_Fi V yX10_trap cX10_trap 4 (some .int) 8 3 18 [.ref 64, .int p, .int q, .int r] n L D (fun v D2 => ((0 ≤ p ∧ p < (D 73).1 4) ∧ ((1 ≤ q ∧ q ≤ 9) ∧ (1 ≤ r ∧ r ≤ 9))) ∧ k < 4 ∧ v = nI k ∧ D2 = y_Tadd D 82 83 12 k 3 p q r 0 0) (fun E9 => (¬ (0 ≤ p ∧ p < (D 73).1 4) ∧ E9 = y_IOB) ∨ ((0 ≤ p ∧ p < (D 73).1 4) ∧ ¬ ((1 ≤ q ∧ q ≤ 9) ∧ (1 ≤ r ∧ r ≤ 9)) ∧ E9 = y_IAE) ∨ ((0 ≤ p ∧ p < (D 73).1 4) ∧ ((1 ≤ q ∧ q ≤ 9) ∧ (1 ≤ r ∧ r ≤ 9)) ∧ k = 4 ∧ E9 = y_UOE)) := by
  refine x_cx (by decide) hV.1 (fun a0 S0 h => by rw [h.1]; exact Nat.le_of_ble_eq_true rfl) (fun a0 S0 h E EX hX => ?_)
  obtain ⟨rfl, rfl⟩ := h
  have hE := hX.x
  change E 0 0 0 [(0, .ref 64), (1, .int p), (2, .int q), (3, .int r)] [] (y_mk n L D)
  refine r_iload_n hE dX10_trap_0 rfl ?_
  refine r_aload_n hE dX10_trap_1 rfl ?_
  refine t_getr hE f_X10_23 y_R_64_3 dX10_trap_2 (hL 64 (by decide)) ?_
  refine t_geti hE f_X10_108 y_I_73_4 dX10_trap_5 (hL 73 (by decide)) ?_
  refine t_demandRow hX hV [.int p, .int ((D 73).1 4)] dX10_trap_8 m_X10_125 rfl (by decide) ⟨by decide, by decide⟩ (Nat.le_of_ble_eq_true rfl) (fun c8 => ?_) (fun c8 n2 hn2 => r_out hX ⟨by grind, n2, hn2, rfl⟩ (by decide) (by decide))
  show E 1 6 11 [(0, .ref 64), (1, .int p), (2, .int q), (3, .int r)] [] (y_mk n L D)
  refine r_iload_n hE dX10_trap_11 rfl ?_
  refine r_iconst (v := 1) hE dX10_trap_12 (by decide) ?_
  refine r_bipush (v := 9) hE dX10_trap_13 (by decide) ?_
  refine t_invs (r := (some (.int (y_b (1 ≤ q ∧ q ≤ 9))))) (S2 := (y_mk n L D)) hE [.int q, .int 1, .int 9] (k_isBetween) s_yX10_isBetween m_X10_65 dX10_trap_15 rfl (by decide) ⟨by decide, by decide⟩ (Nat.le_of_ble_eq_true rfl) ?_
  show E 1 6 18 [(0, .ref 64), (1, .int p), (2, .int q), (3, .int r)] [.int (y_b (1 ≤ q ∧ q ≤ 9))] (y_mk n L D)
  refine r_ifb_eq (tgt := 35) hE dX10_trap_18 (by decide) (fun c18 => ?_) (fun c18 => ?_)
  · refine r_iconst (v := 0) hE dX10_trap_35 (by decide) ?_
    refine t_demand (p := False) hX hV [.int 0] dX10_trap_36 m_X10_69 rfl (by decide) ⟨by decide, by decide⟩ (Nat.le_of_ble_eq_true rfl) (fun c36 => c36.elim) (fun c36 n2 hn2 => r_out hX ⟨by grind, n2, hn2, rfl⟩ (by decide) (by decide))
  · refine r_iload_n hE dX10_trap_21 rfl ?_
    refine r_iconst (v := 1) hE dX10_trap_22 (by decide) ?_
    refine r_bipush (v := 9) hE dX10_trap_23 (by decide) ?_
    refine t_invs (r := (some (.int (y_b (1 ≤ r ∧ r ≤ 9))))) (S2 := (y_mk n L D)) hE [.int r, .int 1, .int 9] (k_isBetween) s_yX10_isBetween m_X10_65 dX10_trap_25 rfl (by decide) ⟨by decide, by decide⟩ (Nat.le_of_ble_eq_true rfl) ?_
    show E 1 6 28 [(0, .ref 64), (1, .int p), (2, .int q), (3, .int r)] [.int (y_b (1 ≤ r ∧ r ≤ 9))] (y_mk n L D)
    refine r_ifb_eq (tgt := 35) hE dX10_trap_28 (by decide) (fun c28 => ?_) (fun c28 => ?_)
    · refine r_iconst (v := 0) hE dX10_trap_35 (by decide) ?_
      refine t_demand (p := False) hX hV [.int 0] dX10_trap_36 m_X10_69 rfl (by decide) ⟨by decide, by decide⟩ (Nat.le_of_ble_eq_true rfl) (fun c36 => c36.elim) (fun c36 n2 hn2 => r_out hX ⟨by grind, n2, hn2, rfl⟩ (by decide) (by decide))
    · refine r_iconst (v := 1) hE dX10_trap_31 (by decide) ?_
      refine r_goto (tgt := 36) hE dX10_trap_32 (by decide) ?_
      refine t_demand (p := True) hX hV [.int 1] dX10_trap_36 m_X10_69 rfl (by decide) ⟨by decide, by decide⟩ (Nat.le_of_ble_eq_true rfl) (fun c36 => ?_) (fun c36 _ _ => absurd trivial c36)
      show E 2 12 39 [(0, .ref 64), (1, .int p), (2, .int q), (3, .int r)] [] (y_mk n L D)
      refine r_aload_n hE dX10_trap_39 rfl ?_
      refine t_getr hE f_X10_23 y_R_64_3 dX10_trap_40 (hL 64 (by decide)) ?_
      refine t_getr hE f_X10_216 y_R_73_7 dX10_trap_43 (hL 73 (by decide)) ?_
      refine t_invv (r := (some (.int (y_b ((k + 1) * 3 ≤ 12))))) (S2 := (y_mk n L D)) hE [] (k_hasRoom (k := k) (wd := 3) y_T_82 (hL 82 (by decide)) (hL 83 (by decide)) (by simpa [y_sw, y_si] using hs) (by simpa [y_sw, y_si] using hw) (by omega) (by decide) (by decide)) v_yX7_hasRoom m_X10_77 dX10_trap_46 rfl (hL 82 (by decide)) (y_l_82 (D 82)) rfl (by decide) ⟨by decide, by decide⟩ (Nat.le_of_ble_eq_true rfl) ?_
      show E 2 12 49 [(0, .ref 64), (1, .int p), (2, .int q), (3, .int r)] [.int (y_b ((k + 1) * 3 ≤ 12))] (y_mk n L D)
      refine t_demandRoom hX hV [.int (y_b ((k + 1) * 3 ≤ 12))] dX10_trap_49 m_X10_83 rfl (by decide) ⟨by decide, by decide⟩ (Nat.le_of_ble_eq_true rfl) (fun c49 => ?_) (fun c49 n2 hn2 => r_out hX ⟨by grind, n2, hn2, rfl⟩ (by decide) (by decide))
      show E 3 18 52 [(0, .ref 64), (1, .int p), (2, .int q), (3, .int r)] [] (y_mk n L D)
      refine r_aload_n hE dX10_trap_52 rfl ?_
      refine t_getr hE f_X10_23 y_R_64_3 dX10_trap_53 (hL 64 (by decide)) ?_
      refine t_getr hE f_X10_216 y_R_73_7 dX10_trap_56 (hL 73 (by decide)) ?_
      refine r_iload_n hE dX10_trap_59 rfl ?_
      refine r_iload_n hE dX10_trap_60 rfl ?_
      refine r_iload_n hE dX10_trap_61 rfl ?_
      refine r_iconst (v := 0) hE dX10_trap_62 (by decide) ?_
      refine r_iconst (v := 0) hE dX10_trap_63 (by decide) ?_
      refine t_invv (r := (some (.int (nI k)))) (S2 := (y_mk n L (y_Tadd D 82 83 12 k 3 p q r 0 0))) hE [.int p, .int q, .int r, .int 0, .int 0] (k_add (k := k) (wd := 3) y_T_82 (hL 82 (by decide)) (hL 83 (by decide)) (by simpa [y_sw, y_si] using hs) (by simpa [y_sw, y_si] using hw) (by omega) (by decide) (by decide)) v_yX7_add m_X10_89 dX10_trap_64 rfl (hL 82 (by decide)) (y_l_82 (D 82)) rfl (by decide) ⟨by decide, by decide⟩ (Nat.le_of_ble_eq_true rfl) ?_
      show E 3 18 67 [(0, .ref 64), (1, .int p), (2, .int q), (3, .int r)] [.int (nI k)] (y_mk n L (y_Tadd D 82 83 12 k 3 p q r 0 0))
      refine r_ireturn hE dX10_trap_67 rfl rfl (by decide) (by decide) ?_
      exact ⟨_, _, rfl, rfl, by grind, by omega, rfl, rfl⟩
theorem f_story {V : x_E} (hV : y_V V) {n : Nat} {L : List Nat} {D : y_D} (hL : y_ok L) {p q r : Int32} {k : Nat} (hs : (D 84).1 2 = nI k) (hw : (D 84).1 0 = nI 3) (hk : k ≤ 5)  : y_Fi V yX10_story cX10_story 4 (some .int) 8 2 12 [.ref 64, .int p, .int q, .int r] n L D (fun v D2 => (((1 ≤ p ∧ p ≤ 99) ∧ (r = -1 ∨ (1 ≤ r ∧ r ≤ 7)))) ∧ k < 5 ∧ v = nI k ∧ D2 = y_Tadd D 84 85 15 k 3 p q r 0 0) (fun E9 => (¬ ((1 ≤ p ∧ p ≤ 99) ∧ (r = -1 ∨ (1 ≤ r ∧ r ≤ 7))) ∧ E9 = y_IAE) ∨ (((1 ≤ p ∧ p ≤ 99) ∧ (r = -1 ∨ (1 ≤ r ∧ r ≤ 7))) ∧ k = 5 ∧ E9 = y_UOE)) := by
  refine x_cx (by decide) hV.1 (fun a0 S0 h => by rw [h.1]; exact Nat.le_of_ble_eq_true rfl) (fun a0 S0 h E EX hX => ?_)
  obtain ⟨rfl, rfl⟩ := h
  have hE := hX.x
  change E 0 0 0 [(0, .ref 64), (1, .int p), (2, .int q), (3, .int r)] [] (y_mk n L D)
  refine r_iload_n hE dX10_story_0 rfl ?_
  refine r_iconst (v := 1) hE dX10_story_1 (by decide) ?_
  refine r_bipush (v := 99) hE dX10_story_2 (by decide) ?_
  refine t_invs (r := (some (.int (y_b (1 ≤ p ∧ p ≤ 99))))) (S2 := (y_mk n L D)) hE [.int p, .int 1, .int 99] (k_isBetween) s_yX10_isBetween m_X10_65 dX10_story_4 rfl (by decide) ⟨by decide, by decide⟩ (Nat.le_of_ble_eq_true rfl) ?_
  show E 0 0 7 [(0, .ref 64), (1, .int p), (2, .int q), (3, .int r)] [.int (y_b (1 ≤ p ∧ p ≤ 99))] (y_mk n L D)
  refine r_ifb_eq (tgt := 29) hE dX10_story_7 (by decide) (fun c7 => ?_) (fun c7 => ?_)
  · refine r_iconst (v := 0) hE dX10_story_29 (by decide) ?_
    refine t_demand (p := False) hX hV [.int 0] dX10_story_30 m_X10_69 rfl (by decide) ⟨by decide, by decide⟩ (Nat.le_of_ble_eq_true rfl) (fun c30 => c30.elim) (fun c30 n2 hn2 => r_out hX ⟨by grind, n2, hn2, rfl⟩ (by decide) (by decide))
  · refine r_iload_n hE dX10_story_10 rfl ?_
    refine r_iconst (v := (-1)) hE dX10_story_11 (by decide) ?_
    refine r_icmp_eq (tgt := 25) hE dX10_story_12 (by decide) (fun c12 => ?_) (fun c12 => ?_)
    · refine r_iconst (v := 1) hE dX10_story_25 (by decide) ?_
      refine r_goto (tgt := 30) hE dX10_story_26 (by decide) ?_
      refine t_demand (p := True) hX hV [.int 1] dX10_story_30 m_X10_69 rfl (by decide) ⟨by decide, by decide⟩ (Nat.le_of_ble_eq_true rfl) (fun c30 => ?_) (fun c30 _ _ => absurd trivial c30)
      show E 1 6 33 [(0, .ref 64), (1, .int p), (2, .int q), (3, .int r)] [] (y_mk n L D)
      refine r_aload_n hE dX10_story_33 rfl ?_
      refine t_getr hE f_X10_23 y_R_64_3 dX10_story_34 (hL 64 (by decide)) ?_
      refine t_getr hE f_X10_219 y_R_73_8 dX10_story_37 (hL 73 (by decide)) ?_
      refine t_invv (r := (some (.int (y_b ((k + 1) * 3 ≤ 15))))) (S2 := (y_mk n L D)) hE [] (k_hasRoom (k := k) (wd := 3) y_T_84 (hL 84 (by decide)) (hL 85 (by decide)) (by simpa [y_sw, y_si] using hs) (by simpa [y_sw, y_si] using hw) (by omega) (by decide) (by decide)) v_yX7_hasRoom m_X10_77 dX10_story_40 rfl (hL 84 (by decide)) (y_l_84 (D 84)) rfl (by decide) ⟨by decide, by decide⟩ (Nat.le_of_ble_eq_true rfl) ?_
      show E 1 6 43 [(0, .ref 64), (1, .int p), (2, .int q), (3, .int r)] [.int (y_b ((k + 1) * 3 ≤ 15))] (y_mk n L D)
      refine t_demandRoom hX hV [.int (y_b ((k + 1) * 3 ≤ 15))] dX10_story_43 m_X10_83 rfl (by decide) ⟨by decide, by decide⟩ (Nat.le_of_ble_eq_true rfl) (fun c43 => ?_) (fun c43 n2 hn2 => r_out hX ⟨by grind, n2, hn2, rfl⟩ (by decide) (by decide))
      show E 2 12 46 [(0, .ref 64), (1, .int p), (2, .int q), (3, .int r)] [] (y_mk n L D)
      refine r_aload_n hE dX10_story_46 rfl ?_
      refine t_getr hE f_X10_23 y_R_64_3 dX10_story_47 (hL 64 (by decide)) ?_
      refine t_getr hE f_X10_219 y_R_73_8 dX10_story_50 (hL 73 (by decide)) ?_
      refine r_iload_n hE dX10_story_53 rfl ?_
      refine r_iload_n hE dX10_story_54 rfl ?_
      refine r_iload_n hE dX10_story_55 rfl ?_
      refine r_iconst (v := 0) hE dX10_story_56 (by decide) ?_
      refine r_iconst (v := 0) hE dX10_story_57 (by decide) ?_
      refine t_invv (r := (some (.int (nI k)))) (S2 := (y_mk n L (y_Tadd D 84 85 15 k 3 p q r 0 0))) hE [.int p, .int q, .int r, .int 0, .int 0] (k_add (k := k) (wd := 3) y_T_84 (hL 84 (by decide)) (hL 85 (by decide)) (by simpa [y_sw, y_si] using hs) (by simpa [y_sw, y_si] using hw) (by omega) (by decide) (by decide)) v_yX7_add m_X10_89 dX10_story_58 rfl (hL 84 (by decide)) (y_l_84 (D 84)) rfl (by decide) ⟨by decide, by decide⟩ (Nat.le_of_ble_eq_true rfl) ?_
      show E 2 12 61 [(0, .ref 64), (1, .int p), (2, .int q), (3, .int r)] [.int (nI k)] (y_mk n L (y_Tadd D 84 85 15 k 3 p q r 0 0))
      refine r_ireturn hE dX10_story_61 rfl rfl (by decide) (by decide) ?_
      exact ⟨_, _, rfl, rfl, by grind, by omega, rfl, rfl⟩
    · refine r_iload_n hE dX10_story_15 rfl ?_
      refine r_iconst (v := 1) hE dX10_story_16 (by decide) ?_
      refine r_bipush (v := 7) hE dX10_story_17 (by decide) ?_
      refine t_invs (r := (some (.int (y_b (1 ≤ r ∧ r ≤ 7))))) (S2 := (y_mk n L D)) hE [.int r, .int 1, .int 7] (k_isBetween) s_yX10_isBetween m_X10_65 dX10_story_19 rfl (by decide) ⟨by decide, by decide⟩ (Nat.le_of_ble_eq_true rfl) ?_
      show E 0 0 22 [(0, .ref 64), (1, .int p), (2, .int q), (3, .int r)] [.int (y_b (1 ≤ r ∧ r ≤ 7))] (y_mk n L D)
      refine r_ifb_eq (tgt := 29) hE dX10_story_22 (by decide) (fun c22 => ?_) (fun c22 => ?_)
      · refine r_iconst (v := 0) hE dX10_story_29 (by decide) ?_
        refine t_demand (p := False) hX hV [.int 0] dX10_story_30 m_X10_69 rfl (by decide) ⟨by decide, by decide⟩ (Nat.le_of_ble_eq_true rfl) (fun c30 => c30.elim) (fun c30 n2 hn2 => r_out hX ⟨by grind, n2, hn2, rfl⟩ (by decide) (by decide))
      · refine r_iconst (v := 1) hE dX10_story_25 (by decide) ?_
        refine r_goto (tgt := 30) hE dX10_story_26 (by decide) ?_
        refine t_demand (p := True) hX hV [.int 1] dX10_story_30 m_X10_69 rfl (by decide) ⟨by decide, by decide⟩ (Nat.le_of_ble_eq_true rfl) (fun c30 => ?_) (fun c30 _ _ => absurd trivial c30)
        show E 1 6 33 [(0, .ref 64), (1, .int p), (2, .int q), (3, .int r)] [] (y_mk n L D)
        refine r_aload_n hE dX10_story_33 rfl ?_
        refine t_getr hE f_X10_23 y_R_64_3 dX10_story_34 (hL 64 (by decide)) ?_
        refine t_getr hE f_X10_219 y_R_73_8 dX10_story_37 (hL 73 (by decide)) ?_
        refine t_invv (r := (some (.int (y_b ((k + 1) * 3 ≤ 15))))) (S2 := (y_mk n L D)) hE [] (k_hasRoom (k := k) (wd := 3) y_T_84 (hL 84 (by decide)) (hL 85 (by decide)) (by simpa [y_sw, y_si] using hs) (by simpa [y_sw, y_si] using hw) (by omega) (by decide) (by decide)) v_yX7_hasRoom m_X10_77 dX10_story_40 rfl (hL 84 (by decide)) (y_l_84 (D 84)) rfl (by decide) ⟨by decide, by decide⟩ (Nat.le_of_ble_eq_true rfl) ?_
        show E 1 6 43 [(0, .ref 64), (1, .int p), (2, .int q), (3, .int r)] [.int (y_b ((k + 1) * 3 ≤ 15))] (y_mk n L D)
        refine t_demandRoom hX hV [.int (y_b ((k + 1) * 3 ≤ 15))] dX10_story_43 m_X10_83 rfl (by decide) ⟨by decide, by decide⟩ (Nat.le_of_ble_eq_true rfl) (fun c43 => ?_) (fun c43 n2 hn2 => r_out hX ⟨by grind, n2, hn2, rfl⟩ (by decide) (by decide))
        show E 2 12 46 [(0, .ref 64), (1, .int p), (2, .int q), (3, .int r)] [] (y_mk n L D)
        refine r_aload_n hE dX10_story_46 rfl ?_
        refine t_getr hE f_X10_23 y_R_64_3 dX10_story_47 (hL 64 (by decide)) ?_
        refine t_getr hE f_X10_219 y_R_73_8 dX10_story_50 (hL 73 (by decide)) ?_
        refine r_iload_n hE dX10_story_53 rfl ?_
        refine r_iload_n hE dX10_story_54 rfl ?_
        refine r_iload_n hE dX10_story_55 rfl ?_
        refine r_iconst (v := 0) hE dX10_story_56 (by decide) ?_
        refine r_iconst (v := 0) hE dX10_story_57 (by decide) ?_
        refine t_invv (r := (some (.int (nI k)))) (S2 := (y_mk n L (y_Tadd D 84 85 15 k 3 p q r 0 0))) hE [.int p, .int q, .int r, .int 0, .int 0] (k_add (k := k) (wd := 3) y_T_84 (hL 84 (by decide)) (hL 85 (by decide)) (by simpa [y_sw, y_si] using hs) (by simpa [y_sw, y_si] using hw) (by omega) (by decide) (by decide)) v_yX7_add m_X10_89 dX10_story_58 rfl (hL 84 (by decide)) (y_l_84 (D 84)) rfl (by decide) ⟨by decide, by decide⟩ (Nat.le_of_ble_eq_true rfl) ?_
        show E 2 12 61 [(0, .ref 64), (1, .int p), (2, .int q), (3, .int r)] [.int (nI k)] (y_mk n L (y_Tadd D 84 85 15 k 3 p q r 0 0))
        refine r_ireturn hE dX10_story_61 rfl rfl (by decide) (by decide) ?_
        exact ⟨_, _, rfl, rfl, by grind, by omega, rfl, rfl⟩
theorem f_told {V : x_E} (hV : y_V V) {n : Nat} {L : List Nat} {D : y_D} (hL : y_ok L) {p q r : Int32} {k : Nat} (hs : (D 88).1 2 = nI k) (hw : (D 88).1 0 = nI 3) (hk : k ≤ 20)  : y_Fi V yX10_told cX10_told 4 (some .int) 8 4 24 [.ref 64, .int p, .int q, .int r] n L D (fun v D2 => ((0 ≤ p ∧ p < 8) ∧ (0 ≤ q ∧ q < 8) ∧ (¬ p = q ∧ (0 ≤ r ∧ r ≤ 365))) ∧ k < 20 ∧ v = nI k ∧ D2 = y_Tadd D 88 89 60 k 3 p q r 0 0) (fun E9 => (¬ (0 ≤ p ∧ p < 8) ∧ E9 = y_IOB) ∨ ((0 ≤ p ∧ p < 8) ∧ ¬ (0 ≤ q ∧ q < 8) ∧ E9 = y_IOB) ∨ ((0 ≤ p ∧ p < 8) ∧ (0 ≤ q ∧ q < 8) ∧ ¬ (¬ p = q ∧ (0 ≤ r ∧ r ≤ 365)) ∧ E9 = y_IAE) ∨ ((0 ≤ p ∧ p < 8) ∧ (0 ≤ q ∧ q < 8) ∧ (¬ p = q ∧ (0 ≤ r ∧ r ≤ 365)) ∧ k = 20 ∧ E9 = y_UOE)) := by
  refine x_cx (by decide) hV.1 (fun a0 S0 h => by rw [h.1]; exact Nat.le_of_ble_eq_true rfl) (fun a0 S0 h E EX hX => ?_)
  obtain ⟨rfl, rfl⟩ := h
  have hE := hX.x
  change E 0 0 0 [(0, .ref 64), (1, .int p), (2, .int q), (3, .int r)] [] (y_mk n L D)
  refine r_iload_n hE dX10_told_0 rfl ?_
  refine r_bipush (v := 8) hE dX10_told_1 (by decide) ?_
  refine t_demandRow hX hV [.int p, .int 8] dX10_told_3 m_X10_125 rfl (by decide) ⟨by decide, by decide⟩ (Nat.le_of_ble_eq_true rfl) (fun c3 => ?_) (fun c3 n2 hn2 => r_out hX ⟨by grind, n2, hn2, rfl⟩ (by decide) (by decide))
  show E 1 6 6 [(0, .ref 64), (1, .int p), (2, .int q), (3, .int r)] [] (y_mk n L D)
  refine r_iload_n hE dX10_told_6 rfl ?_
  refine r_bipush (v := 8) hE dX10_told_7 (by decide) ?_
  refine t_demandRow hX hV [.int q, .int 8] dX10_told_9 m_X10_125 rfl (by decide) ⟨by decide, by decide⟩ (Nat.le_of_ble_eq_true rfl) (fun c9 => ?_) (fun c9 n2 hn2 => r_out hX ⟨by grind, n2, hn2, rfl⟩ (by decide) (by decide))
  show E 2 12 12 [(0, .ref 64), (1, .int p), (2, .int q), (3, .int r)] [] (y_mk n L D)
  refine r_iload_n hE dX10_told_12 rfl ?_
  refine r_iload_n hE dX10_told_13 rfl ?_
  refine r_icmp_eq (tgt := 32) hE dX10_told_14 (by decide) (fun c14 => ?_) (fun c14 => ?_)
  · refine r_iconst (v := 0) hE dX10_told_32 (by decide) ?_
    refine t_demand (p := False) hX hV [.int 0] dX10_told_33 m_X10_69 rfl (by decide) ⟨by decide, by decide⟩ (Nat.le_of_ble_eq_true rfl) (fun c33 => c33.elim) (fun c33 n2 hn2 => r_out hX ⟨by grind, n2, hn2, rfl⟩ (by decide) (by decide))
  · refine r_iload_n hE dX10_told_17 rfl ?_
    refine r_iconst (v := 0) hE dX10_told_18 (by decide) ?_
    refine r_sipush (v := 365) hE dX10_told_19 (by decide) ?_
    refine t_invs (r := (some (.int (y_b (0 ≤ r ∧ r ≤ 365))))) (S2 := (y_mk n L D)) hE [.int r, .int 0, .int 365] (k_isBetween) s_yX10_isBetween m_X10_65 dX10_told_22 rfl (by decide) ⟨by decide, by decide⟩ (Nat.le_of_ble_eq_true rfl) ?_
    show E 2 12 25 [(0, .ref 64), (1, .int p), (2, .int q), (3, .int r)] [.int (y_b (0 ≤ r ∧ r ≤ 365))] (y_mk n L D)
    refine r_ifb_eq (tgt := 32) hE dX10_told_25 (by decide) (fun c25 => ?_) (fun c25 => ?_)
    · refine r_iconst (v := 0) hE dX10_told_32 (by decide) ?_
      refine t_demand (p := False) hX hV [.int 0] dX10_told_33 m_X10_69 rfl (by decide) ⟨by decide, by decide⟩ (Nat.le_of_ble_eq_true rfl) (fun c33 => c33.elim) (fun c33 n2 hn2 => r_out hX ⟨by grind, n2, hn2, rfl⟩ (by decide) (by decide))
    · refine r_iconst (v := 1) hE dX10_told_28 (by decide) ?_
      refine r_goto (tgt := 33) hE dX10_told_29 (by decide) ?_
      refine t_demand (p := True) hX hV [.int 1] dX10_told_33 m_X10_69 rfl (by decide) ⟨by decide, by decide⟩ (Nat.le_of_ble_eq_true rfl) (fun c33 => ?_) (fun c33 _ _ => absurd trivial c33)
      show E 3 18 36 [(0, .ref 64), (1, .int p), (2, .int q), (3, .int r)] [] (y_mk n L D)
      refine r_aload_n hE dX10_told_36 rfl ?_
      refine t_getr hE f_X10_23 y_R_64_3 dX10_told_37 (hL 64 (by decide)) ?_
      refine t_getr hE f_X10_256 y_R_73_10 dX10_told_40 (hL 73 (by decide)) ?_
      refine t_invv (r := (some (.int (y_b ((k + 1) * 3 ≤ 60))))) (S2 := (y_mk n L D)) hE [] (k_hasRoom (k := k) (wd := 3) y_T_88 (hL 88 (by decide)) (hL 89 (by decide)) (by simpa [y_sw, y_si] using hs) (by simpa [y_sw, y_si] using hw) (by omega) (by decide) (by decide)) v_yX7_hasRoom m_X10_77 dX10_told_43 rfl (hL 88 (by decide)) (y_l_88 (D 88)) rfl (by decide) ⟨by decide, by decide⟩ (Nat.le_of_ble_eq_true rfl) ?_
      show E 3 18 46 [(0, .ref 64), (1, .int p), (2, .int q), (3, .int r)] [.int (y_b ((k + 1) * 3 ≤ 60))] (y_mk n L D)
      refine t_demandRoom hX hV [.int (y_b ((k + 1) * 3 ≤ 60))] dX10_told_46 m_X10_83 rfl (by decide) ⟨by decide, by decide⟩ (Nat.le_of_ble_eq_true rfl) (fun c46 => ?_) (fun c46 n2 hn2 => r_out hX ⟨by grind, n2, hn2, rfl⟩ (by decide) (by decide))
      show E 4 24 49 [(0, .ref 64), (1, .int p), (2, .int q), (3, .int r)] [] (y_mk n L D)
      refine r_aload_n hE dX10_told_49 rfl ?_
      refine t_getr hE f_X10_23 y_R_64_3 dX10_told_50 (hL 64 (by decide)) ?_
      refine t_getr hE f_X10_256 y_R_73_10 dX10_told_53 (hL 73 (by decide)) ?_
      refine r_iload_n hE dX10_told_56 rfl ?_
      refine r_iload_n hE dX10_told_57 rfl ?_
      refine r_iload_n hE dX10_told_58 rfl ?_
      refine r_iconst (v := 0) hE dX10_told_59 (by decide) ?_
      refine r_iconst (v := 0) hE dX10_told_60 (by decide) ?_
      refine t_invv (r := (some (.int (nI k)))) (S2 := (y_mk n L (y_Tadd D 88 89 60 k 3 p q r 0 0))) hE [.int p, .int q, .int r, .int 0, .int 0] (k_add (k := k) (wd := 3) y_T_88 (hL 88 (by decide)) (hL 89 (by decide)) (by simpa [y_sw, y_si] using hs) (by simpa [y_sw, y_si] using hw) (by omega) (by decide) (by decide)) v_yX7_add m_X10_89 dX10_told_61 rfl (hL 88 (by decide)) (y_l_88 (D 88)) rfl (by decide) ⟨by decide, by decide⟩ (Nat.le_of_ble_eq_true rfl) ?_
      show E 4 24 64 [(0, .ref 64), (1, .int p), (2, .int q), (3, .int r)] [.int (nI k)] (y_mk n L (y_Tadd D 88 89 60 k 3 p q r 0 0))
      refine r_ireturn hE dX10_told_64 rfl rfl (by decide) (by decide) ?_
      exact ⟨_, _, rfl, rfl, by grind, by omega, rfl, rfl⟩
theorem f_knot {V : x_E} (hV : y_V V) {n : Nat} {L : List Nat} {D : y_D} (hL : y_ok L) {p q r s : Int32} {k : Nat} (hs : (D 90).1 2 = nI k) (hw : (D 90).1 0 = nI 4) (hk : k ≤ 6)  : y_Fi V yX10_knot cX10_knot 5 (some .int) 8 3 18 [.ref 64, .int p, .int q, .int r, .int s] n L D (fun v D2 => (((1 ≤ p ∧ p ≤ 99) ∧ (1 ≤ q ∧ q ≤ 99)) ∧ ((0 ≤ r ∧ r ≤ 50) ∧ (0 ≤ s ∧ s ≤ 50))) ∧ k < 6 ∧ v = nI k ∧ D2 = y_Tadd D 90 91 24 k 4 p q r s 0) (fun E9 => (¬ ((1 ≤ p ∧ p ≤ 99) ∧ (1 ≤ q ∧ q ≤ 99)) ∧ E9 = y_IAE) ∨ (((1 ≤ p ∧ p ≤ 99) ∧ (1 ≤ q ∧ q ≤ 99)) ∧ ¬ ((0 ≤ r ∧ r ≤ 50) ∧ (0 ≤ s ∧ s ≤ 50)) ∧ E9 = y_IAE) ∨ (((1 ≤ p ∧ p ≤ 99) ∧ (1 ≤ q ∧ q ≤ 99)) ∧ ((0 ≤ r ∧ r ≤ 50) ∧ (0 ≤ s ∧ s ≤ 50)) ∧ k = 6 ∧ E9 = y_UOE)) := by
  refine x_cx (by decide) hV.1 (fun a0 S0 h => by rw [h.1]; exact Nat.le_of_ble_eq_true rfl) (fun a0 S0 h E EX hX => ?_)
  obtain ⟨rfl, rfl⟩ := h
  have hE := hX.x
  change E 0 0 0 [(0, .ref 64), (1, .int p), (2, .int q), (3, .int r), (4, .int s)] [] (y_mk n L D)
  refine r_iload_n hE dX10_knot_0 rfl ?_
  refine r_iconst (v := 1) hE dX10_knot_1 (by decide) ?_
  refine r_bipush (v := 99) hE dX10_knot_2 (by decide) ?_
  refine t_invs (r := (some (.int (y_b (1 ≤ p ∧ p ≤ 99))))) (S2 := (y_mk n L D)) hE [.int p, .int 1, .int 99] (k_isBetween) s_yX10_isBetween m_X10_65 dX10_knot_4 rfl (by decide) ⟨by decide, by decide⟩ (Nat.le_of_ble_eq_true rfl) ?_
  show E 0 0 7 [(0, .ref 64), (1, .int p), (2, .int q), (3, .int r), (4, .int s)] [.int (y_b (1 ≤ p ∧ p ≤ 99))] (y_mk n L D)
  refine r_ifb_eq (tgt := 24) hE dX10_knot_7 (by decide) (fun c7 => ?_) (fun c7 => ?_)
  · refine r_iconst (v := 0) hE dX10_knot_24 (by decide) ?_
    refine t_demand (p := False) hX hV [.int 0] dX10_knot_25 m_X10_69 rfl (by decide) ⟨by decide, by decide⟩ (Nat.le_of_ble_eq_true rfl) (fun c25 => c25.elim) (fun c25 n2 hn2 => r_out hX ⟨by grind, n2, hn2, rfl⟩ (by decide) (by decide))
  · refine r_iload_n hE dX10_knot_10 rfl ?_
    refine r_iconst (v := 1) hE dX10_knot_11 (by decide) ?_
    refine r_bipush (v := 99) hE dX10_knot_12 (by decide) ?_
    refine t_invs (r := (some (.int (y_b (1 ≤ q ∧ q ≤ 99))))) (S2 := (y_mk n L D)) hE [.int q, .int 1, .int 99] (k_isBetween) s_yX10_isBetween m_X10_65 dX10_knot_14 rfl (by decide) ⟨by decide, by decide⟩ (Nat.le_of_ble_eq_true rfl) ?_
    show E 0 0 17 [(0, .ref 64), (1, .int p), (2, .int q), (3, .int r), (4, .int s)] [.int (y_b (1 ≤ q ∧ q ≤ 99))] (y_mk n L D)
    refine r_ifb_eq (tgt := 24) hE dX10_knot_17 (by decide) (fun c17 => ?_) (fun c17 => ?_)
    · refine r_iconst (v := 0) hE dX10_knot_24 (by decide) ?_
      refine t_demand (p := False) hX hV [.int 0] dX10_knot_25 m_X10_69 rfl (by decide) ⟨by decide, by decide⟩ (Nat.le_of_ble_eq_true rfl) (fun c25 => c25.elim) (fun c25 n2 hn2 => r_out hX ⟨by grind, n2, hn2, rfl⟩ (by decide) (by decide))
    · refine r_iconst (v := 1) hE dX10_knot_20 (by decide) ?_
      refine r_goto (tgt := 25) hE dX10_knot_21 (by decide) ?_
      refine t_demand (p := True) hX hV [.int 1] dX10_knot_25 m_X10_69 rfl (by decide) ⟨by decide, by decide⟩ (Nat.le_of_ble_eq_true rfl) (fun c25 => ?_) (fun c25 _ _ => absurd trivial c25)
      show E 1 6 28 [(0, .ref 64), (1, .int p), (2, .int q), (3, .int r), (4, .int s)] [] (y_mk n L D)
      refine r_iload_n hE dX10_knot_28 rfl ?_
      refine r_iconst (v := 0) hE dX10_knot_29 (by decide) ?_
      refine r_bipush (v := 50) hE dX10_knot_30 (by decide) ?_
      refine t_invs (r := (some (.int (y_b (0 ≤ r ∧ r ≤ 50))))) (S2 := (y_mk n L D)) hE [.int r, .int 0, .int 50] (k_isBetween) s_yX10_isBetween m_X10_65 dX10_knot_32 rfl (by decide) ⟨by decide, by decide⟩ (Nat.le_of_ble_eq_true rfl) ?_
      show E 1 6 35 [(0, .ref 64), (1, .int p), (2, .int q), (3, .int r), (4, .int s)] [.int (y_b (0 ≤ r ∧ r ≤ 50))] (y_mk n L D)
      refine r_ifb_eq (tgt := 53) hE dX10_knot_35 (by decide) (fun c35 => ?_) (fun c35 => ?_)
      · refine r_iconst (v := 0) hE dX10_knot_53 (by decide) ?_
        refine t_demand (p := False) hX hV [.int 0] dX10_knot_54 m_X10_69 rfl (by decide) ⟨by decide, by decide⟩ (Nat.le_of_ble_eq_true rfl) (fun c54 => c54.elim) (fun c54 n2 hn2 => r_out hX ⟨by grind, n2, hn2, rfl⟩ (by decide) (by decide))
      · refine r_iload hE dX10_knot_38 rfl ?_
        refine r_iconst (v := 0) hE dX10_knot_40 (by decide) ?_
        refine r_bipush (v := 50) hE dX10_knot_41 (by decide) ?_
        refine t_invs (r := (some (.int (y_b (0 ≤ s ∧ s ≤ 50))))) (S2 := (y_mk n L D)) hE [.int s, .int 0, .int 50] (k_isBetween) s_yX10_isBetween m_X10_65 dX10_knot_43 rfl (by decide) ⟨by decide, by decide⟩ (Nat.le_of_ble_eq_true rfl) ?_
        show E 1 6 46 [(0, .ref 64), (1, .int p), (2, .int q), (3, .int r), (4, .int s)] [.int (y_b (0 ≤ s ∧ s ≤ 50))] (y_mk n L D)
        refine r_ifb_eq (tgt := 53) hE dX10_knot_46 (by decide) (fun c46 => ?_) (fun c46 => ?_)
        · refine r_iconst (v := 0) hE dX10_knot_53 (by decide) ?_
          refine t_demand (p := False) hX hV [.int 0] dX10_knot_54 m_X10_69 rfl (by decide) ⟨by decide, by decide⟩ (Nat.le_of_ble_eq_true rfl) (fun c54 => c54.elim) (fun c54 n2 hn2 => r_out hX ⟨by grind, n2, hn2, rfl⟩ (by decide) (by decide))
        · refine r_iconst (v := 1) hE dX10_knot_49 (by decide) ?_
          refine r_goto (tgt := 54) hE dX10_knot_50 (by decide) ?_
          refine t_demand (p := True) hX hV [.int 1] dX10_knot_54 m_X10_69 rfl (by decide) ⟨by decide, by decide⟩ (Nat.le_of_ble_eq_true rfl) (fun c54 => ?_) (fun c54 _ _ => absurd trivial c54)
          show E 2 12 57 [(0, .ref 64), (1, .int p), (2, .int q), (3, .int r), (4, .int s)] [] (y_mk n L D)
          refine r_aload_n hE dX10_knot_57 rfl ?_
          refine t_getr hE f_X10_23 y_R_64_3 dX10_knot_58 (hL 64 (by decide)) ?_
          refine t_getr hE f_X10_268 y_R_73_11 dX10_knot_61 (hL 73 (by decide)) ?_
          refine t_invv (r := (some (.int (y_b ((k + 1) * 4 ≤ 24))))) (S2 := (y_mk n L D)) hE [] (k_hasRoom (k := k) (wd := 4) y_T_90 (hL 90 (by decide)) (hL 91 (by decide)) (by simpa [y_sw, y_si] using hs) (by simpa [y_sw, y_si] using hw) (by omega) (by decide) (by decide)) v_yX7_hasRoom m_X10_77 dX10_knot_64 rfl (hL 90 (by decide)) (y_l_90 (D 90)) rfl (by decide) ⟨by decide, by decide⟩ (Nat.le_of_ble_eq_true rfl) ?_
          show E 2 12 67 [(0, .ref 64), (1, .int p), (2, .int q), (3, .int r), (4, .int s)] [.int (y_b ((k + 1) * 4 ≤ 24))] (y_mk n L D)
          refine t_demandRoom hX hV [.int (y_b ((k + 1) * 4 ≤ 24))] dX10_knot_67 m_X10_83 rfl (by decide) ⟨by decide, by decide⟩ (Nat.le_of_ble_eq_true rfl) (fun c67 => ?_) (fun c67 n2 hn2 => r_out hX ⟨by grind, n2, hn2, rfl⟩ (by decide) (by decide))
          show E 3 18 70 [(0, .ref 64), (1, .int p), (2, .int q), (3, .int r), (4, .int s)] [] (y_mk n L D)
          refine r_aload_n hE dX10_knot_70 rfl ?_
          refine t_getr hE f_X10_23 y_R_64_3 dX10_knot_71 (hL 64 (by decide)) ?_
          refine t_getr hE f_X10_268 y_R_73_11 dX10_knot_74 (hL 73 (by decide)) ?_
          refine r_iload_n hE dX10_knot_77 rfl ?_
          refine r_iload_n hE dX10_knot_78 rfl ?_
          refine r_iload_n hE dX10_knot_79 rfl ?_
          refine r_iload hE dX10_knot_80 rfl ?_
          refine r_iconst (v := 0) hE dX10_knot_82 (by decide) ?_
          refine t_invv (r := (some (.int (nI k)))) (S2 := (y_mk n L (y_Tadd D 90 91 24 k 4 p q r s 0))) hE [.int p, .int q, .int r, .int s, .int 0] (k_add (k := k) (wd := 4) y_T_90 (hL 90 (by decide)) (hL 91 (by decide)) (by simpa [y_sw, y_si] using hs) (by simpa [y_sw, y_si] using hw) (by omega) (by decide) (by decide)) v_yX7_add m_X10_89 dX10_knot_83 rfl (hL 90 (by decide)) (y_l_90 (D 90)) rfl (by decide) ⟨by decide, by decide⟩ (Nat.le_of_ble_eq_true rfl) ?_
          show E 3 18 86 [(0, .ref 64), (1, .int p), (2, .int q), (3, .int r), (4, .int s)] [.int (nI k)] (y_mk n L (y_Tadd D 90 91 24 k 4 p q r s 0))
          refine r_ireturn hE dX10_knot_86 rfl rfl (by decide) (by decide) ?_
          exact ⟨_, _, rfl, rfl, by grind, by omega, rfl, rfl⟩

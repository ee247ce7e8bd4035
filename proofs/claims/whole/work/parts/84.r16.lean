/-! the class's reader: comparisons -/
def k_cmp (K B C : Nat → Int32) : k_F := fun nx wr sc ST => k_then (k_suk K B C 401 nx wr sc ST) (fun nx wr sc ST =>
  if K nx = 8 ∨ K nx = 9 then k_then (k_suk K B C 401 (nx + 1) wr (sc + 1) (upd ST sc (3 * 1024 + 0))) (fun nx2 wr sc ST => (true, nx2, wr, sc + 1, upd ST sc (K nx * 1024 + 0)))
  else (false, nx, B nx, sc, ST))
theorem k_readComparison {V : x_E} {n : Nat} {L : List Nat} {D : y_D} {m nx lc sc : Nat} {wr fr tk rc : Int32} {LN ST : Nat → Int32} (hL : y_ok L) (hm : m ≤ 400) (hK : (D 68).1 m = 0) (hx : nx ≤ m) (hs : sc ≤ 2 * nx) : y_Ri V yX2_readComparison cX2_readComparison 2 (some .boolean) 2 [.ref 66] n L (k_Q D nx wr lc fr tk rc sc LN ST) (k_Rd D m lc fr tk rc LN (k_cmp (D 68).1 (D 69).1 (D 70).1) nx wr sc ST) := by
  refine y_ri (by decide) (Nat.le_of_ble_eq_true rfl) (fun E hE => ?_)
  change E 0 0 0 [(0, .ref 66)] [] (y_mk n L (k_Q D nx wr lc fr tk rc sc LN ST))
  refine r_aload_n hE dX2_readComparison_0 rfl ?_
  refine t_invvRi hE [] (k_readSum hL hm hK (by omega) (by omega)) v_yX2_readSum m_X2_124 dX2_readComparison_1 rfl (hL 66 (by decide)) (y_l_66 ((k_Q D nx wr lc fr tk rc sc LN ST) 66)) rfl (by decide) ⟨Nat.le_refl _, Nat.le_refl _⟩ (Nat.le_of_ble_eq_true rfl) (fun r41 E41 q41 => ?_)
  obtain ⟨ok41, nx41, wr41, sc41, ST41, hf41, rfl, rfl, hb41⟩ := q41
  have hz41 := hb41.all
  show E 0 0 4 [(0, .ref 66)] [.int (y_b (ok41 = true))] (y_mk n L (k_Q D nx41 wr41 lc fr tk rc sc41 LN ST41))
  refine r_ifb_ne (tgt := 9) hE dX2_readComparison_4 (by decide) (fun c4 => ?_) (fun c4 => ?_)
  · have hk41 : ok41 = true := c4
    subst hk41
    refine r_aload_n hE dX2_readComparison_9 rfl ?_
    refine t_invv (r := (some (.int ((D 68).1 nx41)))) (S2 := (y_mk n L (k_Q D nx41 wr41 lc fr tk rc sc41 LN ST41))) hE [] (k_token hL (by omega)) v_yX2_token m_X2_38 dX2_readComparison_10 rfl (hL 66 (by decide)) (y_l_66 ((k_Q D nx41 wr41 lc fr tk rc sc41 LN ST41) 66)) rfl (by decide) ⟨Nat.le_refl _, Nat.le_refl _⟩ (Nat.le_of_ble_eq_true rfl) ?_
    show E 0 0 13 [(0, .ref 66)] [.int ((D 68).1 nx41)] (y_mk n L (k_Q D nx41 wr41 lc fr tk rc sc41 LN ST41))
    refine r_istore_n (ls2 := [(0, .ref 66), (1, .int ((D 68).1 nx41))]) hE dX2_readComparison_13 (by decide) rfl ?_
    refine r_iload_n hE dX2_readComparison_14 rfl ?_
    refine r_bipush (v := 8) hE dX2_readComparison_15 (by decide) ?_
    refine r_icmp_eq (tgt := 31) hE dX2_readComparison_17 (by decide) (fun c17 => ?_) (fun c17 => ?_)
    · have hz9 : nx41 ≠ m := fun q => by
        have h0 : (D 68).1 nx41 = 0 := by rw [q]; exact hK
        first | exact absurd (h0.symm.trans c17) (by decide) | exact absurd (h0.symm.trans c23) (by decide)
      refine r_aload_n hE dX2_readComparison_31 rfl ?_
      refine r_dup hE dX2_readComparison_32 rfl ?_
      refine t_geti hE f_X2_87 y_I_66_1 dX2_readComparison_33 (hL 66 (by decide)) ?_
      refine r_top (y := (nI nx41)) rfl ?_
      refine r_iconst (v := 1) hE dX2_readComparison_36 (by decide) ?_
      refine r_iaddN (a := nx41) (b := 1) hE dX2_readComparison_37 ?_
      refine t_puti hE f_X2_87 y_I_66_1 dX2_readComparison_38 (hL 66 (by decide)) rfl rfl ?_
      rw [k_Q_1]
      refine r_aload_n hE dX2_readComparison_41 rfl ?_
      refine r_iconst (v := 3) hE dX2_readComparison_42 (by decide) ?_
      refine r_iconst (v := 0) hE dX2_readComparison_43 (by decide) ?_
      refine t_invv (r := (some (.int 1))) (S2 := (y_mk n L (k_Q D (nx41 + 1) wr41 lc fr tk rc (sc41 + 1) LN (upd ST41 sc41 (3 * 1024 + 0))))) hE [.int 3, .int 0] (k_keepT hL (by first | decide | exact hne) (by omega)) v_yX2_keepStep m_X2_114 dX2_readComparison_44 rfl (hL 66 (by decide)) (y_l_66 ((k_Q D (nx41 + 1) wr41 lc fr tk rc sc41 LN ST41) 66)) rfl (by decide) ⟨Nat.le_refl _, Nat.le_refl _⟩ (Nat.le_of_ble_eq_true rfl) ?_
      show E 0 0 47 [(0, .ref 66), (1, .int ((D 68).1 nx41))] [.int 1] (y_mk n L (k_Q D (nx41 + 1) wr41 lc fr tk rc (sc41 + 1) LN (upd ST41 sc41 (3 * 1024 + 0))))
      refine r_if_eq (tgt := 70) hE dX2_readComparison_47 (by decide) (fun c47 => by first | exact absurd c47 (by decide) | exact absurd (by decide) c47) (fun _ => ?_)
      refine r_aload_n hE dX2_readComparison_50 rfl ?_
      refine t_invvRi hE [] (k_readSum hL hm hK (by omega) (by omega)) v_yX2_readSum m_X2_124 dX2_readComparison_51 rfl (hL 66 (by decide)) (y_l_66 ((k_Q D (nx41 + 1) wr41 lc fr tk rc (sc41 + 1) LN (upd ST41 sc41 (3 * 1024 + 0))) 66)) rfl (by decide) ⟨Nat.le_refl _, Nat.le_refl _⟩ (Nat.le_of_ble_eq_true rfl) (fun r42 E42 q42 => ?_)
      obtain ⟨ok42, nx42, wr42, sc42, ST42, hf42, rfl, rfl, hb42⟩ := q42
      have hz42 := hb42.all
      show E 0 0 54 [(0, .ref 66), (1, .int ((D 68).1 nx41))] [.int (y_b (ok42 = true))] (y_mk n L (k_Q D nx42 wr42 lc fr tk rc sc42 LN ST42))
      refine r_ifb_eq (tgt := 70) hE dX2_readComparison_54 (by decide) (fun c54 => ?_) (fun c54 => ?_)
      · refine r_iconst (v := 0) hE dX2_readComparison_70 (by decide) ?_
        refine r_ireturn hE dX2_readComparison_71 rfl (by first | rfl | exact y_nb _) (Nat.zero_le _) (Nat.zero_le _) ?_
        have hk42 : ok42 = false := by revert c54; cases ok42 <;> simp
        subst hk42
        refine ⟨_, _, rfl, rfl, false, _, _, _, _, ?_, by decide, rfl, ?_⟩
        · rw [k_cmp, hf41, k_then_t, if_pos (by first | exact Or.inl c17 | exact Or.inr c23), hf42, k_then_f]
        · unfold k_bd
          omega
      · have hk42 : ok42 = true := c54
        subst hk42
        refine r_aload_n hE dX2_readComparison_57 rfl ?_
        refine r_iload_n hE dX2_readComparison_58 rfl ?_
        refine r_iconst (v := 0) hE dX2_readComparison_59 (by decide) ?_
        refine t_invv (r := (some (.int 1))) (S2 := (y_mk n L (k_Q D nx42 wr42 lc fr tk rc (sc42 + 1) LN (upd ST42 sc42 (((D 68).1 nx41) * 1024 + 0))))) hE [.int ((D 68).1 nx41), .int 0] (k_keepT hL (by first | decide | exact hne) (by omega)) v_yX2_keepStep m_X2_114 dX2_readComparison_60 rfl (hL 66 (by decide)) (y_l_66 ((k_Q D nx42 wr42 lc fr tk rc sc42 LN ST42) 66)) rfl (by decide) ⟨Nat.le_refl _, Nat.le_refl _⟩ (Nat.le_of_ble_eq_true rfl) ?_
        show E 0 0 63 [(0, .ref 66), (1, .int ((D 68).1 nx41))] [.int 1] (y_mk n L (k_Q D nx42 wr42 lc fr tk rc (sc42 + 1) LN (upd ST42 sc42 (((D 68).1 nx41) * 1024 + 0))))
        refine r_if_eq (tgt := 70) hE dX2_readComparison_63 (by decide) (fun c63 => by first | exact absurd c63 (by decide) | exact absurd (by decide) c63) (fun _ => ?_)
        refine r_iconst (v := 1) hE dX2_readComparison_66 (by decide) ?_
        refine r_goto (tgt := 71) hE dX2_readComparison_67 (by decide) ?_
        refine r_ireturn hE dX2_readComparison_71 rfl (by first | rfl | exact y_nb _) (Nat.zero_le _) (Nat.zero_le _) ?_
        refine ⟨_, _, rfl, rfl, true, _, _, _, _, ?_, by decide, rfl, ?_⟩
        · rw [k_cmp, hf41, k_then_t, if_pos (by first | exact Or.inl c17 | exact Or.inr c23), hf42, k_then_t]
        · unfold k_bd
          omega
    · refine r_iload_n hE dX2_readComparison_20 rfl ?_
      refine r_bipush (v := 9) hE dX2_readComparison_21 (by decide) ?_
      refine r_icmp_eq (tgt := 31) hE dX2_readComparison_23 (by decide) (fun c23 => ?_) (fun c23 => ?_)
      · have hz9 : nx41 ≠ m := fun q => by
          have h0 : (D 68).1 nx41 = 0 := by rw [q]; exact hK
          first | exact absurd (h0.symm.trans c17) (by decide) | exact absurd (h0.symm.trans c23) (by decide)
        refine r_aload_n hE dX2_readComparison_31 rfl ?_
        refine r_dup hE dX2_readComparison_32 rfl ?_
        refine t_geti hE f_X2_87 y_I_66_1 dX2_readComparison_33 (hL 66 (by decide)) ?_
        refine r_top (y := (nI nx41)) rfl ?_
        refine r_iconst (v := 1) hE dX2_readComparison_36 (by decide) ?_
        refine r_iaddN (a := nx41) (b := 1) hE dX2_readComparison_37 ?_
        refine t_puti hE f_X2_87 y_I_66_1 dX2_readComparison_38 (hL 66 (by decide)) rfl rfl ?_
        rw [k_Q_1]
        refine r_aload_n hE dX2_readComparison_41 rfl ?_
        refine r_iconst (v := 3) hE dX2_readComparison_42 (by decide) ?_
        refine r_iconst (v := 0) hE dX2_readComparison_43 (by decide) ?_
        refine t_invv (r := (some (.int 1))) (S2 := (y_mk n L (k_Q D (nx41 + 1) wr41 lc fr tk rc (sc41 + 1) LN (upd ST41 sc41 (3 * 1024 + 0))))) hE [.int 3, .int 0] (k_keepT hL (by first | decide | exact hne) (by omega)) v_yX2_keepStep m_X2_114 dX2_readComparison_44 rfl (hL 66 (by decide)) (y_l_66 ((k_Q D (nx41 + 1) wr41 lc fr tk rc sc41 LN ST41) 66)) rfl (by decide) ⟨Nat.le_refl _, Nat.le_refl _⟩ (Nat.le_of_ble_eq_true rfl) ?_
        show E 0 0 47 [(0, .ref 66), (1, .int ((D 68).1 nx41))] [.int 1] (y_mk n L (k_Q D (nx41 + 1) wr41 lc fr tk rc (sc41 + 1) LN (upd ST41 sc41 (3 * 1024 + 0))))
        refine r_if_eq (tgt := 70) hE dX2_readComparison_47 (by decide) (fun c47 => by first | exact absurd c47 (by decide) | exact absurd (by decide) c47) (fun _ => ?_)
        refine r_aload_n hE dX2_readComparison_50 rfl ?_
        refine t_invvRi hE [] (k_readSum hL hm hK (by omega) (by omega)) v_yX2_readSum m_X2_124 dX2_readComparison_51 rfl (hL 66 (by decide)) (y_l_66 ((k_Q D (nx41 + 1) wr41 lc fr tk rc (sc41 + 1) LN (upd ST41 sc41 (3 * 1024 + 0))) 66)) rfl (by decide) ⟨Nat.le_refl _, Nat.le_refl _⟩ (Nat.le_of_ble_eq_true rfl) (fun r43 E43 q43 => ?_)
        obtain ⟨ok43, nx43, wr43, sc43, ST43, hf43, rfl, rfl, hb43⟩ := q43
        have hz43 := hb43.all
        show E 0 0 54 [(0, .ref 66), (1, .int ((D 68).1 nx41))] [.int (y_b (ok43 = true))] (y_mk n L (k_Q D nx43 wr43 lc fr tk rc sc43 LN ST43))
        refine r_ifb_eq (tgt := 70) hE dX2_readComparison_54 (by decide) (fun c54 => ?_) (fun c54 => ?_)
        · refine r_iconst (v := 0) hE dX2_readComparison_70 (by decide) ?_
          refine r_ireturn hE dX2_readComparison_71 rfl (by first | rfl | exact y_nb _) (Nat.zero_le _) (Nat.zero_le _) ?_
          have hk43 : ok43 = false := by revert c54; cases ok43 <;> simp
          subst hk43
          refine ⟨_, _, rfl, rfl, false, _, _, _, _, ?_, by decide, rfl, ?_⟩
          · rw [k_cmp, hf41, k_then_t, if_pos (by first | exact Or.inl c17 | exact Or.inr c23), hf43, k_then_f]
          · unfold k_bd
            omega
        · have hk43 : ok43 = true := c54
          subst hk43
          refine r_aload_n hE dX2_readComparison_57 rfl ?_
          refine r_iload_n hE dX2_readComparison_58 rfl ?_
          refine r_iconst (v := 0) hE dX2_readComparison_59 (by decide) ?_
          refine t_invv (r := (some (.int 1))) (S2 := (y_mk n L (k_Q D nx43 wr43 lc fr tk rc (sc43 + 1) LN (upd ST43 sc43 (((D 68).1 nx41) * 1024 + 0))))) hE [.int ((D 68).1 nx41), .int 0] (k_keepT hL (by first | decide | exact hne) (by omega)) v_yX2_keepStep m_X2_114 dX2_readComparison_60 rfl (hL 66 (by decide)) (y_l_66 ((k_Q D nx43 wr43 lc fr tk rc sc43 LN ST43) 66)) rfl (by decide) ⟨Nat.le_refl _, Nat.le_refl _⟩ (Nat.le_of_ble_eq_true rfl) ?_
          show E 0 0 63 [(0, .ref 66), (1, .int ((D 68).1 nx41))] [.int 1] (y_mk n L (k_Q D nx43 wr43 lc fr tk rc (sc43 + 1) LN (upd ST43 sc43 (((D 68).1 nx41) * 1024 + 0))))
          refine r_if_eq (tgt := 70) hE dX2_readComparison_63 (by decide) (fun c63 => by first | exact absurd c63 (by decide) | exact absurd (by decide) c63) (fun _ => ?_)
          refine r_iconst (v := 1) hE dX2_readComparison_66 (by decide) ?_
          refine r_goto (tgt := 71) hE dX2_readComparison_67 (by decide) ?_
          refine r_ireturn hE dX2_readComparison_71 rfl (by first | rfl | exact y_nb _) (Nat.zero_le _) (Nat.zero_le _) ?_
          refine ⟨_, _, rfl, rfl, true, _, _, _, _, ?_, by decide, rfl, ?_⟩
          · rw [k_cmp, hf41, k_then_t, if_pos (by first | exact Or.inl c17 | exact Or.inr c23), hf43, k_then_t]
          · unfold k_bd
            omega
      · refine r_aload_n hE dX2_readComparison_26 rfl ?_
        refine t_invv (r := (some (.int 0))) (S2 := (y_mk n L (k_Q D nx41 ((D 69).1 nx41) lc fr tk rc sc41 LN ST41))) hE [] (k_refuse hL (by omega)) v_yX2_refuse m_X2_55 dX2_readComparison_27 rfl (hL 66 (by decide)) (y_l_66 ((k_Q D nx41 wr41 lc fr tk rc sc41 LN ST41) 66)) rfl (by decide) ⟨Nat.le_refl _, Nat.le_refl _⟩ (Nat.le_of_ble_eq_true rfl) ?_
        show E 0 0 30 [(0, .ref 66), (1, .int ((D 68).1 nx41))] [.int 0] (y_mk n L (k_Q D nx41 ((D 69).1 nx41) lc fr tk rc sc41 LN ST41))
        refine r_ireturn hE dX2_readComparison_30 rfl (by first | rfl | exact y_nb _) (Nat.zero_le _) (Nat.zero_le _) ?_
        refine ⟨_, _, rfl, rfl, false, _, _, _, _, ?_, by decide, rfl, ?_⟩
        · rw [k_cmp, hf41, k_then_t, if_neg (fun z => z.elim c17 c23)]
        · unfold k_bd
          omega
  · refine r_iconst (v := 0) hE dX2_readComparison_7 (by decide) ?_
    refine r_ireturn hE dX2_readComparison_8 rfl (by first | rfl | exact y_nb _) (Nat.zero_le _) (Nat.zero_le _) ?_
    have hk41 : ok41 = false := by revert c4; cases ok41 <;> simp
    subst hk41
    refine ⟨_, _, rfl, rfl, false, _, _, _, _, ?_, by decide, rfl, ?_⟩
    · rw [k_cmp, hf41, k_then_f]
    · unfold k_bd
      omega

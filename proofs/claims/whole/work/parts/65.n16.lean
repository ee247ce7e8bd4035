theorem m_KI_z {W : Nat → Int32} {D : y_D} (hr : q_n W 1 ≤ 4) (hw : q_n W 2 ≤ 6) : m_KI W (y_sw D 183 (y_cp (fun _ => 0) (D 183).1 512)) := by
  intro t ht us hus h hh
  have hp6 : 2 ^ q_n W 2 ≤ 2 ^ 6 := Nat.pow_le_pow_right (by decide) hw
  have hp7 : (2 : Nat) ^ 6 = 64 := rfl
  refine Or.inl ?_
  rw [y_sw_1]
  unfold y_cp
  rw [if_pos (by omega)]
theorem m_ot_B {D D2 : y_D} (a : m_fB D D2) : m_ot D D2 := ⟨fun j hj => a.1 j (by omega), fun k hk => a.2 k (by omega) (by omega)⟩
theorem m_ot_w {D : y_D} {f : Nat → Int32} : m_ot D (y_sw D 183 f) := ⟨fun j hj => y_sw_ne (by omega), fun k hk => by rw [y_sw_ne (by decide)]⟩
theorem c_odds {V : x_E} {n : Nat} {L : List Nat} {D : y_D} {p : Int32} (hL : y_ok L) (hW : m_W (D 170).1) (hO : m_WO (D 170).1) : y_Ri V yX11_odds cX11_odds 2 (some .int) 11 [.ref 169, .int p] n L D (fun v D2 => m_ot D D2 ∧ (((¬ (0 ≤ p ∧ p ≤ (D 170).1 6 - 1)) ∧ (D2 169).1 0 = 1) ∨ ∃ k, k < (q_n (D 170).1 6) ∧ p = nI k ∧ (D2 169).1 0 = 0 ∧ ∃ F, (∀ k, k < (q_n (D 170).1 6) → ∀ n, n < (q_n (D 170).1 7) → m_FAC (D 170).1 k n (F k n)) ∧ v = nI (o_od (fun k => q_n (D 170).1 (78 + 3 * k)) F (q_n (D 170).1 6) (q_n (D 170).1 7) k))) := by
  refine y_ri (by decide) (Nat.le_of_ble_eq_true rfl) (fun E hE => ?_)
  change E 0 0 0 [(0, .ref 169), (1, .int p)] [] (y_mk n L D)
  refine r_aload_n hE dX11_odds_0 rfl ?_
  refine r_iconst (v := 0) hE dX11_odds_1 (by decide) ?_
  refine t_puti hE f_X11_3 y_I_169_0 dX11_odds_2 (hL 169 (by decide)) rfl rfl ?_
  refine r_aload_n hE dX11_odds_5 rfl ?_
  refine r_aload_n hE dX11_odds_6 rfl ?_
  refine r_iload_n hE dX11_odds_7 rfl ?_
  refine r_bipush (v := 6) hE dX11_odds_8 (by decide) ?_
  refine t_invv (r := (some (.int (y_b (¬ (0 ≤ p ∧ p ≤ (D 170).1 6 - 1)))))) (S2 := (y_mk n L (y_si D 169 0 0))) hE [.int p, .int 6] (c_none (c := 6) hL (by decide)) v_yX11_none m_X11_262 dX11_odds_10 rfl (hL 169 (by decide)) (y_l_169 ((y_si D 169 0 0) 169)) rfl (by decide) ⟨Nat.le_refl _, Nat.le_refl _⟩ (Nat.le_of_ble_eq_true rfl) ?_
  show E 0 0 13 [(0, .ref 169), (1, .int p)] [.int (y_b (¬ (0 ≤ p ∧ p ≤ (D 170).1 6 - 1))), .ref 169] (y_mk n L (y_si D 169 0 0))
  refine r_iconst (v := 1) hE dX11_odds_13 (by decide) ?_
  refine t_invv (r := (some (.int (y_b (¬ (0 ≤ p ∧ p ≤ (D 170).1 6 - 1)))))) (S2 := (y_mk n L (if (¬ (0 ≤ p ∧ p ≤ (D 170).1 6 - 1)) then y_si (y_si D 169 0 0) 169 0 1 else y_si D 169 0 0))) hE [.int (y_b (¬ (0 ≤ p ∧ p ≤ (D 170).1 6 - 1))), .int 1] (c_throwsIf hL) v_yX11_throwsIf m_X11_85 dX11_odds_14 rfl (hL 169 (by decide)) (y_l_169 ((y_si D 169 0 0) 169)) rfl (by decide) ⟨Nat.le_refl _, Nat.le_refl _⟩ (Nat.le_of_ble_eq_true rfl) ?_
  show E 0 0 17 [(0, .ref 169), (1, .int p)] [.int (y_b (¬ (0 ≤ p ∧ p ≤ (D 170).1 6 - 1)))] (y_mk n L (if (¬ (0 ≤ p ∧ p ≤ (D 170).1 6 - 1)) then y_si (y_si D 169 0 0) 169 0 1 else y_si D 169 0 0))
  refine r_ifb_eq (tgt := 22) hE dX11_odds_17 (by decide) (fun c17 => ?_) (fun c17 => ?_)
  · rw [if_neg c17]
    obtain ⟨k, hk, rfl⟩ := y_rng (k := (q_n (D 170).1 6)) (by have := hO.2.1.2; omega) (by rw [← hO.2.1.1]; exact Decidable.of_not_not c17)
    refine r_aload_n hE dX11_odds_22 rfl ?_
    refine t_invv (r := none) (S2 := (y_mk n L (y_sw (y_si D 169 0 0) 183 (y_cp (fun _ => 0) ((y_si D 169 0 0) 183).1 512)))) hE [] (c_forgets hL) v_yX11_forgets m_X11_365 dX11_odds_23 rfl (hL 169 (by decide)) (y_l_169 ((y_si D 169 0 0) 169)) rfl (by decide) ⟨Nat.le_refl _, Nat.le_refl _⟩ (Nat.le_of_ble_eq_true rfl) ?_
    show E 0 0 26 [(0, .ref 169), (1, .int (nI k))] [] (y_mk n L (y_sw (y_si D 169 0 0) 183 (y_cp (fun _ => 0) ((y_si D 169 0 0) 183).1 512)))
    refine r_aload_n hE dX11_odds_26 rfl ?_
    refine r_aload_n hE dX11_odds_27 rfl ?_
    refine t_getr hE f_X11_13 y_R_169_1 dX11_odds_28 (hL 169 (by decide)) ?_
    refine r_bipush (v := 7) hE dX11_odds_31 (by decide) ?_
    refine t_ialdN (e := 7) hE y_A_170 dX11_odds_33 (hL 170 (by decide)) (by omega) (by decide) ?_
    refine r_top (y := (nI (q_n (D 170).1 7))) (by rw [y_sw_ne (by decide)]; exact hO.2.2.1.1) ?_
    refine t_invvRv hE [.int (nI (q_n (D 170).1 7))] (c_oddsAfter (D := y_sw (y_si D 169 0 0) 183 (y_cp (fun _ => 0) ((y_si D 169 0 0) 183).1 512)) (nn := (q_n (D 170).1 7)) hL hW hO (m_KI_z hW.2.1.2 hW.2.2.1.2) (by show (q_n (D 170).1 7) ≤ (q_n (D 170).1 7); first | exact Nat.le_refl _ | omega)) v_yX11_oddsAfter m_X11_368 dX11_odds_34 rfl (hL 169 (by decide)) (y_l_169 ((y_sw (y_si D 169 0 0) 183 (y_cp (fun _ => 0) ((y_si D 169 0 0) 183).1 512)) 169)) rfl (by decide) ⟨Nat.le_refl _, Nat.le_refl _⟩ (Nat.le_of_ble_eq_true rfl) (fun D5 q5 => ?_)
    obtain ⟨fB, KI, F, hF0, od0⟩ := q5
    have hF : (∀ k, k < (q_n (D 170).1 6) → ∀ n, n < (q_n (D 170).1 7) → m_FAC (D 170).1 k n (F k n)) := hF0
    have od : ∀ k, k < (q_n (D 170).1 6) → (D5 185).1 k = nI (o_od (fun k => q_n (D 170).1 (78 + 3 * k)) F (q_n (D 170).1 6) (q_n (D 170).1 7) k) := od0
    clear hF0 od0
    have hot : m_ot D D5 := m_ot_t (m_ot_t (m_ot_0 m_ot_r) m_ot_w) (m_ot_B fB)
    have hz : (D5 169).1 0 = 0 := by rw [fB.2 0 (by decide) (by decide), y_sw_ne (by decide), y_si_1, if_pos rfl]
    show E 0 0 37 [(0, .ref 169), (1, .int (nI k))] [] (y_mk n L D5)
    refine r_aload_n hE dX11_odds_37 rfl ?_
    refine t_getr hE f_X11_64 y_R_169_26 dX11_odds_38 (hL 169 (by decide)) ?_
    refine r_iload_n hE dX11_odds_41 rfl ?_
    refine t_ialdN (e := k) hE y_A_185 dX11_odds_42 (hL 185 (by decide)) (by have := hO.2.1.2; omega) (by decide) ?_
    refine r_top (y := (nI (o_od (fun k => q_n (D 170).1 (78 + 3 * k)) F (q_n (D 170).1 6) (q_n (D 170).1 7) k))) (od k hk) ?_
    refine r_ireturn hE dX11_odds_43 rfl rfl (Nat.zero_le _) (Nat.zero_le _) ?_
    exact ⟨_, _, rfl, rfl, hot, Or.inr ⟨k, hk, rfl, hz, F, hF, rfl⟩⟩
  · rw [if_pos c17]
    refine r_iconst (v := 0) hE dX11_odds_20 (by decide) ?_
    refine r_ireturn hE dX11_odds_21 rfl rfl (Nat.zero_le _) (Nat.zero_le _) ?_
    exact ⟨_, _, rfl, rfl, m_ot_0 (m_ot_0 m_ot_r), Or.inl ⟨c17, by rw [y_si_1, if_pos rfl]⟩⟩
theorem c_oddsBy {V : x_E} {n : Nat} {L : List Nat} {D : y_D} {p x : Int32} (hL : y_ok L) (hW : m_W (D 170).1) (hO : m_WO (D 170).1) : y_Ri V yX11_oddsBy cX11_oddsBy 3 (some .int) 11 [.ref 169, .int p, .int x] n L D (fun v D2 => m_ot D D2 ∧ (((¬ (0 ≤ p ∧ p ≤ (D 170).1 6 - 1)) ∧ (D2 169).1 0 = 1) ∨ (¬ (¬ (0 ≤ p ∧ p ≤ (D 170).1 6 - 1)) ∧ ¬ (0 ≤ x ∧ x ≤ (D 170).1 7) ∧ (D2 169).1 0 = 2) ∨ ∃ k nn, k < (q_n (D 170).1 6) ∧ nn ≤ (q_n (D 170).1 7) ∧ p = nI k ∧ x = nI nn ∧ (D2 169).1 0 = 0 ∧ ∃ F, (∀ k, k < (q_n (D 170).1 6) → ∀ n, n < nn → m_FAC (D 170).1 k n (F k n)) ∧ v = nI (o_od (fun k => q_n (D 170).1 (78 + 3 * k)) F (q_n (D 170).1 6) nn k))) := by
  refine y_ri (by decide) (Nat.le_of_ble_eq_true rfl) (fun E hE => ?_)
  change E 0 0 0 [(0, .ref 169), (1, .int p), (2, .int x)] [] (y_mk n L D)
  refine r_aload_n hE dX11_oddsBy_0 rfl ?_
  refine r_iconst (v := 0) hE dX11_oddsBy_1 (by decide) ?_
  refine t_puti hE f_X11_3 y_I_169_0 dX11_oddsBy_2 (hL 169 (by decide)) rfl rfl ?_
  refine r_aload_n hE dX11_oddsBy_5 rfl ?_
  refine r_aload_n hE dX11_oddsBy_6 rfl ?_
  refine r_iload_n hE dX11_oddsBy_7 rfl ?_
  refine r_bipush (v := 6) hE dX11_oddsBy_8 (by decide) ?_
  refine t_invv (r := (some (.int (y_b (¬ (0 ≤ p ∧ p ≤ (D 170).1 6 - 1)))))) (S2 := (y_mk n L (y_si D 169 0 0))) hE [.int p, .int 6] (c_none (c := 6) hL (by decide)) v_yX11_none m_X11_262 dX11_oddsBy_10 rfl (hL 169 (by decide)) (y_l_169 ((y_si D 169 0 0) 169)) rfl (by decide) ⟨Nat.le_refl _, Nat.le_refl _⟩ (Nat.le_of_ble_eq_true rfl) ?_
  show E 0 0 13 [(0, .ref 169), (1, .int p), (2, .int x)] [.int (y_b (¬ (0 ≤ p ∧ p ≤ (D 170).1 6 - 1))), .ref 169] (y_mk n L (y_si D 169 0 0))
  refine r_iconst (v := 1) hE dX11_oddsBy_13 (by decide) ?_
  refine t_invv (r := (some (.int (y_b (¬ (0 ≤ p ∧ p ≤ (D 170).1 6 - 1)))))) (S2 := (y_mk n L (if (¬ (0 ≤ p ∧ p ≤ (D 170).1 6 - 1)) then y_si (y_si D 169 0 0) 169 0 1 else y_si D 169 0 0))) hE [.int (y_b (¬ (0 ≤ p ∧ p ≤ (D 170).1 6 - 1))), .int 1] (c_throwsIf hL) v_yX11_throwsIf m_X11_85 dX11_oddsBy_14 rfl (hL 169 (by decide)) (y_l_169 ((y_si D 169 0 0) 169)) rfl (by decide) ⟨Nat.le_refl _, Nat.le_refl _⟩ (Nat.le_of_ble_eq_true rfl) ?_
  show E 0 0 17 [(0, .ref 169), (1, .int p), (2, .int x)] [.int (y_b (¬ (0 ≤ p ∧ p ≤ (D 170).1 6 - 1)))] (y_mk n L (if (¬ (0 ≤ p ∧ p ≤ (D 170).1 6 - 1)) then y_si (y_si D 169 0 0) 169 0 1 else y_si D 169 0 0))
  refine r_ifb_ne (tgt := 48) hE dX11_oddsBy_17 (by decide) (fun c17 => ?_) (fun c17 => ?_)
  · rw [if_pos c17]
    refine r_iconst (v := 0) hE dX11_oddsBy_48 (by decide) ?_
    refine r_ireturn hE dX11_oddsBy_49 rfl rfl (Nat.zero_le _) (Nat.zero_le _) ?_
    first
    | exact ⟨_, _, rfl, rfl, m_ot_0 (m_ot_0 m_ot_r), Or.inl ⟨c17, by rw [y_si_1, if_pos rfl]⟩⟩
    | exact ⟨_, _, rfl, rfl, m_ot_0 (m_ot_0 m_ot_r), Or.inr (Or.inl ⟨c17, c33, by rw [y_si_1, if_pos rfl]⟩)⟩
  · rw [if_neg c17]
    refine r_aload_n hE dX11_oddsBy_20 rfl ?_
    refine r_iload_n hE dX11_oddsBy_21 rfl ?_
    refine r_iconst (v := 0) hE dX11_oddsBy_22 (by decide) ?_
    refine r_aload_n hE dX11_oddsBy_23 rfl ?_
    refine t_getr hE f_X11_13 y_R_169_1 dX11_oddsBy_24 (hL 169 (by decide)) ?_
    refine r_bipush (v := 7) hE dX11_oddsBy_27 (by decide) ?_
    refine t_ialdN (e := 7) hE y_A_170 dX11_oddsBy_29 (hL 170 (by decide)) (by omega) (by decide) ?_
    refine r_top (y := (D 170).1 7) rfl ?_
    refine t_invs (r := (some (.int (y_b (0 ≤ x ∧ x ≤ (D 170).1 7))))) (S2 := (y_mk n L (y_si D 169 0 0))) hE [.int x, .int 0, .int ((D 170).1 7)] (c_in) s_yX11_in m_X11_81 dX11_oddsBy_30 rfl (by decide) ⟨Nat.le_refl _, Nat.le_refl _⟩ (Nat.le_of_ble_eq_true rfl) ?_
    show E 0 0 33 [(0, .ref 169), (1, .int p), (2, .int x)] [.int (y_b (0 ≤ x ∧ x ≤ (D 170).1 7)), .ref 169] (y_mk n L (y_si D 169 0 0))
    refine r_ifb_ne (tgt := 40) hE dX11_oddsBy_33 (by decide) (fun c33 => ?_) (fun c33 => ?_)
    · refine r_iconst (v := 0) hE dX11_oddsBy_40 (by decide) ?_
      refine r_iconst (v := 2) hE dX11_oddsBy_41 (by decide) ?_
      refine t_invv (r := (some (.int 0))) (S2 := (y_mk n L (y_si D 169 0 0))) hE [.int 0, .int 2] (c_throwsF) v_yX11_throwsIf m_X11_85 dX11_oddsBy_42 rfl (hL 169 (by decide)) (y_l_169 ((y_si D 169 0 0) 169)) rfl (by decide) ⟨Nat.le_refl _, Nat.le_refl _⟩ (Nat.le_of_ble_eq_true rfl) ?_
      show E 0 0 45 [(0, .ref 169), (1, .int p), (2, .int x)] [.int 0] (y_mk n L (y_si D 169 0 0))
      refine r_if_eq (tgt := 50) hE dX11_oddsBy_45 (by decide) (fun _ => ?_) (fun c45 => by first | exact absurd c45 (by decide) | exact absurd (by decide) c45)
      obtain ⟨k, hk, rfl⟩ := y_rng (k := (q_n (D 170).1 6)) (by have := hO.2.1.2; omega) (by rw [← hO.2.1.1]; exact Decidable.of_not_not c17)
      obtain ⟨nn, hnn, rfl⟩ := y_rng2 (k := (q_n (D 170).1 7)) (by have := hO.2.2.1.2; omega) (by rw [← hO.2.2.1.1]; exact c33)
      refine r_aload_n hE dX11_oddsBy_50 rfl ?_
      refine t_invv (r := none) (S2 := (y_mk n L (y_sw (y_si D 169 0 0) 183 (y_cp (fun _ => 0) ((y_si D 169 0 0) 183).1 512)))) hE [] (c_forgets hL) v_yX11_forgets m_X11_365 dX11_oddsBy_51 rfl (hL 169 (by decide)) (y_l_169 ((y_si D 169 0 0) 169)) rfl (by decide) ⟨Nat.le_refl _, Nat.le_refl _⟩ (Nat.le_of_ble_eq_true rfl) ?_
      show E 0 0 54 [(0, .ref 169), (1, .int (nI k)), (2, .int (nI nn))] [] (y_mk n L (y_sw (y_si D 169 0 0) 183 (y_cp (fun _ => 0) ((y_si D 169 0 0) 183).1 512)))
      refine r_aload_n hE dX11_oddsBy_54 rfl ?_
      refine r_iload_n hE dX11_oddsBy_55 rfl ?_
      refine t_invvRv hE [.int (nI nn)] (c_oddsAfter (D := y_sw (y_si D 169 0 0) 183 (y_cp (fun _ => 0) ((y_si D 169 0 0) 183).1 512)) (nn := nn) hL hW hO (m_KI_z hW.2.1.2 hW.2.2.1.2) (by show nn ≤ (q_n (D 170).1 7); first | exact Nat.le_refl _ | omega)) v_yX11_oddsAfter m_X11_368 dX11_oddsBy_56 rfl (hL 169 (by decide)) (y_l_169 ((y_sw (y_si D 169 0 0) 183 (y_cp (fun _ => 0) ((y_si D 169 0 0) 183).1 512)) 169)) rfl (by decide) ⟨Nat.le_refl _, Nat.le_refl _⟩ (Nat.le_of_ble_eq_true rfl) (fun D5 q5 => ?_)
      obtain ⟨fB, KI, F, hF0, od0⟩ := q5
      have hF : (∀ k, k < (q_n (D 170).1 6) → ∀ n, n < nn → m_FAC (D 170).1 k n (F k n)) := hF0
      have od : ∀ k, k < (q_n (D 170).1 6) → (D5 185).1 k = nI (o_od (fun k => q_n (D 170).1 (78 + 3 * k)) F (q_n (D 170).1 6) nn k) := od0
      clear hF0 od0
      have hot : m_ot D D5 := m_ot_t (m_ot_t (m_ot_0 m_ot_r) m_ot_w) (m_ot_B fB)
      have hz : (D5 169).1 0 = 0 := by rw [fB.2 0 (by decide) (by decide), y_sw_ne (by decide), y_si_1, if_pos rfl]
      show E 0 0 59 [(0, .ref 169), (1, .int (nI k)), (2, .int (nI nn))] [] (y_mk n L D5)
      refine r_aload_n hE dX11_oddsBy_59 rfl ?_
      refine t_getr hE f_X11_64 y_R_169_26 dX11_oddsBy_60 (hL 169 (by decide)) ?_
      refine r_iload_n hE dX11_oddsBy_63 rfl ?_
      refine t_ialdN (e := k) hE y_A_185 dX11_oddsBy_64 (hL 185 (by decide)) (by have := hO.2.1.2; omega) (by decide) ?_
      refine r_top (y := (nI (o_od (fun k => q_n (D 170).1 (78 + 3 * k)) F (q_n (D 170).1 6) nn k))) (od k hk) ?_
      refine r_ireturn hE dX11_oddsBy_65 rfl rfl (Nat.zero_le _) (Nat.zero_le _) ?_
      exact ⟨_, _, rfl, rfl, hot, Or.inr (Or.inr ⟨k, nn, hk, hnn, rfl, rfl, hz, F, hF, rfl⟩)⟩
    · refine r_iconst (v := 1) hE dX11_oddsBy_36 (by decide) ?_
      refine r_goto (tgt := 41) hE dX11_oddsBy_37 (by decide) ?_
      refine r_iconst (v := 2) hE dX11_oddsBy_41 (by decide) ?_
      refine t_invv (r := (some (.int 1))) (S2 := (y_mk n L (y_si (y_si D 169 0 0) 169 0 2))) hE [.int 1, .int 2] (c_throwsT hL) v_yX11_throwsIf m_X11_85 dX11_oddsBy_42 rfl (hL 169 (by decide)) (y_l_169 ((y_si D 169 0 0) 169)) rfl (by decide) ⟨Nat.le_refl _, Nat.le_refl _⟩ (Nat.le_of_ble_eq_true rfl) ?_
      show E 0 0 45 [(0, .ref 169), (1, .int p), (2, .int x)] [.int 1] (y_mk n L (y_si (y_si D 169 0 0) 169 0 2))
      refine r_if_eq (tgt := 50) hE dX11_oddsBy_45 (by decide) (fun c45 => by first | exact absurd c45 (by decide) | exact absurd (by decide) c45) (fun _ => ?_)
      refine r_iconst (v := 0) hE dX11_oddsBy_48 (by decide) ?_
      refine r_ireturn hE dX11_oddsBy_49 rfl rfl (Nat.zero_le _) (Nat.zero_le _) ?_
      first
      | exact ⟨_, _, rfl, rfl, m_ot_0 (m_ot_0 m_ot_r), Or.inl ⟨c17, by rw [y_si_1, if_pos rfl]⟩⟩
      | exact ⟨_, _, rfl, rfl, m_ot_0 (m_ot_0 m_ot_r), Or.inr (Or.inl ⟨c17, c33, by rw [y_si_1, if_pos rfl]⟩)⟩
theorem c_factor {V : x_E} {n : Nat} {L : List Nat} {D : y_D} {p x : Int32} (hL : y_ok L) (hW : m_W (D 170).1) (hO : m_WO (D 170).1) : y_Rj V yX11_factor cX11_factor 3 (some .long) 10 [.ref 169, .int p, .int x] n L D (fun v D2 => m_ot D D2 ∧ (((¬ (0 ≤ p ∧ p ≤ (D 170).1 6 - 1) ∨ ¬ (0 ≤ x ∧ x ≤ (D 170).1 7 - 1)) ∧ (D2 169).1 0 = 1) ∨ ∃ k n9, k < (q_n (D 170).1 6) ∧ n9 < (q_n (D 170).1 7) ∧ p = nI k ∧ x = nI n9 ∧ (D2 169).1 0 = 0 ∧ ∃ f, m_FAC (D 170).1 k n9 f ∧ v = lN f)) := by
  refine y_rj (by decide) (Nat.le_of_ble_eq_true rfl) (fun E hE => ?_)
  change E 0 0 0 [(0, .ref 169), (1, .int p), (2, .int x)] [] (y_mk n L D)
  refine r_aload_n hE dX11_factor_0 rfl ?_
  refine r_iconst (v := 0) hE dX11_factor_1 (by decide) ?_
  refine t_puti hE f_X11_3 y_I_169_0 dX11_factor_2 (hL 169 (by decide)) rfl rfl ?_
  refine r_aload_n hE dX11_factor_5 rfl ?_
  refine r_aload_n hE dX11_factor_6 rfl ?_
  refine r_iload_n hE dX11_factor_7 rfl ?_
  refine r_bipush (v := 6) hE dX11_factor_8 (by decide) ?_
  refine t_invv (r := (some (.int (y_b (¬ (0 ≤ p ∧ p ≤ (D 170).1 6 - 1)))))) (S2 := (y_mk n L (y_si D 169 0 0))) hE [.int p, .int 6] (c_none (c := 6) hL (by decide)) v_yX11_none m_X11_262 dX11_factor_10 rfl (hL 169 (by decide)) (y_l_169 ((y_si D 169 0 0) 169)) rfl (by decide) ⟨Nat.le_refl _, Nat.le_refl _⟩ (Nat.le_of_ble_eq_true rfl) ?_
  show E 0 0 13 [(0, .ref 169), (1, .int p), (2, .int x)] [.int (y_b (¬ (0 ≤ p ∧ p ≤ (D 170).1 6 - 1))), .ref 169] (y_mk n L (y_si D 169 0 0))
  refine r_ifb_ne (tgt := 26) hE dX11_factor_13 (by decide) (fun c13 => ?_) (fun c13 => ?_)
  · refine r_iconst (v := 1) hE dX11_factor_26 (by decide) ?_
    refine r_goto (tgt := 31) hE dX11_factor_27 (by decide) ?_
    refine r_iconst (v := 1) hE dX11_factor_31 (by decide) ?_
    refine t_invv (r := (some (.int 1))) (S2 := (y_mk n L (y_si (y_si D 169 0 0) 169 0 1))) hE [.int 1, .int 1] (c_throwsT hL) v_yX11_throwsIf m_X11_85 dX11_factor_32 rfl (hL 169 (by decide)) (y_l_169 ((y_si D 169 0 0) 169)) rfl (by decide) ⟨Nat.le_refl _, Nat.le_refl _⟩ (Nat.le_of_ble_eq_true rfl) ?_
    show E 0 0 35 [(0, .ref 169), (1, .int p), (2, .int x)] [.int 1] (y_mk n L (y_si (y_si D 169 0 0) 169 0 1))
    refine r_if_eq (tgt := 40) hE dX11_factor_35 (by decide) (fun c35 => by first | exact absurd c35 (by decide) | exact absurd (by decide) c35) (fun _ => ?_)
    refine r_lconst (v := 0) hE dX11_factor_38 (by decide) ?_
    refine r_lreturn hE dX11_factor_39 rfl (Nat.zero_le _) (Nat.zero_le _) ?_
    exact ⟨_, _, rfl, rfl, m_ot_0 (m_ot_0 m_ot_r), Or.inl ⟨by first | exact Or.inl c13 | exact Or.inr c23, by rw [y_si_1, if_pos rfl]⟩⟩
  · refine r_aload_n hE dX11_factor_16 rfl ?_
    refine r_iload_n hE dX11_factor_17 rfl ?_
    refine r_bipush (v := 7) hE dX11_factor_18 (by decide) ?_
    refine t_invv (r := (some (.int (y_b (¬ (0 ≤ x ∧ x ≤ (D 170).1 7 - 1)))))) (S2 := (y_mk n L (y_si D 169 0 0))) hE [.int x, .int 7] (c_none (c := 7) hL (by decide)) v_yX11_none m_X11_262 dX11_factor_20 rfl (hL 169 (by decide)) (y_l_169 ((y_si D 169 0 0) 169)) rfl (by decide) ⟨Nat.le_refl _, Nat.le_refl _⟩ (Nat.le_of_ble_eq_true rfl) ?_
    show E 0 0 23 [(0, .ref 169), (1, .int p), (2, .int x)] [.int (y_b (¬ (0 ≤ x ∧ x ≤ (D 170).1 7 - 1))), .ref 169] (y_mk n L (y_si D 169 0 0))
    refine r_ifb_eq (tgt := 30) hE dX11_factor_23 (by decide) (fun c23 => ?_) (fun c23 => ?_)
    · refine r_iconst (v := 0) hE dX11_factor_30 (by decide) ?_
      refine r_iconst (v := 1) hE dX11_factor_31 (by decide) ?_
      refine t_invv (r := (some (.int 0))) (S2 := (y_mk n L (y_si D 169 0 0))) hE [.int 0, .int 1] (c_throwsF) v_yX11_throwsIf m_X11_85 dX11_factor_32 rfl (hL 169 (by decide)) (y_l_169 ((y_si D 169 0 0) 169)) rfl (by decide) ⟨Nat.le_refl _, Nat.le_refl _⟩ (Nat.le_of_ble_eq_true rfl) ?_
      show E 0 0 35 [(0, .ref 169), (1, .int p), (2, .int x)] [.int 0] (y_mk n L (y_si D 169 0 0))
      refine r_if_eq (tgt := 40) hE dX11_factor_35 (by decide) (fun _ => ?_) (fun c35 => by first | exact absurd c35 (by decide) | exact absurd (by decide) c35)
      obtain ⟨k, hk, rfl⟩ := y_rng (k := (q_n (D 170).1 6)) (by have := hO.2.1.2; omega) (by rw [← hO.2.1.1]; exact Decidable.of_not_not c13)
      obtain ⟨n9, hn9, rfl⟩ := y_rng (k := (q_n (D 170).1 7)) (by have := hO.2.2.1.2; omega) (by rw [← hO.2.2.1.1]; exact Decidable.of_not_not c23)
      refine r_aload_n hE dX11_factor_40 rfl ?_
      refine t_invv (r := none) (S2 := (y_mk n L (y_sw (y_si D 169 0 0) 183 (y_cp (fun _ => 0) ((y_si D 169 0 0) 183).1 512)))) hE [] (c_forgets hL) v_yX11_forgets m_X11_365 dX11_factor_41 rfl (hL 169 (by decide)) (y_l_169 ((y_si D 169 0 0) 169)) rfl (by decide) ⟨Nat.le_refl _, Nat.le_refl _⟩ (Nat.le_of_ble_eq_true rfl) ?_
      show E 0 0 44 [(0, .ref 169), (1, .int (nI k)), (2, .int (nI n9))] [] (y_mk n L (y_sw (y_si D 169 0 0) 183 (y_cp (fun _ => 0) ((y_si D 169 0 0) 183).1 512)))
      refine r_aload_n hE dX11_factor_44 rfl ?_
      refine r_iload_n hE dX11_factor_45 rfl ?_
      refine r_iload_n hE dX11_factor_46 rfl ?_
      refine t_invvRj hE [.int (nI k), .int (nI n9)] (c_factorOf (D := y_sw (y_si D 169 0 0) 183 (y_cp (fun _ => 0) ((y_si D 169 0 0) 183).1 512)) (k := k) (n9 := n9) hL hW hO (m_KI_z hW.2.1.2 hW.2.2.1.2) hk hn9) v_yX11_factorOf m_X11_361 dX11_factor_47 rfl (hL 169 (by decide)) (y_l_169 ((y_sw (y_si D 169 0 0) 183 (y_cp (fun _ => 0) ((y_si D 169 0 0) 183).1 512)) 169)) rfl (by decide) ⟨Nat.le_refl _, Nat.le_refl _⟩ (Nat.le_of_ble_eq_true rfl) (fun v7 D7 q7 => ?_)
      obtain ⟨fA7, KI7, f, hf, q7⟩ := q7
      rw [hf]
      show E 0 0 50 [(0, .ref 169), (1, .int (nI k)), (2, .int (nI n9))] [.long (lN f)] (y_mk n L D7)
      refine r_lreturn hE dX11_factor_50 rfl (Nat.zero_le _) (Nat.zero_le _) ?_
      exact ⟨_, _, rfl, rfl, m_ot_t (m_ot_t (m_ot_0 m_ot_r) m_ot_w) (m_ot_B (m_fB_A m_fB_r fA7)), Or.inr ⟨k, n9, hk, hn9, rfl, rfl, by rw [fA7.2 0 (by decide) (by decide), y_sw_ne (by decide), y_si_1, if_pos rfl], f, q7, rfl⟩⟩
    · refine r_iconst (v := 1) hE dX11_factor_26 (by decide) ?_
      refine r_goto (tgt := 31) hE dX11_factor_27 (by decide) ?_
      refine r_iconst (v := 1) hE dX11_factor_31 (by decide) ?_
      refine t_invv (r := (some (.int 1))) (S2 := (y_mk n L (y_si (y_si D 169 0 0) 169 0 1))) hE [.int 1, .int 1] (c_throwsT hL) v_yX11_throwsIf m_X11_85 dX11_factor_32 rfl (hL 169 (by decide)) (y_l_169 ((y_si D 169 0 0) 169)) rfl (by decide) ⟨Nat.le_refl _, Nat.le_refl _⟩ (Nat.le_of_ble_eq_true rfl) ?_
      show E 0 0 35 [(0, .ref 169), (1, .int p), (2, .int x)] [.int 1] (y_mk n L (y_si (y_si D 169 0 0) 169 0 1))
      refine r_if_eq (tgt := 40) hE dX11_factor_35 (by decide) (fun c35 => by first | exact absurd c35 (by decide) | exact absurd (by decide) c35) (fun _ => ?_)
      refine r_lconst (v := 0) hE dX11_factor_38 (by decide) ?_
      refine r_lreturn hE dX11_factor_39 rfl (Nat.zero_le _) (Nat.zero_le _) ?_
      exact ⟨_, _, rfl, rfl, m_ot_0 (m_ot_0 m_ot_r), Or.inl ⟨by first | exact Or.inl c13 | exact Or.inr c23, by rw [y_si_1, if_pos rfl]⟩⟩
theorem c_says {V : x_E} {n : Nat} {L : List Nat} {D : y_D} {p : Int32} (hL : y_ok L) (hW : m_W (D 170).1) (hO : m_WO (D 170).1) : y_Rj V yX11_says cX11_says 7 (some .long) 11 [.ref 169, .int p] n L D (fun v D2 => m_ot D D2 ∧ (((¬ (0 ≤ p ∧ p ≤ (D 170).1 5 - 1)) ∧ (D2 169).1 0 = 1) ∨ ∃ t, t < (q_n (D 170).1 5) ∧ p = nI t ∧ (D2 169).1 0 = 0 ∧ ∃ F, (∀ k, k < (q_n (D 170).1 6) → ∀ n, n < (q_n (D 170).1 7) → m_FAC (D 170).1 k n (F k n)) ∧ v = o_say (o_od (fun k => q_n (D 170).1 (78 + 3 * k)) F (q_n (D 170).1 6) (q_n (D 170).1 7)) (fun k => m_spr (D 170).1 k t) (lN (o_sum (fun k => o_od (fun k => q_n (D 170).1 (78 + 3 * k)) F (q_n (D 170).1 6) (q_n (D 170).1 7) k * m_spr (D 170).1 k t) (q_n (D 170).1 6))) (q_n (D 170).1 6) / 10000)) := by
  refine y_rj (by decide) (Nat.le_of_ble_eq_true rfl) (fun E hE => ?_)
  change E 0 0 0 [(0, .ref 169), (1, .int p)] [] (y_mk n L D)
  refine r_aload_n hE dX11_says_0 rfl ?_
  refine r_iconst (v := 0) hE dX11_says_1 (by decide) ?_
  refine t_puti hE f_X11_3 y_I_169_0 dX11_says_2 (hL 169 (by decide)) rfl rfl ?_
  refine r_aload_n hE dX11_says_5 rfl ?_
  refine r_aload_n hE dX11_says_6 rfl ?_
  refine r_iload_n hE dX11_says_7 rfl ?_
  refine r_iconst (v := 5) hE dX11_says_8 (by decide) ?_
  refine t_invv (r := (some (.int (y_b (¬ (0 ≤ p ∧ p ≤ (D 170).1 5 - 1)))))) (S2 := (y_mk n L (y_si D 169 0 0))) hE [.int p, .int 5] (c_none (c := 5) hL (by decide)) v_yX11_none m_X11_262 dX11_says_9 rfl (hL 169 (by decide)) (y_l_169 ((y_si D 169 0 0) 169)) rfl (by decide) ⟨Nat.le_refl _, Nat.le_refl _⟩ (Nat.le_of_ble_eq_true rfl) ?_
  show E 0 0 12 [(0, .ref 169), (1, .int p)] [.int (y_b (¬ (0 ≤ p ∧ p ≤ (D 170).1 5 - 1))), .ref 169] (y_mk n L (y_si D 169 0 0))
  refine r_iconst (v := 1) hE dX11_says_12 (by decide) ?_
  refine t_invv (r := (some (.int (y_b (¬ (0 ≤ p ∧ p ≤ (D 170).1 5 - 1)))))) (S2 := (y_mk n L (if (¬ (0 ≤ p ∧ p ≤ (D 170).1 5 - 1)) then y_si (y_si D 169 0 0) 169 0 1 else y_si D 169 0 0))) hE [.int (y_b (¬ (0 ≤ p ∧ p ≤ (D 170).1 5 - 1))), .int 1] (c_throwsIf hL) v_yX11_throwsIf m_X11_85 dX11_says_13 rfl (hL 169 (by decide)) (y_l_169 ((y_si D 169 0 0) 169)) rfl (by decide) ⟨Nat.le_refl _, Nat.le_refl _⟩ (Nat.le_of_ble_eq_true rfl) ?_
  show E 0 0 16 [(0, .ref 169), (1, .int p)] [.int (y_b (¬ (0 ≤ p ∧ p ≤ (D 170).1 5 - 1)))] (y_mk n L (if (¬ (0 ≤ p ∧ p ≤ (D 170).1 5 - 1)) then y_si (y_si D 169 0 0) 169 0 1 else y_si D 169 0 0))
  refine r_ifb_eq (tgt := 21) hE dX11_says_16 (by decide) (fun c16 => ?_) (fun c16 => ?_)
  · rw [if_neg c16]
    obtain ⟨t, ht, rfl⟩ := y_rng (k := (q_n (D 170).1 5)) (by have := hO.1.2; omega) (by rw [← hO.1.1]; exact Decidable.of_not_not c16)
    refine r_aload_n hE dX11_says_21 rfl ?_
    refine t_invv (r := none) (S2 := (y_mk n L (y_sw (y_si D 169 0 0) 183 (y_cp (fun _ => 0) ((y_si D 169 0 0) 183).1 512)))) hE [] (c_forgets hL) v_yX11_forgets m_X11_365 dX11_says_22 rfl (hL 169 (by decide)) (y_l_169 ((y_si D 169 0 0) 169)) rfl (by decide) ⟨Nat.le_refl _, Nat.le_refl _⟩ (Nat.le_of_ble_eq_true rfl) ?_
    show E 0 0 25 [(0, .ref 169), (1, .int (nI t))] [] (y_mk n L (y_sw (y_si D 169 0 0) 183 (y_cp (fun _ => 0) ((y_si D 169 0 0) 183).1 512)))
    refine r_aload_n hE dX11_says_25 rfl ?_
    refine r_aload_n hE dX11_says_26 rfl ?_
    refine t_getr hE f_X11_13 y_R_169_1 dX11_says_27 (hL 169 (by decide)) ?_
    refine r_bipush (v := 7) hE dX11_says_30 (by decide) ?_
    refine t_ialdN (e := 7) hE y_A_170 dX11_says_32 (hL 170 (by decide)) (by omega) (by decide) ?_
    refine r_top (y := (nI (q_n (D 170).1 7))) (by rw [y_sw_ne (by decide)]; exact hO.2.2.1.1) ?_
    refine t_invvRv hE [.int (nI (q_n (D 170).1 7))] (c_oddsAfter (D := y_sw (y_si D 169 0 0) 183 (y_cp (fun _ => 0) ((y_si D 169 0 0) 183).1 512)) (nn := (q_n (D 170).1 7)) hL hW hO (m_KI_z hW.2.1.2 hW.2.2.1.2) (by show (q_n (D 170).1 7) ≤ (q_n (D 170).1 7); first | exact Nat.le_refl _ | omega)) v_yX11_oddsAfter m_X11_368 dX11_says_33 rfl (hL 169 (by decide)) (y_l_169 ((y_sw (y_si D 169 0 0) 183 (y_cp (fun _ => 0) ((y_si D 169 0 0) 183).1 512)) 169)) rfl (by decide) ⟨Nat.le_refl _, Nat.le_refl _⟩ (Nat.le_of_ble_eq_true rfl) (fun D5 q5 => ?_)
    obtain ⟨fB, KI, F, hF0, od0⟩ := q5
    have hF : (∀ k, k < (q_n (D 170).1 6) → ∀ n, n < (q_n (D 170).1 7) → m_FAC (D 170).1 k n (F k n)) := hF0
    have od : ∀ k, k < (q_n (D 170).1 6) → (D5 185).1 k = nI (o_od (fun k => q_n (D 170).1 (78 + 3 * k)) F (q_n (D 170).1 6) (q_n (D 170).1 7) k) := od0
    clear hF0 od0
    have hot : m_ot D D5 := m_ot_t (m_ot_t (m_ot_0 m_ot_r) m_ot_w) (m_ot_B fB)
    have hz : (D5 169).1 0 = 0 := by rw [fB.2 0 (by decide) (by decide), y_sw_ne (by decide), y_si_1, if_pos rfl]
    show E 0 0 36 [(0, .ref 169), (1, .int (nI t))] [] (y_mk n L D5)
    refine r_lconst (v := 0) hE dX11_says_36 (by decide) ?_
    refine r_lstore_n (ls2 := [(0, .ref 169), (1, .int (nI t)), (2, .long 0)]) hE dX11_says_37 (by decide) rfl ?_
    refine r_iconst (v := 0) hE dX11_says_38 (by decide) ?_
    refine r_istore (ls2 := [(0, .ref 169), (1, .int (nI t)), (2, .long 0), (4, .int 0)]) hE dX11_says_39 (by decide) rfl ?_
    have e170 : D5 170 = D 170 := hot.1 170 (by decide)
    have hs5 : (q_n (D 170).1 6) ≤ 5 := hO.2.1.2
    have hw1 : ∀ k, k < (q_n (D 170).1 6) → 1 ≤ (fun k => q_n (D 170).1 (78 + 3 * k)) k := fun k hk => (hO.2.2.2.2.1 k hk).1.2
    have l1 : ∀ (i : Nat), i ≤ (q_n (D 170).1 6) → E 0 0 41 [(0, .ref 169), (1, .int (nI t)), (2, .long (lN (o_sum (fun k => o_od (fun k => q_n (D 170).1 (78 + 3 * k)) F (q_n (D 170).1 6) (q_n (D 170).1 7) k * m_spr (D 170).1 k t) i))), (4, .int (nI i))] [] (y_mk n L D5) := by
      intro i
      induction hm9 : ((q_n (D 170).1 6) - i) using Nat.strongRecOn generalizing i with
      | _ m9 ih =>
        intro hi
        subst hm9
        refine r_iload hE dX11_says_41 rfl ?_
        refine r_aload_n hE dX11_says_43 rfl ?_
        refine t_getr hE f_X11_13 y_R_169_1 dX11_says_44 (hL 169 (by decide)) ?_
        refine r_bipush (v := 6) hE dX11_says_47 (by decide) ?_
        refine t_ialdN (e := 6) hE y_A_170 dX11_says_49 (hL 170 (by decide)) (by omega) (by decide) ?_
        refine r_top (y := (nI (q_n (D 170).1 6))) (by rw [e170]; exact hO.2.1.1) ?_
        refine r_icmp_geN (a := i) (b := (q_n (D 170).1 6)) (tgt := 79) hE dX11_says_50 (by decide) (by omega) (by omega) (fun c50 => ?_) (fun c50 => ?_)
        · refine r_lconst (v := 0) hE dX11_says_79 (by decide) ?_
          refine r_lstore (ls2 := [(0, .ref 169), (1, .int (nI t)), (2, .long (lN (o_sum (fun k => o_od (fun k => q_n (D 170).1 (78 + 3 * k)) F (q_n (D 170).1 6) (q_n (D 170).1 7) k * m_spr (D 170).1 k t) i))), (4, .long 0)]) hE dX11_says_80 (by decide) rfl ?_
          refine r_iconst (v := 0) hE dX11_says_82 (by decide) ?_
          refine r_istore (ls2 := [(0, .ref 169), (1, .int (nI t)), (2, .long (lN (o_sum (fun k => o_od (fun k => q_n (D 170).1 (78 + 3 * k)) F (q_n (D 170).1 6) (q_n (D 170).1 7) k * m_spr (D 170).1 k t) i))), (4, .long 0), (6, .int 0)]) hE dX11_says_83 (by decide) rfl ?_
          rw [show i = (q_n (D 170).1 6) by omega]
          have l2 : ∀ (i : Nat), i ≤ (q_n (D 170).1 6) → E 0 0 85 [(0, .ref 169), (1, .int (nI t)), (2, .long (lN (o_sum (fun k => o_od (fun k => q_n (D 170).1 (78 + 3 * k)) F (q_n (D 170).1 6) (q_n (D 170).1 7) k * m_spr (D 170).1 k t) (q_n (D 170).1 6)))), (4, .long (o_say (o_od (fun k => q_n (D 170).1 (78 + 3 * k)) F (q_n (D 170).1 6) (q_n (D 170).1 7)) (fun k => m_spr (D 170).1 k t) (lN (o_sum (fun k => o_od (fun k => q_n (D 170).1 (78 + 3 * k)) F (q_n (D 170).1 6) (q_n (D 170).1 7) k * m_spr (D 170).1 k t) (q_n (D 170).1 6))) i)), (6, .int (nI i))] [] (y_mk n L D5) := by
            intro i
            induction hm9 : ((q_n (D 170).1 6) - i) using Nat.strongRecOn generalizing i with
            | _ m9 ih =>
              intro hi
              subst hm9
              refine r_iload hE dX11_says_85 rfl ?_
              refine r_aload_n hE dX11_says_87 rfl ?_
              refine t_getr hE f_X11_13 y_R_169_1 dX11_says_88 (hL 169 (by decide)) ?_
              refine r_bipush (v := 6) hE dX11_says_91 (by decide) ?_
              refine t_ialdN (e := 6) hE y_A_170 dX11_says_93 (hL 170 (by decide)) (by omega) (by decide) ?_
              refine r_top (y := (nI (q_n (D 170).1 6))) (by rw [e170]; exact hO.2.1.1) ?_
              refine r_icmp_geN (a := i) (b := (q_n (D 170).1 6)) (tgt := 134) hE dX11_says_94 (by decide) (by omega) (by omega) (fun c94 => ?_) (fun c94 => ?_)
              · refine r_lload hE dX11_says_134 rfl ?_
                refine r_ldc2 (v := 10000) hE dX11_says_136 (x_gin (List.mem_append_right _ (tb_7 _ (List.mem_of_getElem? (i := 235) rfl))) rfl) ?_
                refine r_ldiv hE dX11_says_139 (by decide) ?_
                refine r_lreturn hE dX11_says_140 rfl (Nat.zero_le _) (Nat.zero_le _) ?_
                rw [show i = (q_n (D 170).1 6) by omega]
                exact ⟨_, _, rfl, rfl, hot, Or.inr ⟨t, ht, rfl, hz, F, hF, rfl⟩⟩
              · refine r_lload hE dX11_says_97 rfl ?_
                refine r_aload_n hE dX11_says_99 rfl ?_
                refine t_getr hE f_X11_64 y_R_169_26 dX11_says_100 (hL 169 (by decide)) ?_
                refine r_iload hE dX11_says_103 rfl ?_
                refine t_ialdN (e := i) hE y_A_185 dX11_says_105 (hL 185 (by decide)) (by omega) (by decide) ?_
                refine r_top (y := (nI (o_od (fun k => q_n (D 170).1 (78 + 3 * k)) F (q_n (D 170).1 6) (q_n (D 170).1 7) i))) (od i (by omega)) ?_
                have ho9 : o_od (fun k => q_n (D 170).1 (78 + 3 * k)) F (q_n (D 170).1 6) (q_n (D 170).1 7) i ≤ 10000 := o_od_b (by omega) hw1 (fun k hk j hj => (m_FAC_b hW hO (hF k hk j hj)).1) (by omega)
                refine r_i2l hE dX11_says_106 ?_
                refine r_topL (y := lN (o_od (fun k => q_n (D 170).1 (78 + 3 * k)) F (q_n (D 170).1 6) (q_n (D 170).1 7) i)) (nI_l (by omega)) ?_
                refine r_ldc2 (v := 10000) hE dX11_says_107 (x_gin (List.mem_append_right _ (tb_7 _ (List.mem_of_getElem? (i := 235) rfl))) rfl) ?_
                refine r_aload_n hE dX11_says_110 rfl ?_
                refine r_iload hE dX11_says_111 rfl ?_
                refine r_iload_n hE dX11_says_113 rfl ?_
                refine t_invv (r := (some (.int (nI (m_spr (D5 170).1 i t))))) (S2 := (y_mk n L D5)) hE [.int (nI i), .int (nI t)] (c_springs (D := D5) (k := i) (t := t) hL (by rw [e170]; exact hO) (by rw [e170]; omega) (by rw [e170]; exact ht)) v_yX11_springs m_X11_353 dX11_says_114 rfl (hL 169 (by decide)) (y_l_169 (D5 169)) rfl (by decide) ⟨Nat.le_refl _, Nat.le_refl _⟩ (Nat.le_of_ble_eq_true rfl) ?_
                show E 0 0 117 [(0, .ref 169), (1, .int (nI t)), (2, .long (lN (o_sum (fun k => o_od (fun k => q_n (D 170).1 (78 + 3 * k)) F (q_n (D 170).1 6) (q_n (D 170).1 7) k * m_spr (D 170).1 k t) (q_n (D 170).1 6)))), (4, .long (o_say (o_od (fun k => q_n (D 170).1 (78 + 3 * k)) F (q_n (D 170).1 6) (q_n (D 170).1 7)) (fun k => m_spr (D 170).1 k t) (lN (o_sum (fun k => o_od (fun k => q_n (D 170).1 (78 + 3 * k)) F (q_n (D 170).1 6) (q_n (D 170).1 7) k * m_spr (D 170).1 k t) (q_n (D 170).1 6))) i)), (6, .int (nI i))] [.int (nI (m_spr (D5 170).1 i t)), .long 10000, .long (lN (o_od (fun k => q_n (D 170).1 (78 + 3 * k)) F (q_n (D 170).1 6) (q_n (D 170).1 7) i)), .long (o_say (o_od (fun k => q_n (D 170).1 (78 + 3 * k)) F (q_n (D 170).1 6) (q_n (D 170).1 7)) (fun k => m_spr (D 170).1 k t) (lN (o_sum (fun k => o_od (fun k => q_n (D 170).1 (78 + 3 * k)) F (q_n (D 170).1 6) (q_n (D 170).1 7) k * m_spr (D 170).1 k t) (q_n (D 170).1 6))) i)] (y_mk n L D5)
                refine r_top (y := (nI (m_spr (D 170).1 i t))) (by rw [e170]) ?_
                have hs9 := m_spr_b (k := i) hO ht
                refine r_i2l hE dX11_says_117 ?_
                refine r_topL (y := lN (m_spr (D 170).1 i t)) (nI_l (by omega)) ?_
                refine r_lmul hE dX11_says_118 ?_
                refine r_topL (y := lN (10000 * (m_spr (D 170).1 i t))) (lN_mul 10000 (m_spr (D 170).1 i t)) ?_
                refine r_lload_n hE dX11_says_119 rfl ?_
                refine r_lsub hE dX11_says_120 ?_
                refine r_mabsL hE m_X11_372 dX11_says_121 (by decide) (Nat.le_of_ble_eq_true rfl) ⟨Nat.le_refl _, Nat.le_refl _⟩ ?_
                refine r_lmul hE dX11_says_124 ?_
                refine r_ladd hE dX11_says_125 ?_
                refine r_lstore (ls2 := [(0, .ref 169), (1, .int (nI t)), (2, .long (lN (o_sum (fun k => o_od (fun k => q_n (D 170).1 (78 + 3 * k)) F (q_n (D 170).1 6) (q_n (D 170).1 7) k * m_spr (D 170).1 k t) (q_n (D 170).1 6)))), (4, .long ((o_say (o_od (fun k => q_n (D 170).1 (78 + 3 * k)) F (q_n (D 170).1 6) (q_n (D 170).1 7)) (fun k => m_spr (D 170).1 k t) (lN (o_sum (fun k => o_od (fun k => q_n (D 170).1 (78 + 3 * k)) F (q_n (D 170).1 6) (q_n (D 170).1 7) k * m_spr (D 170).1 k t) (q_n (D 170).1 6))) i) + ((lN (o_od (fun k => q_n (D 170).1 (78 + 3 * k)) F (q_n (D 170).1 6) (q_n (D 170).1 7) i)) * (if 0 < ((lN (10000 * (m_spr (D 170).1 i t))) - (lN (o_sum (fun k => o_od (fun k => q_n (D 170).1 (78 + 3 * k)) F (q_n (D 170).1 6) (q_n (D 170).1 7) k * m_spr (D 170).1 k t) (q_n (D 170).1 6)))) then ((lN (10000 * (m_spr (D 170).1 i t))) - (lN (o_sum (fun k => o_od (fun k => q_n (D 170).1 (78 + 3 * k)) F (q_n (D 170).1 6) (q_n (D 170).1 7) k * m_spr (D 170).1 k t) (q_n (D 170).1 6)))) else -((lN (10000 * (m_spr (D 170).1 i t))) - (lN (o_sum (fun k => o_od (fun k => q_n (D 170).1 (78 + 3 * k)) F (q_n (D 170).1 6) (q_n (D 170).1 7) k * m_spr (D 170).1 k t) (q_n (D 170).1 6)))))))), (6, .int (nI i))]) hE dX11_says_126 (by decide) rfl ?_
                refine r_iincN (a := i) (b := 1) (ls2 := [(0, .ref 169), (1, .int (nI t)), (2, .long (lN (o_sum (fun k => o_od (fun k => q_n (D 170).1 (78 + 3 * k)) F (q_n (D 170).1 6) (q_n (D 170).1 7) k * m_spr (D 170).1 k t) (q_n (D 170).1 6)))), (4, .long ((o_say (o_od (fun k => q_n (D 170).1 (78 + 3 * k)) F (q_n (D 170).1 6) (q_n (D 170).1 7)) (fun k => m_spr (D 170).1 k t) (lN (o_sum (fun k => o_od (fun k => q_n (D 170).1 (78 + 3 * k)) F (q_n (D 170).1 6) (q_n (D 170).1 7) k * m_spr (D 170).1 k t) (q_n (D 170).1 6))) i) + ((lN (o_od (fun k => q_n (D 170).1 (78 + 3 * k)) F (q_n (D 170).1 6) (q_n (D 170).1 7) i)) * (if 0 < ((lN (10000 * (m_spr (D 170).1 i t))) - (lN (o_sum (fun k => o_od (fun k => q_n (D 170).1 (78 + 3 * k)) F (q_n (D 170).1 6) (q_n (D 170).1 7) k * m_spr (D 170).1 k t) (q_n (D 170).1 6)))) then ((lN (10000 * (m_spr (D 170).1 i t))) - (lN (o_sum (fun k => o_od (fun k => q_n (D 170).1 (78 + 3 * k)) F (q_n (D 170).1 6) (q_n (D 170).1 7) k * m_spr (D 170).1 k t) (q_n (D 170).1 6)))) else -((lN (10000 * (m_spr (D 170).1 i t))) - (lN (o_sum (fun k => o_od (fun k => q_n (D 170).1 (78 + 3 * k)) F (q_n (D 170).1 6) (q_n (D 170).1 7) k * m_spr (D 170).1 k t) (q_n (D 170).1 6)))))))), (6, .int (nI (i + 1)))]) hE dX11_says_128 rfl rfl (by decide) rfl ?_
                refine r_goto (tgt := 85) hE dX11_says_131 (by decide) ?_
                refine r_locs hE (ls2 := [(0, .ref 169), (1, .int (nI t)), (2, .long (lN (o_sum (fun k => o_od (fun k => q_n (D 170).1 (78 + 3 * k)) F (q_n (D 170).1 6) (q_n (D 170).1 7) k * m_spr (D 170).1 k t) (q_n (D 170).1 6)))), (4, .long (o_say (o_od (fun k => q_n (D 170).1 (78 + 3 * k)) F (q_n (D 170).1 6) (q_n (D 170).1 7)) (fun k => m_spr (D 170).1 k t) (lN (o_sum (fun k => o_od (fun k => q_n (D 170).1 (78 + 3 * k)) F (q_n (D 170).1 6) (q_n (D 170).1 7) k * m_spr (D 170).1 k t) (q_n (D 170).1 6))) (i + 1))), (6, .int (nI (i + 1)))]) ?_ (ih ((q_n (D 170).1 6) - (i + 1)) (by omega) (i + 1) rfl (by omega))
                show ∀ q ∈ _, _
                rw [show o_say (o_od (fun k => q_n (D 170).1 (78 + 3 * k)) F (q_n (D 170).1 6) (q_n (D 170).1 7)) (fun k => m_spr (D 170).1 k t) (lN (o_sum (fun k => o_od (fun k => q_n (D 170).1 (78 + 3 * k)) F (q_n (D 170).1 6) (q_n (D 170).1 7) k * m_spr (D 170).1 k t) (q_n (D 170).1 6))) (i + 1) = o_say (o_od (fun k => q_n (D 170).1 (78 + 3 * k)) F (q_n (D 170).1 6) (q_n (D 170).1 7)) (fun k => m_spr (D 170).1 k t) (lN (o_sum (fun k => o_od (fun k => q_n (D 170).1 (78 + 3 * k)) F (q_n (D 170).1 6) (q_n (D 170).1 7) k * m_spr (D 170).1 k t) (q_n (D 170).1 6))) i + lN (o_od (fun k => q_n (D 170).1 (78 + 3 * k)) F (q_n (D 170).1 6) (q_n (D 170).1 7) i) * (if 0 < lN (10000 * m_spr (D 170).1 i t) - lN (o_sum (fun k => o_od (fun k => q_n (D 170).1 (78 + 3 * k)) F (q_n (D 170).1 6) (q_n (D 170).1 7) k * m_spr (D 170).1 k t) (q_n (D 170).1 6)) then lN (10000 * m_spr (D 170).1 i t) - lN (o_sum (fun k => o_od (fun k => q_n (D 170).1 (78 + 3 * k)) F (q_n (D 170).1 6) (q_n (D 170).1 7) k * m_spr (D 170).1 k t) (q_n (D 170).1 6)) else -(lN (10000 * m_spr (D 170).1 i t) - lN (o_sum (fun k => o_od (fun k => q_n (D 170).1 (78 + 3 * k)) F (q_n (D 170).1 6) (q_n (D 170).1 7) k * m_spr (D 170).1 k t) (q_n (D 170).1 6)))) from rfl]
                simp [x_lk]
          exact l2 0 (by omega)
        · refine r_lload_n hE dX11_says_53 rfl ?_
          refine r_aload_n hE dX11_says_54 rfl ?_
          refine t_getr hE f_X11_64 y_R_169_26 dX11_says_55 (hL 169 (by decide)) ?_
          refine r_iload hE dX11_says_58 rfl ?_
          refine t_ialdN (e := i) hE y_A_185 dX11_says_60 (hL 185 (by decide)) (by omega) (by decide) ?_
          refine r_top (y := (nI (o_od (fun k => q_n (D 170).1 (78 + 3 * k)) F (q_n (D 170).1 6) (q_n (D 170).1 7) i))) (od i (by omega)) ?_
          have ho9 : o_od (fun k => q_n (D 170).1 (78 + 3 * k)) F (q_n (D 170).1 6) (q_n (D 170).1 7) i ≤ 10000 := o_od_b (by omega) hw1 (fun k hk j hj => (m_FAC_b hW hO (hF k hk j hj)).1) (by omega)
          refine r_i2l hE dX11_says_61 ?_
          refine r_topL (y := lN (o_od (fun k => q_n (D 170).1 (78 + 3 * k)) F (q_n (D 170).1 6) (q_n (D 170).1 7) i)) (nI_l (by omega)) ?_
          refine r_aload_n hE dX11_says_62 rfl ?_
          refine r_iload hE dX11_says_63 rfl ?_
          refine r_iload_n hE dX11_says_65 rfl ?_
          refine t_invv (r := (some (.int (nI (m_spr (D5 170).1 i t))))) (S2 := (y_mk n L D5)) hE [.int (nI i), .int (nI t)] (c_springs (D := D5) (k := i) (t := t) hL (by rw [e170]; exact hO) (by rw [e170]; omega) (by rw [e170]; exact ht)) v_yX11_springs m_X11_353 dX11_says_66 rfl (hL 169 (by decide)) (y_l_169 (D5 169)) rfl (by decide) ⟨Nat.le_refl _, Nat.le_refl _⟩ (Nat.le_of_ble_eq_true rfl) ?_
          show E 0 0 69 [(0, .ref 169), (1, .int (nI t)), (2, .long (lN (o_sum (fun k => o_od (fun k => q_n (D 170).1 (78 + 3 * k)) F (q_n (D 170).1 6) (q_n (D 170).1 7) k * m_spr (D 170).1 k t) i))), (4, .int (nI i))] [.int (nI (m_spr (D5 170).1 i t)), .long (lN (o_od (fun k => q_n (D 170).1 (78 + 3 * k)) F (q_n (D 170).1 6) (q_n (D 170).1 7) i)), .long (lN (o_sum (fun k => o_od (fun k => q_n (D 170).1 (78 + 3 * k)) F (q_n (D 170).1 6) (q_n (D 170).1 7) k * m_spr (D 170).1 k t) i))] (y_mk n L D5)
          refine r_top (y := (nI (m_spr (D 170).1 i t))) (by rw [e170]) ?_
          have hs9 := m_spr_b (k := i) hO ht
          refine r_i2l hE dX11_says_69 ?_
          refine r_topL (y := lN (m_spr (D 170).1 i t)) (nI_l (by omega)) ?_
          refine r_lmul hE dX11_says_70 ?_
          refine r_topL (y := lN ((o_od (fun k => q_n (D 170).1 (78 + 3 * k)) F (q_n (D 170).1 6) (q_n (D 170).1 7) i) * (m_spr (D 170).1 i t))) (lN_mul (o_od (fun k => q_n (D 170).1 (78 + 3 * k)) F (q_n (D 170).1 6) (q_n (D 170).1 7) i) (m_spr (D 170).1 i t)) ?_
          refine r_ladd hE dX11_says_71 ?_
          refine r_topL (y := lN ((o_sum (fun k => o_od (fun k => q_n (D 170).1 (78 + 3 * k)) F (q_n (D 170).1 6) (q_n (D 170).1 7) k * m_spr (D 170).1 k t) i) + ((o_od (fun k => q_n (D 170).1 (78 + 3 * k)) F (q_n (D 170).1 6) (q_n (D 170).1 7) i) * (m_spr (D 170).1 i t)))) (lN_add (o_sum (fun k => o_od (fun k => q_n (D 170).1 (78 + 3 * k)) F (q_n (D 170).1 6) (q_n (D 170).1 7) k * m_spr (D 170).1 k t) i) ((o_od (fun k => q_n (D 170).1 (78 + 3 * k)) F (q_n (D 170).1 6) (q_n (D 170).1 7) i) * (m_spr (D 170).1 i t))) ?_
          refine r_lstore_n (ls2 := [(0, .ref 169), (1, .int (nI t)), (2, .long (lN ((o_sum (fun k => o_od (fun k => q_n (D 170).1 (78 + 3 * k)) F (q_n (D 170).1 6) (q_n (D 170).1 7) k * m_spr (D 170).1 k t) i) + ((o_od (fun k => q_n (D 170).1 (78 + 3 * k)) F (q_n (D 170).1 6) (q_n (D 170).1 7) i) * (m_spr (D 170).1 i t))))), (4, .int (nI i))]) hE dX11_says_72 (by decide) rfl ?_
          refine r_iincN (a := i) (b := 1) (ls2 := [(0, .ref 169), (1, .int (nI t)), (2, .long (lN ((o_sum (fun k => o_od (fun k => q_n (D 170).1 (78 + 3 * k)) F (q_n (D 170).1 6) (q_n (D 170).1 7) k * m_spr (D 170).1 k t) i) + ((o_od (fun k => q_n (D 170).1 (78 + 3 * k)) F (q_n (D 170).1 6) (q_n (D 170).1 7) i) * (m_spr (D 170).1 i t))))), (4, .int (nI (i + 1)))]) hE dX11_says_73 rfl rfl (by decide) rfl ?_
          refine r_goto (tgt := 41) hE dX11_says_76 (by decide) ?_
          exact ih ((q_n (D 170).1 6) - (i + 1)) (by omega) (i + 1) rfl (by omega)
    exact l1 0 (by omega)
  · rw [if_pos c16]
    refine r_lconst (v := 0) hE dX11_says_19 (by decide) ?_
    refine r_lreturn hE dX11_says_20 rfl (Nat.zero_le _) (Nat.zero_le _) ?_
    exact ⟨_, _, rfl, rfl, m_ot_0 (m_ot_0 m_ot_r), Or.inl ⟨c16, by rw [y_si_1, if_pos rfl]⟩⟩

/-! the class's reader: a LINE of a RULE -/
theorem k_sw15 (x : Int32) : ((x.toInt < 10 ∨ 15 < x.toInt) ∧ True) ∨ (x = 10 ∧ True) ∨ (x = 11 ∧ True) ∨ (x = 12 ∧ True) ∨ (x = 13 ∧ True) ∨ (x = 14 ∧ True) ∨ (x = 15 ∧ True) := by
  by_cases c : x.toInt < 10 ∨ 15 < x.toInt
  · exact Or.inl ⟨c, trivial⟩
  · obtain ⟨j, hj, rfl⟩ := nI_of (x := x) (fun h => by
      rw [Int32.lt_iff_toInt_lt] at h
      have h8 : (0 : Int32).toInt = 0 := by decide
      omega)
    rw [nI_toInt hj] at c
    rcases (show j = 10 ∨ j = 11 ∨ j = 12 ∨ j = 13 ∨ j = 14 ∨ j = 15 by omega) with rfl | rfl | rfl | rfl | rfl | rfl <;> decide
def k_rl (K B C : Nat → Int32) : k_FL := fun nx wr lc LN =>
  if K nx = 10 then k_pair K B C 10 3 11 (fun _ => 1) 7 (nx + 1) wr lc LN
  else if K nx = 12 then k_pair K B C 12 3 2 (fun _ => 0) 99 (nx + 1) wr lc LN
  else if K nx = 13 then k_pair K B C 13 300 14 (fun z => z) 300 (nx + 1) wr lc LN
  else if K nx = 15 then (if k_bad (k_nx K C (nx + 1)) 1 300 then (false, nx + 1, B (nx + 1), lc, LN) else (true, nx + 1 + 1, wr, lc + 3, upd (upd (upd LN lc 15) (lc + 1) (k_nx K C (nx + 1))) (lc + 2) 0))
  else (false, nx, B nx, lc, LN)
theorem k_readRuleLine {V : x_E} {n : Nat} {L : List Nat} {D : y_D} {m nx lc sc : Nat} {wr fr tk rc : Int32} {LN ST : Nat → Int32} (hL : y_ok L) (hm : m ≤ 400) (hK : (D 68).1 m = 0) (hx : nx ≤ m) (hlc : lc + 3 ≤ 30) : y_Ri V yX2_readRuleLine cX2_readRuleLine 1 (some .boolean) 3 [.ref 66] n L (k_Q D nx wr lc fr tk rc sc LN ST) (k_Rl D m fr tk rc sc ST (k_rl (D 68).1 (D 69).1 (D 70).1) nx wr lc LN) := by
  refine y_ri (by decide) (Nat.le_of_ble_eq_true rfl) (fun E hE => ?_)
  change E 0 0 0 [(0, .ref 66)] [] (y_mk n L (k_Q D nx wr lc fr tk rc sc LN ST))
  refine r_aload_n hE dX2_readRuleLine_0 rfl ?_
  refine t_invv (r := (some (.int ((D 68).1 nx)))) (S2 := (y_mk n L (k_Q D nx wr lc fr tk rc sc LN ST))) hE [] (k_token hL (by omega)) v_yX2_token m_X2_38 dX2_readRuleLine_1 rfl (hL 66 (by decide)) (y_l_66 ((k_Q D nx wr lc fr tk rc sc LN ST) 66)) rfl (by decide) ⟨Nat.le_refl _, Nat.le_refl _⟩ (Nat.le_of_ble_eq_true rfl) ?_
  show E 0 0 4 [(0, .ref 66)] [.int ((D 68).1 nx)] (y_mk n L (k_Q D nx wr lc fr tk rc sc LN ST))
  rcases k_sw15 ((D 68).1 nx) with ⟨h4, e4⟩ | ⟨h4, e4⟩ | ⟨h4, e4⟩ | ⟨h4, e4⟩ | ⟨h4, e4⟩ | ⟨h4, e4⟩ | ⟨h4, e4⟩
  · refine r_tsout (tgt := 141) hE dX2_readRuleLine_4 h4 (by decide) ?_
    refine r_aload_n hE dX2_readRuleLine_141 rfl ?_
    refine t_invv (r := (some (.int 0))) (S2 := (y_mk n L (k_Q D nx ((D 69).1 nx) lc fr tk rc sc LN ST))) hE [] (k_refuse hL (by omega)) v_yX2_refuse m_X2_55 dX2_readRuleLine_142 rfl (hL 66 (by decide)) (y_l_66 ((k_Q D nx wr lc fr tk rc sc LN ST) 66)) rfl (by decide) ⟨Nat.le_refl _, Nat.le_refl _⟩ (Nat.le_of_ble_eq_true rfl) ?_
    show E 0 0 145 [(0, .ref 66)] [.int 0] (y_mk n L (k_Q D nx ((D 69).1 nx) lc fr tk rc sc LN ST))
    refine r_ireturn hE dX2_readRuleLine_145 rfl (by rfl) (Nat.zero_le _) (Nat.zero_le _) ?_
    refine ⟨_, _, rfl, rfl, false, _, _, _, _, ?_, by decide, rfl, by omega, by omega, fun q => absurd q (by decide)⟩
    first
      | rw [k_rl, if_neg (by rw [h4]; decide), if_neg (by rw [h4]; decide), if_neg (by rw [h4]; decide), if_neg (by rw [h4]; decide)]
      | rw [k_rl, if_neg (fun c => by rw [c] at h4; exact absurd h4 (by decide)), if_neg (fun c => by rw [c] at h4; exact absurd h4 (by decide)), if_neg (fun c => by rw [c] at h4; exact absurd h4 (by decide)), if_neg (fun c => by rw [c] at h4; exact absurd h4 (by decide))]
  · refine r_top (y := 10) h4 ?_
    refine r_tsin (tgt := 44) hE dX2_readRuleLine_4 (by decide) (by decide) rfl (by decide) ?_
    have hz9 : nx ≠ m := fun q => by
      have h0 : (D 68).1 nx = 0 := by rw [q]; exact hK
      exact absurd (h0.symm.trans h4) (by decide)
    refine r_aload_n hE dX2_readRuleLine_44 rfl ?_
    refine r_dup hE dX2_readRuleLine_45 rfl ?_
    refine t_geti hE f_X2_87 y_I_66_1 dX2_readRuleLine_46 (hL 66 (by decide)) ?_
    refine r_top (y := (nI nx)) rfl ?_
    refine r_iconst (v := 1) hE dX2_readRuleLine_49 (by decide) ?_
    refine r_iaddN (a := nx) (b := 1) hE dX2_readRuleLine_50 ?_
    refine t_puti hE f_X2_87 y_I_66_1 dX2_readRuleLine_51 (hL 66 (by decide)) rfl rfl ?_
    rw [k_Q_1]
    refine r_aload_n hE dX2_readRuleLine_54 rfl ?_
    refine r_bipush (v := 10) hE dX2_readRuleLine_55 (by decide) ?_
    refine r_iconst (v := 3) hE dX2_readRuleLine_57 (by decide) ?_
    refine r_bipush (v := 11) hE dX2_readRuleLine_58 (by decide) ?_
    refine r_iconst (v := 1) hE dX2_readRuleLine_60 (by decide) ?_
    refine r_bipush (v := 7) hE dX2_readRuleLine_61 (by decide) ?_
    refine t_invvRi hE [.int 10, .int 3, .int 11, .int 1, .int 7] (k_pair_hold hL hm hK (by omega) hlc) v_yX2_readPair m_X2_99 dX2_readRuleLine_63 rfl (hL 66 (by decide)) (y_l_66 ((k_Q D (nx + 1) wr lc fr tk rc sc LN ST) 66)) rfl (by decide) ⟨Nat.le_refl _, Nat.le_refl _⟩ (Nat.le_of_ble_eq_true rfl) (fun r121 E121 q121 => ?_)
    obtain ⟨ok121, nx121, wr121, lc121, LN121, hf121, rfl, rfl, hy121, hz121, ha121⟩ := q121
    show E 0 0 66 [(0, .ref 66)] [.int (y_b (ok121 = true))] (y_mk n L (k_Q D nx121 wr121 lc121 fr tk rc sc LN121 ST))
    refine r_ireturn hE dX2_readRuleLine_66 rfl (by exact y_nb _) (Nat.zero_le _) (Nat.zero_le _) ?_
    refine ⟨_, _, rfl, rfl, ok121, _, _, _, _, ?_, rfl, rfl, by omega, hz121, ha121⟩
    rw [k_rl, if_pos h4, hf121]
  · refine r_top (y := 11) h4 ?_
    refine r_tsin (tgt := 141) hE dX2_readRuleLine_4 (by decide) (by decide) rfl (by decide) ?_
    refine r_aload_n hE dX2_readRuleLine_141 rfl ?_
    refine t_invv (r := (some (.int 0))) (S2 := (y_mk n L (k_Q D nx ((D 69).1 nx) lc fr tk rc sc LN ST))) hE [] (k_refuse hL (by omega)) v_yX2_refuse m_X2_55 dX2_readRuleLine_142 rfl (hL 66 (by decide)) (y_l_66 ((k_Q D nx wr lc fr tk rc sc LN ST) 66)) rfl (by decide) ⟨Nat.le_refl _, Nat.le_refl _⟩ (Nat.le_of_ble_eq_true rfl) ?_
    show E 0 0 145 [(0, .ref 66)] [.int 0] (y_mk n L (k_Q D nx ((D 69).1 nx) lc fr tk rc sc LN ST))
    refine r_ireturn hE dX2_readRuleLine_145 rfl (by rfl) (Nat.zero_le _) (Nat.zero_le _) ?_
    refine ⟨_, _, rfl, rfl, false, _, _, _, _, ?_, by decide, rfl, by omega, by omega, fun q => absurd q (by decide)⟩
    first
      | rw [k_rl, if_neg (by rw [h4]; decide), if_neg (by rw [h4]; decide), if_neg (by rw [h4]; decide), if_neg (by rw [h4]; decide)]
      | rw [k_rl, if_neg (fun c => by rw [c] at h4; exact absurd h4 (by decide)), if_neg (fun c => by rw [c] at h4; exact absurd h4 (by decide)), if_neg (fun c => by rw [c] at h4; exact absurd h4 (by decide)), if_neg (fun c => by rw [c] at h4; exact absurd h4 (by decide))]
  · refine r_top (y := 12) h4 ?_
    refine r_tsin (tgt := 67) hE dX2_readRuleLine_4 (by decide) (by decide) rfl (by decide) ?_
    have hz9 : nx ≠ m := fun q => by
      have h0 : (D 68).1 nx = 0 := by rw [q]; exact hK
      exact absurd (h0.symm.trans h4) (by decide)
    refine r_aload_n hE dX2_readRuleLine_67 rfl ?_
    refine r_dup hE dX2_readRuleLine_68 rfl ?_
    refine t_geti hE f_X2_87 y_I_66_1 dX2_readRuleLine_69 (hL 66 (by decide)) ?_
    refine r_top (y := (nI nx)) rfl ?_
    refine r_iconst (v := 1) hE dX2_readRuleLine_72 (by decide) ?_
    refine r_iaddN (a := nx) (b := 1) hE dX2_readRuleLine_73 ?_
    refine t_puti hE f_X2_87 y_I_66_1 dX2_readRuleLine_74 (hL 66 (by decide)) rfl rfl ?_
    rw [k_Q_1]
    refine r_aload_n hE dX2_readRuleLine_77 rfl ?_
    refine r_bipush (v := 12) hE dX2_readRuleLine_78 (by decide) ?_
    refine r_iconst (v := 3) hE dX2_readRuleLine_80 (by decide) ?_
    refine r_iconst (v := 2) hE dX2_readRuleLine_81 (by decide) ?_
    refine r_iconst (v := 0) hE dX2_readRuleLine_82 (by decide) ?_
    refine r_bipush (v := 99) hE dX2_readRuleLine_83 (by decide) ?_
    refine t_invvRi hE [.int 12, .int 3, .int 2, .int 0, .int 99] (k_pair_tie hL hm hK (by omega) hlc) v_yX2_readPair m_X2_99 dX2_readRuleLine_85 rfl (hL 66 (by decide)) (y_l_66 ((k_Q D (nx + 1) wr lc fr tk rc sc LN ST) 66)) rfl (by decide) ⟨Nat.le_refl _, Nat.le_refl _⟩ (Nat.le_of_ble_eq_true rfl) (fun r122 E122 q122 => ?_)
    obtain ⟨ok122, nx122, wr122, lc122, LN122, hf122, rfl, rfl, hy122, hz122, ha122⟩ := q122
    show E 0 0 88 [(0, .ref 66)] [.int (y_b (ok122 = true))] (y_mk n L (k_Q D nx122 wr122 lc122 fr tk rc sc LN122 ST))
    refine r_ireturn hE dX2_readRuleLine_88 rfl (by exact y_nb _) (Nat.zero_le _) (Nat.zero_le _) ?_
    refine ⟨_, _, rfl, rfl, ok122, _, _, _, _, ?_, rfl, rfl, by omega, hz122, ha122⟩
    rw [k_rl, if_neg (by rw [h4]; decide), if_pos h4, hf122]
  · refine r_top (y := 13) h4 ?_
    refine r_tsin (tgt := 89) hE dX2_readRuleLine_4 (by decide) (by decide) rfl (by decide) ?_
    have hz9 : nx ≠ m := fun q => by
      have h0 : (D 68).1 nx = 0 := by rw [q]; exact hK
      exact absurd (h0.symm.trans h4) (by decide)
    refine r_aload_n hE dX2_readRuleLine_89 rfl ?_
    refine r_dup hE dX2_readRuleLine_90 rfl ?_
    refine t_geti hE f_X2_87 y_I_66_1 dX2_readRuleLine_91 (hL 66 (by decide)) ?_
    refine r_top (y := (nI nx)) rfl ?_
    refine r_iconst (v := 1) hE dX2_readRuleLine_94 (by decide) ?_
    refine r_iaddN (a := nx) (b := 1) hE dX2_readRuleLine_95 ?_
    refine t_puti hE f_X2_87 y_I_66_1 dX2_readRuleLine_96 (hL 66 (by decide)) rfl rfl ?_
    rw [k_Q_1]
    refine r_aload_n hE dX2_readRuleLine_99 rfl ?_
    refine r_bipush (v := 13) hE dX2_readRuleLine_100 (by decide) ?_
    refine r_sipush (v := 300) hE dX2_readRuleLine_102 (by decide) ?_
    refine r_bipush (v := 14) hE dX2_readRuleLine_105 (by decide) ?_
    refine r_iconst (v := 0) hE dX2_readRuleLine_107 (by decide) ?_
    refine r_sipush (v := 300) hE dX2_readRuleLine_108 (by decide) ?_
    refine t_invvRi hE [.int 13, .int 300, .int 14, .int 0, .int 300] (k_pair_lit hL hm hK (by omega) hlc) v_yX2_readPair m_X2_99 dX2_readRuleLine_111 rfl (hL 66 (by decide)) (y_l_66 ((k_Q D (nx + 1) wr lc fr tk rc sc LN ST) 66)) rfl (by decide) ⟨Nat.le_refl _, Nat.le_refl _⟩ (Nat.le_of_ble_eq_true rfl) (fun r123 E123 q123 => ?_)
    obtain ⟨ok123, nx123, wr123, lc123, LN123, hf123, rfl, rfl, hy123, hz123, ha123⟩ := q123
    show E 0 0 114 [(0, .ref 66)] [.int (y_b (ok123 = true))] (y_mk n L (k_Q D nx123 wr123 lc123 fr tk rc sc LN123 ST))
    refine r_ireturn hE dX2_readRuleLine_114 rfl (by exact y_nb _) (Nat.zero_le _) (Nat.zero_le _) ?_
    refine ⟨_, _, rfl, rfl, ok123, _, _, _, _, ?_, rfl, rfl, by omega, hz123, ha123⟩
    rw [k_rl, if_neg (by rw [h4]; decide), if_neg (by rw [h4]; decide), if_pos h4, hf123]
  · refine r_top (y := 14) h4 ?_
    refine r_tsin (tgt := 141) hE dX2_readRuleLine_4 (by decide) (by decide) rfl (by decide) ?_
    refine r_aload_n hE dX2_readRuleLine_141 rfl ?_
    refine t_invv (r := (some (.int 0))) (S2 := (y_mk n L (k_Q D nx ((D 69).1 nx) lc fr tk rc sc LN ST))) hE [] (k_refuse hL (by omega)) v_yX2_refuse m_X2_55 dX2_readRuleLine_142 rfl (hL 66 (by decide)) (y_l_66 ((k_Q D nx wr lc fr tk rc sc LN ST) 66)) rfl (by decide) ⟨Nat.le_refl _, Nat.le_refl _⟩ (Nat.le_of_ble_eq_true rfl) ?_
    show E 0 0 145 [(0, .ref 66)] [.int 0] (y_mk n L (k_Q D nx ((D 69).1 nx) lc fr tk rc sc LN ST))
    refine r_ireturn hE dX2_readRuleLine_145 rfl (by rfl) (Nat.zero_le _) (Nat.zero_le _) ?_
    refine ⟨_, _, rfl, rfl, false, _, _, _, _, ?_, by decide, rfl, by omega, by omega, fun q => absurd q (by decide)⟩
    first
      | rw [k_rl, if_neg (by rw [h4]; decide), if_neg (by rw [h4]; decide), if_neg (by rw [h4]; decide), if_neg (by rw [h4]; decide)]
      | rw [k_rl, if_neg (fun c => by rw [c] at h4; exact absurd h4 (by decide)), if_neg (fun c => by rw [c] at h4; exact absurd h4 (by decide)), if_neg (fun c => by rw [c] at h4; exact absurd h4 (by decide)), if_neg (fun c => by rw [c] at h4; exact absurd h4 (by decide))]
  · refine r_top (y := 15) h4 ?_
    refine r_tsin (tgt := 115) hE dX2_readRuleLine_4 (by decide) (by decide) rfl (by decide) ?_
    have hz9 : nx ≠ m := fun q => by
      have h0 : (D 68).1 nx = 0 := by rw [q]; exact hK
      exact absurd (h0.symm.trans h4) (by decide)
    refine r_aload_n hE dX2_readRuleLine_115 rfl ?_
    refine r_dup hE dX2_readRuleLine_116 rfl ?_
    refine t_geti hE f_X2_87 y_I_66_1 dX2_readRuleLine_117 (hL 66 (by decide)) ?_
    refine r_top (y := (nI nx)) rfl ?_
    refine r_iconst (v := 1) hE dX2_readRuleLine_120 (by decide) ?_
    refine r_iaddN (a := nx) (b := 1) hE dX2_readRuleLine_121 ?_
    refine t_puti hE f_X2_87 y_I_66_1 dX2_readRuleLine_122 (hL 66 (by decide)) rfl rfl ?_
    rw [k_Q_1]
    refine r_aload_n hE dX2_readRuleLine_125 rfl ?_
    refine r_bipush (v := 15) hE dX2_readRuleLine_126 (by decide) ?_
    refine r_aload_n hE dX2_readRuleLine_128 rfl ?_
    refine r_iconst (v := 1) hE dX2_readRuleLine_129 (by decide) ?_
    refine r_sipush (v := 300) hE dX2_readRuleLine_130 (by decide) ?_
    by_cases hbd : k_bad (k_nx (D 68).1 (D 70).1 (nx + 1)) 1 300
    · refine t_invv (r := (some (.int (-1)))) (S2 := (y_mk n L (k_Q D (nx + 1) ((D 69).1 (nx + 1)) lc fr tk rc sc LN ST))) hE [.int 1, .int 300] (k_numF hL (by omega) hbd) v_yX2_number m_X2_103 dX2_readRuleLine_133 rfl (hL 66 (by decide)) (y_l_66 ((k_Q D (nx + 1) wr lc fr tk rc sc LN ST) 66)) rfl (by decide) ⟨Nat.le_refl _, Nat.le_refl _⟩ (Nat.le_of_ble_eq_true rfl) ?_
      show E 0 0 136 [(0, .ref 66)] [.int (-1), .int 15, .ref 66] (y_mk n L (k_Q D (nx + 1) ((D 69).1 (nx + 1)) lc fr tk rc sc LN ST))
      refine r_iconst (v := 0) hE dX2_readRuleLine_136 (by decide) ?_
      refine t_invv (r := (some (.int 0))) (S2 := (y_mk n L (k_Q D (nx + 1) ((D 69).1 (nx + 1)) lc fr tk rc sc LN ST))) hE [.int 15, .int (-1), .int 0] (k_lineF hL (by omega) (by omega) (fun z => z.1 rfl)) v_yX2_keepLine m_X2_107 dX2_readRuleLine_137 rfl (hL 66 (by decide)) (y_l_66 ((k_Q D (nx + 1) ((D 69).1 (nx + 1)) lc fr tk rc sc LN ST) 66)) rfl (by decide) ⟨Nat.le_refl _, Nat.le_refl _⟩ (Nat.le_of_ble_eq_true rfl) ?_
      show E 0 0 140 [(0, .ref 66)] [.int 0] (y_mk n L (k_Q D (nx + 1) ((D 69).1 (nx + 1)) lc fr tk rc sc LN ST))
      refine r_ireturn hE dX2_readRuleLine_140 rfl (by rfl) (Nat.zero_le _) (Nat.zero_le _) ?_
      refine ⟨_, _, rfl, rfl, false, _, _, _, _, ?_, by decide, rfl, by omega, by omega, fun q => by first | rfl | exact absurd q (by decide)⟩
      rw [k_rl, if_neg (by rw [h4]; decide), if_neg (by rw [h4]; decide), if_neg (by rw [h4]; decide), if_pos h4, if_pos hbd]
    · have hne : (k_nx (D 68).1 (D 70).1 (nx + 1)) ≠ -1 := k_ne (by decide) hbd
      have hk2 := k_2 (by decide) hbd
      have hzz : (nx + 1) ≠ m := fun z => absurd (z ▸ hk2) (by rw [hK]; decide)
      refine t_invv (r := (some (.int (k_nx (D 68).1 (D 70).1 (nx + 1))))) (S2 := (y_mk n L (k_Q D ((nx + 1) + 1) wr lc fr tk rc sc LN ST))) hE [.int 1, .int 300] (k_numT hL (by omega) hbd) v_yX2_number m_X2_103 dX2_readRuleLine_133 rfl (hL 66 (by decide)) (y_l_66 ((k_Q D (nx + 1) wr lc fr tk rc sc LN ST) 66)) rfl (by decide) ⟨Nat.le_refl _, Nat.le_refl _⟩ (Nat.le_of_ble_eq_true rfl) ?_
      show E 0 0 136 [(0, .ref 66)] [.int (k_nx (D 68).1 (D 70).1 (nx + 1)), .int 15, .ref 66] (y_mk n L (k_Q D ((nx + 1) + 1) wr lc fr tk rc sc LN ST))
      refine r_iconst (v := 0) hE dX2_readRuleLine_136 (by decide) ?_
      refine t_invv (r := (some (.int 1))) (S2 := (y_mk n L (k_Q D ((nx + 1) + 1) wr (lc + 3) fr tk rc sc (upd (upd (upd LN lc 15) (lc + 1) (k_nx (D 68).1 (D 70).1 (nx + 1))) (lc + 2) 0) ST))) hE [.int 15, .int (k_nx (D 68).1 (D 70).1 (nx + 1)), .int 0] (k_lineT hL (by omega) (by omega) ⟨hne, by decide, hlc⟩) v_yX2_keepLine m_X2_107 dX2_readRuleLine_137 rfl (hL 66 (by decide)) (y_l_66 ((k_Q D ((nx + 1) + 1) wr lc fr tk rc sc LN ST) 66)) rfl (by decide) ⟨Nat.le_refl _, Nat.le_refl _⟩ (Nat.le_of_ble_eq_true rfl) ?_
      show E 0 0 140 [(0, .ref 66)] [.int 1] (y_mk n L (k_Q D ((nx + 1) + 1) wr (lc + 3) fr tk rc sc (upd (upd (upd LN lc 15) (lc + 1) (k_nx (D 68).1 (D 70).1 (nx + 1))) (lc + 2) 0) ST))
      refine r_ireturn hE dX2_readRuleLine_140 rfl (by rfl) (Nat.zero_le _) (Nat.zero_le _) ?_
      refine ⟨_, _, rfl, rfl, true, _, _, _, _, ?_, by decide, rfl, by omega, by omega, fun q => by first | rfl | exact absurd q (by decide)⟩
      rw [k_rl, if_neg (by rw [h4]; decide), if_neg (by rw [h4]; decide), if_neg (by rw [h4]; decide), if_pos h4, if_neg hbd]

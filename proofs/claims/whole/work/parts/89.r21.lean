/-! the class's reader: a LINE of a WAY -/
theorem k_sw19 (x : Int32) : ((x.toInt < 16 ∨ 19 < x.toInt) ∧ True) ∨ (x = 16 ∧ True) ∨ (x = 17 ∧ True) ∨ (x = 18 ∧ True) ∨ (x = 19 ∧ True) := by
  by_cases c : x.toInt < 16 ∨ 19 < x.toInt
  · exact Or.inl ⟨c, trivial⟩
  · obtain ⟨j, hj, rfl⟩ := nI_of (x := x) (fun h => by
      rw [Int32.lt_iff_toInt_lt] at h
      have h8 : (0 : Int32).toInt = 0 := by decide
      omega)
    rw [nI_toInt hj] at c
    rcases (show j = 16 ∨ j = 17 ∨ j = 18 ∨ j = 19 by omega) with rfl | rfl | rfl | rfl <;> decide
abbrev k_UW : Type := Nat × Int32 × Int32 × Int32 × Int32 × Nat × (Nat → Int32)
abbrev k_FW : Type := Nat → Int32 → Int32 → Int32 → Int32 → Nat → (Nat → Int32) → Bool × k_UW
def k_Rw (D : y_D) (m lc : Nat) (LN : Nat → Int32) (F : k_FW) (nx : Nat) (wr fr tk rc : Int32) (sc : Nat) (ST : Nat → Int32) (v : Int32) (D2 : y_D) : Prop := ∃ (ok : Bool) (nx2 : Nat) (wr2 fr2 tk2 rc2 : Int32) (sc2 : Nat) (ST2 : Nat → Int32), F nx wr fr tk rc sc ST = (ok, nx2, wr2, fr2, tk2, rc2, sc2, ST2) ∧ v = y_b (ok = true) ∧ D2 = k_Q D nx2 wr2 lc fr2 tk2 rc2 sc2 LN ST2 ∧ nx ≤ nx2 ∧ nx2 ≤ m ∧ sc2 ≤ 2 * nx2
def k_ndF (fr tk rc : Int32) (r : Bool × k_U) : Bool × k_UW := if r.1 = true then (true, r.2.1, r.2.2.1, fr, tk, rc, r.2.2.2.1 + 1, upd r.2.2.2.2 r.2.2.2.1 (21 * 1024 + 0)) else (false, r.2.1, r.2.2.1, fr, tk, rc, r.2.2.2.1, r.2.2.2.2)
theorem k_ndF_t {fr tk rc wr : Int32} {nx sc : Nat} {ST : Nat → Int32} : k_ndF fr tk rc (true, nx, wr, sc, ST) = (true, nx, wr, fr, tk, rc, sc + 1, upd ST sc (21 * 1024 + 0)) := rfl
theorem k_ndF_f {fr tk rc wr : Int32} {nx sc : Nat} {ST : Nat → Int32} : k_ndF fr tk rc (false, nx, wr, sc, ST) = (false, nx, wr, fr, tk, rc, sc, ST) := rfl
def k_wln (K B C : Nat → Int32) : k_FW := fun nx wr fr tk rc sc ST =>
  if K nx = 16 then (if k_bad (k_nx K C (nx + 1)) 0 3 then (false, nx + 1, B (nx + 1), fr ||| 0, tk, rc, sc, ST) else (true, nx + 1 + 1, wr, fr ||| (1 <<< (k_nx K C (nx + 1) &&& 31)), tk, rc, sc, ST))
  else if K nx = 17 then (if k_bad (k_nx K C (nx + 1)) 1 60 then (false, nx + 1, B (nx + 1), fr, -1, rc, sc, ST) else (true, nx + 1 + 1, wr, fr, k_nx K C (nx + 1), rc, sc, ST))
  else if K nx = 18 then (if k_bad (k_nx K C (nx + 1)) 1 9 then (false, nx + 1, B (nx + 1), fr, tk, -1, sc, ST) else (true, nx + 1 + 1, wr, fr, tk, k_nx K C (nx + 1), sc, ST))
  else if K nx = 19 then k_ndF fr tk rc (k_cd K (k_at K B C 7 0) (nx + 1) wr sc ST)
  else (false, nx, B nx, fr, tk, rc, sc, ST)
theorem k_readWayLine {V : x_E} {n : Nat} {L : List Nat} {D : y_D} {m nx lc sc : Nat} {wr fr tk rc : Int32} {LN ST : Nat → Int32} (hL : y_ok L) (hm : m ≤ 400) (hK : (D 68).1 m = 0) (hx : nx ≤ m) (hs : sc ≤ 2 * nx) : y_Ri V yX2_readWayLine cX2_readWayLine 2 (some .boolean) 17 [.ref 66] n L (k_Q D nx wr lc fr tk rc sc LN ST) (k_Rw D m lc LN (k_wln (D 68).1 (D 69).1 (D 70).1) nx wr fr tk rc sc ST) := by
  refine y_ri (by decide) (Nat.le_of_ble_eq_true rfl) (fun E hE => ?_)
  change E 0 0 0 [(0, .ref 66)] [] (y_mk n L (k_Q D nx wr lc fr tk rc sc LN ST))
  refine r_aload_n hE dX2_readWayLine_0 rfl ?_
  refine t_invv (r := (some (.int ((D 68).1 nx)))) (S2 := (y_mk n L (k_Q D nx wr lc fr tk rc sc LN ST))) hE [] (k_token hL (by omega)) v_yX2_token m_X2_38 dX2_readWayLine_1 rfl (hL 66 (by decide)) (y_l_66 ((k_Q D nx wr lc fr tk rc sc LN ST) 66)) rfl (by decide) ⟨Nat.le_refl _, Nat.le_refl _⟩ (Nat.le_of_ble_eq_true rfl) ?_
  show E 0 0 4 [(0, .ref 66)] [.int ((D 68).1 nx)] (y_mk n L (k_Q D nx wr lc fr tk rc sc LN ST))
  rcases k_sw19 ((D 68).1 nx) with ⟨h4, e4⟩ | ⟨h4, e4⟩ | ⟨h4, e4⟩ | ⟨h4, e4⟩ | ⟨h4, e4⟩
  · refine r_tsout (tgt := 189) hE dX2_readWayLine_4 h4 (by decide) ?_
    refine r_aload_n hE dX2_readWayLine_189 rfl ?_
    refine t_invv (r := (some (.int 0))) (S2 := (y_mk n L (k_Q D nx ((D 69).1 nx) lc fr tk rc sc LN ST))) hE [] (k_refuse hL (by omega)) v_yX2_refuse m_X2_55 dX2_readWayLine_190 rfl (hL 66 (by decide)) (y_l_66 ((k_Q D nx wr lc fr tk rc sc LN ST) 66)) rfl (by decide) ⟨Nat.le_refl _, Nat.le_refl _⟩ (Nat.le_of_ble_eq_true rfl) ?_
    show E 0 0 193 [(0, .ref 66)] [.int 0] (y_mk n L (k_Q D nx ((D 69).1 nx) lc fr tk rc sc LN ST))
    refine r_ireturn hE dX2_readWayLine_193 rfl (by rfl) (Nat.zero_le _) (Nat.zero_le _) ?_
    refine ⟨_, _, rfl, rfl, false, _, _, _, _, _, _, _, ?_, by decide, rfl, by omega, by omega, by omega⟩
    rw [k_wln, if_neg (fun c => by rw [c] at h4; exact absurd h4 (by decide)), if_neg (fun c => by rw [c] at h4; exact absurd h4 (by decide)), if_neg (fun c => by rw [c] at h4; exact absurd h4 (by decide)), if_neg (fun c => by rw [c] at h4; exact absurd h4 (by decide))]
  · refine r_top (y := 16) h4 ?_
    refine r_tsin (tgt := 36) hE dX2_readWayLine_4 (by decide) (by decide) rfl (by decide) ?_
    have hz9 : nx ≠ m := fun q => by
      have h0 : (D 68).1 nx = 0 := by rw [q]; exact hK
      exact absurd (h0.symm.trans h4) (by decide)
    refine r_aload_n hE dX2_readWayLine_36 rfl ?_
    refine r_dup hE dX2_readWayLine_37 rfl ?_
    refine t_geti hE f_X2_87 y_I_66_1 dX2_readWayLine_38 (hL 66 (by decide)) ?_
    refine r_top (y := (nI nx)) rfl ?_
    refine r_iconst (v := 1) hE dX2_readWayLine_41 (by decide) ?_
    refine r_iaddN (a := nx) (b := 1) hE dX2_readWayLine_42 ?_
    refine t_puti hE f_X2_87 y_I_66_1 dX2_readWayLine_43 (hL 66 (by decide)) rfl rfl ?_
    rw [k_Q_1]
    refine r_aload_n hE dX2_readWayLine_46 rfl ?_
    refine r_iconst (v := 0) hE dX2_readWayLine_47 (by decide) ?_
    refine r_iconst (v := 3) hE dX2_readWayLine_48 (by decide) ?_
    by_cases hbd : k_bad (k_nx (D 68).1 (D 70).1 (nx + 1)) 0 3
    · refine t_invv (r := (some (.int (-1)))) (S2 := (y_mk n L (k_Q D (nx + 1) ((D 69).1 (nx + 1)) lc fr tk rc sc LN ST))) hE [.int 0, .int 3] (k_numF hL (by omega) hbd) v_yX2_number m_X2_103 dX2_readWayLine_49 rfl (hL 66 (by decide)) (y_l_66 ((k_Q D (nx + 1) wr lc fr tk rc sc LN ST) 66)) rfl (by decide) ⟨Nat.le_refl _, Nat.le_refl _⟩ (Nat.le_of_ble_eq_true rfl) ?_
      show E 0 0 52 [(0, .ref 66)] [.int (-1)] (y_mk n L (k_Q D (nx + 1) ((D 69).1 (nx + 1)) lc fr tk rc sc LN ST))
      refine r_istore_n (ls2 := [(0, .ref 66), (1, .int (-1))]) hE dX2_readWayLine_52 (by decide) rfl ?_
      refine r_aload_n hE dX2_readWayLine_53 rfl ?_
      refine r_dup hE dX2_readWayLine_54 rfl ?_
      refine t_geti hE f_X2_72 y_I_66_5 dX2_readWayLine_55 (hL 66 (by decide)) ?_
      refine r_top (y := fr) rfl ?_
      refine r_iload_n hE dX2_readWayLine_58 rfl ?_
      refine r_iconst (v := (-1)) hE dX2_readWayLine_59 (by decide) ?_
      refine r_icmp_ne (tgt := 67) hE dX2_readWayLine_60 (by decide) (fun c60 => by first | exact absurd c60 (by decide) | exact absurd (by decide) c60) (fun _ => ?_)
      refine r_iconst (v := 0) hE dX2_readWayLine_63 (by decide) ?_
      refine r_goto (tgt := 70) hE dX2_readWayLine_64 (by decide) ?_
      refine r_ior hE dX2_readWayLine_70 ?_
      refine t_puti hE f_X2_72 y_I_66_5 dX2_readWayLine_71 (hL 66 (by decide)) rfl rfl ?_
      rw [k_Q_5]
      refine r_iload_n hE dX2_readWayLine_74 rfl ?_
      refine r_iconst (v := (-1)) hE dX2_readWayLine_75 (by decide) ?_
      refine r_icmp_eq (tgt := 83) hE dX2_readWayLine_76 (by decide) (fun _ => ?_) (fun c76 => by first | exact absurd c76 (by decide) | exact absurd (by decide) c76)
      refine r_iconst (v := 0) hE dX2_readWayLine_83 (by decide) ?_
      refine r_ireturn hE dX2_readWayLine_84 rfl (by rfl) (Nat.zero_le _) (Nat.zero_le _) ?_
      refine ⟨_, _, rfl, rfl, false, _, _, _, _, _, _, _, ?_, by decide, rfl, by omega, by omega, by omega⟩
      rw [k_wln, if_pos h4, if_pos hbd]
    · have hne : (k_nx (D 68).1 (D 70).1 (nx + 1)) ≠ -1 := k_ne (by decide) hbd
      have hk2 := k_2 (by decide) hbd
      have hzz : (nx + 1) ≠ m := fun z => absurd (z ▸ hk2) (by rw [hK]; decide)
      refine t_invv (r := (some (.int (k_nx (D 68).1 (D 70).1 (nx + 1))))) (S2 := (y_mk n L (k_Q D ((nx + 1) + 1) wr lc fr tk rc sc LN ST))) hE [.int 0, .int 3] (k_numT hL (by omega) hbd) v_yX2_number m_X2_103 dX2_readWayLine_49 rfl (hL 66 (by decide)) (y_l_66 ((k_Q D (nx + 1) wr lc fr tk rc sc LN ST) 66)) rfl (by decide) ⟨Nat.le_refl _, Nat.le_refl _⟩ (Nat.le_of_ble_eq_true rfl) ?_
      show E 0 0 52 [(0, .ref 66)] [.int (k_nx (D 68).1 (D 70).1 (nx + 1))] (y_mk n L (k_Q D ((nx + 1) + 1) wr lc fr tk rc sc LN ST))
      refine r_istore_n (ls2 := [(0, .ref 66), (1, .int (k_nx (D 68).1 (D 70).1 (nx + 1)))]) hE dX2_readWayLine_52 (by decide) rfl ?_
      refine r_aload_n hE dX2_readWayLine_53 rfl ?_
      refine r_dup hE dX2_readWayLine_54 rfl ?_
      refine t_geti hE f_X2_72 y_I_66_5 dX2_readWayLine_55 (hL 66 (by decide)) ?_
      refine r_top (y := fr) rfl ?_
      refine r_iload_n hE dX2_readWayLine_58 rfl ?_
      refine r_iconst (v := (-1)) hE dX2_readWayLine_59 (by decide) ?_
      refine r_icmp_ne (tgt := 67) hE dX2_readWayLine_60 (by decide) (fun c60 => ?_) (fun c60 => ?_)
      · refine r_iconst (v := 1) hE dX2_readWayLine_67 (by decide) ?_
        refine r_iload_n hE dX2_readWayLine_68 rfl ?_
        refine r_ishl hE dX2_readWayLine_69 ?_
        refine r_ior hE dX2_readWayLine_70 ?_
        refine t_puti hE f_X2_72 y_I_66_5 dX2_readWayLine_71 (hL 66 (by decide)) rfl rfl ?_
        rw [k_Q_5]
        refine r_iload_n hE dX2_readWayLine_74 rfl ?_
        refine r_iconst (v := (-1)) hE dX2_readWayLine_75 (by decide) ?_
        refine r_icmp_eq (tgt := 83) hE dX2_readWayLine_76 (by decide) (fun c76 => ?_) (fun c76 => ?_)
        · exact absurd c76 hne
        · refine r_iconst (v := 1) hE dX2_readWayLine_79 (by decide) ?_
          refine r_goto (tgt := 84) hE dX2_readWayLine_80 (by decide) ?_
          refine r_ireturn hE dX2_readWayLine_84 rfl (by rfl) (Nat.zero_le _) (Nat.zero_le _) ?_
          refine ⟨_, _, rfl, rfl, true, _, _, _, _, _, _, _, ?_, by decide, rfl, by omega, by omega, by omega⟩
          rw [k_wln, if_pos h4, if_neg hbd]
      · exact absurd c60 hne
  · refine r_top (y := 17) h4 ?_
    refine r_tsin (tgt := 85) hE dX2_readWayLine_4 (by decide) (by decide) rfl (by decide) ?_
    have hz9 : nx ≠ m := fun q => by
      have h0 : (D 68).1 nx = 0 := by rw [q]; exact hK
      exact absurd (h0.symm.trans h4) (by decide)
    refine r_aload_n hE dX2_readWayLine_85 rfl ?_
    refine r_dup hE dX2_readWayLine_86 rfl ?_
    refine t_geti hE f_X2_87 y_I_66_1 dX2_readWayLine_87 (hL 66 (by decide)) ?_
    refine r_top (y := (nI nx)) rfl ?_
    refine r_iconst (v := 1) hE dX2_readWayLine_90 (by decide) ?_
    refine r_iaddN (a := nx) (b := 1) hE dX2_readWayLine_91 ?_
    refine t_puti hE f_X2_87 y_I_66_1 dX2_readWayLine_92 (hL 66 (by decide)) rfl rfl ?_
    rw [k_Q_1]
    refine r_aload_n hE dX2_readWayLine_95 rfl ?_
    refine r_aload_n hE dX2_readWayLine_96 rfl ?_
    refine r_iconst (v := 1) hE dX2_readWayLine_97 (by decide) ?_
    refine r_bipush (v := 60) hE dX2_readWayLine_98 (by decide) ?_
    by_cases hbd : k_bad (k_nx (D 68).1 (D 70).1 (nx + 1)) 1 60
    · refine t_invv (r := (some (.int (-1)))) (S2 := (y_mk n L (k_Q D (nx + 1) ((D 69).1 (nx + 1)) lc fr tk rc sc LN ST))) hE [.int 1, .int 60] (k_numF hL (by omega) hbd) v_yX2_number m_X2_103 dX2_readWayLine_100 rfl (hL 66 (by decide)) (y_l_66 ((k_Q D (nx + 1) wr lc fr tk rc sc LN ST) 66)) rfl (by decide) ⟨Nat.le_refl _, Nat.le_refl _⟩ (Nat.le_of_ble_eq_true rfl) ?_
      show E 0 0 103 [(0, .ref 66)] [.int (-1), .ref 66] (y_mk n L (k_Q D (nx + 1) ((D 69).1 (nx + 1)) lc fr tk rc sc LN ST))
      refine t_puti hE f_X2_75 y_I_66_6 dX2_readWayLine_103 (hL 66 (by decide)) rfl rfl ?_
      rw [k_Q_6]
      refine r_aload_n hE dX2_readWayLine_106 rfl ?_
      refine t_geti hE f_X2_75 y_I_66_6 dX2_readWayLine_107 (hL 66 (by decide)) ?_
      refine r_top (y := (-1)) rfl ?_
      refine r_iconst (v := (-1)) hE dX2_readWayLine_110 (by decide) ?_
      refine r_icmp_eq (tgt := 118) hE dX2_readWayLine_111 (by decide) (fun _ => ?_) (fun c111 => by first | exact absurd c111 (by decide) | exact absurd (by decide) c111)
      refine r_iconst (v := 0) hE dX2_readWayLine_118 (by decide) ?_
      refine r_ireturn hE dX2_readWayLine_119 rfl (by rfl) (Nat.zero_le _) (Nat.zero_le _) ?_
      refine ⟨_, _, rfl, rfl, false, _, _, _, _, _, _, _, ?_, by decide, rfl, by omega, by omega, by omega⟩
      rw [k_wln, if_neg (by rw [h4]; decide), if_pos h4, if_pos hbd]
    · have hne : (k_nx (D 68).1 (D 70).1 (nx + 1)) ≠ -1 := k_ne (by decide) hbd
      have hk2 := k_2 (by decide) hbd
      have hzz : (nx + 1) ≠ m := fun z => absurd (z ▸ hk2) (by rw [hK]; decide)
      refine t_invv (r := (some (.int (k_nx (D 68).1 (D 70).1 (nx + 1))))) (S2 := (y_mk n L (k_Q D ((nx + 1) + 1) wr lc fr tk rc sc LN ST))) hE [.int 1, .int 60] (k_numT hL (by omega) hbd) v_yX2_number m_X2_103 dX2_readWayLine_100 rfl (hL 66 (by decide)) (y_l_66 ((k_Q D (nx + 1) wr lc fr tk rc sc LN ST) 66)) rfl (by decide) ⟨Nat.le_refl _, Nat.le_refl _⟩ (Nat.le_of_ble_eq_true rfl) ?_
      show E 0 0 103 [(0, .ref 66)] [.int (k_nx (D 68).1 (D 70).1 (nx + 1)), .ref 66] (y_mk n L (k_Q D ((nx + 1) + 1) wr lc fr tk rc sc LN ST))
      refine t_puti hE f_X2_75 y_I_66_6 dX2_readWayLine_103 (hL 66 (by decide)) rfl rfl ?_
      rw [k_Q_6]
      refine r_aload_n hE dX2_readWayLine_106 rfl ?_
      refine t_geti hE f_X2_75 y_I_66_6 dX2_readWayLine_107 (hL 66 (by decide)) ?_
      refine r_top (y := (k_nx (D 68).1 (D 70).1 (nx + 1))) rfl ?_
      refine r_iconst (v := (-1)) hE dX2_readWayLine_110 (by decide) ?_
      refine r_icmp_eq (tgt := 118) hE dX2_readWayLine_111 (by decide) (fun c111 => ?_) (fun c111 => ?_)
      · exact absurd c111 hne
      · refine r_iconst (v := 1) hE dX2_readWayLine_114 (by decide) ?_
        refine r_goto (tgt := 119) hE dX2_readWayLine_115 (by decide) ?_
        refine r_ireturn hE dX2_readWayLine_119 rfl (by rfl) (Nat.zero_le _) (Nat.zero_le _) ?_
        refine ⟨_, _, rfl, rfl, true, _, _, _, _, _, _, _, ?_, by decide, rfl, by omega, by omega, by omega⟩
        rw [k_wln, if_neg (by rw [h4]; decide), if_pos h4, if_neg hbd]
  · refine r_top (y := 18) h4 ?_
    refine r_tsin (tgt := 120) hE dX2_readWayLine_4 (by decide) (by decide) rfl (by decide) ?_
    have hz9 : nx ≠ m := fun q => by
      have h0 : (D 68).1 nx = 0 := by rw [q]; exact hK
      exact absurd (h0.symm.trans h4) (by decide)
    refine r_aload_n hE dX2_readWayLine_120 rfl ?_
    refine r_dup hE dX2_readWayLine_121 rfl ?_
    refine t_geti hE f_X2_87 y_I_66_1 dX2_readWayLine_122 (hL 66 (by decide)) ?_
    refine r_top (y := (nI nx)) rfl ?_
    refine r_iconst (v := 1) hE dX2_readWayLine_125 (by decide) ?_
    refine r_iaddN (a := nx) (b := 1) hE dX2_readWayLine_126 ?_
    refine t_puti hE f_X2_87 y_I_66_1 dX2_readWayLine_127 (hL 66 (by decide)) rfl rfl ?_
    rw [k_Q_1]
    refine r_aload_n hE dX2_readWayLine_130 rfl ?_
    refine r_aload_n hE dX2_readWayLine_131 rfl ?_
    refine r_iconst (v := 1) hE dX2_readWayLine_132 (by decide) ?_
    refine r_bipush (v := 9) hE dX2_readWayLine_133 (by decide) ?_
    by_cases hbd : k_bad (k_nx (D 68).1 (D 70).1 (nx + 1)) 1 9
    · refine t_invv (r := (some (.int (-1)))) (S2 := (y_mk n L (k_Q D (nx + 1) ((D 69).1 (nx + 1)) lc fr tk rc sc LN ST))) hE [.int 1, .int 9] (k_numF hL (by omega) hbd) v_yX2_number m_X2_103 dX2_readWayLine_135 rfl (hL 66 (by decide)) (y_l_66 ((k_Q D (nx + 1) wr lc fr tk rc sc LN ST) 66)) rfl (by decide) ⟨Nat.le_refl _, Nat.le_refl _⟩ (Nat.le_of_ble_eq_true rfl) ?_
      show E 0 0 138 [(0, .ref 66)] [.int (-1), .ref 66] (y_mk n L (k_Q D (nx + 1) ((D 69).1 (nx + 1)) lc fr tk rc sc LN ST))
      refine t_puti hE f_X2_78 y_I_66_7 dX2_readWayLine_138 (hL 66 (by decide)) rfl rfl ?_
      rw [k_Q_7]
      refine r_aload_n hE dX2_readWayLine_141 rfl ?_
      refine t_geti hE f_X2_78 y_I_66_7 dX2_readWayLine_142 (hL 66 (by decide)) ?_
      refine r_top (y := (-1)) rfl ?_
      refine r_iconst (v := (-1)) hE dX2_readWayLine_145 (by decide) ?_
      refine r_icmp_eq (tgt := 153) hE dX2_readWayLine_146 (by decide) (fun _ => ?_) (fun c146 => by first | exact absurd c146 (by decide) | exact absurd (by decide) c146)
      refine r_iconst (v := 0) hE dX2_readWayLine_153 (by decide) ?_
      refine r_ireturn hE dX2_readWayLine_154 rfl (by rfl) (Nat.zero_le _) (Nat.zero_le _) ?_
      refine ⟨_, _, rfl, rfl, false, _, _, _, _, _, _, _, ?_, by decide, rfl, by omega, by omega, by omega⟩
      rw [k_wln, if_neg (by rw [h4]; decide), if_neg (by rw [h4]; decide), if_pos h4, if_pos hbd]
    · have hne : (k_nx (D 68).1 (D 70).1 (nx + 1)) ≠ -1 := k_ne (by decide) hbd
      have hk2 := k_2 (by decide) hbd
      have hzz : (nx + 1) ≠ m := fun z => absurd (z ▸ hk2) (by rw [hK]; decide)
      refine t_invv (r := (some (.int (k_nx (D 68).1 (D 70).1 (nx + 1))))) (S2 := (y_mk n L (k_Q D ((nx + 1) + 1) wr lc fr tk rc sc LN ST))) hE [.int 1, .int 9] (k_numT hL (by omega) hbd) v_yX2_number m_X2_103 dX2_readWayLine_135 rfl (hL 66 (by decide)) (y_l_66 ((k_Q D (nx + 1) wr lc fr tk rc sc LN ST) 66)) rfl (by decide) ⟨Nat.le_refl _, Nat.le_refl _⟩ (Nat.le_of_ble_eq_true rfl) ?_
      show E 0 0 138 [(0, .ref 66)] [.int (k_nx (D 68).1 (D 70).1 (nx + 1)), .ref 66] (y_mk n L (k_Q D ((nx + 1) + 1) wr lc fr tk rc sc LN ST))
      refine t_puti hE f_X2_78 y_I_66_7 dX2_readWayLine_138 (hL 66 (by decide)) rfl rfl ?_
      rw [k_Q_7]
      refine r_aload_n hE dX2_readWayLine_141 rfl ?_
      refine t_geti hE f_X2_78 y_I_66_7 dX2_readWayLine_142 (hL 66 (by decide)) ?_
      refine r_top (y := (k_nx (D 68).1 (D 70).1 (nx + 1))) rfl ?_
      refine r_iconst (v := (-1)) hE dX2_readWayLine_145 (by decide) ?_
      refine r_icmp_eq (tgt := 153) hE dX2_readWayLine_146 (by decide) (fun c146 => ?_) (fun c146 => ?_)
      · exact absurd c146 hne
      · refine r_iconst (v := 1) hE dX2_readWayLine_149 (by decide) ?_
        refine r_goto (tgt := 154) hE dX2_readWayLine_150 (by decide) ?_
        refine r_ireturn hE dX2_readWayLine_154 rfl (by rfl) (Nat.zero_le _) (Nat.zero_le _) ?_
        refine ⟨_, _, rfl, rfl, true, _, _, _, _, _, _, _, ?_, by decide, rfl, by omega, by omega, by omega⟩
        rw [k_wln, if_neg (by rw [h4]; decide), if_neg (by rw [h4]; decide), if_pos h4, if_neg hbd]
  · refine r_top (y := 19) h4 ?_
    refine r_tsin (tgt := 155) hE dX2_readWayLine_4 (by decide) (by decide) rfl (by decide) ?_
    have hz9 : nx ≠ m := fun q => by
      have h0 : (D 68).1 nx = 0 := by rw [q]; exact hK
      exact absurd (h0.symm.trans h4) (by decide)
    refine r_aload_n hE dX2_readWayLine_155 rfl ?_
    refine r_dup hE dX2_readWayLine_156 rfl ?_
    refine t_geti hE f_X2_87 y_I_66_1 dX2_readWayLine_157 (hL 66 (by decide)) ?_
    refine r_top (y := (nI nx)) rfl ?_
    refine r_iconst (v := 1) hE dX2_readWayLine_160 (by decide) ?_
    refine r_iaddN (a := nx) (b := 1) hE dX2_readWayLine_161 ?_
    refine t_puti hE f_X2_87 y_I_66_1 dX2_readWayLine_162 (hL 66 (by decide)) rfl rfl ?_
    rw [k_Q_1]
    refine r_aload_n hE dX2_readWayLine_165 rfl ?_
    refine r_iconst (v := 0) hE dX2_readWayLine_166 (by decide) ?_
    refine t_invvRi hE [.int 0] (k_readCondition0 hL hm hK _ _ _ _ (by omega) (by omega)) v_yX2_readCondition m_X2_111 dX2_readWayLine_167 rfl (hL 66 (by decide)) (y_l_66 ((k_Q D (nx + 1) wr lc fr tk rc sc LN ST) 66)) rfl (by decide) ⟨Nat.le_refl _, Nat.le_refl _⟩ (Nat.le_of_ble_eq_true rfl) (fun r141 E141 q141 => ?_)
    obtain ⟨ok141, nx141, wr141, sc141, ST141, hf141, rfl, rfl, hb141⟩ := q141
    have hz141 := hb141.all
    show E 0 0 170 [(0, .ref 66)] [.int (y_b (ok141 = true))] (y_mk n L (k_Q D nx141 wr141 lc fr tk rc sc141 LN ST141))
    refine r_ifb_eq (tgt := 187) hE dX2_readWayLine_170 (by decide) (fun c170 => ?_) (fun c170 => ?_)
    · have hk141 : ok141 = false := by revert c170; cases ok141 <;> simp
      subst hk141
      refine r_iconst (v := 0) hE dX2_readWayLine_187 (by decide) ?_
      refine r_ireturn hE dX2_readWayLine_188 rfl (by rfl) (Nat.zero_le _) (Nat.zero_le _) ?_
      refine ⟨_, _, rfl, rfl, false, _, _, _, _, _, _, _, ?_, by decide, rfl, by omega, by omega, by omega⟩
      rw [k_wln, if_neg (by rw [h4]; decide), if_neg (by rw [h4]; decide), if_neg (by rw [h4]; decide), if_pos h4, hf141, k_ndF_f]
    · have hk141 : ok141 = true := c170
      subst hk141
      refine r_aload_n hE dX2_readWayLine_173 rfl ?_
      refine r_bipush (v := 21) hE dX2_readWayLine_174 (by decide) ?_
      refine r_iconst (v := 0) hE dX2_readWayLine_176 (by decide) ?_
      refine t_invv (r := (some (.int 1))) (S2 := (y_mk n L (k_Q D nx141 wr141 lc fr tk rc (sc141 + 1) LN (upd ST141 sc141 (21 * 1024 + 0))))) hE [.int 21, .int 0] (k_keepT hL (by first | decide | exact hne) (by omega)) v_yX2_keepStep m_X2_114 dX2_readWayLine_177 rfl (hL 66 (by decide)) (y_l_66 ((k_Q D nx141 wr141 lc fr tk rc sc141 LN ST141) 66)) rfl (by decide) ⟨Nat.le_refl _, Nat.le_refl _⟩ (Nat.le_of_ble_eq_true rfl) ?_
      show E 0 0 180 [(0, .ref 66)] [.int 1] (y_mk n L (k_Q D nx141 wr141 lc fr tk rc (sc141 + 1) LN (upd ST141 sc141 (21 * 1024 + 0))))
      refine r_if_eq (tgt := 187) hE dX2_readWayLine_180 (by decide) (fun c180 => by first | exact absurd c180 (by decide) | exact absurd (by decide) c180) (fun _ => ?_)
      refine r_iconst (v := 1) hE dX2_readWayLine_183 (by decide) ?_
      refine r_goto (tgt := 188) hE dX2_readWayLine_184 (by decide) ?_
      refine r_ireturn hE dX2_readWayLine_188 rfl (by rfl) (Nat.zero_le _) (Nat.zero_le _) ?_
      refine ⟨_, _, rfl, rfl, true, _, _, _, _, _, _, _, ?_, by decide, rfl, by omega, by omega, by omega⟩
      rw [k_wln, if_neg (by rw [h4]; decide), if_neg (by rw [h4]; decide), if_neg (by rw [h4]; decide), if_pos h4, hf141, k_ndF_t]

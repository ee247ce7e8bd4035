/-! the class's reader: atoms -/
theorem k_passT {V : x_E} {n : Nat} {L : List Nat} {D : y_D} {t : Int32} {nx lc sc : Nat} {wr fr tk rc : Int32} {LN ST : Nat → Int32} (hL : y_ok L) (hx : nx < 401) (h : (D 68).1 nx = t) : x_Fn V yX2_pass cX2_pass 2 (some .boolean) 1 [.ref 66, .int t] (y_mk n L (k_Q D nx wr lc fr tk rc sc LN ST)) (some (.int 1)) (y_mk n L (k_Q D (nx + 1) wr lc fr tk rc sc LN ST)) := by
  have h0 := k_pass (V := V) (n := n) (D := D) (wr := wr) (lc := lc) (fr := fr) (tk := tk) (rc := rc) (sc := sc) (LN := LN) (ST := ST) (t := t) hL hx
  rw [if_pos h, if_pos h, y_b_t h] at h0
  exact h0
theorem k_passF {V : x_E} {n : Nat} {L : List Nat} {D : y_D} {t : Int32} {nx lc sc : Nat} {wr fr tk rc : Int32} {LN ST : Nat → Int32} (hL : y_ok L) (hx : nx < 401) (h : ¬ (D 68).1 nx = t) : x_Fn V yX2_pass cX2_pass 2 (some .boolean) 1 [.ref 66, .int t] (y_mk n L (k_Q D nx wr lc fr tk rc sc LN ST)) (some (.int 0)) (y_mk n L (k_Q D nx ((D 69).1 nx) lc fr tk rc sc LN ST)) := by
  have h0 := k_pass (V := V) (n := n) (D := D) (wr := wr) (lc := lc) (fr := fr) (tk := tk) (rc := rc) (sc := sc) (LN := LN) (ST := ST) (t := t) hL hx
  rw [if_neg h, if_neg h, y_b_f h] at h0
  exact h0
theorem k_sw28 (x : Int32) : ((x.toInt < 5 ∨ 28 < x.toInt) ∧ True) ∨ (x = 5 ∧ True) ∨ (x = 6 ∧ True) ∨ (x = 7 ∧ True) ∨ (x = 8 ∧ True) ∨ (x = 9 ∧ True) ∨ (x = 10 ∧ True) ∨ (x = 11 ∧ True) ∨ (x = 12 ∧ True) ∨ (x = 13 ∧ True) ∨ (x = 14 ∧ True) ∨ (x = 15 ∧ True) ∨ (x = 16 ∧ True) ∨ (x = 17 ∧ True) ∨ (x = 18 ∧ True) ∨ (x = 19 ∧ True) ∨ (x = 20 ∧ True) ∨ (x = 21 ∧ True) ∨ (x = 22 ∧ True) ∨ (x = 23 ∧ True) ∨ (x = 24 ∧ True) ∨ (x = 25 ∧ True) ∨ (x = 26 ∧ True) ∨ (x = 27 ∧ True) ∨ (x = 28 ∧ True) := by
  by_cases c : x.toInt < 5 ∨ 28 < x.toInt
  · exact Or.inl ⟨c, trivial⟩
  · obtain ⟨j, hj, rfl⟩ := nI_of (x := x) (fun h => by
      rw [Int32.lt_iff_toInt_lt] at h
      have h8 : (0 : Int32).toInt = 0 := by decide
      omega)
    rw [nI_toInt hj] at c
    rcases (show j = 5 ∨ j = 6 ∨ j = 7 ∨ j = 8 ∨ j = 9 ∨ j = 10 ∨ j = 11 ∨ j = 12 ∨ j = 13 ∨ j = 14 ∨ j = 15 ∨ j = 16 ∨ j = 17 ∨ j = 18 ∨ j = 19 ∨ j = 20 ∨ j = 21 ∨ j = 22 ∨ j = 23 ∨ j = 24 ∨ j = 25 ∨ j = 26 ∨ j = 27 ∨ j = 28 by omega) with rfl | rfl | rfl | rfl | rfl | rfl | rfl | rfl | rfl | rfl | rfl | rfl | rfl | rfl | rfl | rfl | rfl | rfl | rfl | rfl | rfl | rfl | rfl | rfl <;> decide
def k_atF (K B C : Nat → Int32) (Cn A : k_F) (g : Nat) : k_F := fun nx wr sc ST =>
  if K nx = 22 then (if g < 6 then k_then (A (nx + 1) wr sc ST) (fun nx wr sc ST => (true, nx, wr, sc + 1, upd ST sc (22 * 1024 + 0))) else (false, nx, B nx, sc, ST))
  else if K nx = 5 then (if g < 6 then k_then (Cn (nx + 1) wr sc ST) (fun nx wr sc ST => if K nx = 6 then (true, nx + 1, wr, sc, ST) else (false, nx, B nx, sc, ST)) else (false, nx, B nx, sc, ST))
  else if K nx = 23 ∨ K nx = 24 then (true, nx + 1, wr, sc + 1, upd ST sc (K nx * 1024 + 0))
  else if K nx = 25 ∨ K nx = 26 ∨ K nx = 27 ∨ K nx = 28 then (if k_bad (k_nx K C (nx + 1)) 0 3 then (false, nx + 1, B (nx + 1), sc, ST) else (true, nx + 1 + 1, wr, sc + 1, upd ST sc (K nx * 1024 + k_nx K C (nx + 1))))
  else k_cmp K B C nx wr sc ST
def k_at (K B C : Nat → Int32) : Nat → Nat → k_F
  | 0, _ => fun nx wr sc ST => (false, nx, wr, sc, ST)
  | k + 1, g => k_atF K B C (k_cd K (k_at K B C k (g + 1))) (k_at K B C k (g + 1)) g
theorem k_readAtomF {V : x_E} {n : Nat} {L : List Nat} {D : y_D} {m lc : Nat} {fr tk rc : Int32} {LN : Nat → Int32} (hL : y_ok L) (hm : m ≤ 400) (hK : (D 68).1 m = 0) {dA g : Nat} {C A : k_F} (h8 : 1 ≤ dA) (hg : g ≤ 6) (hC : g < 6 → k_Ct V n L D m lc fr tk rc LN yX2_readCondition cX2_readCondition 6 (dA + 1) (g + 1) C) (hA : g < 6 → k_Ct V n L D m lc fr tk rc LN yX2_readAtom cX2_readAtom 3 dA (g + 1) A) : k_Ct V n L D m lc fr tk rc LN yX2_readAtom cX2_readAtom 3 (dA + 2) g (k_atF (D 68).1 (D 69).1 (D 70).1 C A g) := by
  intro nx wr sc ST hx hs
  refine y_ri (by decide) (Nat.le_of_ble_eq_true rfl) (fun E hE => ?_)
  change E 0 0 0 [(0, .ref 66), (1, .int (nI g))] [] (y_mk n L (k_Q D nx wr lc fr tk rc sc LN ST))
  refine r_aload_n hE dX2_readAtom_0 rfl ?_
  refine t_invv (r := (some (.int ((D 68).1 nx)))) (S2 := (y_mk n L (k_Q D nx wr lc fr tk rc sc LN ST))) hE [] (k_token hL (by omega)) v_yX2_token m_X2_38 dX2_readAtom_1 rfl (hL 66 (by decide)) (y_l_66 ((k_Q D nx wr lc fr tk rc sc LN ST) 66)) rfl (by omega) ⟨Nat.le_refl _, Nat.le_refl _⟩ (Nat.le_of_ble_eq_true rfl) ?_
  show E 0 0 4 [(0, .ref 66), (1, .int (nI g))] [.int ((D 68).1 nx)] (y_mk n L (k_Q D nx wr lc fr tk rc sc LN ST))
  refine r_istore_n (ls2 := [(0, .ref 66), (1, .int (nI g)), (2, .int ((D 68).1 nx))]) hE dX2_readAtom_4 (by decide) rfl ?_
  refine r_iload_n hE dX2_readAtom_5 rfl ?_
  rcases k_sw28 ((D 68).1 nx) with ⟨h6, e6⟩ | ⟨h6, e6⟩ | ⟨h6, e6⟩ | ⟨h6, e6⟩ | ⟨h6, e6⟩ | ⟨h6, e6⟩ | ⟨h6, e6⟩ | ⟨h6, e6⟩ | ⟨h6, e6⟩ | ⟨h6, e6⟩ | ⟨h6, e6⟩ | ⟨h6, e6⟩ | ⟨h6, e6⟩ | ⟨h6, e6⟩ | ⟨h6, e6⟩ | ⟨h6, e6⟩ | ⟨h6, e6⟩ | ⟨h6, e6⟩ | ⟨h6, e6⟩ | ⟨h6, e6⟩ | ⟨h6, e6⟩ | ⟨h6, e6⟩ | ⟨h6, e6⟩ | ⟨h6, e6⟩ | ⟨h6, e6⟩
  · refine r_tsout (tgt := 248) hE dX2_readAtom_6 h6 (by decide) ?_
    refine r_aload_n hE dX2_readAtom_248 rfl ?_
    refine t_invvRi hE [] (k_readComparison hL hm hK (by omega) (by omega)) v_yX2_readComparison m_X2_121 dX2_readAtom_249 rfl (hL 66 (by decide)) (y_l_66 ((k_Q D nx wr lc fr tk rc sc LN ST) 66)) rfl (by omega) ⟨Nat.le_refl _, Nat.le_refl _⟩ (Nat.le_of_ble_eq_true rfl) (fun r81 E81 q81 => ?_)
    obtain ⟨ok81, nx81, wr81, sc81, ST81, hf81, rfl, rfl, hb81⟩ := q81
    have hz81 := hb81.all
    show E 0 0 252 [(0, .ref 66), (1, .int (nI g)), (2, .int ((D 68).1 nx))] [.int (y_b (ok81 = true))] (y_mk n L (k_Q D nx81 wr81 lc fr tk rc sc81 LN ST81))
    refine r_ireturn hE dX2_readAtom_252 rfl (by exact y_nb _) (Nat.zero_le _) (Nat.zero_le _) ?_
    refine ⟨_, _, rfl, rfl, ok81, _, _, _, _, ?_, rfl, rfl, hb81⟩
    first
      | rw [k_atF, if_neg (by rw [h6]; decide), if_neg (by rw [h6]; decide), if_neg (by rw [h6]; decide), if_neg (by rw [h6]; decide), hf81]
      | rw [k_atF, if_neg (fun c => by rw [c] at h6; exact absurd h6 (by decide)), if_neg (fun c => by rw [c] at h6; exact absurd h6 (by decide)), if_neg (fun c => by rcases c with c | c <;> (rw [c] at h6; exact absurd h6 (by decide))), if_neg (fun c => by rcases c with c | c | c | c <;> (rw [c] at h6; exact absurd h6 (by decide))), hf81]
  · refine r_top (y := 5) h6 ?_
    refine r_tsin (tgt := 163) hE dX2_readAtom_6 (by decide) (by decide) rfl (by decide) ?_
    refine r_iload_n hE dX2_readAtom_163 rfl ?_
    refine r_bipush (v := 6) hE dX2_readAtom_164 (by decide) ?_
    refine r_icmp_ltN (a := g) (b := 6) (tgt := 174) hE dX2_readAtom_166 (by decide) (by omega) (by decide) (fun c166 => ?_) (fun c166 => ?_)
    · have hz9 : nx ≠ m := fun q => by
        have h0 : (D 68).1 nx = 0 := by rw [q]; exact hK
        exact absurd (h0.symm.trans h6) (by decide)
      refine r_aload_n hE dX2_readAtom_174 rfl ?_
      refine r_dup hE dX2_readAtom_175 rfl ?_
      refine t_geti hE f_X2_87 y_I_66_1 dX2_readAtom_176 (hL 66 (by decide)) ?_
      refine r_top (y := (nI nx)) rfl ?_
      refine r_iconst (v := 1) hE dX2_readAtom_179 (by decide) ?_
      refine r_iaddN (a := nx) (b := 1) hE dX2_readAtom_180 ?_
      refine t_puti hE f_X2_87 y_I_66_1 dX2_readAtom_181 (hL 66 (by decide)) rfl rfl ?_
      rw [k_Q_1]
      refine r_aload_n hE dX2_readAtom_184 rfl ?_
      refine r_iload_n hE dX2_readAtom_185 rfl ?_
      refine r_iconst (v := 1) hE dX2_readAtom_186 (by decide) ?_
      refine r_iaddN (a := g) (b := 1) hE dX2_readAtom_187 ?_
      refine t_invvRi hE [.int (nI (g + 1))] (hC c166 _ _ _ _ (by omega) (by omega)) v_yX2_readCondition m_X2_111 dX2_readAtom_188 rfl (hL 66 (by decide)) (y_l_66 ((k_Q D (nx + 1) wr lc fr tk rc sc LN ST) 66)) rfl (by omega) ⟨Nat.le_refl _, Nat.le_refl _⟩ (Nat.le_of_ble_eq_true rfl) (fun r82 E82 q82 => ?_)
      obtain ⟨ok82, nx82, wr82, sc82, ST82, hf82, rfl, rfl, hb82⟩ := q82
      have hz82 := hb82.all
      show E 0 0 191 [(0, .ref 66), (1, .int (nI g)), (2, .int ((D 68).1 nx))] [.int (y_b (ok82 = true))] (y_mk n L (k_Q D nx82 wr82 lc fr tk rc sc82 LN ST82))
      refine r_ifb_eq (tgt := 207) hE dX2_readAtom_191 (by decide) (fun c191 => ?_) (fun c191 => ?_)
      · have hk82 : ok82 = false := by revert c191; cases ok82 <;> simp
        subst hk82
        refine r_iconst (v := 0) hE dX2_readAtom_207 (by decide) ?_
        refine r_ireturn hE dX2_readAtom_208 rfl (by rfl) (Nat.zero_le _) (Nat.zero_le _) ?_
        refine ⟨_, _, rfl, rfl, false, _, _, _, _, ?_, by decide, rfl, ?_⟩
        · rw [k_atF, if_neg (by rw [h6]; decide), if_pos h6, if_pos c166, hf82, k_then_f]
        · unfold k_bd
          omega
      · have hk82 : ok82 = true := c191
        subst hk82
        refine r_aload_n hE dX2_readAtom_194 rfl ?_
        refine r_bipush (v := 6) hE dX2_readAtom_195 (by decide) ?_
        by_cases hps : (D 68).1 nx82 = 6
        · have hzz : nx82 ≠ m := fun q => by
            have h0 : (D 68).1 nx82 = 0 := by rw [q]; exact hK
            exact absurd (h0.symm.trans hps) (by decide)
          refine t_invv (r := (some (.int 1))) (S2 := (y_mk n L (k_Q D (nx82 + 1) wr82 lc fr tk rc sc82 LN ST82))) hE [.int 6] (k_passT hL (by omega) hps) v_yX2_pass m_X2_51 dX2_readAtom_197 rfl (hL 66 (by decide)) (y_l_66 ((k_Q D nx82 wr82 lc fr tk rc sc82 LN ST82) 66)) rfl (by omega) ⟨Nat.le_refl _, Nat.le_refl _⟩ (Nat.le_of_ble_eq_true rfl) ?_
          show E 0 0 200 [(0, .ref 66), (1, .int (nI g)), (2, .int ((D 68).1 nx))] [.int 1] (y_mk n L (k_Q D (nx82 + 1) wr82 lc fr tk rc sc82 LN ST82))
          refine r_if_eq (tgt := 207) hE dX2_readAtom_200 (by decide) (fun c200 => by first | exact absurd c200 (by decide) | exact absurd (by decide) c200) (fun _ => ?_)
          refine r_iconst (v := 1) hE dX2_readAtom_203 (by decide) ?_
          refine r_goto (tgt := 208) hE dX2_readAtom_204 (by decide) ?_
          refine r_ireturn hE dX2_readAtom_208 rfl (by rfl) (Nat.zero_le _) (Nat.zero_le _) ?_
          refine ⟨_, _, rfl, rfl, true, _, _, _, _, ?_, by decide, rfl, ?_⟩
          · rw [k_atF, if_neg (by rw [h6]; decide), if_pos h6, if_pos c166, hf82, k_then_t, if_pos hps]
          · unfold k_bd
            omega
        · refine t_invv (r := (some (.int 0))) (S2 := (y_mk n L (k_Q D nx82 ((D 69).1 nx82) lc fr tk rc sc82 LN ST82))) hE [.int 6] (k_passF hL (by omega) hps) v_yX2_pass m_X2_51 dX2_readAtom_197 rfl (hL 66 (by decide)) (y_l_66 ((k_Q D nx82 wr82 lc fr tk rc sc82 LN ST82) 66)) rfl (by omega) ⟨Nat.le_refl _, Nat.le_refl _⟩ (Nat.le_of_ble_eq_true rfl) ?_
          show E 0 0 200 [(0, .ref 66), (1, .int (nI g)), (2, .int ((D 68).1 nx))] [.int 0] (y_mk n L (k_Q D nx82 ((D 69).1 nx82) lc fr tk rc sc82 LN ST82))
          refine r_if_eq (tgt := 207) hE dX2_readAtom_200 (by decide) (fun _ => ?_) (fun c200 => by first | exact absurd c200 (by decide) | exact absurd (by decide) c200)
          refine r_iconst (v := 0) hE dX2_readAtom_207 (by decide) ?_
          refine r_ireturn hE dX2_readAtom_208 rfl (by rfl) (Nat.zero_le _) (Nat.zero_le _) ?_
          refine ⟨_, _, rfl, rfl, false, _, _, _, _, ?_, by decide, rfl, ?_⟩
          · rw [k_atF, if_neg (by rw [h6]; decide), if_pos h6, if_pos c166, hf82, k_then_t, if_neg hps]
          · unfold k_bd
            omega
    · refine r_aload_n hE dX2_readAtom_169 rfl ?_
      refine t_invv (r := (some (.int 0))) (S2 := (y_mk n L (k_Q D nx ((D 69).1 nx) lc fr tk rc sc LN ST))) hE [] (k_refuse hL (by omega)) v_yX2_refuse m_X2_55 dX2_readAtom_170 rfl (hL 66 (by decide)) (y_l_66 ((k_Q D nx wr lc fr tk rc sc LN ST) 66)) rfl (by omega) ⟨Nat.le_refl _, Nat.le_refl _⟩ (Nat.le_of_ble_eq_true rfl) ?_
      show E 0 0 173 [(0, .ref 66), (1, .int (nI g)), (2, .int ((D 68).1 nx))] [.int 0] (y_mk n L (k_Q D nx ((D 69).1 nx) lc fr tk rc sc LN ST))
      refine r_ireturn hE dX2_readAtom_173 rfl (by rfl) (Nat.zero_le _) (Nat.zero_le _) ?_
      refine ⟨_, _, rfl, rfl, false, _, _, _, _, ?_, by decide, rfl, ?_⟩
      · rw [k_atF, if_neg (by rw [h6]; decide), if_pos h6, if_neg (by omega)]
      · unfold k_bd
        omega
  · refine r_top (y := 6) h6 ?_
    refine r_tsin (tgt := 248) hE dX2_readAtom_6 (by decide) (by decide) rfl (by decide) ?_
    refine r_aload_n hE dX2_readAtom_248 rfl ?_
    refine t_invvRi hE [] (k_readComparison hL hm hK (by omega) (by omega)) v_yX2_readComparison m_X2_121 dX2_readAtom_249 rfl (hL 66 (by decide)) (y_l_66 ((k_Q D nx wr lc fr tk rc sc LN ST) 66)) rfl (by omega) ⟨Nat.le_refl _, Nat.le_refl _⟩ (Nat.le_of_ble_eq_true rfl) (fun r83 E83 q83 => ?_)
    obtain ⟨ok83, nx83, wr83, sc83, ST83, hf83, rfl, rfl, hb83⟩ := q83
    have hz83 := hb83.all
    show E 0 0 252 [(0, .ref 66), (1, .int (nI g)), (2, .int ((D 68).1 nx))] [.int (y_b (ok83 = true))] (y_mk n L (k_Q D nx83 wr83 lc fr tk rc sc83 LN ST83))
    refine r_ireturn hE dX2_readAtom_252 rfl (by exact y_nb _) (Nat.zero_le _) (Nat.zero_le _) ?_
    refine ⟨_, _, rfl, rfl, ok83, _, _, _, _, ?_, rfl, rfl, hb83⟩
    first
      | rw [k_atF, if_neg (by rw [h6]; decide), if_neg (by rw [h6]; decide), if_neg (by rw [h6]; decide), if_neg (by rw [h6]; decide), hf83]
      | rw [k_atF, if_neg (fun c => by rw [c] at h6; exact absurd h6 (by decide)), if_neg (fun c => by rw [c] at h6; exact absurd h6 (by decide)), if_neg (fun c => by rcases c with c | c <;> (rw [c] at h6; exact absurd h6 (by decide))), if_neg (fun c => by rcases c with c | c | c | c <;> (rw [c] at h6; exact absurd h6 (by decide))), hf83]
  · refine r_top (y := 7) h6 ?_
    refine r_tsin (tgt := 248) hE dX2_readAtom_6 (by decide) (by decide) rfl (by decide) ?_
    refine r_aload_n hE dX2_readAtom_248 rfl ?_
    refine t_invvRi hE [] (k_readComparison hL hm hK (by omega) (by omega)) v_yX2_readComparison m_X2_121 dX2_readAtom_249 rfl (hL 66 (by decide)) (y_l_66 ((k_Q D nx wr lc fr tk rc sc LN ST) 66)) rfl (by omega) ⟨Nat.le_refl _, Nat.le_refl _⟩ (Nat.le_of_ble_eq_true rfl) (fun r84 E84 q84 => ?_)
    obtain ⟨ok84, nx84, wr84, sc84, ST84, hf84, rfl, rfl, hb84⟩ := q84
    have hz84 := hb84.all
    show E 0 0 252 [(0, .ref 66), (1, .int (nI g)), (2, .int ((D 68).1 nx))] [.int (y_b (ok84 = true))] (y_mk n L (k_Q D nx84 wr84 lc fr tk rc sc84 LN ST84))
    refine r_ireturn hE dX2_readAtom_252 rfl (by exact y_nb _) (Nat.zero_le _) (Nat.zero_le _) ?_
    refine ⟨_, _, rfl, rfl, ok84, _, _, _, _, ?_, rfl, rfl, hb84⟩
    first
      | rw [k_atF, if_neg (by rw [h6]; decide), if_neg (by rw [h6]; decide), if_neg (by rw [h6]; decide), if_neg (by rw [h6]; decide), hf84]
      | rw [k_atF, if_neg (fun c => by rw [c] at h6; exact absurd h6 (by decide)), if_neg (fun c => by rw [c] at h6; exact absurd h6 (by decide)), if_neg (fun c => by rcases c with c | c <;> (rw [c] at h6; exact absurd h6 (by decide))), if_neg (fun c => by rcases c with c | c | c | c <;> (rw [c] at h6; exact absurd h6 (by decide))), hf84]
  · refine r_top (y := 8) h6 ?_
    refine r_tsin (tgt := 248) hE dX2_readAtom_6 (by decide) (by decide) rfl (by decide) ?_
    refine r_aload_n hE dX2_readAtom_248 rfl ?_
    refine t_invvRi hE [] (k_readComparison hL hm hK (by omega) (by omega)) v_yX2_readComparison m_X2_121 dX2_readAtom_249 rfl (hL 66 (by decide)) (y_l_66 ((k_Q D nx wr lc fr tk rc sc LN ST) 66)) rfl (by omega) ⟨Nat.le_refl _, Nat.le_refl _⟩ (Nat.le_of_ble_eq_true rfl) (fun r85 E85 q85 => ?_)
    obtain ⟨ok85, nx85, wr85, sc85, ST85, hf85, rfl, rfl, hb85⟩ := q85
    have hz85 := hb85.all
    show E 0 0 252 [(0, .ref 66), (1, .int (nI g)), (2, .int ((D 68).1 nx))] [.int (y_b (ok85 = true))] (y_mk n L (k_Q D nx85 wr85 lc fr tk rc sc85 LN ST85))
    refine r_ireturn hE dX2_readAtom_252 rfl (by exact y_nb _) (Nat.zero_le _) (Nat.zero_le _) ?_
    refine ⟨_, _, rfl, rfl, ok85, _, _, _, _, ?_, rfl, rfl, hb85⟩
    first
      | rw [k_atF, if_neg (by rw [h6]; decide), if_neg (by rw [h6]; decide), if_neg (by rw [h6]; decide), if_neg (by rw [h6]; decide), hf85]
      | rw [k_atF, if_neg (fun c => by rw [c] at h6; exact absurd h6 (by decide)), if_neg (fun c => by rw [c] at h6; exact absurd h6 (by decide)), if_neg (fun c => by rcases c with c | c <;> (rw [c] at h6; exact absurd h6 (by decide))), if_neg (fun c => by rcases c with c | c | c | c <;> (rw [c] at h6; exact absurd h6 (by decide))), hf85]
  · refine r_top (y := 9) h6 ?_
    refine r_tsin (tgt := 248) hE dX2_readAtom_6 (by decide) (by decide) rfl (by decide) ?_
    refine r_aload_n hE dX2_readAtom_248 rfl ?_
    refine t_invvRi hE [] (k_readComparison hL hm hK (by omega) (by omega)) v_yX2_readComparison m_X2_121 dX2_readAtom_249 rfl (hL 66 (by decide)) (y_l_66 ((k_Q D nx wr lc fr tk rc sc LN ST) 66)) rfl (by omega) ⟨Nat.le_refl _, Nat.le_refl _⟩ (Nat.le_of_ble_eq_true rfl) (fun r86 E86 q86 => ?_)
    obtain ⟨ok86, nx86, wr86, sc86, ST86, hf86, rfl, rfl, hb86⟩ := q86
    have hz86 := hb86.all
    show E 0 0 252 [(0, .ref 66), (1, .int (nI g)), (2, .int ((D 68).1 nx))] [.int (y_b (ok86 = true))] (y_mk n L (k_Q D nx86 wr86 lc fr tk rc sc86 LN ST86))
    refine r_ireturn hE dX2_readAtom_252 rfl (by exact y_nb _) (Nat.zero_le _) (Nat.zero_le _) ?_
    refine ⟨_, _, rfl, rfl, ok86, _, _, _, _, ?_, rfl, rfl, hb86⟩
    first
      | rw [k_atF, if_neg (by rw [h6]; decide), if_neg (by rw [h6]; decide), if_neg (by rw [h6]; decide), if_neg (by rw [h6]; decide), hf86]
      | rw [k_atF, if_neg (fun c => by rw [c] at h6; exact absurd h6 (by decide)), if_neg (fun c => by rw [c] at h6; exact absurd h6 (by decide)), if_neg (fun c => by rcases c with c | c <;> (rw [c] at h6; exact absurd h6 (by decide))), if_neg (fun c => by rcases c with c | c | c | c <;> (rw [c] at h6; exact absurd h6 (by decide))), hf86]
  · refine r_top (y := 10) h6 ?_
    refine r_tsin (tgt := 248) hE dX2_readAtom_6 (by decide) (by decide) rfl (by decide) ?_
    refine r_aload_n hE dX2_readAtom_248 rfl ?_
    refine t_invvRi hE [] (k_readComparison hL hm hK (by omega) (by omega)) v_yX2_readComparison m_X2_121 dX2_readAtom_249 rfl (hL 66 (by decide)) (y_l_66 ((k_Q D nx wr lc fr tk rc sc LN ST) 66)) rfl (by omega) ⟨Nat.le_refl _, Nat.le_refl _⟩ (Nat.le_of_ble_eq_true rfl) (fun r87 E87 q87 => ?_)
    obtain ⟨ok87, nx87, wr87, sc87, ST87, hf87, rfl, rfl, hb87⟩ := q87
    have hz87 := hb87.all
    show E 0 0 252 [(0, .ref 66), (1, .int (nI g)), (2, .int ((D 68).1 nx))] [.int (y_b (ok87 = true))] (y_mk n L (k_Q D nx87 wr87 lc fr tk rc sc87 LN ST87))
    refine r_ireturn hE dX2_readAtom_252 rfl (by exact y_nb _) (Nat.zero_le _) (Nat.zero_le _) ?_
    refine ⟨_, _, rfl, rfl, ok87, _, _, _, _, ?_, rfl, rfl, hb87⟩
    first
      | rw [k_atF, if_neg (by rw [h6]; decide), if_neg (by rw [h6]; decide), if_neg (by rw [h6]; decide), if_neg (by rw [h6]; decide), hf87]
      | rw [k_atF, if_neg (fun c => by rw [c] at h6; exact absurd h6 (by decide)), if_neg (fun c => by rw [c] at h6; exact absurd h6 (by decide)), if_neg (fun c => by rcases c with c | c <;> (rw [c] at h6; exact absurd h6 (by decide))), if_neg (fun c => by rcases c with c | c | c | c <;> (rw [c] at h6; exact absurd h6 (by decide))), hf87]
  · refine r_top (y := 11) h6 ?_
    refine r_tsin (tgt := 248) hE dX2_readAtom_6 (by decide) (by decide) rfl (by decide) ?_
    refine r_aload_n hE dX2_readAtom_248 rfl ?_
    refine t_invvRi hE [] (k_readComparison hL hm hK (by omega) (by omega)) v_yX2_readComparison m_X2_121 dX2_readAtom_249 rfl (hL 66 (by decide)) (y_l_66 ((k_Q D nx wr lc fr tk rc sc LN ST) 66)) rfl (by omega) ⟨Nat.le_refl _, Nat.le_refl _⟩ (Nat.le_of_ble_eq_true rfl) (fun r88 E88 q88 => ?_)
    obtain ⟨ok88, nx88, wr88, sc88, ST88, hf88, rfl, rfl, hb88⟩ := q88
    have hz88 := hb88.all
    show E 0 0 252 [(0, .ref 66), (1, .int (nI g)), (2, .int ((D 68).1 nx))] [.int (y_b (ok88 = true))] (y_mk n L (k_Q D nx88 wr88 lc fr tk rc sc88 LN ST88))
    refine r_ireturn hE dX2_readAtom_252 rfl (by exact y_nb _) (Nat.zero_le _) (Nat.zero_le _) ?_
    refine ⟨_, _, rfl, rfl, ok88, _, _, _, _, ?_, rfl, rfl, hb88⟩
    first
      | rw [k_atF, if_neg (by rw [h6]; decide), if_neg (by rw [h6]; decide), if_neg (by rw [h6]; decide), if_neg (by rw [h6]; decide), hf88]
      | rw [k_atF, if_neg (fun c => by rw [c] at h6; exact absurd h6 (by decide)), if_neg (fun c => by rw [c] at h6; exact absurd h6 (by decide)), if_neg (fun c => by rcases c with c | c <;> (rw [c] at h6; exact absurd h6 (by decide))), if_neg (fun c => by rcases c with c | c | c | c <;> (rw [c] at h6; exact absurd h6 (by decide))), hf88]
  · refine r_top (y := 12) h6 ?_
    refine r_tsin (tgt := 248) hE dX2_readAtom_6 (by decide) (by decide) rfl (by decide) ?_
    refine r_aload_n hE dX2_readAtom_248 rfl ?_
    refine t_invvRi hE [] (k_readComparison hL hm hK (by omega) (by omega)) v_yX2_readComparison m_X2_121 dX2_readAtom_249 rfl (hL 66 (by decide)) (y_l_66 ((k_Q D nx wr lc fr tk rc sc LN ST) 66)) rfl (by omega) ⟨Nat.le_refl _, Nat.le_refl _⟩ (Nat.le_of_ble_eq_true rfl) (fun r89 E89 q89 => ?_)
    obtain ⟨ok89, nx89, wr89, sc89, ST89, hf89, rfl, rfl, hb89⟩ := q89
    have hz89 := hb89.all
    show E 0 0 252 [(0, .ref 66), (1, .int (nI g)), (2, .int ((D 68).1 nx))] [.int (y_b (ok89 = true))] (y_mk n L (k_Q D nx89 wr89 lc fr tk rc sc89 LN ST89))
    refine r_ireturn hE dX2_readAtom_252 rfl (by exact y_nb _) (Nat.zero_le _) (Nat.zero_le _) ?_
    refine ⟨_, _, rfl, rfl, ok89, _, _, _, _, ?_, rfl, rfl, hb89⟩
    first
      | rw [k_atF, if_neg (by rw [h6]; decide), if_neg (by rw [h6]; decide), if_neg (by rw [h6]; decide), if_neg (by rw [h6]; decide), hf89]
      | rw [k_atF, if_neg (fun c => by rw [c] at h6; exact absurd h6 (by decide)), if_neg (fun c => by rw [c] at h6; exact absurd h6 (by decide)), if_neg (fun c => by rcases c with c | c <;> (rw [c] at h6; exact absurd h6 (by decide))), if_neg (fun c => by rcases c with c | c | c | c <;> (rw [c] at h6; exact absurd h6 (by decide))), hf89]
  · refine r_top (y := 13) h6 ?_
    refine r_tsin (tgt := 248) hE dX2_readAtom_6 (by decide) (by decide) rfl (by decide) ?_
    refine r_aload_n hE dX2_readAtom_248 rfl ?_
    refine t_invvRi hE [] (k_readComparison hL hm hK (by omega) (by omega)) v_yX2_readComparison m_X2_121 dX2_readAtom_249 rfl (hL 66 (by decide)) (y_l_66 ((k_Q D nx wr lc fr tk rc sc LN ST) 66)) rfl (by omega) ⟨Nat.le_refl _, Nat.le_refl _⟩ (Nat.le_of_ble_eq_true rfl) (fun r90 E90 q90 => ?_)
    obtain ⟨ok90, nx90, wr90, sc90, ST90, hf90, rfl, rfl, hb90⟩ := q90
    have hz90 := hb90.all
    show E 0 0 252 [(0, .ref 66), (1, .int (nI g)), (2, .int ((D 68).1 nx))] [.int (y_b (ok90 = true))] (y_mk n L (k_Q D nx90 wr90 lc fr tk rc sc90 LN ST90))
    refine r_ireturn hE dX2_readAtom_252 rfl (by exact y_nb _) (Nat.zero_le _) (Nat.zero_le _) ?_
    refine ⟨_, _, rfl, rfl, ok90, _, _, _, _, ?_, rfl, rfl, hb90⟩
    first
      | rw [k_atF, if_neg (by rw [h6]; decide), if_neg (by rw [h6]; decide), if_neg (by rw [h6]; decide), if_neg (by rw [h6]; decide), hf90]
      | rw [k_atF, if_neg (fun c => by rw [c] at h6; exact absurd h6 (by decide)), if_neg (fun c => by rw [c] at h6; exact absurd h6 (by decide)), if_neg (fun c => by rcases c with c | c <;> (rw [c] at h6; exact absurd h6 (by decide))), if_neg (fun c => by rcases c with c | c | c | c <;> (rw [c] at h6; exact absurd h6 (by decide))), hf90]
  · refine r_top (y := 14) h6 ?_
    refine r_tsin (tgt := 248) hE dX2_readAtom_6 (by decide) (by decide) rfl (by decide) ?_
    refine r_aload_n hE dX2_readAtom_248 rfl ?_
    refine t_invvRi hE [] (k_readComparison hL hm hK (by omega) (by omega)) v_yX2_readComparison m_X2_121 dX2_readAtom_249 rfl (hL 66 (by decide)) (y_l_66 ((k_Q D nx wr lc fr tk rc sc LN ST) 66)) rfl (by omega) ⟨Nat.le_refl _, Nat.le_refl _⟩ (Nat.le_of_ble_eq_true rfl) (fun r91 E91 q91 => ?_)
    obtain ⟨ok91, nx91, wr91, sc91, ST91, hf91, rfl, rfl, hb91⟩ := q91
    have hz91 := hb91.all
    show E 0 0 252 [(0, .ref 66), (1, .int (nI g)), (2, .int ((D 68).1 nx))] [.int (y_b (ok91 = true))] (y_mk n L (k_Q D nx91 wr91 lc fr tk rc sc91 LN ST91))
    refine r_ireturn hE dX2_readAtom_252 rfl (by exact y_nb _) (Nat.zero_le _) (Nat.zero_le _) ?_
    refine ⟨_, _, rfl, rfl, ok91, _, _, _, _, ?_, rfl, rfl, hb91⟩
    first
      | rw [k_atF, if_neg (by rw [h6]; decide), if_neg (by rw [h6]; decide), if_neg (by rw [h6]; decide), if_neg (by rw [h6]; decide), hf91]
      | rw [k_atF, if_neg (fun c => by rw [c] at h6; exact absurd h6 (by decide)), if_neg (fun c => by rw [c] at h6; exact absurd h6 (by decide)), if_neg (fun c => by rcases c with c | c <;> (rw [c] at h6; exact absurd h6 (by decide))), if_neg (fun c => by rcases c with c | c | c | c <;> (rw [c] at h6; exact absurd h6 (by decide))), hf91]
  · refine r_top (y := 15) h6 ?_
    refine r_tsin (tgt := 248) hE dX2_readAtom_6 (by decide) (by decide) rfl (by decide) ?_
    refine r_aload_n hE dX2_readAtom_248 rfl ?_
    refine t_invvRi hE [] (k_readComparison hL hm hK (by omega) (by omega)) v_yX2_readComparison m_X2_121 dX2_readAtom_249 rfl (hL 66 (by decide)) (y_l_66 ((k_Q D nx wr lc fr tk rc sc LN ST) 66)) rfl (by omega) ⟨Nat.le_refl _, Nat.le_refl _⟩ (Nat.le_of_ble_eq_true rfl) (fun r92 E92 q92 => ?_)
    obtain ⟨ok92, nx92, wr92, sc92, ST92, hf92, rfl, rfl, hb92⟩ := q92
    have hz92 := hb92.all
    show E 0 0 252 [(0, .ref 66), (1, .int (nI g)), (2, .int ((D 68).1 nx))] [.int (y_b (ok92 = true))] (y_mk n L (k_Q D nx92 wr92 lc fr tk rc sc92 LN ST92))
    refine r_ireturn hE dX2_readAtom_252 rfl (by exact y_nb _) (Nat.zero_le _) (Nat.zero_le _) ?_
    refine ⟨_, _, rfl, rfl, ok92, _, _, _, _, ?_, rfl, rfl, hb92⟩
    first
      | rw [k_atF, if_neg (by rw [h6]; decide), if_neg (by rw [h6]; decide), if_neg (by rw [h6]; decide), if_neg (by rw [h6]; decide), hf92]
      | rw [k_atF, if_neg (fun c => by rw [c] at h6; exact absurd h6 (by decide)), if_neg (fun c => by rw [c] at h6; exact absurd h6 (by decide)), if_neg (fun c => by rcases c with c | c <;> (rw [c] at h6; exact absurd h6 (by decide))), if_neg (fun c => by rcases c with c | c | c | c <;> (rw [c] at h6; exact absurd h6 (by decide))), hf92]
  · refine r_top (y := 16) h6 ?_
    refine r_tsin (tgt := 248) hE dX2_readAtom_6 (by decide) (by decide) rfl (by decide) ?_
    refine r_aload_n hE dX2_readAtom_248 rfl ?_
    refine t_invvRi hE [] (k_readComparison hL hm hK (by omega) (by omega)) v_yX2_readComparison m_X2_121 dX2_readAtom_249 rfl (hL 66 (by decide)) (y_l_66 ((k_Q D nx wr lc fr tk rc sc LN ST) 66)) rfl (by omega) ⟨Nat.le_refl _, Nat.le_refl _⟩ (Nat.le_of_ble_eq_true rfl) (fun r93 E93 q93 => ?_)
    obtain ⟨ok93, nx93, wr93, sc93, ST93, hf93, rfl, rfl, hb93⟩ := q93
    have hz93 := hb93.all
    show E 0 0 252 [(0, .ref 66), (1, .int (nI g)), (2, .int ((D 68).1 nx))] [.int (y_b (ok93 = true))] (y_mk n L (k_Q D nx93 wr93 lc fr tk rc sc93 LN ST93))
    refine r_ireturn hE dX2_readAtom_252 rfl (by exact y_nb _) (Nat.zero_le _) (Nat.zero_le _) ?_
    refine ⟨_, _, rfl, rfl, ok93, _, _, _, _, ?_, rfl, rfl, hb93⟩
    first
      | rw [k_atF, if_neg (by rw [h6]; decide), if_neg (by rw [h6]; decide), if_neg (by rw [h6]; decide), if_neg (by rw [h6]; decide), hf93]
      | rw [k_atF, if_neg (fun c => by rw [c] at h6; exact absurd h6 (by decide)), if_neg (fun c => by rw [c] at h6; exact absurd h6 (by decide)), if_neg (fun c => by rcases c with c | c <;> (rw [c] at h6; exact absurd h6 (by decide))), if_neg (fun c => by rcases c with c | c | c | c <;> (rw [c] at h6; exact absurd h6 (by decide))), hf93]
  · refine r_top (y := 17) h6 ?_
    refine r_tsin (tgt := 248) hE dX2_readAtom_6 (by decide) (by decide) rfl (by decide) ?_
    refine r_aload_n hE dX2_readAtom_248 rfl ?_
    refine t_invvRi hE [] (k_readComparison hL hm hK (by omega) (by omega)) v_yX2_readComparison m_X2_121 dX2_readAtom_249 rfl (hL 66 (by decide)) (y_l_66 ((k_Q D nx wr lc fr tk rc sc LN ST) 66)) rfl (by omega) ⟨Nat.le_refl _, Nat.le_refl _⟩ (Nat.le_of_ble_eq_true rfl) (fun r94 E94 q94 => ?_)
    obtain ⟨ok94, nx94, wr94, sc94, ST94, hf94, rfl, rfl, hb94⟩ := q94
    have hz94 := hb94.all
    show E 0 0 252 [(0, .ref 66), (1, .int (nI g)), (2, .int ((D 68).1 nx))] [.int (y_b (ok94 = true))] (y_mk n L (k_Q D nx94 wr94 lc fr tk rc sc94 LN ST94))
    refine r_ireturn hE dX2_readAtom_252 rfl (by exact y_nb _) (Nat.zero_le _) (Nat.zero_le _) ?_
    refine ⟨_, _, rfl, rfl, ok94, _, _, _, _, ?_, rfl, rfl, hb94⟩
    first
      | rw [k_atF, if_neg (by rw [h6]; decide), if_neg (by rw [h6]; decide), if_neg (by rw [h6]; decide), if_neg (by rw [h6]; decide), hf94]
      | rw [k_atF, if_neg (fun c => by rw [c] at h6; exact absurd h6 (by decide)), if_neg (fun c => by rw [c] at h6; exact absurd h6 (by decide)), if_neg (fun c => by rcases c with c | c <;> (rw [c] at h6; exact absurd h6 (by decide))), if_neg (fun c => by rcases c with c | c | c | c <;> (rw [c] at h6; exact absurd h6 (by decide))), hf94]
  · refine r_top (y := 18) h6 ?_
    refine r_tsin (tgt := 248) hE dX2_readAtom_6 (by decide) (by decide) rfl (by decide) ?_
    refine r_aload_n hE dX2_readAtom_248 rfl ?_
    refine t_invvRi hE [] (k_readComparison hL hm hK (by omega) (by omega)) v_yX2_readComparison m_X2_121 dX2_readAtom_249 rfl (hL 66 (by decide)) (y_l_66 ((k_Q D nx wr lc fr tk rc sc LN ST) 66)) rfl (by omega) ⟨Nat.le_refl _, Nat.le_refl _⟩ (Nat.le_of_ble_eq_true rfl) (fun r95 E95 q95 => ?_)
    obtain ⟨ok95, nx95, wr95, sc95, ST95, hf95, rfl, rfl, hb95⟩ := q95
    have hz95 := hb95.all
    show E 0 0 252 [(0, .ref 66), (1, .int (nI g)), (2, .int ((D 68).1 nx))] [.int (y_b (ok95 = true))] (y_mk n L (k_Q D nx95 wr95 lc fr tk rc sc95 LN ST95))
    refine r_ireturn hE dX2_readAtom_252 rfl (by exact y_nb _) (Nat.zero_le _) (Nat.zero_le _) ?_
    refine ⟨_, _, rfl, rfl, ok95, _, _, _, _, ?_, rfl, rfl, hb95⟩
    first
      | rw [k_atF, if_neg (by rw [h6]; decide), if_neg (by rw [h6]; decide), if_neg (by rw [h6]; decide), if_neg (by rw [h6]; decide), hf95]
      | rw [k_atF, if_neg (fun c => by rw [c] at h6; exact absurd h6 (by decide)), if_neg (fun c => by rw [c] at h6; exact absurd h6 (by decide)), if_neg (fun c => by rcases c with c | c <;> (rw [c] at h6; exact absurd h6 (by decide))), if_neg (fun c => by rcases c with c | c | c | c <;> (rw [c] at h6; exact absurd h6 (by decide))), hf95]
  · refine r_top (y := 19) h6 ?_
    refine r_tsin (tgt := 248) hE dX2_readAtom_6 (by decide) (by decide) rfl (by decide) ?_
    refine r_aload_n hE dX2_readAtom_248 rfl ?_
    refine t_invvRi hE [] (k_readComparison hL hm hK (by omega) (by omega)) v_yX2_readComparison m_X2_121 dX2_readAtom_249 rfl (hL 66 (by decide)) (y_l_66 ((k_Q D nx wr lc fr tk rc sc LN ST) 66)) rfl (by omega) ⟨Nat.le_refl _, Nat.le_refl _⟩ (Nat.le_of_ble_eq_true rfl) (fun r96 E96 q96 => ?_)
    obtain ⟨ok96, nx96, wr96, sc96, ST96, hf96, rfl, rfl, hb96⟩ := q96
    have hz96 := hb96.all
    show E 0 0 252 [(0, .ref 66), (1, .int (nI g)), (2, .int ((D 68).1 nx))] [.int (y_b (ok96 = true))] (y_mk n L (k_Q D nx96 wr96 lc fr tk rc sc96 LN ST96))
    refine r_ireturn hE dX2_readAtom_252 rfl (by exact y_nb _) (Nat.zero_le _) (Nat.zero_le _) ?_
    refine ⟨_, _, rfl, rfl, ok96, _, _, _, _, ?_, rfl, rfl, hb96⟩
    first
      | rw [k_atF, if_neg (by rw [h6]; decide), if_neg (by rw [h6]; decide), if_neg (by rw [h6]; decide), if_neg (by rw [h6]; decide), hf96]
      | rw [k_atF, if_neg (fun c => by rw [c] at h6; exact absurd h6 (by decide)), if_neg (fun c => by rw [c] at h6; exact absurd h6 (by decide)), if_neg (fun c => by rcases c with c | c <;> (rw [c] at h6; exact absurd h6 (by decide))), if_neg (fun c => by rcases c with c | c | c | c <;> (rw [c] at h6; exact absurd h6 (by decide))), hf96]
  · refine r_top (y := 20) h6 ?_
    refine r_tsin (tgt := 248) hE dX2_readAtom_6 (by decide) (by decide) rfl (by decide) ?_
    refine r_aload_n hE dX2_readAtom_248 rfl ?_
    refine t_invvRi hE [] (k_readComparison hL hm hK (by omega) (by omega)) v_yX2_readComparison m_X2_121 dX2_readAtom_249 rfl (hL 66 (by decide)) (y_l_66 ((k_Q D nx wr lc fr tk rc sc LN ST) 66)) rfl (by omega) ⟨Nat.le_refl _, Nat.le_refl _⟩ (Nat.le_of_ble_eq_true rfl) (fun r97 E97 q97 => ?_)
    obtain ⟨ok97, nx97, wr97, sc97, ST97, hf97, rfl, rfl, hb97⟩ := q97
    have hz97 := hb97.all
    show E 0 0 252 [(0, .ref 66), (1, .int (nI g)), (2, .int ((D 68).1 nx))] [.int (y_b (ok97 = true))] (y_mk n L (k_Q D nx97 wr97 lc fr tk rc sc97 LN ST97))
    refine r_ireturn hE dX2_readAtom_252 rfl (by exact y_nb _) (Nat.zero_le _) (Nat.zero_le _) ?_
    refine ⟨_, _, rfl, rfl, ok97, _, _, _, _, ?_, rfl, rfl, hb97⟩
    first
      | rw [k_atF, if_neg (by rw [h6]; decide), if_neg (by rw [h6]; decide), if_neg (by rw [h6]; decide), if_neg (by rw [h6]; decide), hf97]
      | rw [k_atF, if_neg (fun c => by rw [c] at h6; exact absurd h6 (by decide)), if_neg (fun c => by rw [c] at h6; exact absurd h6 (by decide)), if_neg (fun c => by rcases c with c | c <;> (rw [c] at h6; exact absurd h6 (by decide))), if_neg (fun c => by rcases c with c | c | c | c <;> (rw [c] at h6; exact absurd h6 (by decide))), hf97]
  · refine r_top (y := 21) h6 ?_
    refine r_tsin (tgt := 248) hE dX2_readAtom_6 (by decide) (by decide) rfl (by decide) ?_
    refine r_aload_n hE dX2_readAtom_248 rfl ?_
    refine t_invvRi hE [] (k_readComparison hL hm hK (by omega) (by omega)) v_yX2_readComparison m_X2_121 dX2_readAtom_249 rfl (hL 66 (by decide)) (y_l_66 ((k_Q D nx wr lc fr tk rc sc LN ST) 66)) rfl (by omega) ⟨Nat.le_refl _, Nat.le_refl _⟩ (Nat.le_of_ble_eq_true rfl) (fun r98 E98 q98 => ?_)
    obtain ⟨ok98, nx98, wr98, sc98, ST98, hf98, rfl, rfl, hb98⟩ := q98
    have hz98 := hb98.all
    show E 0 0 252 [(0, .ref 66), (1, .int (nI g)), (2, .int ((D 68).1 nx))] [.int (y_b (ok98 = true))] (y_mk n L (k_Q D nx98 wr98 lc fr tk rc sc98 LN ST98))
    refine r_ireturn hE dX2_readAtom_252 rfl (by exact y_nb _) (Nat.zero_le _) (Nat.zero_le _) ?_
    refine ⟨_, _, rfl, rfl, ok98, _, _, _, _, ?_, rfl, rfl, hb98⟩
    first
      | rw [k_atF, if_neg (by rw [h6]; decide), if_neg (by rw [h6]; decide), if_neg (by rw [h6]; decide), if_neg (by rw [h6]; decide), hf98]
      | rw [k_atF, if_neg (fun c => by rw [c] at h6; exact absurd h6 (by decide)), if_neg (fun c => by rw [c] at h6; exact absurd h6 (by decide)), if_neg (fun c => by rcases c with c | c <;> (rw [c] at h6; exact absurd h6 (by decide))), if_neg (fun c => by rcases c with c | c | c | c <;> (rw [c] at h6; exact absurd h6 (by decide))), hf98]
  · refine r_top (y := 22) h6 ?_
    refine r_tsin (tgt := 116) hE dX2_readAtom_6 (by decide) (by decide) rfl (by decide) ?_
    refine r_iload_n hE dX2_readAtom_116 rfl ?_
    refine r_bipush (v := 6) hE dX2_readAtom_117 (by decide) ?_
    refine r_icmp_ltN (a := g) (b := 6) (tgt := 127) hE dX2_readAtom_119 (by decide) (by omega) (by decide) (fun c119 => ?_) (fun c119 => ?_)
    · have hz9 : nx ≠ m := fun q => by
        have h0 : (D 68).1 nx = 0 := by rw [q]; exact hK
        exact absurd (h0.symm.trans h6) (by decide)
      refine r_aload_n hE dX2_readAtom_127 rfl ?_
      refine r_dup hE dX2_readAtom_128 rfl ?_
      refine t_geti hE f_X2_87 y_I_66_1 dX2_readAtom_129 (hL 66 (by decide)) ?_
      refine r_top (y := (nI nx)) rfl ?_
      refine r_iconst (v := 1) hE dX2_readAtom_132 (by decide) ?_
      refine r_iaddN (a := nx) (b := 1) hE dX2_readAtom_133 ?_
      refine t_puti hE f_X2_87 y_I_66_1 dX2_readAtom_134 (hL 66 (by decide)) rfl rfl ?_
      rw [k_Q_1]
      refine r_aload_n hE dX2_readAtom_137 rfl ?_
      refine r_iload_n hE dX2_readAtom_138 rfl ?_
      refine r_iconst (v := 1) hE dX2_readAtom_139 (by decide) ?_
      refine r_iaddN (a := g) (b := 1) hE dX2_readAtom_140 ?_
      refine t_invvRi hE [.int (nI (g + 1))] (hA c119 _ _ _ _ (by omega) (by omega)) v_yX2_readAtom m_X2_118 dX2_readAtom_141 rfl (hL 66 (by decide)) (y_l_66 ((k_Q D (nx + 1) wr lc fr tk rc sc LN ST) 66)) rfl (by omega) ⟨Nat.le_refl _, Nat.le_refl _⟩ (Nat.le_of_ble_eq_true rfl) (fun r99 E99 q99 => ?_)
      obtain ⟨ok99, nx99, wr99, sc99, ST99, hf99, rfl, rfl, hb99⟩ := q99
      have hz99 := hb99.all
      show E 0 0 144 [(0, .ref 66), (1, .int (nI g)), (2, .int ((D 68).1 nx))] [.int (y_b (ok99 = true))] (y_mk n L (k_Q D nx99 wr99 lc fr tk rc sc99 LN ST99))
      refine r_ifb_eq (tgt := 161) hE dX2_readAtom_144 (by decide) (fun c144 => ?_) (fun c144 => ?_)
      · have hk99 : ok99 = false := by revert c144; cases ok99 <;> simp
        subst hk99
        refine r_iconst (v := 0) hE dX2_readAtom_161 (by decide) ?_
        refine r_ireturn hE dX2_readAtom_162 rfl (by rfl) (Nat.zero_le _) (Nat.zero_le _) ?_
        refine ⟨_, _, rfl, rfl, false, _, _, _, _, ?_, by decide, rfl, ?_⟩
        · rw [k_atF, if_pos h6, if_pos c119, hf99, k_then_f]
        · unfold k_bd
          omega
      · have hk99 : ok99 = true := c144
        subst hk99
        refine r_aload_n hE dX2_readAtom_147 rfl ?_
        refine r_bipush (v := 22) hE dX2_readAtom_148 (by decide) ?_
        refine r_iconst (v := 0) hE dX2_readAtom_150 (by decide) ?_
        refine t_invv (r := (some (.int 1))) (S2 := (y_mk n L (k_Q D nx99 wr99 lc fr tk rc (sc99 + 1) LN (upd ST99 sc99 (22 * 1024 + 0))))) hE [.int 22, .int 0] (k_keepT hL (by first | decide | exact hne) (by omega)) v_yX2_keepStep m_X2_114 dX2_readAtom_151 rfl (hL 66 (by decide)) (y_l_66 ((k_Q D nx99 wr99 lc fr tk rc sc99 LN ST99) 66)) rfl (by omega) ⟨Nat.le_refl _, Nat.le_refl _⟩ (Nat.le_of_ble_eq_true rfl) ?_
        show E 0 0 154 [(0, .ref 66), (1, .int (nI g)), (2, .int ((D 68).1 nx))] [.int 1] (y_mk n L (k_Q D nx99 wr99 lc fr tk rc (sc99 + 1) LN (upd ST99 sc99 (22 * 1024 + 0))))
        refine r_if_eq (tgt := 161) hE dX2_readAtom_154 (by decide) (fun c154 => by first | exact absurd c154 (by decide) | exact absurd (by decide) c154) (fun _ => ?_)
        refine r_iconst (v := 1) hE dX2_readAtom_157 (by decide) ?_
        refine r_goto (tgt := 162) hE dX2_readAtom_158 (by decide) ?_
        refine r_ireturn hE dX2_readAtom_162 rfl (by rfl) (Nat.zero_le _) (Nat.zero_le _) ?_
        refine ⟨_, _, rfl, rfl, true, _, _, _, _, ?_, by decide, rfl, ?_⟩
        · rw [k_atF, if_pos h6, if_pos c119, hf99, k_then_t]
        · unfold k_bd
          omega
    · refine r_aload_n hE dX2_readAtom_122 rfl ?_
      refine t_invv (r := (some (.int 0))) (S2 := (y_mk n L (k_Q D nx ((D 69).1 nx) lc fr tk rc sc LN ST))) hE [] (k_refuse hL (by omega)) v_yX2_refuse m_X2_55 dX2_readAtom_123 rfl (hL 66 (by decide)) (y_l_66 ((k_Q D nx wr lc fr tk rc sc LN ST) 66)) rfl (by omega) ⟨Nat.le_refl _, Nat.le_refl _⟩ (Nat.le_of_ble_eq_true rfl) ?_
      show E 0 0 126 [(0, .ref 66), (1, .int (nI g)), (2, .int ((D 68).1 nx))] [.int 0] (y_mk n L (k_Q D nx ((D 69).1 nx) lc fr tk rc sc LN ST))
      refine r_ireturn hE dX2_readAtom_126 rfl (by rfl) (Nat.zero_le _) (Nat.zero_le _) ?_
      refine ⟨_, _, rfl, rfl, false, _, _, _, _, ?_, by decide, rfl, ?_⟩
      · rw [k_atF, if_pos h6, if_neg (by omega)]
      · unfold k_bd
        omega
  · refine r_top (y := 23) h6 ?_
    refine r_tsin (tgt := 209) hE dX2_readAtom_6 (by decide) (by decide) rfl (by decide) ?_
    have hz9 : nx ≠ m := fun q => by
      have h0 : (D 68).1 nx = 0 := by rw [q]; exact hK
      exact absurd (h0.symm.trans h6) (by decide)
    refine r_aload_n hE dX2_readAtom_209 rfl ?_
    refine r_dup hE dX2_readAtom_210 rfl ?_
    refine t_geti hE f_X2_87 y_I_66_1 dX2_readAtom_211 (hL 66 (by decide)) ?_
    refine r_top (y := (nI nx)) rfl ?_
    refine r_iconst (v := 1) hE dX2_readAtom_214 (by decide) ?_
    refine r_iaddN (a := nx) (b := 1) hE dX2_readAtom_215 ?_
    refine t_puti hE f_X2_87 y_I_66_1 dX2_readAtom_216 (hL 66 (by decide)) rfl rfl ?_
    rw [k_Q_1]
    refine r_aload_n hE dX2_readAtom_219 rfl ?_
    refine r_iload_n hE dX2_readAtom_220 rfl ?_
    refine r_iconst (v := 0) hE dX2_readAtom_221 (by decide) ?_
    refine t_invv (r := (some (.int 1))) (S2 := (y_mk n L (k_Q D (nx + 1) wr lc fr tk rc (sc + 1) LN (upd ST sc (((D 68).1 nx) * 1024 + 0))))) hE [.int ((D 68).1 nx), .int 0] (k_keepT hL (by first | decide | exact hne) (by omega)) v_yX2_keepStep m_X2_114 dX2_readAtom_222 rfl (hL 66 (by decide)) (y_l_66 ((k_Q D (nx + 1) wr lc fr tk rc sc LN ST) 66)) rfl (by omega) ⟨Nat.le_refl _, Nat.le_refl _⟩ (Nat.le_of_ble_eq_true rfl) ?_
    show E 0 0 225 [(0, .ref 66), (1, .int (nI g)), (2, .int ((D 68).1 nx))] [.int 1] (y_mk n L (k_Q D (nx + 1) wr lc fr tk rc (sc + 1) LN (upd ST sc (((D 68).1 nx) * 1024 + 0))))
    refine r_ireturn hE dX2_readAtom_225 rfl (by rfl) (Nat.zero_le _) (Nat.zero_le _) ?_
    refine ⟨_, _, rfl, rfl, true, _, _, _, _, ?_, by decide, rfl, ?_⟩
    · rw [k_atF, if_neg (by rw [h6]; decide), if_neg (by rw [h6]; decide), if_pos (by rw [h6]; decide)]
    · unfold k_bd
      omega
  · refine r_top (y := 24) h6 ?_
    refine r_tsin (tgt := 209) hE dX2_readAtom_6 (by decide) (by decide) rfl (by decide) ?_
    have hz9 : nx ≠ m := fun q => by
      have h0 : (D 68).1 nx = 0 := by rw [q]; exact hK
      exact absurd (h0.symm.trans h6) (by decide)
    refine r_aload_n hE dX2_readAtom_209 rfl ?_
    refine r_dup hE dX2_readAtom_210 rfl ?_
    refine t_geti hE f_X2_87 y_I_66_1 dX2_readAtom_211 (hL 66 (by decide)) ?_
    refine r_top (y := (nI nx)) rfl ?_
    refine r_iconst (v := 1) hE dX2_readAtom_214 (by decide) ?_
    refine r_iaddN (a := nx) (b := 1) hE dX2_readAtom_215 ?_
    refine t_puti hE f_X2_87 y_I_66_1 dX2_readAtom_216 (hL 66 (by decide)) rfl rfl ?_
    rw [k_Q_1]
    refine r_aload_n hE dX2_readAtom_219 rfl ?_
    refine r_iload_n hE dX2_readAtom_220 rfl ?_
    refine r_iconst (v := 0) hE dX2_readAtom_221 (by decide) ?_
    refine t_invv (r := (some (.int 1))) (S2 := (y_mk n L (k_Q D (nx + 1) wr lc fr tk rc (sc + 1) LN (upd ST sc (((D 68).1 nx) * 1024 + 0))))) hE [.int ((D 68).1 nx), .int 0] (k_keepT hL (by first | decide | exact hne) (by omega)) v_yX2_keepStep m_X2_114 dX2_readAtom_222 rfl (hL 66 (by decide)) (y_l_66 ((k_Q D (nx + 1) wr lc fr tk rc sc LN ST) 66)) rfl (by omega) ⟨Nat.le_refl _, Nat.le_refl _⟩ (Nat.le_of_ble_eq_true rfl) ?_
    show E 0 0 225 [(0, .ref 66), (1, .int (nI g)), (2, .int ((D 68).1 nx))] [.int 1] (y_mk n L (k_Q D (nx + 1) wr lc fr tk rc (sc + 1) LN (upd ST sc (((D 68).1 nx) * 1024 + 0))))
    refine r_ireturn hE dX2_readAtom_225 rfl (by rfl) (Nat.zero_le _) (Nat.zero_le _) ?_
    refine ⟨_, _, rfl, rfl, true, _, _, _, _, ?_, by decide, rfl, ?_⟩
    · rw [k_atF, if_neg (by rw [h6]; decide), if_neg (by rw [h6]; decide), if_pos (by rw [h6]; decide)]
    · unfold k_bd
      omega
  · refine r_top (y := 25) h6 ?_
    refine r_tsin (tgt := 226) hE dX2_readAtom_6 (by decide) (by decide) rfl (by decide) ?_
    have hz9 : nx ≠ m := fun q => by
      have h0 : (D 68).1 nx = 0 := by rw [q]; exact hK
      exact absurd (h0.symm.trans h6) (by decide)
    refine r_aload_n hE dX2_readAtom_226 rfl ?_
    refine r_dup hE dX2_readAtom_227 rfl ?_
    refine t_geti hE f_X2_87 y_I_66_1 dX2_readAtom_228 (hL 66 (by decide)) ?_
    refine r_top (y := (nI nx)) rfl ?_
    refine r_iconst (v := 1) hE dX2_readAtom_231 (by decide) ?_
    refine r_iaddN (a := nx) (b := 1) hE dX2_readAtom_232 ?_
    refine t_puti hE f_X2_87 y_I_66_1 dX2_readAtom_233 (hL 66 (by decide)) rfl rfl ?_
    rw [k_Q_1]
    refine r_aload_n hE dX2_readAtom_236 rfl ?_
    refine r_iload_n hE dX2_readAtom_237 rfl ?_
    refine r_aload_n hE dX2_readAtom_238 rfl ?_
    refine r_iconst (v := 0) hE dX2_readAtom_239 (by decide) ?_
    refine r_iconst (v := 3) hE dX2_readAtom_240 (by decide) ?_
    by_cases hbd : k_bad (k_nx (D 68).1 (D 70).1 (nx + 1)) 0 3
    · refine t_invv (r := (some (.int (-1)))) (S2 := (y_mk n L (k_Q D (nx + 1) ((D 69).1 (nx + 1)) lc fr tk rc sc LN ST))) hE [.int 0, .int 3] (k_numF hL (by omega) hbd) v_yX2_number m_X2_103 dX2_readAtom_241 rfl (hL 66 (by decide)) (y_l_66 ((k_Q D (nx + 1) wr lc fr tk rc sc LN ST) 66)) rfl (by omega) ⟨Nat.le_refl _, Nat.le_refl _⟩ (Nat.le_of_ble_eq_true rfl) ?_
      show E 0 0 244 [(0, .ref 66), (1, .int (nI g)), (2, .int ((D 68).1 nx))] [.int (-1), .int ((D 68).1 nx), .ref 66] (y_mk n L (k_Q D (nx + 1) ((D 69).1 (nx + 1)) lc fr tk rc sc LN ST))
      refine t_invv (r := (some (.int 0))) (S2 := (y_mk n L (k_Q D (nx + 1) ((D 69).1 (nx + 1)) lc fr tk rc sc LN ST))) hE [.int ((D 68).1 nx), .int (-1)] (k_keepF hL) v_yX2_keepStep m_X2_114 dX2_readAtom_244 rfl (hL 66 (by decide)) (y_l_66 ((k_Q D (nx + 1) ((D 69).1 (nx + 1)) lc fr tk rc sc LN ST) 66)) rfl (by omega) ⟨Nat.le_refl _, Nat.le_refl _⟩ (Nat.le_of_ble_eq_true rfl) ?_
      show E 0 0 247 [(0, .ref 66), (1, .int (nI g)), (2, .int ((D 68).1 nx))] [.int 0] (y_mk n L (k_Q D (nx + 1) ((D 69).1 (nx + 1)) lc fr tk rc sc LN ST))
      refine r_ireturn hE dX2_readAtom_247 rfl (by rfl) (Nat.zero_le _) (Nat.zero_le _) ?_
      refine ⟨_, _, rfl, rfl, false, _, _, _, _, ?_, by decide, rfl, ?_⟩
      · rw [k_atF, if_neg (by rw [h6]; decide), if_neg (by rw [h6]; decide), if_neg (by rw [h6]; decide), if_pos (by rw [h6]; decide), if_pos hbd]
      · unfold k_bd
        omega
    · have hne : (k_nx (D 68).1 (D 70).1 (nx + 1)) ≠ -1 := k_ne (by decide) hbd
      have hk2 := k_2 (by decide) hbd
      have hzz : (nx + 1) ≠ m := fun z => absurd (z ▸ hk2) (by rw [hK]; decide)
      refine t_invv (r := (some (.int (k_nx (D 68).1 (D 70).1 (nx + 1))))) (S2 := (y_mk n L (k_Q D ((nx + 1) + 1) wr lc fr tk rc sc LN ST))) hE [.int 0, .int 3] (k_numT hL (by omega) hbd) v_yX2_number m_X2_103 dX2_readAtom_241 rfl (hL 66 (by decide)) (y_l_66 ((k_Q D (nx + 1) wr lc fr tk rc sc LN ST) 66)) rfl (by omega) ⟨Nat.le_refl _, Nat.le_refl _⟩ (Nat.le_of_ble_eq_true rfl) ?_
      show E 0 0 244 [(0, .ref 66), (1, .int (nI g)), (2, .int ((D 68).1 nx))] [.int (k_nx (D 68).1 (D 70).1 (nx + 1)), .int ((D 68).1 nx), .ref 66] (y_mk n L (k_Q D ((nx + 1) + 1) wr lc fr tk rc sc LN ST))
      refine t_invv (r := (some (.int 1))) (S2 := (y_mk n L (k_Q D ((nx + 1) + 1) wr lc fr tk rc (sc + 1) LN (upd ST sc (((D 68).1 nx) * 1024 + (k_nx (D 68).1 (D 70).1 (nx + 1))))))) hE [.int ((D 68).1 nx), .int (k_nx (D 68).1 (D 70).1 (nx + 1))] (k_keepT hL (by first | decide | exact hne) (by omega)) v_yX2_keepStep m_X2_114 dX2_readAtom_244 rfl (hL 66 (by decide)) (y_l_66 ((k_Q D ((nx + 1) + 1) wr lc fr tk rc sc LN ST) 66)) rfl (by omega) ⟨Nat.le_refl _, Nat.le_refl _⟩ (Nat.le_of_ble_eq_true rfl) ?_
      show E 0 0 247 [(0, .ref 66), (1, .int (nI g)), (2, .int ((D 68).1 nx))] [.int 1] (y_mk n L (k_Q D ((nx + 1) + 1) wr lc fr tk rc (sc + 1) LN (upd ST sc (((D 68).1 nx) * 1024 + (k_nx (D 68).1 (D 70).1 (nx + 1))))))
      refine r_ireturn hE dX2_readAtom_247 rfl (by rfl) (Nat.zero_le _) (Nat.zero_le _) ?_
      refine ⟨_, _, rfl, rfl, true, _, _, _, _, ?_, by decide, rfl, ?_⟩
      · rw [k_atF, if_neg (by rw [h6]; decide), if_neg (by rw [h6]; decide), if_neg (by rw [h6]; decide), if_pos (by rw [h6]; decide), if_neg hbd]
      · unfold k_bd
        omega
  · refine r_top (y := 26) h6 ?_
    refine r_tsin (tgt := 226) hE dX2_readAtom_6 (by decide) (by decide) rfl (by decide) ?_
    have hz9 : nx ≠ m := fun q => by
      have h0 : (D 68).1 nx = 0 := by rw [q]; exact hK
      exact absurd (h0.symm.trans h6) (by decide)
    refine r_aload_n hE dX2_readAtom_226 rfl ?_
    refine r_dup hE dX2_readAtom_227 rfl ?_
    refine t_geti hE f_X2_87 y_I_66_1 dX2_readAtom_228 (hL 66 (by decide)) ?_
    refine r_top (y := (nI nx)) rfl ?_
    refine r_iconst (v := 1) hE dX2_readAtom_231 (by decide) ?_
    refine r_iaddN (a := nx) (b := 1) hE dX2_readAtom_232 ?_
    refine t_puti hE f_X2_87 y_I_66_1 dX2_readAtom_233 (hL 66 (by decide)) rfl rfl ?_
    rw [k_Q_1]
    refine r_aload_n hE dX2_readAtom_236 rfl ?_
    refine r_iload_n hE dX2_readAtom_237 rfl ?_
    refine r_aload_n hE dX2_readAtom_238 rfl ?_
    refine r_iconst (v := 0) hE dX2_readAtom_239 (by decide) ?_
    refine r_iconst (v := 3) hE dX2_readAtom_240 (by decide) ?_
    by_cases hbd : k_bad (k_nx (D 68).1 (D 70).1 (nx + 1)) 0 3
    · refine t_invv (r := (some (.int (-1)))) (S2 := (y_mk n L (k_Q D (nx + 1) ((D 69).1 (nx + 1)) lc fr tk rc sc LN ST))) hE [.int 0, .int 3] (k_numF hL (by omega) hbd) v_yX2_number m_X2_103 dX2_readAtom_241 rfl (hL 66 (by decide)) (y_l_66 ((k_Q D (nx + 1) wr lc fr tk rc sc LN ST) 66)) rfl (by omega) ⟨Nat.le_refl _, Nat.le_refl _⟩ (Nat.le_of_ble_eq_true rfl) ?_
      show E 0 0 244 [(0, .ref 66), (1, .int (nI g)), (2, .int ((D 68).1 nx))] [.int (-1), .int ((D 68).1 nx), .ref 66] (y_mk n L (k_Q D (nx + 1) ((D 69).1 (nx + 1)) lc fr tk rc sc LN ST))
      refine t_invv (r := (some (.int 0))) (S2 := (y_mk n L (k_Q D (nx + 1) ((D 69).1 (nx + 1)) lc fr tk rc sc LN ST))) hE [.int ((D 68).1 nx), .int (-1)] (k_keepF hL) v_yX2_keepStep m_X2_114 dX2_readAtom_244 rfl (hL 66 (by decide)) (y_l_66 ((k_Q D (nx + 1) ((D 69).1 (nx + 1)) lc fr tk rc sc LN ST) 66)) rfl (by omega) ⟨Nat.le_refl _, Nat.le_refl _⟩ (Nat.le_of_ble_eq_true rfl) ?_
      show E 0 0 247 [(0, .ref 66), (1, .int (nI g)), (2, .int ((D 68).1 nx))] [.int 0] (y_mk n L (k_Q D (nx + 1) ((D 69).1 (nx + 1)) lc fr tk rc sc LN ST))
      refine r_ireturn hE dX2_readAtom_247 rfl (by rfl) (Nat.zero_le _) (Nat.zero_le _) ?_
      refine ⟨_, _, rfl, rfl, false, _, _, _, _, ?_, by decide, rfl, ?_⟩
      · rw [k_atF, if_neg (by rw [h6]; decide), if_neg (by rw [h6]; decide), if_neg (by rw [h6]; decide), if_pos (by rw [h6]; decide), if_pos hbd]
      · unfold k_bd
        omega
    · have hne : (k_nx (D 68).1 (D 70).1 (nx + 1)) ≠ -1 := k_ne (by decide) hbd
      have hk2 := k_2 (by decide) hbd
      have hzz : (nx + 1) ≠ m := fun z => absurd (z ▸ hk2) (by rw [hK]; decide)
      refine t_invv (r := (some (.int (k_nx (D 68).1 (D 70).1 (nx + 1))))) (S2 := (y_mk n L (k_Q D ((nx + 1) + 1) wr lc fr tk rc sc LN ST))) hE [.int 0, .int 3] (k_numT hL (by omega) hbd) v_yX2_number m_X2_103 dX2_readAtom_241 rfl (hL 66 (by decide)) (y_l_66 ((k_Q D (nx + 1) wr lc fr tk rc sc LN ST) 66)) rfl (by omega) ⟨Nat.le_refl _, Nat.le_refl _⟩ (Nat.le_of_ble_eq_true rfl) ?_
      show E 0 0 244 [(0, .ref 66), (1, .int (nI g)), (2, .int ((D 68).1 nx))] [.int (k_nx (D 68).1 (D 70).1 (nx + 1)), .int ((D 68).1 nx), .ref 66] (y_mk n L (k_Q D ((nx + 1) + 1) wr lc fr tk rc sc LN ST))
      refine t_invv (r := (some (.int 1))) (S2 := (y_mk n L (k_Q D ((nx + 1) + 1) wr lc fr tk rc (sc + 1) LN (upd ST sc (((D 68).1 nx) * 1024 + (k_nx (D 68).1 (D 70).1 (nx + 1))))))) hE [.int ((D 68).1 nx), .int (k_nx (D 68).1 (D 70).1 (nx + 1))] (k_keepT hL (by first | decide | exact hne) (by omega)) v_yX2_keepStep m_X2_114 dX2_readAtom_244 rfl (hL 66 (by decide)) (y_l_66 ((k_Q D ((nx + 1) + 1) wr lc fr tk rc sc LN ST) 66)) rfl (by omega) ⟨Nat.le_refl _, Nat.le_refl _⟩ (Nat.le_of_ble_eq_true rfl) ?_
      show E 0 0 247 [(0, .ref 66), (1, .int (nI g)), (2, .int ((D 68).1 nx))] [.int 1] (y_mk n L (k_Q D ((nx + 1) + 1) wr lc fr tk rc (sc + 1) LN (upd ST sc (((D 68).1 nx) * 1024 + (k_nx (D 68).1 (D 70).1 (nx + 1))))))
      refine r_ireturn hE dX2_readAtom_247 rfl (by rfl) (Nat.zero_le _) (Nat.zero_le _) ?_
      refine ⟨_, _, rfl, rfl, true, _, _, _, _, ?_, by decide, rfl, ?_⟩
      · rw [k_atF, if_neg (by rw [h6]; decide), if_neg (by rw [h6]; decide), if_neg (by rw [h6]; decide), if_pos (by rw [h6]; decide), if_neg hbd]
      · unfold k_bd
        omega
  · refine r_top (y := 27) h6 ?_
    refine r_tsin (tgt := 226) hE dX2_readAtom_6 (by decide) (by decide) rfl (by decide) ?_
    have hz9 : nx ≠ m := fun q => by
      have h0 : (D 68).1 nx = 0 := by rw [q]; exact hK
      exact absurd (h0.symm.trans h6) (by decide)
    refine r_aload_n hE dX2_readAtom_226 rfl ?_
    refine r_dup hE dX2_readAtom_227 rfl ?_
    refine t_geti hE f_X2_87 y_I_66_1 dX2_readAtom_228 (hL 66 (by decide)) ?_
    refine r_top (y := (nI nx)) rfl ?_
    refine r_iconst (v := 1) hE dX2_readAtom_231 (by decide) ?_
    refine r_iaddN (a := nx) (b := 1) hE dX2_readAtom_232 ?_
    refine t_puti hE f_X2_87 y_I_66_1 dX2_readAtom_233 (hL 66 (by decide)) rfl rfl ?_
    rw [k_Q_1]
    refine r_aload_n hE dX2_readAtom_236 rfl ?_
    refine r_iload_n hE dX2_readAtom_237 rfl ?_
    refine r_aload_n hE dX2_readAtom_238 rfl ?_
    refine r_iconst (v := 0) hE dX2_readAtom_239 (by decide) ?_
    refine r_iconst (v := 3) hE dX2_readAtom_240 (by decide) ?_
    by_cases hbd : k_bad (k_nx (D 68).1 (D 70).1 (nx + 1)) 0 3
    · refine t_invv (r := (some (.int (-1)))) (S2 := (y_mk n L (k_Q D (nx + 1) ((D 69).1 (nx + 1)) lc fr tk rc sc LN ST))) hE [.int 0, .int 3] (k_numF hL (by omega) hbd) v_yX2_number m_X2_103 dX2_readAtom_241 rfl (hL 66 (by decide)) (y_l_66 ((k_Q D (nx + 1) wr lc fr tk rc sc LN ST) 66)) rfl (by omega) ⟨Nat.le_refl _, Nat.le_refl _⟩ (Nat.le_of_ble_eq_true rfl) ?_
      show E 0 0 244 [(0, .ref 66), (1, .int (nI g)), (2, .int ((D 68).1 nx))] [.int (-1), .int ((D 68).1 nx), .ref 66] (y_mk n L (k_Q D (nx + 1) ((D 69).1 (nx + 1)) lc fr tk rc sc LN ST))
      refine t_invv (r := (some (.int 0))) (S2 := (y_mk n L (k_Q D (nx + 1) ((D 69).1 (nx + 1)) lc fr tk rc sc LN ST))) hE [.int ((D 68).1 nx), .int (-1)] (k_keepF hL) v_yX2_keepStep m_X2_114 dX2_readAtom_244 rfl (hL 66 (by decide)) (y_l_66 ((k_Q D (nx + 1) ((D 69).1 (nx + 1)) lc fr tk rc sc LN ST) 66)) rfl (by omega) ⟨Nat.le_refl _, Nat.le_refl _⟩ (Nat.le_of_ble_eq_true rfl) ?_
      show E 0 0 247 [(0, .ref 66), (1, .int (nI g)), (2, .int ((D 68).1 nx))] [.int 0] (y_mk n L (k_Q D (nx + 1) ((D 69).1 (nx + 1)) lc fr tk rc sc LN ST))
      refine r_ireturn hE dX2_readAtom_247 rfl (by rfl) (Nat.zero_le _) (Nat.zero_le _) ?_
      refine ⟨_, _, rfl, rfl, false, _, _, _, _, ?_, by decide, rfl, ?_⟩
      · rw [k_atF, if_neg (by rw [h6]; decide), if_neg (by rw [h6]; decide), if_neg (by rw [h6]; decide), if_pos (by rw [h6]; decide), if_pos hbd]
      · unfold k_bd
        omega
    · have hne : (k_nx (D 68).1 (D 70).1 (nx + 1)) ≠ -1 := k_ne (by decide) hbd
      have hk2 := k_2 (by decide) hbd
      have hzz : (nx + 1) ≠ m := fun z => absurd (z ▸ hk2) (by rw [hK]; decide)
      refine t_invv (r := (some (.int (k_nx (D 68).1 (D 70).1 (nx + 1))))) (S2 := (y_mk n L (k_Q D ((nx + 1) + 1) wr lc fr tk rc sc LN ST))) hE [.int 0, .int 3] (k_numT hL (by omega) hbd) v_yX2_number m_X2_103 dX2_readAtom_241 rfl (hL 66 (by decide)) (y_l_66 ((k_Q D (nx + 1) wr lc fr tk rc sc LN ST) 66)) rfl (by omega) ⟨Nat.le_refl _, Nat.le_refl _⟩ (Nat.le_of_ble_eq_true rfl) ?_
      show E 0 0 244 [(0, .ref 66), (1, .int (nI g)), (2, .int ((D 68).1 nx))] [.int (k_nx (D 68).1 (D 70).1 (nx + 1)), .int ((D 68).1 nx), .ref 66] (y_mk n L (k_Q D ((nx + 1) + 1) wr lc fr tk rc sc LN ST))
      refine t_invv (r := (some (.int 1))) (S2 := (y_mk n L (k_Q D ((nx + 1) + 1) wr lc fr tk rc (sc + 1) LN (upd ST sc (((D 68).1 nx) * 1024 + (k_nx (D 68).1 (D 70).1 (nx + 1))))))) hE [.int ((D 68).1 nx), .int (k_nx (D 68).1 (D 70).1 (nx + 1))] (k_keepT hL (by first | decide | exact hne) (by omega)) v_yX2_keepStep m_X2_114 dX2_readAtom_244 rfl (hL 66 (by decide)) (y_l_66 ((k_Q D ((nx + 1) + 1) wr lc fr tk rc sc LN ST) 66)) rfl (by omega) ⟨Nat.le_refl _, Nat.le_refl _⟩ (Nat.le_of_ble_eq_true rfl) ?_
      show E 0 0 247 [(0, .ref 66), (1, .int (nI g)), (2, .int ((D 68).1 nx))] [.int 1] (y_mk n L (k_Q D ((nx + 1) + 1) wr lc fr tk rc (sc + 1) LN (upd ST sc (((D 68).1 nx) * 1024 + (k_nx (D 68).1 (D 70).1 (nx + 1))))))
      refine r_ireturn hE dX2_readAtom_247 rfl (by rfl) (Nat.zero_le _) (Nat.zero_le _) ?_
      refine ⟨_, _, rfl, rfl, true, _, _, _, _, ?_, by decide, rfl, ?_⟩
      · rw [k_atF, if_neg (by rw [h6]; decide), if_neg (by rw [h6]; decide), if_neg (by rw [h6]; decide), if_pos (by rw [h6]; decide), if_neg hbd]
      · unfold k_bd
        omega
  · refine r_top (y := 28) h6 ?_
    refine r_tsin (tgt := 226) hE dX2_readAtom_6 (by decide) (by decide) rfl (by decide) ?_
    have hz9 : nx ≠ m := fun q => by
      have h0 : (D 68).1 nx = 0 := by rw [q]; exact hK
      exact absurd (h0.symm.trans h6) (by decide)
    refine r_aload_n hE dX2_readAtom_226 rfl ?_
    refine r_dup hE dX2_readAtom_227 rfl ?_
    refine t_geti hE f_X2_87 y_I_66_1 dX2_readAtom_228 (hL 66 (by decide)) ?_
    refine r_top (y := (nI nx)) rfl ?_
    refine r_iconst (v := 1) hE dX2_readAtom_231 (by decide) ?_
    refine r_iaddN (a := nx) (b := 1) hE dX2_readAtom_232 ?_
    refine t_puti hE f_X2_87 y_I_66_1 dX2_readAtom_233 (hL 66 (by decide)) rfl rfl ?_
    rw [k_Q_1]
    refine r_aload_n hE dX2_readAtom_236 rfl ?_
    refine r_iload_n hE dX2_readAtom_237 rfl ?_
    refine r_aload_n hE dX2_readAtom_238 rfl ?_
    refine r_iconst (v := 0) hE dX2_readAtom_239 (by decide) ?_
    refine r_iconst (v := 3) hE dX2_readAtom_240 (by decide) ?_
    by_cases hbd : k_bad (k_nx (D 68).1 (D 70).1 (nx + 1)) 0 3
    · refine t_invv (r := (some (.int (-1)))) (S2 := (y_mk n L (k_Q D (nx + 1) ((D 69).1 (nx + 1)) lc fr tk rc sc LN ST))) hE [.int 0, .int 3] (k_numF hL (by omega) hbd) v_yX2_number m_X2_103 dX2_readAtom_241 rfl (hL 66 (by decide)) (y_l_66 ((k_Q D (nx + 1) wr lc fr tk rc sc LN ST) 66)) rfl (by omega) ⟨Nat.le_refl _, Nat.le_refl _⟩ (Nat.le_of_ble_eq_true rfl) ?_
      show E 0 0 244 [(0, .ref 66), (1, .int (nI g)), (2, .int ((D 68).1 nx))] [.int (-1), .int ((D 68).1 nx), .ref 66] (y_mk n L (k_Q D (nx + 1) ((D 69).1 (nx + 1)) lc fr tk rc sc LN ST))
      refine t_invv (r := (some (.int 0))) (S2 := (y_mk n L (k_Q D (nx + 1) ((D 69).1 (nx + 1)) lc fr tk rc sc LN ST))) hE [.int ((D 68).1 nx), .int (-1)] (k_keepF hL) v_yX2_keepStep m_X2_114 dX2_readAtom_244 rfl (hL 66 (by decide)) (y_l_66 ((k_Q D (nx + 1) ((D 69).1 (nx + 1)) lc fr tk rc sc LN ST) 66)) rfl (by omega) ⟨Nat.le_refl _, Nat.le_refl _⟩ (Nat.le_of_ble_eq_true rfl) ?_
      show E 0 0 247 [(0, .ref 66), (1, .int (nI g)), (2, .int ((D 68).1 nx))] [.int 0] (y_mk n L (k_Q D (nx + 1) ((D 69).1 (nx + 1)) lc fr tk rc sc LN ST))
      refine r_ireturn hE dX2_readAtom_247 rfl (by rfl) (Nat.zero_le _) (Nat.zero_le _) ?_
      refine ⟨_, _, rfl, rfl, false, _, _, _, _, ?_, by decide, rfl, ?_⟩
      · rw [k_atF, if_neg (by rw [h6]; decide), if_neg (by rw [h6]; decide), if_neg (by rw [h6]; decide), if_pos (by rw [h6]; decide), if_pos hbd]
      · unfold k_bd
        omega
    · have hne : (k_nx (D 68).1 (D 70).1 (nx + 1)) ≠ -1 := k_ne (by decide) hbd
      have hk2 := k_2 (by decide) hbd
      have hzz : (nx + 1) ≠ m := fun z => absurd (z ▸ hk2) (by rw [hK]; decide)
      refine t_invv (r := (some (.int (k_nx (D 68).1 (D 70).1 (nx + 1))))) (S2 := (y_mk n L (k_Q D ((nx + 1) + 1) wr lc fr tk rc sc LN ST))) hE [.int 0, .int 3] (k_numT hL (by omega) hbd) v_yX2_number m_X2_103 dX2_readAtom_241 rfl (hL 66 (by decide)) (y_l_66 ((k_Q D (nx + 1) wr lc fr tk rc sc LN ST) 66)) rfl (by omega) ⟨Nat.le_refl _, Nat.le_refl _⟩ (Nat.le_of_ble_eq_true rfl) ?_
      show E 0 0 244 [(0, .ref 66), (1, .int (nI g)), (2, .int ((D 68).1 nx))] [.int (k_nx (D 68).1 (D 70).1 (nx + 1)), .int ((D 68).1 nx), .ref 66] (y_mk n L (k_Q D ((nx + 1) + 1) wr lc fr tk rc sc LN ST))
      refine t_invv (r := (some (.int 1))) (S2 := (y_mk n L (k_Q D ((nx + 1) + 1) wr lc fr tk rc (sc + 1) LN (upd ST sc (((D 68).1 nx) * 1024 + (k_nx (D 68).1 (D 70).1 (nx + 1))))))) hE [.int ((D 68).1 nx), .int (k_nx (D 68).1 (D 70).1 (nx + 1))] (k_keepT hL (by first | decide | exact hne) (by omega)) v_yX2_keepStep m_X2_114 dX2_readAtom_244 rfl (hL 66 (by decide)) (y_l_66 ((k_Q D ((nx + 1) + 1) wr lc fr tk rc sc LN ST) 66)) rfl (by omega) ⟨Nat.le_refl _, Nat.le_refl _⟩ (Nat.le_of_ble_eq_true rfl) ?_
      show E 0 0 247 [(0, .ref 66), (1, .int (nI g)), (2, .int ((D 68).1 nx))] [.int 1] (y_mk n L (k_Q D ((nx + 1) + 1) wr lc fr tk rc (sc + 1) LN (upd ST sc (((D 68).1 nx) * 1024 + (k_nx (D 68).1 (D 70).1 (nx + 1))))))
      refine r_ireturn hE dX2_readAtom_247 rfl (by rfl) (Nat.zero_le _) (Nat.zero_le _) ?_
      refine ⟨_, _, rfl, rfl, true, _, _, _, _, ?_, by decide, rfl, ?_⟩
      · rw [k_atF, if_neg (by rw [h6]; decide), if_neg (by rw [h6]; decide), if_neg (by rw [h6]; decide), if_pos (by rw [h6]; decide), if_neg hbd]
      · unfold k_bd
        omega
theorem k_readAtom {V : x_E} {n : Nat} {L : List Nat} {D : y_D} {m lc : Nat} {fr tk rc : Int32} {LN : Nat → Int32} (hL : y_ok L) (hm : m ≤ 400) (hK : (D 68).1 m = 0) : ∀ k g : Nat, k + g = 7 → 1 ≤ k → k_Ct V n L D m lc fr tk rc LN yX2_readAtom cX2_readAtom 3 (2 * k + 1) g (k_at (D 68).1 (D 69).1 (D 70).1 k g) := by
  intro k
  induction k with
  | zero => intro g _ h; omega
  | succ k ih =>
    intro g hg _
    rcases k with _ | k
    · exact k_readAtomF (dA := 1) hL hm hK (by omega) (by omega) (fun c => absurd c (by omega)) (fun c => absurd c (by omega))
    · have hI := ih (g + 1) (by omega) (by omega)
      rw [show 2 * (k + 1 + 1) + 1 = (2 * (k + 1) + 1) + 2 by omega]
      exact k_readAtomF hL hm hK (by omega) (by omega) (fun _ => k_readCondition hL hm hK (by omega) hI) (fun _ => hI)
theorem k_readCondition0 {V : x_E} {n : Nat} {L : List Nat} {D : y_D} {m lc : Nat} {fr tk rc : Int32} {LN : Nat → Int32} (hL : y_ok L) (hm : m ≤ 400) (hK : (D 68).1 m = 0) : k_Ct V n L D m lc fr tk rc LN yX2_readCondition cX2_readCondition 6 16 0 (k_cd (D 68).1 (k_at (D 68).1 (D 69).1 (D 70).1 7 0)) := k_readCondition hL hm hK (dA := 15) (by omega) (k_readAtom hL hm hK 7 0 rfl (by omega))

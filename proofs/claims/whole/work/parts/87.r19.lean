/-! the class's reader: LINES of a RULE -/
theorem k_lineF {V : x_E} {n : Nat} {L : List Nat} {D : y_D} {t a b : Int32} {nx lc sc : Nat} {wr fr tk rc : Int32} {LN ST : Nat → Int32} (hL : y_ok L) (hx : nx < 401) (hlc : lc ≤ 30) (h : ¬ (a ≠ -1 ∧ b ≠ -1 ∧ lc + 3 ≤ 30)) : x_Fn V yX2_keepLine cX2_keepLine 4 (some .boolean) 0 [.ref 66, .int t, .int a, .int b] (y_mk n L (k_Q D nx wr lc fr tk rc sc LN ST)) (some (.int 0)) (y_mk n L (k_Q D nx wr lc fr tk rc sc LN ST)) := by
  have h0 := k_keepLine (V := V) (n := n) (D := D) (nx := nx) (wr := wr) (fr := fr) (tk := tk) (rc := rc) (sc := sc) (LN := LN) (ST := ST) (t := t) (a := a) (b := b) hL hx hlc
  rw [if_neg h, if_neg h, y_b_f h] at h0
  exact h0
theorem k_lineT {V : x_E} {n : Nat} {L : List Nat} {D : y_D} {t a b : Int32} {nx lc sc : Nat} {wr fr tk rc : Int32} {LN ST : Nat → Int32} (hL : y_ok L) (hx : nx < 401) (hlc : lc ≤ 30) (h : a ≠ -1 ∧ b ≠ -1 ∧ lc + 3 ≤ 30) : x_Fn V yX2_keepLine cX2_keepLine 4 (some .boolean) 0 [.ref 66, .int t, .int a, .int b] (y_mk n L (k_Q D nx wr lc fr tk rc sc LN ST)) (some (.int 1)) (y_mk n L (k_Q D nx wr (lc + 3) fr tk rc sc (upd (upd (upd LN lc t) (lc + 1) a) (lc + 2) b) ST)) := by
  have h0 := k_keepLine (V := V) (n := n) (D := D) (nx := nx) (wr := wr) (fr := fr) (tk := tk) (rc := rc) (sc := sc) (LN := LN) (ST := ST) (t := t) (a := a) (b := b) hL hx hlc
  rw [if_pos h, if_pos h, y_b_t h] at h0
  exact h0
abbrev k_FL : Type := Nat → Int32 → Nat → (Nat → Int32) → Bool × k_U
/-- what a LINE's piece answers: as F says -/
def k_Rl (D : y_D) (m : Nat) (fr tk rc : Int32) (sc : Nat) (ST : Nat → Int32) (F : k_FL) (nx : Nat) (wr : Int32) (lc : Nat) (LN : Nat → Int32) (v : Int32) (D2 : y_D) : Prop := ∃ (ok : Bool) (nx2 : Nat) (wr2 : Int32) (lc2 : Nat) (LN2 : Nat → Int32), F nx wr lc LN = (ok, nx2, wr2, lc2, LN2) ∧ v = y_b (ok = true) ∧ D2 = k_Q D nx2 wr2 lc2 fr tk rc sc LN2 ST ∧ nx ≤ nx2 ∧ nx2 ≤ m ∧ (ok = true → lc2 = lc + 3)
/-- a number, a word t between (2: none), another number -/
def k_pair (K B C : Nat → Int32) (kd hi1 t : Int32) (lo2 : Int32 → Int32) (hi2 : Int32) : k_FL := fun nx wr lc LN =>
  if k_bad (k_nx K C nx) 0 hi1 then (false, nx, B nx, lc, LN)
  else if t ≠ 2 ∧ ¬ K (nx + 1) = t then (false, nx + 1, B (nx + 1), lc, LN)
  else if k_bad (k_nx K C (if t = 2 then nx + 1 else nx + 1 + 1)) (lo2 (k_nx K C nx)) hi2 then (false, if t = 2 then nx + 1 else nx + 1 + 1, B (if t = 2 then nx + 1 else nx + 1 + 1), lc, LN)
  else (true, (if t = 2 then nx + 1 else nx + 1 + 1) + 1, wr, lc + 3, upd (upd (upd LN lc kd) (lc + 1) (k_nx K C nx)) (lc + 2) (k_nx K C (if t = 2 then nx + 1 else nx + 1 + 1)))
theorem k_0le {K C : Nat → Int32} {j : Nat} {hi : Int32} (h : ¬ k_bad (k_nx K C j) 0 hi) : (-1 : Int32) < k_nx K C j := by
  have h1 : ¬ k_nx K C j < 0 := fun c => h (Or.inl c)
  exact Int32.lt_of_lt_of_le (by decide) (Int32.not_lt.mp h1)
theorem k_pair_hold {V : x_E} {n : Nat} {L : List Nat} {D : y_D} {m nx lc sc : Nat} {wr fr tk rc : Int32} {LN ST : Nat → Int32} (hL : y_ok L) (hm : m ≤ 400) (hK : (D 68).1 m = 0) (hx : nx ≤ m) (hlc : lc + 3 ≤ 30) : y_Ri V yX2_readPair cX2_readPair 8 (some .boolean) 2 [.ref 66, .int 10, .int 3, .int 11, .int 1, .int 7] n L (k_Q D nx wr lc fr tk rc sc LN ST) (k_Rl D m fr tk rc sc ST (k_pair (D 68).1 (D 69).1 (D 70).1 10 3 11 (fun z => 1) 7) nx wr lc LN) := by
  refine y_ri (by decide) (Nat.le_of_ble_eq_true rfl) (fun E hE => ?_)
  change E 0 0 0 [(0, .ref 66), (1, .int 10), (2, .int 3), (3, .int 11), (4, .int 1), (5, .int 7)] [] (y_mk n L (k_Q D nx wr lc fr tk rc sc LN ST))
  refine r_aload_n hE dX2_readPair_0 rfl ?_
  refine r_iconst (v := 0) hE dX2_readPair_1 (by decide) ?_
  refine r_iload_n hE dX2_readPair_2 rfl ?_
  by_cases hb1 : k_bad (k_nx (D 68).1 (D 70).1 nx) 0 3
  · refine t_invv (r := (some (.int (-1)))) (S2 := (y_mk n L (k_Q D nx ((D 69).1 nx) lc fr tk rc sc LN ST))) hE [.int 0, .int 3] (k_numF hL (by omega) hb1) v_yX2_number m_X2_103 dX2_readPair_3 rfl (hL 66 (by decide)) (y_l_66 ((k_Q D nx wr lc fr tk rc sc LN ST) 66)) rfl (by decide) ⟨Nat.le_refl _, Nat.le_refl _⟩ (Nat.le_of_ble_eq_true rfl) ?_
    show E 0 0 6 [(0, .ref 66), (1, .int 10), (2, .int 3), (3, .int 11), (4, .int 1), (5, .int 7)] [.int (-1)] (y_mk n L (k_Q D nx ((D 69).1 nx) lc fr tk rc sc LN ST))
    refine r_istore (ls2 := [(0, .ref 66), (1, .int 10), (2, .int 3), (3, .int 11), (4, .int 1), (5, .int 7), (6, .int (-1))]) hE dX2_readPair_6 (by decide) rfl ?_
    refine r_iload hE dX2_readPair_8 rfl ?_
    refine r_iconst (v := (-1)) hE dX2_readPair_10 (by decide) ?_
    refine r_icmp_eq (tgt := 27) hE dX2_readPair_11 (by decide) (fun _ => ?_) (fun c11 => by first | exact absurd c11 (by decide) | exact absurd (by decide) c11)
    refine r_iconst (v := 0) hE dX2_readPair_27 (by decide) ?_
    refine r_ireturn hE dX2_readPair_28 rfl (by rfl) (Nat.zero_le _) (Nat.zero_le _) ?_
    refine ⟨_, _, rfl, rfl, false, _, _, _, _, ?_, by decide, rfl, by omega, by omega, fun q => by first | rfl | exact absurd q (by decide)⟩
    rw [k_pair, if_pos hb1]
  · have hb1n : (k_nx (D 68).1 (D 70).1 nx) ≠ -1 := k_ne (by decide) hb1
    have hb1k := k_2 (by decide) hb1
    have hb1z : nx ≠ m := fun z => absurd (z ▸ hb1k) (by rw [hK]; decide)
    refine t_invv (r := (some (.int (k_nx (D 68).1 (D 70).1 nx)))) (S2 := (y_mk n L (k_Q D (nx + 1) wr lc fr tk rc sc LN ST))) hE [.int 0, .int 3] (k_numT hL (by omega) hb1) v_yX2_number m_X2_103 dX2_readPair_3 rfl (hL 66 (by decide)) (y_l_66 ((k_Q D nx wr lc fr tk rc sc LN ST) 66)) rfl (by decide) ⟨Nat.le_refl _, Nat.le_refl _⟩ (Nat.le_of_ble_eq_true rfl) ?_
    show E 0 0 6 [(0, .ref 66), (1, .int 10), (2, .int 3), (3, .int 11), (4, .int 1), (5, .int 7)] [.int (k_nx (D 68).1 (D 70).1 nx)] (y_mk n L (k_Q D (nx + 1) wr lc fr tk rc sc LN ST))
    refine r_istore (ls2 := [(0, .ref 66), (1, .int 10), (2, .int 3), (3, .int 11), (4, .int 1), (5, .int 7), (6, .int (k_nx (D 68).1 (D 70).1 nx))]) hE dX2_readPair_6 (by decide) rfl ?_
    refine r_iload hE dX2_readPair_8 rfl ?_
    refine r_iconst (v := (-1)) hE dX2_readPair_10 (by decide) ?_
    refine r_icmp_eq (tgt := 27) hE dX2_readPair_11 (by decide) (fun c11 => ?_) (fun c11 => ?_)
    · refine r_iconst (v := 0) hE dX2_readPair_27 (by decide) ?_
      refine r_ireturn hE dX2_readPair_28 rfl (by rfl) (Nat.zero_le _) (Nat.zero_le _) ?_
      exact absurd c11 hb1n
    · refine r_iload_n hE dX2_readPair_14 rfl ?_
      refine r_iconst (v := 2) hE dX2_readPair_15 (by decide) ?_
      refine r_icmp_eq (tgt := 29) hE dX2_readPair_16 (by decide) (fun c16 => by first | exact absurd c16 (by decide) | exact absurd (by decide) c16) (fun _ => ?_)
      refine r_aload_n hE dX2_readPair_19 rfl ?_
      refine r_iload_n hE dX2_readPair_20 rfl ?_
      by_cases hps : ¬ (D 68).1 (nx + 1) = 11
      · refine t_invv (r := (some (.int 0))) (S2 := (y_mk n L (k_Q D (nx + 1) ((D 69).1 (nx + 1)) lc fr tk rc sc LN ST))) hE [.int 11] (k_passF hL (by omega) hps) v_yX2_pass m_X2_51 dX2_readPair_21 rfl (hL 66 (by decide)) (y_l_66 ((k_Q D (nx + 1) wr lc fr tk rc sc LN ST) 66)) rfl (by decide) ⟨Nat.le_refl _, Nat.le_refl _⟩ (Nat.le_of_ble_eq_true rfl) ?_
        show E 0 0 24 [(0, .ref 66), (1, .int 10), (2, .int 3), (3, .int 11), (4, .int 1), (5, .int 7), (6, .int (k_nx (D 68).1 (D 70).1 nx))] [.int 0] (y_mk n L (k_Q D (nx + 1) ((D 69).1 (nx + 1)) lc fr tk rc sc LN ST))
        refine r_if_ne (tgt := 29) hE dX2_readPair_24 (by decide) (fun c24 => by first | exact absurd c24 (by decide) | exact absurd (by decide) c24) (fun _ => ?_)
        refine r_iconst (v := 0) hE dX2_readPair_27 (by decide) ?_
        refine r_ireturn hE dX2_readPair_28 rfl (by rfl) (Nat.zero_le _) (Nat.zero_le _) ?_
        refine ⟨_, _, rfl, rfl, false, _, _, _, _, ?_, by decide, rfl, by omega, by omega, fun q => by first | rfl | exact absurd q (by decide)⟩
        rw [k_pair, if_neg hb1, if_pos ⟨by decide, hps⟩]
      · have hps2 : (D 68).1 (nx + 1) = 11 := Decidable.of_not_not hps
        have hpz : (nx + 1) ≠ m := fun z => absurd (z ▸ hps2) (by rw [hK]; decide)
        refine t_invv (r := (some (.int 1))) (S2 := (y_mk n L (k_Q D ((nx + 1) + 1) wr lc fr tk rc sc LN ST))) hE [.int 11] (k_passT hL (by omega) hps2) v_yX2_pass m_X2_51 dX2_readPair_21 rfl (hL 66 (by decide)) (y_l_66 ((k_Q D (nx + 1) wr lc fr tk rc sc LN ST) 66)) rfl (by decide) ⟨Nat.le_refl _, Nat.le_refl _⟩ (Nat.le_of_ble_eq_true rfl) ?_
        show E 0 0 24 [(0, .ref 66), (1, .int 10), (2, .int 3), (3, .int 11), (4, .int 1), (5, .int 7), (6, .int (k_nx (D 68).1 (D 70).1 nx))] [.int 1] (y_mk n L (k_Q D ((nx + 1) + 1) wr lc fr tk rc sc LN ST))
        refine r_if_ne (tgt := 29) hE dX2_readPair_24 (by decide) (fun _ => ?_) (fun c24 => by first | exact absurd c24 (by decide) | exact absurd (by decide) c24)
        refine r_iload_n hE dX2_readPair_29 rfl ?_
        refine r_bipush (v := 13) hE dX2_readPair_30 (by decide) ?_
        refine r_icmp_ne (tgt := 40) hE dX2_readPair_32 (by decide) (fun _ => ?_) (fun c32 => by first | exact absurd c32 (by decide) | exact absurd (by decide) c32)
        refine r_iload hE dX2_readPair_40 rfl ?_
        refine r_istore (ls2 := [(0, .ref 66), (1, .int 10), (2, .int 3), (3, .int 11), (4, .int 1), (5, .int 7), (6, .int (k_nx (D 68).1 (D 70).1 nx)), (7, .int 1)]) hE dX2_readPair_42 (by decide) rfl ?_
        refine r_aload_n hE dX2_readPair_44 rfl ?_
        refine r_iload_n hE dX2_readPair_45 rfl ?_
        refine r_iload hE dX2_readPair_46 rfl ?_
        refine r_aload_n hE dX2_readPair_48 rfl ?_
        refine r_iload hE dX2_readPair_49 rfl ?_
        refine r_iload hE dX2_readPair_51 rfl ?_
        by_cases hb2 : k_bad (k_nx (D 68).1 (D 70).1 ((nx + 1) + 1)) 1 7
        · refine t_invv (r := (some (.int (-1)))) (S2 := (y_mk n L (k_Q D ((nx + 1) + 1) ((D 69).1 ((nx + 1) + 1)) lc fr tk rc sc LN ST))) hE [.int 1, .int 7] (k_numF hL (by omega) hb2) v_yX2_number m_X2_103 dX2_readPair_53 rfl (hL 66 (by decide)) (y_l_66 ((k_Q D ((nx + 1) + 1) wr lc fr tk rc sc LN ST) 66)) rfl (by decide) ⟨Nat.le_refl _, Nat.le_refl _⟩ (Nat.le_of_ble_eq_true rfl) ?_
          show E 0 0 56 [(0, .ref 66), (1, .int 10), (2, .int 3), (3, .int 11), (4, .int 1), (5, .int 7), (6, .int (k_nx (D 68).1 (D 70).1 nx)), (7, .int 1)] [.int (-1), .int (k_nx (D 68).1 (D 70).1 nx), .int 10, .ref 66] (y_mk n L (k_Q D ((nx + 1) + 1) ((D 69).1 ((nx + 1) + 1)) lc fr tk rc sc LN ST))
          refine t_invv (r := (some (.int 0))) (S2 := (y_mk n L (k_Q D ((nx + 1) + 1) ((D 69).1 ((nx + 1) + 1)) lc fr tk rc sc LN ST))) hE [.int 10, .int (k_nx (D 68).1 (D 70).1 nx), .int (-1)] (k_lineF hL (by omega) (by omega) (fun z => z.2.1 rfl)) v_yX2_keepLine m_X2_107 dX2_readPair_56 rfl (hL 66 (by decide)) (y_l_66 ((k_Q D ((nx + 1) + 1) ((D 69).1 ((nx + 1) + 1)) lc fr tk rc sc LN ST) 66)) rfl (by decide) ⟨Nat.le_refl _, Nat.le_refl _⟩ (Nat.le_of_ble_eq_true rfl) ?_
          show E 0 0 59 [(0, .ref 66), (1, .int 10), (2, .int 3), (3, .int 11), (4, .int 1), (5, .int 7), (6, .int (k_nx (D 68).1 (D 70).1 nx)), (7, .int 1)] [.int 0] (y_mk n L (k_Q D ((nx + 1) + 1) ((D 69).1 ((nx + 1) + 1)) lc fr tk rc sc LN ST))
          refine r_ireturn hE dX2_readPair_59 rfl (by rfl) (Nat.zero_le _) (Nat.zero_le _) ?_
          refine ⟨_, _, rfl, rfl, false, _, _, _, _, ?_, by decide, rfl, by omega, by omega, fun q => by first | rfl | exact absurd q (by decide)⟩
          rw [k_pair, if_neg hb1, if_neg (fun z => z.2 hps2), if_neg (show ¬ (11 : Int32) = 2 by decide), if_pos hb2]
        · have hb2n : (k_nx (D 68).1 (D 70).1 ((nx + 1) + 1)) ≠ -1 := k_ne (by decide) hb2
          have hb2k := k_2 (by decide) hb2
          have hb2z : ((nx + 1) + 1) ≠ m := fun z => absurd (z ▸ hb2k) (by rw [hK]; decide)
          refine t_invv (r := (some (.int (k_nx (D 68).1 (D 70).1 ((nx + 1) + 1))))) (S2 := (y_mk n L (k_Q D (((nx + 1) + 1) + 1) wr lc fr tk rc sc LN ST))) hE [.int 1, .int 7] (k_numT hL (by omega) hb2) v_yX2_number m_X2_103 dX2_readPair_53 rfl (hL 66 (by decide)) (y_l_66 ((k_Q D ((nx + 1) + 1) wr lc fr tk rc sc LN ST) 66)) rfl (by decide) ⟨Nat.le_refl _, Nat.le_refl _⟩ (Nat.le_of_ble_eq_true rfl) ?_
          show E 0 0 56 [(0, .ref 66), (1, .int 10), (2, .int 3), (3, .int 11), (4, .int 1), (5, .int 7), (6, .int (k_nx (D 68).1 (D 70).1 nx)), (7, .int 1)] [.int (k_nx (D 68).1 (D 70).1 ((nx + 1) + 1)), .int (k_nx (D 68).1 (D 70).1 nx), .int 10, .ref 66] (y_mk n L (k_Q D (((nx + 1) + 1) + 1) wr lc fr tk rc sc LN ST))
          refine t_invv (r := (some (.int 1))) (S2 := (y_mk n L (k_Q D (((nx + 1) + 1) + 1) wr (lc + 3) fr tk rc sc (upd (upd (upd LN lc 10) (lc + 1) (k_nx (D 68).1 (D 70).1 nx)) (lc + 2) (k_nx (D 68).1 (D 70).1 ((nx + 1) + 1))) ST))) hE [.int 10, .int (k_nx (D 68).1 (D 70).1 nx), .int (k_nx (D 68).1 (D 70).1 ((nx + 1) + 1))] (k_lineT hL (by omega) (by omega) ⟨hb1n, hb2n, hlc⟩) v_yX2_keepLine m_X2_107 dX2_readPair_56 rfl (hL 66 (by decide)) (y_l_66 ((k_Q D (((nx + 1) + 1) + 1) wr lc fr tk rc sc LN ST) 66)) rfl (by decide) ⟨Nat.le_refl _, Nat.le_refl _⟩ (Nat.le_of_ble_eq_true rfl) ?_
          show E 0 0 59 [(0, .ref 66), (1, .int 10), (2, .int 3), (3, .int 11), (4, .int 1), (5, .int 7), (6, .int (k_nx (D 68).1 (D 70).1 nx)), (7, .int 1)] [.int 1] (y_mk n L (k_Q D (((nx + 1) + 1) + 1) wr (lc + 3) fr tk rc sc (upd (upd (upd LN lc 10) (lc + 1) (k_nx (D 68).1 (D 70).1 nx)) (lc + 2) (k_nx (D 68).1 (D 70).1 ((nx + 1) + 1))) ST))
          refine r_ireturn hE dX2_readPair_59 rfl (by rfl) (Nat.zero_le _) (Nat.zero_le _) ?_
          refine ⟨_, _, rfl, rfl, true, _, _, _, _, ?_, by decide, rfl, by omega, by omega, fun q => by first | rfl | exact absurd q (by decide)⟩
          rw [k_pair, if_neg hb1, if_neg (fun z => z.2 hps2), if_neg (show ¬ (11 : Int32) = 2 by decide), if_neg hb2]
theorem k_pair_tie {V : x_E} {n : Nat} {L : List Nat} {D : y_D} {m nx lc sc : Nat} {wr fr tk rc : Int32} {LN ST : Nat → Int32} (hL : y_ok L) (hm : m ≤ 400) (hK : (D 68).1 m = 0) (hx : nx ≤ m) (hlc : lc + 3 ≤ 30) : y_Ri V yX2_readPair cX2_readPair 8 (some .boolean) 2 [.ref 66, .int 12, .int 3, .int 2, .int 0, .int 99] n L (k_Q D nx wr lc fr tk rc sc LN ST) (k_Rl D m fr tk rc sc ST (k_pair (D 68).1 (D 69).1 (D 70).1 12 3 2 (fun z => 0) 99) nx wr lc LN) := by
  refine y_ri (by decide) (Nat.le_of_ble_eq_true rfl) (fun E hE => ?_)
  change E 0 0 0 [(0, .ref 66), (1, .int 12), (2, .int 3), (3, .int 2), (4, .int 0), (5, .int 99)] [] (y_mk n L (k_Q D nx wr lc fr tk rc sc LN ST))
  refine r_aload_n hE dX2_readPair_0 rfl ?_
  refine r_iconst (v := 0) hE dX2_readPair_1 (by decide) ?_
  refine r_iload_n hE dX2_readPair_2 rfl ?_
  by_cases hb1 : k_bad (k_nx (D 68).1 (D 70).1 nx) 0 3
  · refine t_invv (r := (some (.int (-1)))) (S2 := (y_mk n L (k_Q D nx ((D 69).1 nx) lc fr tk rc sc LN ST))) hE [.int 0, .int 3] (k_numF hL (by omega) hb1) v_yX2_number m_X2_103 dX2_readPair_3 rfl (hL 66 (by decide)) (y_l_66 ((k_Q D nx wr lc fr tk rc sc LN ST) 66)) rfl (by decide) ⟨Nat.le_refl _, Nat.le_refl _⟩ (Nat.le_of_ble_eq_true rfl) ?_
    show E 0 0 6 [(0, .ref 66), (1, .int 12), (2, .int 3), (3, .int 2), (4, .int 0), (5, .int 99)] [.int (-1)] (y_mk n L (k_Q D nx ((D 69).1 nx) lc fr tk rc sc LN ST))
    refine r_istore (ls2 := [(0, .ref 66), (1, .int 12), (2, .int 3), (3, .int 2), (4, .int 0), (5, .int 99), (6, .int (-1))]) hE dX2_readPair_6 (by decide) rfl ?_
    refine r_iload hE dX2_readPair_8 rfl ?_
    refine r_iconst (v := (-1)) hE dX2_readPair_10 (by decide) ?_
    refine r_icmp_eq (tgt := 27) hE dX2_readPair_11 (by decide) (fun _ => ?_) (fun c11 => by first | exact absurd c11 (by decide) | exact absurd (by decide) c11)
    refine r_iconst (v := 0) hE dX2_readPair_27 (by decide) ?_
    refine r_ireturn hE dX2_readPair_28 rfl (by rfl) (Nat.zero_le _) (Nat.zero_le _) ?_
    refine ⟨_, _, rfl, rfl, false, _, _, _, _, ?_, by decide, rfl, by omega, by omega, fun q => by first | rfl | exact absurd q (by decide)⟩
    rw [k_pair, if_pos hb1]
  · have hb1n : (k_nx (D 68).1 (D 70).1 nx) ≠ -1 := k_ne (by decide) hb1
    have hb1k := k_2 (by decide) hb1
    have hb1z : nx ≠ m := fun z => absurd (z ▸ hb1k) (by rw [hK]; decide)
    refine t_invv (r := (some (.int (k_nx (D 68).1 (D 70).1 nx)))) (S2 := (y_mk n L (k_Q D (nx + 1) wr lc fr tk rc sc LN ST))) hE [.int 0, .int 3] (k_numT hL (by omega) hb1) v_yX2_number m_X2_103 dX2_readPair_3 rfl (hL 66 (by decide)) (y_l_66 ((k_Q D nx wr lc fr tk rc sc LN ST) 66)) rfl (by decide) ⟨Nat.le_refl _, Nat.le_refl _⟩ (Nat.le_of_ble_eq_true rfl) ?_
    show E 0 0 6 [(0, .ref 66), (1, .int 12), (2, .int 3), (3, .int 2), (4, .int 0), (5, .int 99)] [.int (k_nx (D 68).1 (D 70).1 nx)] (y_mk n L (k_Q D (nx + 1) wr lc fr tk rc sc LN ST))
    refine r_istore (ls2 := [(0, .ref 66), (1, .int 12), (2, .int 3), (3, .int 2), (4, .int 0), (5, .int 99), (6, .int (k_nx (D 68).1 (D 70).1 nx))]) hE dX2_readPair_6 (by decide) rfl ?_
    refine r_iload hE dX2_readPair_8 rfl ?_
    refine r_iconst (v := (-1)) hE dX2_readPair_10 (by decide) ?_
    refine r_icmp_eq (tgt := 27) hE dX2_readPair_11 (by decide) (fun c11 => ?_) (fun c11 => ?_)
    · refine r_iconst (v := 0) hE dX2_readPair_27 (by decide) ?_
      refine r_ireturn hE dX2_readPair_28 rfl (by rfl) (Nat.zero_le _) (Nat.zero_le _) ?_
      exact absurd c11 hb1n
    · refine r_iload_n hE dX2_readPair_14 rfl ?_
      refine r_iconst (v := 2) hE dX2_readPair_15 (by decide) ?_
      refine r_icmp_eq (tgt := 29) hE dX2_readPair_16 (by decide) (fun _ => ?_) (fun c16 => by first | exact absurd c16 (by decide) | exact absurd (by decide) c16)
      refine r_iload_n hE dX2_readPair_29 rfl ?_
      refine r_bipush (v := 13) hE dX2_readPair_30 (by decide) ?_
      refine r_icmp_ne (tgt := 40) hE dX2_readPair_32 (by decide) (fun _ => ?_) (fun c32 => by first | exact absurd c32 (by decide) | exact absurd (by decide) c32)
      refine r_iload hE dX2_readPair_40 rfl ?_
      refine r_istore (ls2 := [(0, .ref 66), (1, .int 12), (2, .int 3), (3, .int 2), (4, .int 0), (5, .int 99), (6, .int (k_nx (D 68).1 (D 70).1 nx)), (7, .int 0)]) hE dX2_readPair_42 (by decide) rfl ?_
      refine r_aload_n hE dX2_readPair_44 rfl ?_
      refine r_iload_n hE dX2_readPair_45 rfl ?_
      refine r_iload hE dX2_readPair_46 rfl ?_
      refine r_aload_n hE dX2_readPair_48 rfl ?_
      refine r_iload hE dX2_readPair_49 rfl ?_
      refine r_iload hE dX2_readPair_51 rfl ?_
      by_cases hb2 : k_bad (k_nx (D 68).1 (D 70).1 (nx + 1)) 0 99
      · refine t_invv (r := (some (.int (-1)))) (S2 := (y_mk n L (k_Q D (nx + 1) ((D 69).1 (nx + 1)) lc fr tk rc sc LN ST))) hE [.int 0, .int 99] (k_numF hL (by omega) hb2) v_yX2_number m_X2_103 dX2_readPair_53 rfl (hL 66 (by decide)) (y_l_66 ((k_Q D (nx + 1) wr lc fr tk rc sc LN ST) 66)) rfl (by decide) ⟨Nat.le_refl _, Nat.le_refl _⟩ (Nat.le_of_ble_eq_true rfl) ?_
        show E 0 0 56 [(0, .ref 66), (1, .int 12), (2, .int 3), (3, .int 2), (4, .int 0), (5, .int 99), (6, .int (k_nx (D 68).1 (D 70).1 nx)), (7, .int 0)] [.int (-1), .int (k_nx (D 68).1 (D 70).1 nx), .int 12, .ref 66] (y_mk n L (k_Q D (nx + 1) ((D 69).1 (nx + 1)) lc fr tk rc sc LN ST))
        refine t_invv (r := (some (.int 0))) (S2 := (y_mk n L (k_Q D (nx + 1) ((D 69).1 (nx + 1)) lc fr tk rc sc LN ST))) hE [.int 12, .int (k_nx (D 68).1 (D 70).1 nx), .int (-1)] (k_lineF hL (by omega) (by omega) (fun z => z.2.1 rfl)) v_yX2_keepLine m_X2_107 dX2_readPair_56 rfl (hL 66 (by decide)) (y_l_66 ((k_Q D (nx + 1) ((D 69).1 (nx + 1)) lc fr tk rc sc LN ST) 66)) rfl (by decide) ⟨Nat.le_refl _, Nat.le_refl _⟩ (Nat.le_of_ble_eq_true rfl) ?_
        show E 0 0 59 [(0, .ref 66), (1, .int 12), (2, .int 3), (3, .int 2), (4, .int 0), (5, .int 99), (6, .int (k_nx (D 68).1 (D 70).1 nx)), (7, .int 0)] [.int 0] (y_mk n L (k_Q D (nx + 1) ((D 69).1 (nx + 1)) lc fr tk rc sc LN ST))
        refine r_ireturn hE dX2_readPair_59 rfl (by rfl) (Nat.zero_le _) (Nat.zero_le _) ?_
        refine ⟨_, _, rfl, rfl, false, _, _, _, _, ?_, by decide, rfl, by omega, by omega, fun q => by first | rfl | exact absurd q (by decide)⟩
        rw [k_pair, if_neg hb1, if_neg (fun z => absurd z.1 (by decide)), if_pos rfl, if_pos hb2]
      · have hb2n : (k_nx (D 68).1 (D 70).1 (nx + 1)) ≠ -1 := k_ne (by decide) hb2
        have hb2k := k_2 (by decide) hb2
        have hb2z : (nx + 1) ≠ m := fun z => absurd (z ▸ hb2k) (by rw [hK]; decide)
        refine t_invv (r := (some (.int (k_nx (D 68).1 (D 70).1 (nx + 1))))) (S2 := (y_mk n L (k_Q D ((nx + 1) + 1) wr lc fr tk rc sc LN ST))) hE [.int 0, .int 99] (k_numT hL (by omega) hb2) v_yX2_number m_X2_103 dX2_readPair_53 rfl (hL 66 (by decide)) (y_l_66 ((k_Q D (nx + 1) wr lc fr tk rc sc LN ST) 66)) rfl (by decide) ⟨Nat.le_refl _, Nat.le_refl _⟩ (Nat.le_of_ble_eq_true rfl) ?_
        show E 0 0 56 [(0, .ref 66), (1, .int 12), (2, .int 3), (3, .int 2), (4, .int 0), (5, .int 99), (6, .int (k_nx (D 68).1 (D 70).1 nx)), (7, .int 0)] [.int (k_nx (D 68).1 (D 70).1 (nx + 1)), .int (k_nx (D 68).1 (D 70).1 nx), .int 12, .ref 66] (y_mk n L (k_Q D ((nx + 1) + 1) wr lc fr tk rc sc LN ST))
        refine t_invv (r := (some (.int 1))) (S2 := (y_mk n L (k_Q D ((nx + 1) + 1) wr (lc + 3) fr tk rc sc (upd (upd (upd LN lc 12) (lc + 1) (k_nx (D 68).1 (D 70).1 nx)) (lc + 2) (k_nx (D 68).1 (D 70).1 (nx + 1))) ST))) hE [.int 12, .int (k_nx (D 68).1 (D 70).1 nx), .int (k_nx (D 68).1 (D 70).1 (nx + 1))] (k_lineT hL (by omega) (by omega) ⟨hb1n, hb2n, hlc⟩) v_yX2_keepLine m_X2_107 dX2_readPair_56 rfl (hL 66 (by decide)) (y_l_66 ((k_Q D ((nx + 1) + 1) wr lc fr tk rc sc LN ST) 66)) rfl (by decide) ⟨Nat.le_refl _, Nat.le_refl _⟩ (Nat.le_of_ble_eq_true rfl) ?_
        show E 0 0 59 [(0, .ref 66), (1, .int 12), (2, .int 3), (3, .int 2), (4, .int 0), (5, .int 99), (6, .int (k_nx (D 68).1 (D 70).1 nx)), (7, .int 0)] [.int 1] (y_mk n L (k_Q D ((nx + 1) + 1) wr (lc + 3) fr tk rc sc (upd (upd (upd LN lc 12) (lc + 1) (k_nx (D 68).1 (D 70).1 nx)) (lc + 2) (k_nx (D 68).1 (D 70).1 (nx + 1))) ST))
        refine r_ireturn hE dX2_readPair_59 rfl (by rfl) (Nat.zero_le _) (Nat.zero_le _) ?_
        refine ⟨_, _, rfl, rfl, true, _, _, _, _, ?_, by decide, rfl, by omega, by omega, fun q => by first | rfl | exact absurd q (by decide)⟩
        rw [k_pair, if_neg hb1, if_neg (fun z => absurd z.1 (by decide)), if_pos rfl, if_neg hb2]
theorem k_pair_lit {V : x_E} {n : Nat} {L : List Nat} {D : y_D} {m nx lc sc : Nat} {wr fr tk rc : Int32} {LN ST : Nat → Int32} (hL : y_ok L) (hm : m ≤ 400) (hK : (D 68).1 m = 0) (hx : nx ≤ m) (hlc : lc + 3 ≤ 30) : y_Ri V yX2_readPair cX2_readPair 8 (some .boolean) 2 [.ref 66, .int 13, .int 300, .int 14, .int 0, .int 300] n L (k_Q D nx wr lc fr tk rc sc LN ST) (k_Rl D m fr tk rc sc ST (k_pair (D 68).1 (D 69).1 (D 70).1 13 300 14 (fun z => z) 300) nx wr lc LN) := by
  refine y_ri (by decide) (Nat.le_of_ble_eq_true rfl) (fun E hE => ?_)
  change E 0 0 0 [(0, .ref 66), (1, .int 13), (2, .int 300), (3, .int 14), (4, .int 0), (5, .int 300)] [] (y_mk n L (k_Q D nx wr lc fr tk rc sc LN ST))
  refine r_aload_n hE dX2_readPair_0 rfl ?_
  refine r_iconst (v := 0) hE dX2_readPair_1 (by decide) ?_
  refine r_iload_n hE dX2_readPair_2 rfl ?_
  by_cases hb1 : k_bad (k_nx (D 68).1 (D 70).1 nx) 0 300
  · refine t_invv (r := (some (.int (-1)))) (S2 := (y_mk n L (k_Q D nx ((D 69).1 nx) lc fr tk rc sc LN ST))) hE [.int 0, .int 300] (k_numF hL (by omega) hb1) v_yX2_number m_X2_103 dX2_readPair_3 rfl (hL 66 (by decide)) (y_l_66 ((k_Q D nx wr lc fr tk rc sc LN ST) 66)) rfl (by decide) ⟨Nat.le_refl _, Nat.le_refl _⟩ (Nat.le_of_ble_eq_true rfl) ?_
    show E 0 0 6 [(0, .ref 66), (1, .int 13), (2, .int 300), (3, .int 14), (4, .int 0), (5, .int 300)] [.int (-1)] (y_mk n L (k_Q D nx ((D 69).1 nx) lc fr tk rc sc LN ST))
    refine r_istore (ls2 := [(0, .ref 66), (1, .int 13), (2, .int 300), (3, .int 14), (4, .int 0), (5, .int 300), (6, .int (-1))]) hE dX2_readPair_6 (by decide) rfl ?_
    refine r_iload hE dX2_readPair_8 rfl ?_
    refine r_iconst (v := (-1)) hE dX2_readPair_10 (by decide) ?_
    refine r_icmp_eq (tgt := 27) hE dX2_readPair_11 (by decide) (fun _ => ?_) (fun c11 => by first | exact absurd c11 (by decide) | exact absurd (by decide) c11)
    refine r_iconst (v := 0) hE dX2_readPair_27 (by decide) ?_
    refine r_ireturn hE dX2_readPair_28 rfl (by rfl) (Nat.zero_le _) (Nat.zero_le _) ?_
    refine ⟨_, _, rfl, rfl, false, _, _, _, _, ?_, by decide, rfl, by omega, by omega, fun q => by first | rfl | exact absurd q (by decide)⟩
    rw [k_pair, if_pos hb1]
  · have hb1n : (k_nx (D 68).1 (D 70).1 nx) ≠ -1 := k_ne (by decide) hb1
    have hb1k := k_2 (by decide) hb1
    have hb1z : nx ≠ m := fun z => absurd (z ▸ hb1k) (by rw [hK]; decide)
    refine t_invv (r := (some (.int (k_nx (D 68).1 (D 70).1 nx)))) (S2 := (y_mk n L (k_Q D (nx + 1) wr lc fr tk rc sc LN ST))) hE [.int 0, .int 300] (k_numT hL (by omega) hb1) v_yX2_number m_X2_103 dX2_readPair_3 rfl (hL 66 (by decide)) (y_l_66 ((k_Q D nx wr lc fr tk rc sc LN ST) 66)) rfl (by decide) ⟨Nat.le_refl _, Nat.le_refl _⟩ (Nat.le_of_ble_eq_true rfl) ?_
    show E 0 0 6 [(0, .ref 66), (1, .int 13), (2, .int 300), (3, .int 14), (4, .int 0), (5, .int 300)] [.int (k_nx (D 68).1 (D 70).1 nx)] (y_mk n L (k_Q D (nx + 1) wr lc fr tk rc sc LN ST))
    refine r_istore (ls2 := [(0, .ref 66), (1, .int 13), (2, .int 300), (3, .int 14), (4, .int 0), (5, .int 300), (6, .int (k_nx (D 68).1 (D 70).1 nx))]) hE dX2_readPair_6 (by decide) rfl ?_
    refine r_iload hE dX2_readPair_8 rfl ?_
    refine r_iconst (v := (-1)) hE dX2_readPair_10 (by decide) ?_
    refine r_icmp_eq (tgt := 27) hE dX2_readPair_11 (by decide) (fun c11 => ?_) (fun c11 => ?_)
    · refine r_iconst (v := 0) hE dX2_readPair_27 (by decide) ?_
      refine r_ireturn hE dX2_readPair_28 rfl (by rfl) (Nat.zero_le _) (Nat.zero_le _) ?_
      exact absurd c11 hb1n
    · refine r_iload_n hE dX2_readPair_14 rfl ?_
      refine r_iconst (v := 2) hE dX2_readPair_15 (by decide) ?_
      refine r_icmp_eq (tgt := 29) hE dX2_readPair_16 (by decide) (fun c16 => by first | exact absurd c16 (by decide) | exact absurd (by decide) c16) (fun _ => ?_)
      refine r_aload_n hE dX2_readPair_19 rfl ?_
      refine r_iload_n hE dX2_readPair_20 rfl ?_
      by_cases hps : ¬ (D 68).1 (nx + 1) = 14
      · refine t_invv (r := (some (.int 0))) (S2 := (y_mk n L (k_Q D (nx + 1) ((D 69).1 (nx + 1)) lc fr tk rc sc LN ST))) hE [.int 14] (k_passF hL (by omega) hps) v_yX2_pass m_X2_51 dX2_readPair_21 rfl (hL 66 (by decide)) (y_l_66 ((k_Q D (nx + 1) wr lc fr tk rc sc LN ST) 66)) rfl (by decide) ⟨Nat.le_refl _, Nat.le_refl _⟩ (Nat.le_of_ble_eq_true rfl) ?_
        show E 0 0 24 [(0, .ref 66), (1, .int 13), (2, .int 300), (3, .int 14), (4, .int 0), (5, .int 300), (6, .int (k_nx (D 68).1 (D 70).1 nx))] [.int 0] (y_mk n L (k_Q D (nx + 1) ((D 69).1 (nx + 1)) lc fr tk rc sc LN ST))
        refine r_if_ne (tgt := 29) hE dX2_readPair_24 (by decide) (fun c24 => by first | exact absurd c24 (by decide) | exact absurd (by decide) c24) (fun _ => ?_)
        refine r_iconst (v := 0) hE dX2_readPair_27 (by decide) ?_
        refine r_ireturn hE dX2_readPair_28 rfl (by rfl) (Nat.zero_le _) (Nat.zero_le _) ?_
        refine ⟨_, _, rfl, rfl, false, _, _, _, _, ?_, by decide, rfl, by omega, by omega, fun q => by first | rfl | exact absurd q (by decide)⟩
        rw [k_pair, if_neg hb1, if_pos ⟨by decide, hps⟩]
      · have hps2 : (D 68).1 (nx + 1) = 14 := Decidable.of_not_not hps
        have hpz : (nx + 1) ≠ m := fun z => absurd (z ▸ hps2) (by rw [hK]; decide)
        refine t_invv (r := (some (.int 1))) (S2 := (y_mk n L (k_Q D ((nx + 1) + 1) wr lc fr tk rc sc LN ST))) hE [.int 14] (k_passT hL (by omega) hps2) v_yX2_pass m_X2_51 dX2_readPair_21 rfl (hL 66 (by decide)) (y_l_66 ((k_Q D (nx + 1) wr lc fr tk rc sc LN ST) 66)) rfl (by decide) ⟨Nat.le_refl _, Nat.le_refl _⟩ (Nat.le_of_ble_eq_true rfl) ?_
        show E 0 0 24 [(0, .ref 66), (1, .int 13), (2, .int 300), (3, .int 14), (4, .int 0), (5, .int 300), (6, .int (k_nx (D 68).1 (D 70).1 nx))] [.int 1] (y_mk n L (k_Q D ((nx + 1) + 1) wr lc fr tk rc sc LN ST))
        refine r_if_ne (tgt := 29) hE dX2_readPair_24 (by decide) (fun _ => ?_) (fun c24 => by first | exact absurd c24 (by decide) | exact absurd (by decide) c24)
        refine r_iload_n hE dX2_readPair_29 rfl ?_
        refine r_bipush (v := 13) hE dX2_readPair_30 (by decide) ?_
        refine r_icmp_ne (tgt := 40) hE dX2_readPair_32 (by decide) (fun c32 => by first | exact absurd c32 (by decide) | exact absurd (by decide) c32) (fun _ => ?_)
        refine r_iload hE dX2_readPair_35 rfl ?_
        refine r_goto (tgt := 42) hE dX2_readPair_37 (by decide) ?_
        refine r_istore (ls2 := [(0, .ref 66), (1, .int 13), (2, .int 300), (3, .int 14), (4, .int 0), (5, .int 300), (6, .int (k_nx (D 68).1 (D 70).1 nx)), (7, .int (k_nx (D 68).1 (D 70).1 nx))]) hE dX2_readPair_42 (by decide) rfl ?_
        refine r_aload_n hE dX2_readPair_44 rfl ?_
        refine r_iload_n hE dX2_readPair_45 rfl ?_
        refine r_iload hE dX2_readPair_46 rfl ?_
        refine r_aload_n hE dX2_readPair_48 rfl ?_
        refine r_iload hE dX2_readPair_49 rfl ?_
        refine r_iload hE dX2_readPair_51 rfl ?_
        by_cases hb2 : k_bad (k_nx (D 68).1 (D 70).1 ((nx + 1) + 1)) (k_nx (D 68).1 (D 70).1 nx) 300
        · refine t_invv (r := (some (.int (-1)))) (S2 := (y_mk n L (k_Q D ((nx + 1) + 1) ((D 69).1 ((nx + 1) + 1)) lc fr tk rc sc LN ST))) hE [.int (k_nx (D 68).1 (D 70).1 nx), .int 300] (k_numF hL (by omega) hb2) v_yX2_number m_X2_103 dX2_readPair_53 rfl (hL 66 (by decide)) (y_l_66 ((k_Q D ((nx + 1) + 1) wr lc fr tk rc sc LN ST) 66)) rfl (by decide) ⟨Nat.le_refl _, Nat.le_refl _⟩ (Nat.le_of_ble_eq_true rfl) ?_
          show E 0 0 56 [(0, .ref 66), (1, .int 13), (2, .int 300), (3, .int 14), (4, .int 0), (5, .int 300), (6, .int (k_nx (D 68).1 (D 70).1 nx)), (7, .int (k_nx (D 68).1 (D 70).1 nx))] [.int (-1), .int (k_nx (D 68).1 (D 70).1 nx), .int 13, .ref 66] (y_mk n L (k_Q D ((nx + 1) + 1) ((D 69).1 ((nx + 1) + 1)) lc fr tk rc sc LN ST))
          refine t_invv (r := (some (.int 0))) (S2 := (y_mk n L (k_Q D ((nx + 1) + 1) ((D 69).1 ((nx + 1) + 1)) lc fr tk rc sc LN ST))) hE [.int 13, .int (k_nx (D 68).1 (D 70).1 nx), .int (-1)] (k_lineF hL (by omega) (by omega) (fun z => z.2.1 rfl)) v_yX2_keepLine m_X2_107 dX2_readPair_56 rfl (hL 66 (by decide)) (y_l_66 ((k_Q D ((nx + 1) + 1) ((D 69).1 ((nx + 1) + 1)) lc fr tk rc sc LN ST) 66)) rfl (by decide) ⟨Nat.le_refl _, Nat.le_refl _⟩ (Nat.le_of_ble_eq_true rfl) ?_
          show E 0 0 59 [(0, .ref 66), (1, .int 13), (2, .int 300), (3, .int 14), (4, .int 0), (5, .int 300), (6, .int (k_nx (D 68).1 (D 70).1 nx)), (7, .int (k_nx (D 68).1 (D 70).1 nx))] [.int 0] (y_mk n L (k_Q D ((nx + 1) + 1) ((D 69).1 ((nx + 1) + 1)) lc fr tk rc sc LN ST))
          refine r_ireturn hE dX2_readPair_59 rfl (by rfl) (Nat.zero_le _) (Nat.zero_le _) ?_
          refine ⟨_, _, rfl, rfl, false, _, _, _, _, ?_, by decide, rfl, by omega, by omega, fun q => by first | rfl | exact absurd q (by decide)⟩
          rw [k_pair, if_neg hb1, if_neg (fun z => z.2 hps2), if_neg (show ¬ (14 : Int32) = 2 by decide), if_pos hb2]
        · have hb2n : (k_nx (D 68).1 (D 70).1 ((nx + 1) + 1)) ≠ -1 := k_ne (k_0le hb1) hb2
          have hb2k := k_2 (k_0le hb1) hb2
          have hb2z : ((nx + 1) + 1) ≠ m := fun z => absurd (z ▸ hb2k) (by rw [hK]; decide)
          refine t_invv (r := (some (.int (k_nx (D 68).1 (D 70).1 ((nx + 1) + 1))))) (S2 := (y_mk n L (k_Q D (((nx + 1) + 1) + 1) wr lc fr tk rc sc LN ST))) hE [.int (k_nx (D 68).1 (D 70).1 nx), .int 300] (k_numT hL (by omega) hb2) v_yX2_number m_X2_103 dX2_readPair_53 rfl (hL 66 (by decide)) (y_l_66 ((k_Q D ((nx + 1) + 1) wr lc fr tk rc sc LN ST) 66)) rfl (by decide) ⟨Nat.le_refl _, Nat.le_refl _⟩ (Nat.le_of_ble_eq_true rfl) ?_
          show E 0 0 56 [(0, .ref 66), (1, .int 13), (2, .int 300), (3, .int 14), (4, .int 0), (5, .int 300), (6, .int (k_nx (D 68).1 (D 70).1 nx)), (7, .int (k_nx (D 68).1 (D 70).1 nx))] [.int (k_nx (D 68).1 (D 70).1 ((nx + 1) + 1)), .int (k_nx (D 68).1 (D 70).1 nx), .int 13, .ref 66] (y_mk n L (k_Q D (((nx + 1) + 1) + 1) wr lc fr tk rc sc LN ST))
          refine t_invv (r := (some (.int 1))) (S2 := (y_mk n L (k_Q D (((nx + 1) + 1) + 1) wr (lc + 3) fr tk rc sc (upd (upd (upd LN lc 13) (lc + 1) (k_nx (D 68).1 (D 70).1 nx)) (lc + 2) (k_nx (D 68).1 (D 70).1 ((nx + 1) + 1))) ST))) hE [.int 13, .int (k_nx (D 68).1 (D 70).1 nx), .int (k_nx (D 68).1 (D 70).1 ((nx + 1) + 1))] (k_lineT hL (by omega) (by omega) ⟨hb1n, hb2n, hlc⟩) v_yX2_keepLine m_X2_107 dX2_readPair_56 rfl (hL 66 (by decide)) (y_l_66 ((k_Q D (((nx + 1) + 1) + 1) wr lc fr tk rc sc LN ST) 66)) rfl (by decide) ⟨Nat.le_refl _, Nat.le_refl _⟩ (Nat.le_of_ble_eq_true rfl) ?_
          show E 0 0 59 [(0, .ref 66), (1, .int 13), (2, .int 300), (3, .int 14), (4, .int 0), (5, .int 300), (6, .int (k_nx (D 68).1 (D 70).1 nx)), (7, .int (k_nx (D 68).1 (D 70).1 nx))] [.int 1] (y_mk n L (k_Q D (((nx + 1) + 1) + 1) wr (lc + 3) fr tk rc sc (upd (upd (upd LN lc 13) (lc + 1) (k_nx (D 68).1 (D 70).1 nx)) (lc + 2) (k_nx (D 68).1 (D 70).1 ((nx + 1) + 1))) ST))
          refine r_ireturn hE dX2_readPair_59 rfl (by rfl) (Nat.zero_le _) (Nat.zero_le _) ?_
          refine ⟨_, _, rfl, rfl, true, _, _, _, _, ?_, by decide, rfl, by omega, by omega, fun q => by first | rfl | exact absurd q (by decide)⟩
          rw [k_pair, if_neg hb1, if_neg (fun z => z.2 hps2), if_neg (show ¬ (14 : Int32) = 2 by decide), if_neg hb2]

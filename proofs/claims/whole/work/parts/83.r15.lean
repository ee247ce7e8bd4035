/-! the class's reader: sums, comparisons -/
theorem k_ne {K C : Nat → Int32} {j : Nat} {lo hi : Int32} (hl : (-1 : Int32) < lo) (h : ¬ k_bad (k_nx K C j) lo hi) : k_nx K C j ≠ -1 := fun c => h (Or.inl (by rw [c]; exact hl))
theorem k_2 {K C : Nat → Int32} {j : Nat} {lo hi : Int32} (hl : (-1 : Int32) < lo) (h : ¬ k_bad (k_nx K C j) lo hi) : K j = 2 := by
  by_cases c : K j = 2
  · exact c
  · exact absurd (show k_nx K C j = -1 by unfold k_nx; rw [if_neg c]) (k_ne hl h)
theorem k_keepF {V : x_E} {n : Nat} {L : List Nat} {D : y_D} {t : Int32} {nx lc sc : Nat} {wr fr tk rc : Int32} {LN ST : Nat → Int32} (hL : y_ok L) : x_Fn V yX2_keepStep cX2_keepStep 3 (some .boolean) 0 [.ref 66, .int t, .int (-1)] (y_mk n L (k_Q D nx wr lc fr tk rc sc LN ST)) (some (.int 0)) (y_mk n L (k_Q D nx wr lc fr tk rc sc LN ST)) := by
  refine x_fn (by decide) (Nat.le_of_ble_eq_true rfl) (fun E hE => ?_)
  change E 0 0 0 [(0, .ref 66), (1, .int t), (2, .int (-1))] [] (y_mk n L (k_Q D nx wr lc fr tk rc sc LN ST))
  refine r_iload_n hE dX2_keepStep_0 rfl ?_
  refine r_iconst (v := (-1)) hE dX2_keepStep_1 (by decide) ?_
  refine r_icmp_eq (tgt := 17) hE dX2_keepStep_2 (by decide) (fun _ => ?_) (fun c2 => by first | exact absurd c2 (by decide) | exact absurd (by decide) c2)
  refine r_iconst (v := 0) hE dX2_keepStep_17 (by decide) ?_
  refine r_ireturn hE dX2_keepStep_18 rfl (by rfl) (Nat.zero_le _) (Nat.zero_le _) ?_
  exact ⟨rfl, rfl⟩
theorem k_keepT {V : x_E} {n : Nat} {L : List Nat} {D : y_D} {t a : Int32} {nx lc sc : Nat} {wr fr tk rc : Int32} {LN ST : Nat → Int32} (hL : y_ok L) (ha : a ≠ -1) (hsc : sc < 800) : x_Fn V yX2_keepStep cX2_keepStep 3 (some .boolean) 0 [.ref 66, .int t, .int a] (y_mk n L (k_Q D nx wr lc fr tk rc sc LN ST)) (some (.int 1)) (y_mk n L (k_Q D nx wr lc fr tk rc (sc + 1) LN (upd ST sc (t * 1024 + a)))) := by
  refine x_fn (by decide) (Nat.le_of_ble_eq_true rfl) (fun E hE => ?_)
  change E 0 0 0 [(0, .ref 66), (1, .int t), (2, .int a)] [] (y_mk n L (k_Q D nx wr lc fr tk rc sc LN ST))
  refine r_iload_n hE dX2_keepStep_0 rfl ?_
  refine r_iconst (v := (-1)) hE dX2_keepStep_1 (by decide) ?_
  refine r_icmp_eq (tgt := 17) hE dX2_keepStep_2 (by decide) (fun c2 => ?_) (fun c2 => ?_)
  · refine r_iconst (v := 0) hE dX2_keepStep_17 (by decide) ?_
    refine r_ireturn hE dX2_keepStep_18 rfl (by rfl) (Nat.zero_le _) (Nat.zero_le _) ?_
    first | exact absurd c2 ha | exact absurd hsc (by omega)
  · refine r_aload_n hE dX2_keepStep_5 rfl ?_
    refine t_geti hE f_X2_81 y_I_66_9 dX2_keepStep_6 (hL 66 (by decide)) ?_
    refine r_top (y := (nI sc)) rfl ?_
    refine r_aload_n hE dX2_keepStep_9 rfl ?_
    refine t_getr hE f_X2_28 y_R_66_8 dX2_keepStep_10 (hL 66 (by decide)) ?_
    refine t_alen (v := nI 800) hE y_A_72 (by decide) dX2_keepStep_13 (hL 72 (by decide)) rfl ?_
    refine r_icmp_ltN (a := sc) (b := 800) (tgt := 19) hE dX2_keepStep_14 (by decide) (by omega) (by decide) (fun c14 => ?_) (fun c14 => ?_)
    · refine r_aload_n hE dX2_keepStep_19 rfl ?_
      refine t_getr hE f_X2_28 y_R_66_8 dX2_keepStep_20 (hL 66 (by decide)) ?_
      refine r_aload_n hE dX2_keepStep_23 rfl ?_
      refine t_geti hE f_X2_81 y_I_66_9 dX2_keepStep_24 (hL 66 (by decide)) ?_
      refine r_top (y := (nI sc)) rfl ?_
      refine r_iload_n hE dX2_keepStep_27 rfl ?_
      refine r_sipush (v := 1024) hE dX2_keepStep_28 (by decide) ?_
      refine r_imul hE dX2_keepStep_31 ?_
      refine r_iload_n hE dX2_keepStep_32 rfl ?_
      refine r_iadd hE dX2_keepStep_33 ?_
      refine t_iastN (e := sc) hE y_A_72 dX2_keepStep_34 (hL 72 (by decide)) (by omega) (by decide) ?_
      rw [k_Q_72]
      refine r_aload_n hE dX2_keepStep_35 rfl ?_
      refine r_dup hE dX2_keepStep_36 rfl ?_
      refine t_geti hE f_X2_81 y_I_66_9 dX2_keepStep_37 (hL 66 (by decide)) ?_
      refine r_top (y := (nI sc)) rfl ?_
      refine r_iconst (v := 1) hE dX2_keepStep_40 (by decide) ?_
      refine r_iaddN (a := sc) (b := 1) hE dX2_keepStep_41 ?_
      refine t_puti hE f_X2_81 y_I_66_9 dX2_keepStep_42 (hL 66 (by decide)) rfl rfl ?_
      rw [k_Q_9]
      refine r_iconst (v := 1) hE dX2_keepStep_45 (by decide) ?_
      refine r_ireturn hE dX2_keepStep_46 rfl (by rfl) (Nat.zero_le _) (Nat.zero_le _) ?_
      exact ⟨rfl, rfl⟩
    · refine r_iconst (v := 0) hE dX2_keepStep_17 (by decide) ?_
      refine r_ireturn hE dX2_keepStep_18 rfl (by rfl) (Nat.zero_le _) (Nat.zero_le _) ?_
      first | exact absurd c2 ha | exact absurd hsc (by omega)
theorem k_numF {V : x_E} {n : Nat} {L : List Nat} {D : y_D} {lo hi : Int32} {nx lc sc : Nat} {wr fr tk rc : Int32} {LN ST : Nat → Int32} (hL : y_ok L) (hx : nx < 401) (h : k_bad (k_nx (D 68).1 (D 70).1 nx) lo hi) : x_Fn V yX2_number cX2_number 4 (some .int) 0 [.ref 66, .int lo, .int hi] (y_mk n L (k_Q D nx wr lc fr tk rc sc LN ST)) (some (.int (-1))) (y_mk n L (k_Q D nx ((D 69).1 nx) lc fr tk rc sc LN ST)) := by
  have h0 := k_number (V := V) (n := n) (D := D) (wr := wr) (lc := lc) (fr := fr) (tk := tk) (rc := rc) (sc := sc) (LN := LN) (ST := ST) (lo := lo) (hi := hi) hL hx
  rw [if_pos h, if_pos h, k_nb, if_pos h] at h0
  exact h0
theorem k_numT {V : x_E} {n : Nat} {L : List Nat} {D : y_D} {lo hi : Int32} {nx lc sc : Nat} {wr fr tk rc : Int32} {LN ST : Nat → Int32} (hL : y_ok L) (hx : nx < 401) (h : ¬ k_bad (k_nx (D 68).1 (D 70).1 nx) lo hi) : x_Fn V yX2_number cX2_number 4 (some .int) 0 [.ref 66, .int lo, .int hi] (y_mk n L (k_Q D nx wr lc fr tk rc sc LN ST)) (some (.int (k_nx (D 68).1 (D 70).1 nx))) (y_mk n L (k_Q D (nx + 1) wr lc fr tk rc sc LN ST)) := by
  have h0 := k_number (V := V) (n := n) (D := D) (wr := wr) (lc := lc) (fr := fr) (tk := tk) (rc := rc) (sc := sc) (LN := LN) (ST := ST) (lo := lo) (hi := hi) hL hx
  rw [if_neg h, if_neg h, k_nb, if_neg h] at h0
  exact h0
abbrev k_U : Type := Nat × Int32 × Nat × (Nat → Int32)
abbrev k_F : Type := Nat → Int32 → Nat → (Nat → Int32) → Bool × k_U
def k_bd (m nx sc nx2 sc2 : Nat) : Prop := nx ≤ nx2 ∧ nx2 ≤ m ∧ sc ≤ sc2 ∧ sc2 + 2 * nx ≤ sc + 2 * nx2
theorem k_bd.all {m nx sc nx2 sc2 : Nat} (h : k_bd m nx sc nx2 sc2) : nx ≤ nx2 ∧ nx2 ≤ m ∧ sc ≤ sc2 ∧ sc2 + 2 * nx ≤ sc + 2 * nx2 := h
/-- what a piece of the class's reader answers: as F says -/
def k_Rd (D : y_D) (m lc : Nat) (fr tk rc : Int32) (LN : Nat → Int32) (F : k_F) (nx : Nat) (wr : Int32) (sc : Nat) (ST : Nat → Int32) (v : Int32) (D2 : y_D) : Prop := ∃ (ok : Bool) (nx2 : Nat) (wr2 : Int32) (sc2 : Nat) (ST2 : Nat → Int32), F nx wr sc ST = (ok, nx2, wr2, sc2, ST2) ∧ v = y_b (ok = true) ∧ D2 = k_Q D nx2 wr2 lc fr tk rc sc2 LN ST2 ∧ k_bd m nx sc nx2 sc2
def k_then (r : Bool × k_U) (f : k_F) : Bool × k_U := if r.1 = true then f r.2.1 r.2.2.1 r.2.2.2.1 r.2.2.2.2 else r
theorem k_then_t {f : k_F} {nx sc : Nat} {wr : Int32} {ST : Nat → Int32} : k_then (true, nx, wr, sc, ST) f = f nx wr sc ST := rfl
theorem k_then_f {f : k_F} {q : k_U} : k_then (false, q) f = (false, q) := rfl
def k_part (K B C : Nat → Int32) : k_F := fun nx wr sc ST =>
  if K nx = 2 then (if k_bad (k_nx K C nx) 0 999 then (false, nx, B nx, sc, ST) else (true, nx + 1, wr, sc + 1, upd ST sc (K nx * 1024 + k_nx K C nx)))
  else if K nx = 31 ∨ K nx = 32 then (if k_bad (k_nx K C (nx + 1)) 0 3 then (false, nx + 1, B (nx + 1), sc, ST) else (true, nx + 1 + 1, wr, sc + 1, upd ST sc (K nx * 1024 + k_nx K C (nx + 1))))
  else if K nx = 29 ∨ K nx = 30 then (true, nx + 1, wr, sc + 1, upd ST sc (K nx * 1024 + 0))
  else (false, nx, B nx, sc, ST)
def k_suk (K B C : Nat → Int32) : Nat → k_F
  | 0 => fun nx _ sc ST => (false, nx, B nx, sc, ST)
  | f + 1 => fun nx wr sc ST => k_then (k_part K B C nx wr sc ST) (fun nx wr sc ST => if K nx = 7 then k_suk K B C f (nx + 1) wr sc ST else (true, nx, wr, sc, ST))
theorem k_suk_e {K B C : Nat → Int32} {f nx sc : Nat} {wr : Int32} {ST : Nat → Int32} (hf : 0 < f) : k_suk K B C f nx wr sc ST = k_then (k_part K B C nx wr sc ST) (fun nx wr sc ST => if K nx = 7 then k_suk K B C (f - 1) (nx + 1) wr sc ST else (true, nx, wr, sc, ST)) := by
  rcases f with _ | f
  · omega
  · rfl
theorem k_readSum {V : x_E} {n : Nat} {L : List Nat} {D : y_D} {m nx lc sc : Nat} {wr fr tk rc : Int32} {LN ST : Nat → Int32} (hL : y_ok L) (hm : m ≤ 400) (hK : (D 68).1 m = 0) (hx : nx ≤ m) (hs : sc ≤ 2 * nx) : y_Ri V yX2_readSum cX2_readSum 4 (some .boolean) 1 [.ref 66] n L (k_Q D nx wr lc fr tk rc sc LN ST) (k_Rd D m lc fr tk rc LN (k_suk (D 68).1 (D 69).1 (D 70).1 401) nx wr sc ST) := by
  refine y_ri (by decide) (Nat.le_of_ble_eq_true rfl) (fun E hE => ?_)
  change E 0 0 0 [(0, .ref 66)] [] (y_mk n L (k_Q D nx wr lc fr tk rc sc LN ST))
  have l1 : ∀ (f i x9 s9 : Nat) (w9 : Int32) (T9 : Nat → Int32), f + i = 401 ∧ i ≤ x9 ∧ 1 ≤ f → k_bd m nx sc x9 s9 → k_suk (D 68).1 (D 69).1 (D 70).1 f x9 w9 s9 T9 = k_suk (D 68).1 (D 69).1 (D 70).1 401 nx wr sc ST → E 0 0 2 [(0, .ref 66), (1, .int (nI i))] [] (y_mk n L (k_Q D x9 w9 lc fr tk rc s9 LN T9)) := by
    intro f i x9 s9 w9 T9
    induction hm9 : (f) using Nat.strongRecOn generalizing f i x9 s9 w9 T9 with
    | _ m9 ih =>
      intro hi9 hb9 hw
      subst hm9
      have f1 := hb9.all
      refine r_iload_n hE dX2_readSum_2 rfl ?_
      refine r_sipush (v := 400) hE dX2_readSum_3 (by decide) ?_
      refine r_icmp_geN (a := i) (b := 400) (tgt := 133) hE dX2_readSum_6 (by decide) (by omega) (by decide) (fun c6 => ?_) (fun c6 => ?_)
      · refine r_aload_n hE dX2_readSum_133 rfl ?_
        refine t_invv (r := (some (.int 0))) (S2 := (y_mk n L (k_Q D x9 ((D 69).1 x9) lc fr tk rc s9 LN T9))) hE [] (k_refuse hL (by omega)) v_yX2_refuse m_X2_55 dX2_readSum_134 rfl (hL 66 (by decide)) (y_l_66 ((k_Q D x9 w9 lc fr tk rc s9 LN T9) 66)) rfl (by decide) ⟨Nat.le_refl _, Nat.le_refl _⟩ (Nat.le_of_ble_eq_true rfl) ?_
        show E 0 0 137 [(0, .ref 66), (1, .int (nI i))] [.int 0] (y_mk n L (k_Q D x9 ((D 69).1 x9) lc fr tk rc s9 LN T9))
        refine r_ireturn hE dX2_readSum_137 rfl (by first | rfl | exact y_nb _) (Nat.zero_le _) (Nat.zero_le _) ?_
        have hxm : x9 = m := by omega
        have hk0 : (D 68).1 x9 = 0 := by rw [hxm]; exact hK
        refine ⟨_, _, rfl, rfl, false, _, _, _, _, ?_, by decide, rfl, ?_⟩
        · rw [← hw, k_suk_e (by omega), k_part, if_neg (by rw [hk0]; decide), if_neg (by rw [hk0]; decide), if_neg (by rw [hk0]; decide), k_then_f]
        · unfold k_bd
          omega
      · refine r_aload_n hE dX2_readSum_9 rfl ?_
        refine t_invv (r := (some (.int ((D 68).1 x9)))) (S2 := (y_mk n L (k_Q D x9 w9 lc fr tk rc s9 LN T9))) hE [] (k_token hL (by omega)) v_yX2_token m_X2_38 dX2_readSum_10 rfl (hL 66 (by decide)) (y_l_66 ((k_Q D x9 w9 lc fr tk rc s9 LN T9) 66)) rfl (by decide) ⟨Nat.le_refl _, Nat.le_refl _⟩ (Nat.le_of_ble_eq_true rfl) ?_
        show E 0 0 13 [(0, .ref 66), (1, .int (nI i))] [.int ((D 68).1 x9)] (y_mk n L (k_Q D x9 w9 lc fr tk rc s9 LN T9))
        refine r_istore_n (ls2 := [(0, .ref 66), (1, .int (nI i)), (2, .int ((D 68).1 x9))]) hE dX2_readSum_13 (by decide) rfl ?_
        refine r_iconst (v := 0) hE dX2_readSum_14 (by decide) ?_
        refine r_istore_n (ls2 := [(0, .ref 66), (1, .int (nI i)), (2, .int ((D 68).1 x9)), (3, .int 0)]) hE dX2_readSum_15 (by decide) rfl ?_
        refine r_iload_n hE dX2_readSum_16 rfl ?_
        refine r_iconst (v := 2) hE dX2_readSum_17 (by decide) ?_
        refine r_icmp_ne (tgt := 33) hE dX2_readSum_18 (by decide) (fun c18 => ?_) (fun c18 => ?_)
        · refine r_iload_n hE dX2_readSum_33 rfl ?_
          refine r_bipush (v := 31) hE dX2_readSum_34 (by decide) ?_
          refine r_icmp_eq (tgt := 45) hE dX2_readSum_36 (by decide) (fun c36 => ?_) (fun c36 => ?_)
          · have hz9 : x9 ≠ m := fun z => by
              have h0 : (D 68).1 x9 = 0 := by rw [z]; exact hK
              first | exact absurd (h0.symm.trans c42) (by decide) | exact absurd (h0.symm.trans c36) (by decide)
            refine r_aload_n hE dX2_readSum_45 rfl ?_
            refine r_dup hE dX2_readSum_46 rfl ?_
            refine t_geti hE f_X2_87 y_I_66_1 dX2_readSum_47 (hL 66 (by decide)) ?_
            refine r_top (y := (nI x9)) rfl ?_
            refine r_iconst (v := 1) hE dX2_readSum_50 (by decide) ?_
            refine r_iaddN (a := x9) (b := 1) hE dX2_readSum_51 ?_
            refine t_puti hE f_X2_87 y_I_66_1 dX2_readSum_52 (hL 66 (by decide)) rfl rfl ?_
            rw [k_Q_1]
            refine r_aload_n hE dX2_readSum_55 rfl ?_
            refine r_iconst (v := 0) hE dX2_readSum_56 (by decide) ?_
            refine r_iconst (v := 3) hE dX2_readSum_57 (by decide) ?_
            by_cases hbd : k_bad (k_nx (D 68).1 (D 70).1 (x9 + 1)) 0 3
            · refine t_invv (r := (some (.int (-1)))) (S2 := (y_mk n L (k_Q D (x9 + 1) ((D 69).1 (x9 + 1)) lc fr tk rc s9 LN T9))) hE [.int 0, .int 3] (k_numF hL (by omega) hbd) v_yX2_number m_X2_103 dX2_readSum_58 rfl (hL 66 (by decide)) (y_l_66 ((k_Q D (x9 + 1) w9 lc fr tk rc s9 LN T9) 66)) rfl (by decide) ⟨Nat.le_refl _, Nat.le_refl _⟩ (Nat.le_of_ble_eq_true rfl) ?_
              show E 0 0 61 [(0, .ref 66), (1, .int (nI i)), (2, .int ((D 68).1 x9)), (3, .int 0)] [.int (-1)] (y_mk n L (k_Q D (x9 + 1) ((D 69).1 (x9 + 1)) lc fr tk rc s9 LN T9))
              refine r_istore_n (ls2 := [(0, .ref 66), (1, .int (nI i)), (2, .int ((D 68).1 x9)), (3, .int (-1))]) hE dX2_readSum_61 (by decide) rfl ?_
              refine r_goto (tgt := 95) hE dX2_readSum_62 (by decide) ?_
              refine r_aload_n hE dX2_readSum_95 rfl ?_
              refine r_iload_n hE dX2_readSum_96 rfl ?_
              refine r_iload_n hE dX2_readSum_97 rfl ?_
              refine t_invv (r := (some (.int 0))) (S2 := (y_mk n L (k_Q D (x9 + 1) ((D 69).1 (x9 + 1)) lc fr tk rc s9 LN T9))) hE [.int ((D 68).1 x9), .int (-1)] (k_keepF hL) v_yX2_keepStep m_X2_114 dX2_readSum_98 rfl (hL 66 (by decide)) (y_l_66 ((k_Q D (x9 + 1) ((D 69).1 (x9 + 1)) lc fr tk rc s9 LN T9) 66)) rfl (by decide) ⟨Nat.le_refl _, Nat.le_refl _⟩ (Nat.le_of_ble_eq_true rfl) ?_
              show E 0 0 101 [(0, .ref 66), (1, .int (nI i)), (2, .int ((D 68).1 x9)), (3, .int (-1))] [.int 0] (y_mk n L (k_Q D (x9 + 1) ((D 69).1 (x9 + 1)) lc fr tk rc s9 LN T9))
              refine r_if_ne (tgt := 106) hE dX2_readSum_101 (by decide) (fun c101 => by first | exact absurd c101 (by decide) | exact absurd (by decide) c101) (fun _ => ?_)
              refine r_iconst (v := 0) hE dX2_readSum_104 (by decide) ?_
              refine r_ireturn hE dX2_readSum_105 rfl (by first | rfl | exact y_nb _) (Nat.zero_le _) (Nat.zero_le _) ?_
              refine ⟨_, _, rfl, rfl, false, _, _, _, _, ?_, by decide, rfl, ?_⟩
              · rw [← hw, k_suk_e (by omega), k_part, if_neg c18, if_pos (by first | exact Or.inl c36 | exact Or.inr c42), if_pos hbd, k_then_f]
              · unfold k_bd
                omega
            · have hne : (k_nx (D 68).1 (D 70).1 (x9 + 1)) ≠ -1 := k_ne (by decide) hbd
              have hk2 := k_2 (by decide) hbd
              have hzz : (x9 + 1) ≠ m := fun z => absurd (z ▸ hk2) (by rw [hK]; decide)
              refine t_invv (r := (some (.int (k_nx (D 68).1 (D 70).1 (x9 + 1))))) (S2 := (y_mk n L (k_Q D ((x9 + 1) + 1) w9 lc fr tk rc s9 LN T9))) hE [.int 0, .int 3] (k_numT hL (by omega) hbd) v_yX2_number m_X2_103 dX2_readSum_58 rfl (hL 66 (by decide)) (y_l_66 ((k_Q D (x9 + 1) w9 lc fr tk rc s9 LN T9) 66)) rfl (by decide) ⟨Nat.le_refl _, Nat.le_refl _⟩ (Nat.le_of_ble_eq_true rfl) ?_
              show E 0 0 61 [(0, .ref 66), (1, .int (nI i)), (2, .int ((D 68).1 x9)), (3, .int 0)] [.int (k_nx (D 68).1 (D 70).1 (x9 + 1))] (y_mk n L (k_Q D ((x9 + 1) + 1) w9 lc fr tk rc s9 LN T9))
              refine r_istore_n (ls2 := [(0, .ref 66), (1, .int (nI i)), (2, .int ((D 68).1 x9)), (3, .int (k_nx (D 68).1 (D 70).1 (x9 + 1)))]) hE dX2_readSum_61 (by decide) rfl ?_
              refine r_goto (tgt := 95) hE dX2_readSum_62 (by decide) ?_
              refine r_aload_n hE dX2_readSum_95 rfl ?_
              refine r_iload_n hE dX2_readSum_96 rfl ?_
              refine r_iload_n hE dX2_readSum_97 rfl ?_
              refine t_invv (r := (some (.int 1))) (S2 := (y_mk n L (k_Q D ((x9 + 1) + 1) w9 lc fr tk rc (s9 + 1) LN (upd T9 s9 (((D 68).1 x9) * 1024 + (k_nx (D 68).1 (D 70).1 (x9 + 1))))))) hE [.int ((D 68).1 x9), .int (k_nx (D 68).1 (D 70).1 (x9 + 1))] (k_keepT hL (by first | decide | exact hne) (by omega)) v_yX2_keepStep m_X2_114 dX2_readSum_98 rfl (hL 66 (by decide)) (y_l_66 ((k_Q D ((x9 + 1) + 1) w9 lc fr tk rc s9 LN T9) 66)) rfl (by decide) ⟨Nat.le_refl _, Nat.le_refl _⟩ (Nat.le_of_ble_eq_true rfl) ?_
              show E 0 0 101 [(0, .ref 66), (1, .int (nI i)), (2, .int ((D 68).1 x9)), (3, .int (k_nx (D 68).1 (D 70).1 (x9 + 1)))] [.int 1] (y_mk n L (k_Q D ((x9 + 1) + 1) w9 lc fr tk rc (s9 + 1) LN (upd T9 s9 (((D 68).1 x9) * 1024 + (k_nx (D 68).1 (D 70).1 (x9 + 1))))))
              refine r_if_ne (tgt := 106) hE dX2_readSum_101 (by decide) (fun _ => ?_) (fun c101 => by first | exact absurd c101 (by decide) | exact absurd (by decide) c101)
              refine r_aload_n hE dX2_readSum_106 rfl ?_
              refine t_invv (r := (some (.int ((D 68).1 ((x9 + 1) + 1))))) (S2 := (y_mk n L (k_Q D ((x9 + 1) + 1) w9 lc fr tk rc (s9 + 1) LN (upd T9 s9 (((D 68).1 x9) * 1024 + (k_nx (D 68).1 (D 70).1 (x9 + 1))))))) hE [] (k_token hL (by omega)) v_yX2_token m_X2_38 dX2_readSum_107 rfl (hL 66 (by decide)) (y_l_66 ((k_Q D ((x9 + 1) + 1) w9 lc fr tk rc (s9 + 1) LN (upd T9 s9 (((D 68).1 x9) * 1024 + (k_nx (D 68).1 (D 70).1 (x9 + 1))))) 66)) rfl (by decide) ⟨Nat.le_refl _, Nat.le_refl _⟩ (Nat.le_of_ble_eq_true rfl) ?_
              show E 0 0 110 [(0, .ref 66), (1, .int (nI i)), (2, .int ((D 68).1 x9)), (3, .int (k_nx (D 68).1 (D 70).1 (x9 + 1)))] [.int ((D 68).1 ((x9 + 1) + 1))] (y_mk n L (k_Q D ((x9 + 1) + 1) w9 lc fr tk rc (s9 + 1) LN (upd T9 s9 (((D 68).1 x9) * 1024 + (k_nx (D 68).1 (D 70).1 (x9 + 1))))))
              refine r_bipush (v := 7) hE dX2_readSum_110 (by decide) ?_
              refine r_icmp_eq (tgt := 117) hE dX2_readSum_112 (by decide) (fun c112 => ?_) (fun c112 => ?_)
              · have hz8 : ((x9 + 1) + 1) ≠ m := fun z => by
                  rw [z, hK] at c112
                  exact absurd c112 (by decide)
                refine r_aload_n hE dX2_readSum_117 rfl ?_
                refine r_dup hE dX2_readSum_118 rfl ?_
                refine t_geti hE f_X2_87 y_I_66_1 dX2_readSum_119 (hL 66 (by decide)) ?_
                refine r_top (y := (nI ((x9 + 1) + 1))) rfl ?_
                refine r_iconst (v := 1) hE dX2_readSum_122 (by decide) ?_
                refine r_iaddN (a := ((x9 + 1) + 1)) (b := 1) hE dX2_readSum_123 ?_
                refine t_puti hE f_X2_87 y_I_66_1 dX2_readSum_124 (hL 66 (by decide)) rfl rfl ?_
                rw [k_Q_1]
                refine r_iincN (a := i) (b := 1) (ls2 := [(0, .ref 66), (1, .int (nI (i + 1))), (2, .int ((D 68).1 x9)), (3, .int (k_nx (D 68).1 (D 70).1 (x9 + 1)))]) hE dX2_readSum_127 rfl rfl (by decide) rfl ?_
                refine r_goto (tgt := 2) hE dX2_readSum_130 (by decide) ?_
                refine r_locs hE (ls2 := [(0, .ref 66), (1, .int (nI (i + 1)))]) (by simp [x_lk]) ?_
                exact ih (f - 1) (by omega) (f - 1) (i + 1) (((x9 + 1) + 1) + 1) (s9 + 1) w9 (upd T9 s9 (((D 68).1 x9) * 1024 + (k_nx (D 68).1 (D 70).1 (x9 + 1)))) rfl (by omega) (by unfold k_bd; omega) (by rw [← hw]; refine Eq.trans ?_ (k_suk_e (by omega)).symm; rw [k_part, if_neg c18, if_pos (by first | exact Or.inl c36 | exact Or.inr c42), if_neg hbd, k_then_t, if_pos c112])
              · refine r_iconst (v := 1) hE dX2_readSum_115 (by decide) ?_
                refine r_ireturn hE dX2_readSum_116 rfl (by first | rfl | exact y_nb _) (Nat.zero_le _) (Nat.zero_le _) ?_
                refine ⟨_, _, rfl, rfl, true, _, _, _, _, ?_, by decide, rfl, ?_⟩
                · rw [← hw, k_suk_e (by omega), k_part, if_neg c18, if_pos (by first | exact Or.inl c36 | exact Or.inr c42), if_neg hbd, k_then_t, if_neg c112]
                · unfold k_bd
                  omega
          · refine r_iload_n hE dX2_readSum_39 rfl ?_
            refine r_bipush (v := 32) hE dX2_readSum_40 (by decide) ?_
            refine r_icmp_ne (tgt := 65) hE dX2_readSum_42 (by decide) (fun c42 => ?_) (fun c42 => ?_)
            · refine r_iload_n hE dX2_readSum_65 rfl ?_
              refine r_bipush (v := 29) hE dX2_readSum_66 (by decide) ?_
              refine r_icmp_eq (tgt := 77) hE dX2_readSum_68 (by decide) (fun c68 => ?_) (fun c68 => ?_)
              · have hz9 : x9 ≠ m := fun z => by
                  have h0 : (D 68).1 x9 = 0 := by rw [z]; exact hK
                  first | exact absurd (h0.symm.trans c74) (by decide) | exact absurd (h0.symm.trans c68) (by decide)
                refine r_aload_n hE dX2_readSum_77 rfl ?_
                refine r_dup hE dX2_readSum_78 rfl ?_
                refine t_geti hE f_X2_87 y_I_66_1 dX2_readSum_79 (hL 66 (by decide)) ?_
                refine r_top (y := (nI x9)) rfl ?_
                refine r_iconst (v := 1) hE dX2_readSum_82 (by decide) ?_
                refine r_iaddN (a := x9) (b := 1) hE dX2_readSum_83 ?_
                refine t_puti hE f_X2_87 y_I_66_1 dX2_readSum_84 (hL 66 (by decide)) rfl rfl ?_
                rw [k_Q_1]
                refine r_goto (tgt := 95) hE dX2_readSum_87 (by decide) ?_
                refine r_aload_n hE dX2_readSum_95 rfl ?_
                refine r_iload_n hE dX2_readSum_96 rfl ?_
                refine r_iload_n hE dX2_readSum_97 rfl ?_
                refine t_invv (r := (some (.int 1))) (S2 := (y_mk n L (k_Q D (x9 + 1) w9 lc fr tk rc (s9 + 1) LN (upd T9 s9 (((D 68).1 x9) * 1024 + 0))))) hE [.int ((D 68).1 x9), .int 0] (k_keepT hL (by first | decide | exact hne) (by omega)) v_yX2_keepStep m_X2_114 dX2_readSum_98 rfl (hL 66 (by decide)) (y_l_66 ((k_Q D (x9 + 1) w9 lc fr tk rc s9 LN T9) 66)) rfl (by decide) ⟨Nat.le_refl _, Nat.le_refl _⟩ (Nat.le_of_ble_eq_true rfl) ?_
                show E 0 0 101 [(0, .ref 66), (1, .int (nI i)), (2, .int ((D 68).1 x9)), (3, .int 0)] [.int 1] (y_mk n L (k_Q D (x9 + 1) w9 lc fr tk rc (s9 + 1) LN (upd T9 s9 (((D 68).1 x9) * 1024 + 0))))
                refine r_if_ne (tgt := 106) hE dX2_readSum_101 (by decide) (fun _ => ?_) (fun c101 => by first | exact absurd c101 (by decide) | exact absurd (by decide) c101)
                refine r_aload_n hE dX2_readSum_106 rfl ?_
                refine t_invv (r := (some (.int ((D 68).1 (x9 + 1))))) (S2 := (y_mk n L (k_Q D (x9 + 1) w9 lc fr tk rc (s9 + 1) LN (upd T9 s9 (((D 68).1 x9) * 1024 + 0))))) hE [] (k_token hL (by omega)) v_yX2_token m_X2_38 dX2_readSum_107 rfl (hL 66 (by decide)) (y_l_66 ((k_Q D (x9 + 1) w9 lc fr tk rc (s9 + 1) LN (upd T9 s9 (((D 68).1 x9) * 1024 + 0))) 66)) rfl (by decide) ⟨Nat.le_refl _, Nat.le_refl _⟩ (Nat.le_of_ble_eq_true rfl) ?_
                show E 0 0 110 [(0, .ref 66), (1, .int (nI i)), (2, .int ((D 68).1 x9)), (3, .int 0)] [.int ((D 68).1 (x9 + 1))] (y_mk n L (k_Q D (x9 + 1) w9 lc fr tk rc (s9 + 1) LN (upd T9 s9 (((D 68).1 x9) * 1024 + 0))))
                refine r_bipush (v := 7) hE dX2_readSum_110 (by decide) ?_
                refine r_icmp_eq (tgt := 117) hE dX2_readSum_112 (by decide) (fun c112 => ?_) (fun c112 => ?_)
                · have hz8 : (x9 + 1) ≠ m := fun z => by
                    rw [z, hK] at c112
                    exact absurd c112 (by decide)
                  refine r_aload_n hE dX2_readSum_117 rfl ?_
                  refine r_dup hE dX2_readSum_118 rfl ?_
                  refine t_geti hE f_X2_87 y_I_66_1 dX2_readSum_119 (hL 66 (by decide)) ?_
                  refine r_top (y := (nI (x9 + 1))) rfl ?_
                  refine r_iconst (v := 1) hE dX2_readSum_122 (by decide) ?_
                  refine r_iaddN (a := (x9 + 1)) (b := 1) hE dX2_readSum_123 ?_
                  refine t_puti hE f_X2_87 y_I_66_1 dX2_readSum_124 (hL 66 (by decide)) rfl rfl ?_
                  rw [k_Q_1]
                  refine r_iincN (a := i) (b := 1) (ls2 := [(0, .ref 66), (1, .int (nI (i + 1))), (2, .int ((D 68).1 x9)), (3, .int 0)]) hE dX2_readSum_127 rfl rfl (by decide) rfl ?_
                  refine r_goto (tgt := 2) hE dX2_readSum_130 (by decide) ?_
                  refine r_locs hE (ls2 := [(0, .ref 66), (1, .int (nI (i + 1)))]) (by simp [x_lk]) ?_
                  exact ih (f - 1) (by omega) (f - 1) (i + 1) ((x9 + 1) + 1) (s9 + 1) w9 (upd T9 s9 (((D 68).1 x9) * 1024 + 0)) rfl (by omega) (by unfold k_bd; omega) (by rw [← hw]; refine Eq.trans ?_ (k_suk_e (by omega)).symm; rw [k_part, if_neg c18, if_neg (fun z => z.elim c36 c42), if_pos (by first | exact Or.inl c68 | exact Or.inr c74), k_then_t, if_pos c112])
                · refine r_iconst (v := 1) hE dX2_readSum_115 (by decide) ?_
                  refine r_ireturn hE dX2_readSum_116 rfl (by first | rfl | exact y_nb _) (Nat.zero_le _) (Nat.zero_le _) ?_
                  refine ⟨_, _, rfl, rfl, true, _, _, _, _, ?_, by decide, rfl, ?_⟩
                  · rw [← hw, k_suk_e (by omega), k_part, if_neg c18, if_neg (fun z => z.elim c36 c42), if_pos (by first | exact Or.inl c68 | exact Or.inr c74), k_then_t, if_neg c112]
                  · unfold k_bd
                    omega
              · refine r_iload_n hE dX2_readSum_71 rfl ?_
                refine r_bipush (v := 30) hE dX2_readSum_72 (by decide) ?_
                refine r_icmp_ne (tgt := 90) hE dX2_readSum_74 (by decide) (fun c74 => ?_) (fun c74 => ?_)
                · refine r_aload_n hE dX2_readSum_90 rfl ?_
                  refine t_invv (r := (some (.int 0))) (S2 := (y_mk n L (k_Q D x9 ((D 69).1 x9) lc fr tk rc s9 LN T9))) hE [] (k_refuse hL (by omega)) v_yX2_refuse m_X2_55 dX2_readSum_91 rfl (hL 66 (by decide)) (y_l_66 ((k_Q D x9 w9 lc fr tk rc s9 LN T9) 66)) rfl (by decide) ⟨Nat.le_refl _, Nat.le_refl _⟩ (Nat.le_of_ble_eq_true rfl) ?_
                  show E 0 0 94 [(0, .ref 66), (1, .int (nI i)), (2, .int ((D 68).1 x9)), (3, .int 0)] [.int 0] (y_mk n L (k_Q D x9 ((D 69).1 x9) lc fr tk rc s9 LN T9))
                  refine r_ireturn hE dX2_readSum_94 rfl (by first | rfl | exact y_nb _) (Nat.zero_le _) (Nat.zero_le _) ?_
                  refine ⟨_, _, rfl, rfl, false, _, _, _, _, ?_, by decide, rfl, ?_⟩
                  · rw [← hw, k_suk_e (by omega), k_part, if_neg c18, if_neg (fun z => z.elim c36 c42), if_neg (fun z => z.elim c68 c74), k_then_f]
                  · unfold k_bd
                    omega
                · have hz9 : x9 ≠ m := fun z => by
                    have h0 : (D 68).1 x9 = 0 := by rw [z]; exact hK
                    first | exact absurd (h0.symm.trans c74) (by decide) | exact absurd (h0.symm.trans c68) (by decide)
                  refine r_aload_n hE dX2_readSum_77 rfl ?_
                  refine r_dup hE dX2_readSum_78 rfl ?_
                  refine t_geti hE f_X2_87 y_I_66_1 dX2_readSum_79 (hL 66 (by decide)) ?_
                  refine r_top (y := (nI x9)) rfl ?_
                  refine r_iconst (v := 1) hE dX2_readSum_82 (by decide) ?_
                  refine r_iaddN (a := x9) (b := 1) hE dX2_readSum_83 ?_
                  refine t_puti hE f_X2_87 y_I_66_1 dX2_readSum_84 (hL 66 (by decide)) rfl rfl ?_
                  rw [k_Q_1]
                  refine r_goto (tgt := 95) hE dX2_readSum_87 (by decide) ?_
                  refine r_aload_n hE dX2_readSum_95 rfl ?_
                  refine r_iload_n hE dX2_readSum_96 rfl ?_
                  refine r_iload_n hE dX2_readSum_97 rfl ?_
                  refine t_invv (r := (some (.int 1))) (S2 := (y_mk n L (k_Q D (x9 + 1) w9 lc fr tk rc (s9 + 1) LN (upd T9 s9 (((D 68).1 x9) * 1024 + 0))))) hE [.int ((D 68).1 x9), .int 0] (k_keepT hL (by first | decide | exact hne) (by omega)) v_yX2_keepStep m_X2_114 dX2_readSum_98 rfl (hL 66 (by decide)) (y_l_66 ((k_Q D (x9 + 1) w9 lc fr tk rc s9 LN T9) 66)) rfl (by decide) ⟨Nat.le_refl _, Nat.le_refl _⟩ (Nat.le_of_ble_eq_true rfl) ?_
                  show E 0 0 101 [(0, .ref 66), (1, .int (nI i)), (2, .int ((D 68).1 x9)), (3, .int 0)] [.int 1] (y_mk n L (k_Q D (x9 + 1) w9 lc fr tk rc (s9 + 1) LN (upd T9 s9 (((D 68).1 x9) * 1024 + 0))))
                  refine r_if_ne (tgt := 106) hE dX2_readSum_101 (by decide) (fun _ => ?_) (fun c101 => by first | exact absurd c101 (by decide) | exact absurd (by decide) c101)
                  refine r_aload_n hE dX2_readSum_106 rfl ?_
                  refine t_invv (r := (some (.int ((D 68).1 (x9 + 1))))) (S2 := (y_mk n L (k_Q D (x9 + 1) w9 lc fr tk rc (s9 + 1) LN (upd T9 s9 (((D 68).1 x9) * 1024 + 0))))) hE [] (k_token hL (by omega)) v_yX2_token m_X2_38 dX2_readSum_107 rfl (hL 66 (by decide)) (y_l_66 ((k_Q D (x9 + 1) w9 lc fr tk rc (s9 + 1) LN (upd T9 s9 (((D 68).1 x9) * 1024 + 0))) 66)) rfl (by decide) ⟨Nat.le_refl _, Nat.le_refl _⟩ (Nat.le_of_ble_eq_true rfl) ?_
                  show E 0 0 110 [(0, .ref 66), (1, .int (nI i)), (2, .int ((D 68).1 x9)), (3, .int 0)] [.int ((D 68).1 (x9 + 1))] (y_mk n L (k_Q D (x9 + 1) w9 lc fr tk rc (s9 + 1) LN (upd T9 s9 (((D 68).1 x9) * 1024 + 0))))
                  refine r_bipush (v := 7) hE dX2_readSum_110 (by decide) ?_
                  refine r_icmp_eq (tgt := 117) hE dX2_readSum_112 (by decide) (fun c112 => ?_) (fun c112 => ?_)
                  · have hz8 : (x9 + 1) ≠ m := fun z => by
                      rw [z, hK] at c112
                      exact absurd c112 (by decide)
                    refine r_aload_n hE dX2_readSum_117 rfl ?_
                    refine r_dup hE dX2_readSum_118 rfl ?_
                    refine t_geti hE f_X2_87 y_I_66_1 dX2_readSum_119 (hL 66 (by decide)) ?_
                    refine r_top (y := (nI (x9 + 1))) rfl ?_
                    refine r_iconst (v := 1) hE dX2_readSum_122 (by decide) ?_
                    refine r_iaddN (a := (x9 + 1)) (b := 1) hE dX2_readSum_123 ?_
                    refine t_puti hE f_X2_87 y_I_66_1 dX2_readSum_124 (hL 66 (by decide)) rfl rfl ?_
                    rw [k_Q_1]
                    refine r_iincN (a := i) (b := 1) (ls2 := [(0, .ref 66), (1, .int (nI (i + 1))), (2, .int ((D 68).1 x9)), (3, .int 0)]) hE dX2_readSum_127 rfl rfl (by decide) rfl ?_
                    refine r_goto (tgt := 2) hE dX2_readSum_130 (by decide) ?_
                    refine r_locs hE (ls2 := [(0, .ref 66), (1, .int (nI (i + 1)))]) (by simp [x_lk]) ?_
                    exact ih (f - 1) (by omega) (f - 1) (i + 1) ((x9 + 1) + 1) (s9 + 1) w9 (upd T9 s9 (((D 68).1 x9) * 1024 + 0)) rfl (by omega) (by unfold k_bd; omega) (by rw [← hw]; refine Eq.trans ?_ (k_suk_e (by omega)).symm; rw [k_part, if_neg c18, if_neg (fun z => z.elim c36 c42), if_pos (by first | exact Or.inl c68 | exact Or.inr c74), k_then_t, if_pos c112])
                  · refine r_iconst (v := 1) hE dX2_readSum_115 (by decide) ?_
                    refine r_ireturn hE dX2_readSum_116 rfl (by first | rfl | exact y_nb _) (Nat.zero_le _) (Nat.zero_le _) ?_
                    refine ⟨_, _, rfl, rfl, true, _, _, _, _, ?_, by decide, rfl, ?_⟩
                    · rw [← hw, k_suk_e (by omega), k_part, if_neg c18, if_neg (fun z => z.elim c36 c42), if_pos (by first | exact Or.inl c68 | exact Or.inr c74), k_then_t, if_neg c112]
                    · unfold k_bd
                      omega
            · have hz9 : x9 ≠ m := fun z => by
                have h0 : (D 68).1 x9 = 0 := by rw [z]; exact hK
                first | exact absurd (h0.symm.trans c42) (by decide) | exact absurd (h0.symm.trans c36) (by decide)
              refine r_aload_n hE dX2_readSum_45 rfl ?_
              refine r_dup hE dX2_readSum_46 rfl ?_
              refine t_geti hE f_X2_87 y_I_66_1 dX2_readSum_47 (hL 66 (by decide)) ?_
              refine r_top (y := (nI x9)) rfl ?_
              refine r_iconst (v := 1) hE dX2_readSum_50 (by decide) ?_
              refine r_iaddN (a := x9) (b := 1) hE dX2_readSum_51 ?_
              refine t_puti hE f_X2_87 y_I_66_1 dX2_readSum_52 (hL 66 (by decide)) rfl rfl ?_
              rw [k_Q_1]
              refine r_aload_n hE dX2_readSum_55 rfl ?_
              refine r_iconst (v := 0) hE dX2_readSum_56 (by decide) ?_
              refine r_iconst (v := 3) hE dX2_readSum_57 (by decide) ?_
              by_cases hbd : k_bad (k_nx (D 68).1 (D 70).1 (x9 + 1)) 0 3
              · refine t_invv (r := (some (.int (-1)))) (S2 := (y_mk n L (k_Q D (x9 + 1) ((D 69).1 (x9 + 1)) lc fr tk rc s9 LN T9))) hE [.int 0, .int 3] (k_numF hL (by omega) hbd) v_yX2_number m_X2_103 dX2_readSum_58 rfl (hL 66 (by decide)) (y_l_66 ((k_Q D (x9 + 1) w9 lc fr tk rc s9 LN T9) 66)) rfl (by decide) ⟨Nat.le_refl _, Nat.le_refl _⟩ (Nat.le_of_ble_eq_true rfl) ?_
                show E 0 0 61 [(0, .ref 66), (1, .int (nI i)), (2, .int ((D 68).1 x9)), (3, .int 0)] [.int (-1)] (y_mk n L (k_Q D (x9 + 1) ((D 69).1 (x9 + 1)) lc fr tk rc s9 LN T9))
                refine r_istore_n (ls2 := [(0, .ref 66), (1, .int (nI i)), (2, .int ((D 68).1 x9)), (3, .int (-1))]) hE dX2_readSum_61 (by decide) rfl ?_
                refine r_goto (tgt := 95) hE dX2_readSum_62 (by decide) ?_
                refine r_aload_n hE dX2_readSum_95 rfl ?_
                refine r_iload_n hE dX2_readSum_96 rfl ?_
                refine r_iload_n hE dX2_readSum_97 rfl ?_
                refine t_invv (r := (some (.int 0))) (S2 := (y_mk n L (k_Q D (x9 + 1) ((D 69).1 (x9 + 1)) lc fr tk rc s9 LN T9))) hE [.int ((D 68).1 x9), .int (-1)] (k_keepF hL) v_yX2_keepStep m_X2_114 dX2_readSum_98 rfl (hL 66 (by decide)) (y_l_66 ((k_Q D (x9 + 1) ((D 69).1 (x9 + 1)) lc fr tk rc s9 LN T9) 66)) rfl (by decide) ⟨Nat.le_refl _, Nat.le_refl _⟩ (Nat.le_of_ble_eq_true rfl) ?_
                show E 0 0 101 [(0, .ref 66), (1, .int (nI i)), (2, .int ((D 68).1 x9)), (3, .int (-1))] [.int 0] (y_mk n L (k_Q D (x9 + 1) ((D 69).1 (x9 + 1)) lc fr tk rc s9 LN T9))
                refine r_if_ne (tgt := 106) hE dX2_readSum_101 (by decide) (fun c101 => by first | exact absurd c101 (by decide) | exact absurd (by decide) c101) (fun _ => ?_)
                refine r_iconst (v := 0) hE dX2_readSum_104 (by decide) ?_
                refine r_ireturn hE dX2_readSum_105 rfl (by first | rfl | exact y_nb _) (Nat.zero_le _) (Nat.zero_le _) ?_
                refine ⟨_, _, rfl, rfl, false, _, _, _, _, ?_, by decide, rfl, ?_⟩
                · rw [← hw, k_suk_e (by omega), k_part, if_neg c18, if_pos (by first | exact Or.inl c36 | exact Or.inr c42), if_pos hbd, k_then_f]
                · unfold k_bd
                  omega
              · have hne : (k_nx (D 68).1 (D 70).1 (x9 + 1)) ≠ -1 := k_ne (by decide) hbd
                have hk2 := k_2 (by decide) hbd
                have hzz : (x9 + 1) ≠ m := fun z => absurd (z ▸ hk2) (by rw [hK]; decide)
                refine t_invv (r := (some (.int (k_nx (D 68).1 (D 70).1 (x9 + 1))))) (S2 := (y_mk n L (k_Q D ((x9 + 1) + 1) w9 lc fr tk rc s9 LN T9))) hE [.int 0, .int 3] (k_numT hL (by omega) hbd) v_yX2_number m_X2_103 dX2_readSum_58 rfl (hL 66 (by decide)) (y_l_66 ((k_Q D (x9 + 1) w9 lc fr tk rc s9 LN T9) 66)) rfl (by decide) ⟨Nat.le_refl _, Nat.le_refl _⟩ (Nat.le_of_ble_eq_true rfl) ?_
                show E 0 0 61 [(0, .ref 66), (1, .int (nI i)), (2, .int ((D 68).1 x9)), (3, .int 0)] [.int (k_nx (D 68).1 (D 70).1 (x9 + 1))] (y_mk n L (k_Q D ((x9 + 1) + 1) w9 lc fr tk rc s9 LN T9))
                refine r_istore_n (ls2 := [(0, .ref 66), (1, .int (nI i)), (2, .int ((D 68).1 x9)), (3, .int (k_nx (D 68).1 (D 70).1 (x9 + 1)))]) hE dX2_readSum_61 (by decide) rfl ?_
                refine r_goto (tgt := 95) hE dX2_readSum_62 (by decide) ?_
                refine r_aload_n hE dX2_readSum_95 rfl ?_
                refine r_iload_n hE dX2_readSum_96 rfl ?_
                refine r_iload_n hE dX2_readSum_97 rfl ?_
                refine t_invv (r := (some (.int 1))) (S2 := (y_mk n L (k_Q D ((x9 + 1) + 1) w9 lc fr tk rc (s9 + 1) LN (upd T9 s9 (((D 68).1 x9) * 1024 + (k_nx (D 68).1 (D 70).1 (x9 + 1))))))) hE [.int ((D 68).1 x9), .int (k_nx (D 68).1 (D 70).1 (x9 + 1))] (k_keepT hL (by first | decide | exact hne) (by omega)) v_yX2_keepStep m_X2_114 dX2_readSum_98 rfl (hL 66 (by decide)) (y_l_66 ((k_Q D ((x9 + 1) + 1) w9 lc fr tk rc s9 LN T9) 66)) rfl (by decide) ⟨Nat.le_refl _, Nat.le_refl _⟩ (Nat.le_of_ble_eq_true rfl) ?_
                show E 0 0 101 [(0, .ref 66), (1, .int (nI i)), (2, .int ((D 68).1 x9)), (3, .int (k_nx (D 68).1 (D 70).1 (x9 + 1)))] [.int 1] (y_mk n L (k_Q D ((x9 + 1) + 1) w9 lc fr tk rc (s9 + 1) LN (upd T9 s9 (((D 68).1 x9) * 1024 + (k_nx (D 68).1 (D 70).1 (x9 + 1))))))
                refine r_if_ne (tgt := 106) hE dX2_readSum_101 (by decide) (fun _ => ?_) (fun c101 => by first | exact absurd c101 (by decide) | exact absurd (by decide) c101)
                refine r_aload_n hE dX2_readSum_106 rfl ?_
                refine t_invv (r := (some (.int ((D 68).1 ((x9 + 1) + 1))))) (S2 := (y_mk n L (k_Q D ((x9 + 1) + 1) w9 lc fr tk rc (s9 + 1) LN (upd T9 s9 (((D 68).1 x9) * 1024 + (k_nx (D 68).1 (D 70).1 (x9 + 1))))))) hE [] (k_token hL (by omega)) v_yX2_token m_X2_38 dX2_readSum_107 rfl (hL 66 (by decide)) (y_l_66 ((k_Q D ((x9 + 1) + 1) w9 lc fr tk rc (s9 + 1) LN (upd T9 s9 (((D 68).1 x9) * 1024 + (k_nx (D 68).1 (D 70).1 (x9 + 1))))) 66)) rfl (by decide) ⟨Nat.le_refl _, Nat.le_refl _⟩ (Nat.le_of_ble_eq_true rfl) ?_
                show E 0 0 110 [(0, .ref 66), (1, .int (nI i)), (2, .int ((D 68).1 x9)), (3, .int (k_nx (D 68).1 (D 70).1 (x9 + 1)))] [.int ((D 68).1 ((x9 + 1) + 1))] (y_mk n L (k_Q D ((x9 + 1) + 1) w9 lc fr tk rc (s9 + 1) LN (upd T9 s9 (((D 68).1 x9) * 1024 + (k_nx (D 68).1 (D 70).1 (x9 + 1))))))
                refine r_bipush (v := 7) hE dX2_readSum_110 (by decide) ?_
                refine r_icmp_eq (tgt := 117) hE dX2_readSum_112 (by decide) (fun c112 => ?_) (fun c112 => ?_)
                · have hz8 : ((x9 + 1) + 1) ≠ m := fun z => by
                    rw [z, hK] at c112
                    exact absurd c112 (by decide)
                  refine r_aload_n hE dX2_readSum_117 rfl ?_
                  refine r_dup hE dX2_readSum_118 rfl ?_
                  refine t_geti hE f_X2_87 y_I_66_1 dX2_readSum_119 (hL 66 (by decide)) ?_
                  refine r_top (y := (nI ((x9 + 1) + 1))) rfl ?_
                  refine r_iconst (v := 1) hE dX2_readSum_122 (by decide) ?_
                  refine r_iaddN (a := ((x9 + 1) + 1)) (b := 1) hE dX2_readSum_123 ?_
                  refine t_puti hE f_X2_87 y_I_66_1 dX2_readSum_124 (hL 66 (by decide)) rfl rfl ?_
                  rw [k_Q_1]
                  refine r_iincN (a := i) (b := 1) (ls2 := [(0, .ref 66), (1, .int (nI (i + 1))), (2, .int ((D 68).1 x9)), (3, .int (k_nx (D 68).1 (D 70).1 (x9 + 1)))]) hE dX2_readSum_127 rfl rfl (by decide) rfl ?_
                  refine r_goto (tgt := 2) hE dX2_readSum_130 (by decide) ?_
                  refine r_locs hE (ls2 := [(0, .ref 66), (1, .int (nI (i + 1)))]) (by simp [x_lk]) ?_
                  exact ih (f - 1) (by omega) (f - 1) (i + 1) (((x9 + 1) + 1) + 1) (s9 + 1) w9 (upd T9 s9 (((D 68).1 x9) * 1024 + (k_nx (D 68).1 (D 70).1 (x9 + 1)))) rfl (by omega) (by unfold k_bd; omega) (by rw [← hw]; refine Eq.trans ?_ (k_suk_e (by omega)).symm; rw [k_part, if_neg c18, if_pos (by first | exact Or.inl c36 | exact Or.inr c42), if_neg hbd, k_then_t, if_pos c112])
                · refine r_iconst (v := 1) hE dX2_readSum_115 (by decide) ?_
                  refine r_ireturn hE dX2_readSum_116 rfl (by first | rfl | exact y_nb _) (Nat.zero_le _) (Nat.zero_le _) ?_
                  refine ⟨_, _, rfl, rfl, true, _, _, _, _, ?_, by decide, rfl, ?_⟩
                  · rw [← hw, k_suk_e (by omega), k_part, if_neg c18, if_pos (by first | exact Or.inl c36 | exact Or.inr c42), if_neg hbd, k_then_t, if_neg c112]
                  · unfold k_bd
                    omega
        · have hz9 : x9 ≠ m := fun z => by
            rw [z, hK] at c18
            exact absurd c18 (by decide)
          refine r_aload_n hE dX2_readSum_21 rfl ?_
          refine r_iconst (v := 0) hE dX2_readSum_22 (by decide) ?_
          refine r_sipush (v := 999) hE dX2_readSum_23 (by decide) ?_
          by_cases hbd : k_bad (k_nx (D 68).1 (D 70).1 x9) 0 999
          · refine t_invv (r := (some (.int (-1)))) (S2 := (y_mk n L (k_Q D x9 ((D 69).1 x9) lc fr tk rc s9 LN T9))) hE [.int 0, .int 999] (k_numF hL (by omega) hbd) v_yX2_number m_X2_103 dX2_readSum_26 rfl (hL 66 (by decide)) (y_l_66 ((k_Q D x9 w9 lc fr tk rc s9 LN T9) 66)) rfl (by decide) ⟨Nat.le_refl _, Nat.le_refl _⟩ (Nat.le_of_ble_eq_true rfl) ?_
            show E 0 0 29 [(0, .ref 66), (1, .int (nI i)), (2, .int ((D 68).1 x9)), (3, .int 0)] [.int (-1)] (y_mk n L (k_Q D x9 ((D 69).1 x9) lc fr tk rc s9 LN T9))
            refine r_istore_n (ls2 := [(0, .ref 66), (1, .int (nI i)), (2, .int ((D 68).1 x9)), (3, .int (-1))]) hE dX2_readSum_29 (by decide) rfl ?_
            refine r_goto (tgt := 95) hE dX2_readSum_30 (by decide) ?_
            refine r_aload_n hE dX2_readSum_95 rfl ?_
            refine r_iload_n hE dX2_readSum_96 rfl ?_
            refine r_iload_n hE dX2_readSum_97 rfl ?_
            refine t_invv (r := (some (.int 0))) (S2 := (y_mk n L (k_Q D x9 ((D 69).1 x9) lc fr tk rc s9 LN T9))) hE [.int ((D 68).1 x9), .int (-1)] (k_keepF hL) v_yX2_keepStep m_X2_114 dX2_readSum_98 rfl (hL 66 (by decide)) (y_l_66 ((k_Q D x9 ((D 69).1 x9) lc fr tk rc s9 LN T9) 66)) rfl (by decide) ⟨Nat.le_refl _, Nat.le_refl _⟩ (Nat.le_of_ble_eq_true rfl) ?_
            show E 0 0 101 [(0, .ref 66), (1, .int (nI i)), (2, .int ((D 68).1 x9)), (3, .int (-1))] [.int 0] (y_mk n L (k_Q D x9 ((D 69).1 x9) lc fr tk rc s9 LN T9))
            refine r_if_ne (tgt := 106) hE dX2_readSum_101 (by decide) (fun c101 => by first | exact absurd c101 (by decide) | exact absurd (by decide) c101) (fun _ => ?_)
            refine r_iconst (v := 0) hE dX2_readSum_104 (by decide) ?_
            refine r_ireturn hE dX2_readSum_105 rfl (by first | rfl | exact y_nb _) (Nat.zero_le _) (Nat.zero_le _) ?_
            refine ⟨_, _, rfl, rfl, false, _, _, _, _, ?_, by decide, rfl, ?_⟩
            · rw [← hw, k_suk_e (by omega), k_part, if_pos c18, if_pos hbd, k_then_f]
            · unfold k_bd
              omega
          · have hne : (k_nx (D 68).1 (D 70).1 x9) ≠ -1 := k_ne (by decide) hbd
            have hk2 := k_2 (by decide) hbd
            have hzz : x9 ≠ m := fun z => absurd (z ▸ hk2) (by rw [hK]; decide)
            refine t_invv (r := (some (.int (k_nx (D 68).1 (D 70).1 x9)))) (S2 := (y_mk n L (k_Q D (x9 + 1) w9 lc fr tk rc s9 LN T9))) hE [.int 0, .int 999] (k_numT hL (by omega) hbd) v_yX2_number m_X2_103 dX2_readSum_26 rfl (hL 66 (by decide)) (y_l_66 ((k_Q D x9 w9 lc fr tk rc s9 LN T9) 66)) rfl (by decide) ⟨Nat.le_refl _, Nat.le_refl _⟩ (Nat.le_of_ble_eq_true rfl) ?_
            show E 0 0 29 [(0, .ref 66), (1, .int (nI i)), (2, .int ((D 68).1 x9)), (3, .int 0)] [.int (k_nx (D 68).1 (D 70).1 x9)] (y_mk n L (k_Q D (x9 + 1) w9 lc fr tk rc s9 LN T9))
            refine r_istore_n (ls2 := [(0, .ref 66), (1, .int (nI i)), (2, .int ((D 68).1 x9)), (3, .int (k_nx (D 68).1 (D 70).1 x9))]) hE dX2_readSum_29 (by decide) rfl ?_
            refine r_goto (tgt := 95) hE dX2_readSum_30 (by decide) ?_
            refine r_aload_n hE dX2_readSum_95 rfl ?_
            refine r_iload_n hE dX2_readSum_96 rfl ?_
            refine r_iload_n hE dX2_readSum_97 rfl ?_
            refine t_invv (r := (some (.int 1))) (S2 := (y_mk n L (k_Q D (x9 + 1) w9 lc fr tk rc (s9 + 1) LN (upd T9 s9 (((D 68).1 x9) * 1024 + (k_nx (D 68).1 (D 70).1 x9)))))) hE [.int ((D 68).1 x9), .int (k_nx (D 68).1 (D 70).1 x9)] (k_keepT hL (by first | decide | exact hne) (by omega)) v_yX2_keepStep m_X2_114 dX2_readSum_98 rfl (hL 66 (by decide)) (y_l_66 ((k_Q D (x9 + 1) w9 lc fr tk rc s9 LN T9) 66)) rfl (by decide) ⟨Nat.le_refl _, Nat.le_refl _⟩ (Nat.le_of_ble_eq_true rfl) ?_
            show E 0 0 101 [(0, .ref 66), (1, .int (nI i)), (2, .int ((D 68).1 x9)), (3, .int (k_nx (D 68).1 (D 70).1 x9))] [.int 1] (y_mk n L (k_Q D (x9 + 1) w9 lc fr tk rc (s9 + 1) LN (upd T9 s9 (((D 68).1 x9) * 1024 + (k_nx (D 68).1 (D 70).1 x9)))))
            refine r_if_ne (tgt := 106) hE dX2_readSum_101 (by decide) (fun _ => ?_) (fun c101 => by first | exact absurd c101 (by decide) | exact absurd (by decide) c101)
            refine r_aload_n hE dX2_readSum_106 rfl ?_
            refine t_invv (r := (some (.int ((D 68).1 (x9 + 1))))) (S2 := (y_mk n L (k_Q D (x9 + 1) w9 lc fr tk rc (s9 + 1) LN (upd T9 s9 (((D 68).1 x9) * 1024 + (k_nx (D 68).1 (D 70).1 x9)))))) hE [] (k_token hL (by omega)) v_yX2_token m_X2_38 dX2_readSum_107 rfl (hL 66 (by decide)) (y_l_66 ((k_Q D (x9 + 1) w9 lc fr tk rc (s9 + 1) LN (upd T9 s9 (((D 68).1 x9) * 1024 + (k_nx (D 68).1 (D 70).1 x9)))) 66)) rfl (by decide) ⟨Nat.le_refl _, Nat.le_refl _⟩ (Nat.le_of_ble_eq_true rfl) ?_
            show E 0 0 110 [(0, .ref 66), (1, .int (nI i)), (2, .int ((D 68).1 x9)), (3, .int (k_nx (D 68).1 (D 70).1 x9))] [.int ((D 68).1 (x9 + 1))] (y_mk n L (k_Q D (x9 + 1) w9 lc fr tk rc (s9 + 1) LN (upd T9 s9 (((D 68).1 x9) * 1024 + (k_nx (D 68).1 (D 70).1 x9)))))
            refine r_bipush (v := 7) hE dX2_readSum_110 (by decide) ?_
            refine r_icmp_eq (tgt := 117) hE dX2_readSum_112 (by decide) (fun c112 => ?_) (fun c112 => ?_)
            · have hz8 : (x9 + 1) ≠ m := fun z => by
                rw [z, hK] at c112
                exact absurd c112 (by decide)
              refine r_aload_n hE dX2_readSum_117 rfl ?_
              refine r_dup hE dX2_readSum_118 rfl ?_
              refine t_geti hE f_X2_87 y_I_66_1 dX2_readSum_119 (hL 66 (by decide)) ?_
              refine r_top (y := (nI (x9 + 1))) rfl ?_
              refine r_iconst (v := 1) hE dX2_readSum_122 (by decide) ?_
              refine r_iaddN (a := (x9 + 1)) (b := 1) hE dX2_readSum_123 ?_
              refine t_puti hE f_X2_87 y_I_66_1 dX2_readSum_124 (hL 66 (by decide)) rfl rfl ?_
              rw [k_Q_1]
              refine r_iincN (a := i) (b := 1) (ls2 := [(0, .ref 66), (1, .int (nI (i + 1))), (2, .int ((D 68).1 x9)), (3, .int (k_nx (D 68).1 (D 70).1 x9))]) hE dX2_readSum_127 rfl rfl (by decide) rfl ?_
              refine r_goto (tgt := 2) hE dX2_readSum_130 (by decide) ?_
              refine r_locs hE (ls2 := [(0, .ref 66), (1, .int (nI (i + 1)))]) (by simp [x_lk]) ?_
              exact ih (f - 1) (by omega) (f - 1) (i + 1) ((x9 + 1) + 1) (s9 + 1) w9 (upd T9 s9 (((D 68).1 x9) * 1024 + (k_nx (D 68).1 (D 70).1 x9))) rfl (by omega) (by unfold k_bd; omega) (by rw [← hw]; refine Eq.trans ?_ (k_suk_e (by omega)).symm; rw [k_part, if_pos c18, if_neg hbd, k_then_t, if_pos c112])
            · refine r_iconst (v := 1) hE dX2_readSum_115 (by decide) ?_
              refine r_ireturn hE dX2_readSum_116 rfl (by first | rfl | exact y_nb _) (Nat.zero_le _) (Nat.zero_le _) ?_
              refine ⟨_, _, rfl, rfl, true, _, _, _, _, ?_, by decide, rfl, ?_⟩
              · rw [← hw, k_suk_e (by omega), k_part, if_pos c18, if_neg hbd, k_then_t, if_neg c112]
              · unfold k_bd
                omega
  refine r_iconst (v := 0) hE dX2_readSum_0 (by decide) ?_
  refine r_istore_n (ls2 := [(0, .ref 66), (1, .int 0)]) hE dX2_readSum_1 (by decide) rfl ?_
  exact l1 401 0 nx sc wr ST (by omega) (by unfold k_bd; omega) rfl

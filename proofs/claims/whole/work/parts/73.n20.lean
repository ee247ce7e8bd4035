/-! the reference's reader: conditions -/
def l_C (V : x_E) (n : Nat) (L : List Nat) (D : y_D) (e : Nat) (y : MethodName) (cc : ByteArray) (nL d : Nat) (F : l_F) (g : Nat) : Prop := ∀ (p b s : Nat) (W : Nat → Int32), p ≤ e → s ≤ p → y_Ri V y cc nL (some .boolean) d [.ref 169] n L (m_P D p b g s W) (l_R D e F p b g s W)
theorem y_b_dec {P : Prop} [Decidable P] : y_b P = y_b (decide P = true) := by by_cases h : P <;> simp [y_b, h]
def l_jk (T : Nat → Int32) (e i : Nat) (cd : Int32) (A : l_F) : Nat → l_F
  | 0 => fun p b g s W => (false, p, b, g, s, W)
  | k + 1 => fun p _ g s W => if l_w T (l_bl T e p) (l_le T e p) i then l_then (A (l_pa T e i p) (l_bl T e p) g s W) (fun p b g s W => l_jk T e i cd A k p b g (s + 1) (l_em W s cd 0)) else (true, l_pa T e i p, l_bl T e p, g, s, W)
theorem l_jk_e {T : Nat → Int32} {e i : Nat} {cd : Int32} {A : l_F} {k p b g s : Nat} {W : Nat → Int32} (hk : 0 < k) : l_jk T e i cd A k p b g s W = if l_w T (l_bl T e p) (l_le T e p) i then l_then (A (l_pa T e i p) (l_bl T e p) g s W) (fun p b g s W => l_jk T e i cd A (k - 1) p b g (s + 1) (l_em W s cd 0)) else (true, l_pa T e i p, l_bl T e p, g, s, W) := by
  rcases k with _ | k
  · omega
  · rfl
/-- several, joined by the word i -/
def l_j (T : Nat → Int32) (e i : Nat) (cd : Int32) (A : l_F) : l_F := fun p b g s W => l_then (A p b g s W) (l_jk T e i cd A 401)
def l_cmp (T : Nat → Int32) (e : Nat) : l_F := fun p b g s W => l_then (l_su T e p b g s W) (fun p _ g s W =>
  if l_is T e 60 p then l_then (l_su T e (l_sg T e 60 p) (l_bl T e p) g s W) (fun p b g s W => (true, p, b, g, s + 1, l_em W s 12 0))
  else if l_is T e 62 (l_sg T e 60 p) then l_then (l_su T e (l_sg T e 62 (l_sg T e 60 p)) (l_bl T e (l_sg T e 60 p)) g s W) (fun p b g s W => (true, p, b, g, s + 1, l_em W s 13 0))
  else (false, l_sg T e 62 (l_sg T e 60 p), l_bl T e (l_sg T e 60 p), g, s, W))
def l_tag (T : Nat → Int32) (b p : Nat) : Int32 := if l_w T b p 17 then 4 else if l_w T b p 18 then 5 else if l_w T b p 19 then 6 else if l_w T b p 20 then 7 else if l_w T b p 21 then 8 else if l_w T b p 22 then 9 else -1
theorem l_tag_c {T : Nat → Int32} {b p : Nat} : (l_tag T b p = 4 ∧ l_w T b p 17) ∨ (l_tag T b p = 5 ∧ l_w T b p 18) ∨ (l_tag T b p = 6 ∧ l_w T b p 19) ∨ (l_tag T b p = 7 ∧ l_w T b p 20) ∨ (l_tag T b p = 8 ∧ l_w T b p 21) ∨ (l_tag T b p = 9 ∧ l_w T b p 22) ∨ l_tag T b p = -1 := by
  unfold l_tag
  by_cases h1 : l_w T b p 17
  · rw [if_pos h1]; exact Or.inl ⟨rfl, h1⟩
  rw [if_neg h1]
  by_cases h2 : l_w T b p 18
  · rw [if_pos h2]; exact Or.inr (Or.inl ⟨rfl, h2⟩)
  rw [if_neg h2]
  by_cases h3 : l_w T b p 19
  · rw [if_pos h3]; exact Or.inr (Or.inr (Or.inl ⟨rfl, h3⟩))
  rw [if_neg h3]
  by_cases h4 : l_w T b p 20
  · rw [if_pos h4]; exact Or.inr (Or.inr (Or.inr (Or.inl ⟨rfl, h4⟩)))
  rw [if_neg h4]
  by_cases h5 : l_w T b p 21
  · rw [if_pos h5]; exact Or.inr (Or.inr (Or.inr (Or.inr (Or.inl ⟨rfl, h5⟩))))
  rw [if_neg h5]
  by_cases h6 : l_w T b p 22
  · rw [if_pos h6]; exact Or.inr (Or.inr (Or.inr (Or.inr (Or.inr (Or.inl ⟨rfl, h6⟩)))))
  rw [if_neg h6]
  exact Or.inr (Or.inr (Or.inr (Or.inr (Or.inr (Or.inr rfl)))))
/-- a tag, or a comparison -/
def l_tagF (T : Nat → Int32) (e : Nat) : l_F := fun p _ g s W =>
  if l_tag T (l_bl T e p) (l_le T e p) = -1 then l_cmp T e (l_bl T e p) (l_bl T e p) g s W
  else if l_tag T (l_bl T e p) (l_le T e p) ≤ 5 then (true, l_le T e p, l_bl T e p, g, s + 1, l_em W s (l_tag T (l_bl T e p) (l_le T e p)) 0)
  else (decide (¬ l_nv T e 0 3 (l_le T e p) < 0), l_di T e (l_le T e p), l_bl T e (l_le T e p), g, s + 1, l_em W s (l_tag T (l_bl T e p) (l_le T e p)) (l_nv T e 0 3 (l_le T e p)))
def l_atomF (T : Nat → Int32) (e : Nat) (C A : l_F) : l_F := fun p b g s W =>
  if l_is T e 40 p then (if g = 6 then (false, l_sg T e 40 p, l_bl T e p, g, s, W) else l_then (C (l_sg T e 40 p) (l_bl T e p) (g + 1) s W) (fun p _ g s W => (decide (l_is T e 41 p), l_sg T e 41 p, l_bl T e p, g - 1, s, W)))
  else if l_w T (l_bl T e (l_sg T e 40 p)) (l_le T e (l_sg T e 40 p)) 16 then (if g = 6 then (false, l_pa T e 16 (l_sg T e 40 p), l_bl T e (l_sg T e 40 p), g, s, W) else l_then (A (l_pa T e 16 (l_sg T e 40 p)) (l_bl T e (l_sg T e 40 p)) (g + 1) s W) (fun p b g s W => (true, p, b, g - 1, s + 1, l_em W s 14 0)))
  else l_tagF T e (l_pa T e 16 (l_sg T e 40 p)) b g s W
def l_cond (T : Nat → Int32) (e : Nat) (A : l_F) : l_F := l_j T e 28 16 (l_j T e 27 15 A)
def l_at (T : Nat → Int32) (e : Nat) : Nat → l_F
  | 0 => fun p b g s W => (false, p, b, g, s, W)
  | k + 1 => l_atomF T e (l_cond T e (l_at T e k)) (l_at T e k)
theorem c_tagAt {V : x_E} {n : Nat} {L : List Nat} {D : y_D} (hV : y_V V) (hF : y_fm V) {e p b g s : Nat} {W : Nat → Int32} (hL : y_ok L) (hen : (D 169).1 7 = nI e) (he : e ≤ 400) (hp : p ≤ e) (hb : b ≤ p) : x_Fn V yX11_tagAt cX11_tagAt 1 (some .int) 5 [.ref 169] (y_mk n L (m_P D p b g s W)) (some (.int (l_tag (D 172).1 b p))) (y_mk n L (m_P D p b g s W)) := by
  refine x_fn (by decide) (Nat.le_of_ble_eq_true rfl) (fun E hE => ?_)
  change E 0 0 0 [(0, .ref 169)] [] (y_mk n L (m_P D p b g s W))
  refine r_aload_n hE dX11_tagAt_0 rfl ?_
  refine r_ldcS (h := 17) hE (by decide) (sr_166 hV) dX11_tagAt_1 ?_
  refine t_invv (r := (some (.int (y_b (l_w (D 172).1 b p 17))))) (S2 := (y_mk n L (m_P D p b g s W))) hE [.ref 17] (c_isWord (i := 17) hV hF (by first | decide | exact hi) hL hen he (by first | omega | exact l_to_le (l_to_le hp)) (by first | omega | exact l_to_ge)) v_yX11_isWord m_X11_128 dX11_tagAt_3 rfl (hL 169 (by decide)) (y_l_169 ((m_P D p b g s W) 169)) rfl (by decide) ⟨Nat.le_refl _, Nat.le_refl _⟩ (Nat.le_of_ble_eq_true rfl) ?_
  show E 0 0 6 [(0, .ref 169)] [.int (y_b (l_w (D 172).1 b p 17))] (y_mk n L (m_P D p b g s W))
  refine r_ifb_eq (tgt := 13) hE dX11_tagAt_6 (by decide) (fun c6 => ?_) (fun c6 => ?_)
  · refine r_aload_n hE dX11_tagAt_13 rfl ?_
    refine r_ldcS (h := 18) hE (by decide) (sr_168 hV) dX11_tagAt_14 ?_
    refine t_invv (r := (some (.int (y_b (l_w (D 172).1 b p 18))))) (S2 := (y_mk n L (m_P D p b g s W))) hE [.ref 18] (c_isWord (i := 18) hV hF (by first | decide | exact hi) hL hen he (by first | omega | exact l_to_le (l_to_le hp)) (by first | omega | exact l_to_ge)) v_yX11_isWord m_X11_128 dX11_tagAt_16 rfl (hL 169 (by decide)) (y_l_169 ((m_P D p b g s W) 169)) rfl (by decide) ⟨Nat.le_refl _, Nat.le_refl _⟩ (Nat.le_of_ble_eq_true rfl) ?_
    show E 0 0 19 [(0, .ref 169)] [.int (y_b (l_w (D 172).1 b p 18))] (y_mk n L (m_P D p b g s W))
    refine r_ifb_eq (tgt := 26) hE dX11_tagAt_19 (by decide) (fun c19 => ?_) (fun c19 => ?_)
    · refine r_aload_n hE dX11_tagAt_26 rfl ?_
      refine r_ldcS (h := 19) hE (by decide) (sr_170 hV) dX11_tagAt_27 ?_
      refine t_invv (r := (some (.int (y_b (l_w (D 172).1 b p 19))))) (S2 := (y_mk n L (m_P D p b g s W))) hE [.ref 19] (c_isWord (i := 19) hV hF (by first | decide | exact hi) hL hen he (by first | omega | exact l_to_le (l_to_le hp)) (by first | omega | exact l_to_ge)) v_yX11_isWord m_X11_128 dX11_tagAt_29 rfl (hL 169 (by decide)) (y_l_169 ((m_P D p b g s W) 169)) rfl (by decide) ⟨Nat.le_refl _, Nat.le_refl _⟩ (Nat.le_of_ble_eq_true rfl) ?_
      show E 0 0 32 [(0, .ref 169)] [.int (y_b (l_w (D 172).1 b p 19))] (y_mk n L (m_P D p b g s W))
      refine r_ifb_eq (tgt := 40) hE dX11_tagAt_32 (by decide) (fun c32 => ?_) (fun c32 => ?_)
      · refine r_aload_n hE dX11_tagAt_40 rfl ?_
        refine r_ldcS (h := 20) hE (by decide) (sr_172 hV) dX11_tagAt_41 ?_
        refine t_invv (r := (some (.int (y_b (l_w (D 172).1 b p 20))))) (S2 := (y_mk n L (m_P D p b g s W))) hE [.ref 20] (c_isWord (i := 20) hV hF (by first | decide | exact hi) hL hen he (by first | omega | exact l_to_le (l_to_le hp)) (by first | omega | exact l_to_ge)) v_yX11_isWord m_X11_128 dX11_tagAt_43 rfl (hL 169 (by decide)) (y_l_169 ((m_P D p b g s W) 169)) rfl (by decide) ⟨Nat.le_refl _, Nat.le_refl _⟩ (Nat.le_of_ble_eq_true rfl) ?_
        show E 0 0 46 [(0, .ref 169)] [.int (y_b (l_w (D 172).1 b p 20))] (y_mk n L (m_P D p b g s W))
        refine r_ifb_eq (tgt := 54) hE dX11_tagAt_46 (by decide) (fun c46 => ?_) (fun c46 => ?_)
        · refine r_aload_n hE dX11_tagAt_54 rfl ?_
          refine r_ldcS (h := 21) hE (by decide) (sr_174 hV) dX11_tagAt_55 ?_
          refine t_invv (r := (some (.int (y_b (l_w (D 172).1 b p 21))))) (S2 := (y_mk n L (m_P D p b g s W))) hE [.ref 21] (c_isWord (i := 21) hV hF (by first | decide | exact hi) hL hen he (by first | omega | exact l_to_le (l_to_le hp)) (by first | omega | exact l_to_ge)) v_yX11_isWord m_X11_128 dX11_tagAt_57 rfl (hL 169 (by decide)) (y_l_169 ((m_P D p b g s W) 169)) rfl (by decide) ⟨Nat.le_refl _, Nat.le_refl _⟩ (Nat.le_of_ble_eq_true rfl) ?_
          show E 0 0 60 [(0, .ref 169)] [.int (y_b (l_w (D 172).1 b p 21))] (y_mk n L (m_P D p b g s W))
          refine r_ifb_eq (tgt := 68) hE dX11_tagAt_60 (by decide) (fun c60 => ?_) (fun c60 => ?_)
          · refine r_aload_n hE dX11_tagAt_68 rfl ?_
            refine r_ldcS (h := 22) hE (by decide) (sr_176 hV) dX11_tagAt_69 ?_
            refine t_invv (r := (some (.int (y_b (l_w (D 172).1 b p 22))))) (S2 := (y_mk n L (m_P D p b g s W))) hE [.ref 22] (c_isWord (i := 22) hV hF (by first | decide | exact hi) hL hen he (by first | omega | exact l_to_le (l_to_le hp)) (by first | omega | exact l_to_ge)) v_yX11_isWord m_X11_128 dX11_tagAt_71 rfl (hL 169 (by decide)) (y_l_169 ((m_P D p b g s W) 169)) rfl (by decide) ⟨Nat.le_refl _, Nat.le_refl _⟩ (Nat.le_of_ble_eq_true rfl) ?_
            show E 0 0 74 [(0, .ref 169)] [.int (y_b (l_w (D 172).1 b p 22))] (y_mk n L (m_P D p b g s W))
            refine r_ifb_eq (tgt := 82) hE dX11_tagAt_74 (by decide) (fun c74 => ?_) (fun c74 => ?_)
            · refine r_iconst (v := (-1)) hE dX11_tagAt_82 (by decide) ?_
              refine r_ireturn hE dX11_tagAt_83 rfl rfl (Nat.zero_le _) (Nat.zero_le _) ?_
              unfold l_tag
              repeat first | rw [if_pos (by assumption)] | rw [if_neg (by assumption)]
              exact ⟨rfl, rfl⟩
            · refine r_bipush (v := 9) hE dX11_tagAt_77 (by decide) ?_
              refine r_goto (tgt := 83) hE dX11_tagAt_79 (by decide) ?_
              refine r_ireturn hE dX11_tagAt_83 rfl rfl (Nat.zero_le _) (Nat.zero_le _) ?_
              unfold l_tag
              repeat first | rw [if_pos (by assumption)] | rw [if_neg (by assumption)]
              exact ⟨rfl, rfl⟩
          · refine r_bipush (v := 8) hE dX11_tagAt_63 (by decide) ?_
            refine r_goto (tgt := 83) hE dX11_tagAt_65 (by decide) ?_
            refine r_ireturn hE dX11_tagAt_83 rfl rfl (Nat.zero_le _) (Nat.zero_le _) ?_
            unfold l_tag
            repeat first | rw [if_pos (by assumption)] | rw [if_neg (by assumption)]
            exact ⟨rfl, rfl⟩
        · refine r_bipush (v := 7) hE dX11_tagAt_49 (by decide) ?_
          refine r_goto (tgt := 83) hE dX11_tagAt_51 (by decide) ?_
          refine r_ireturn hE dX11_tagAt_83 rfl rfl (Nat.zero_le _) (Nat.zero_le _) ?_
          unfold l_tag
          repeat first | rw [if_pos (by assumption)] | rw [if_neg (by assumption)]
          exact ⟨rfl, rfl⟩
      · refine r_bipush (v := 6) hE dX11_tagAt_35 (by decide) ?_
        refine r_goto (tgt := 83) hE dX11_tagAt_37 (by decide) ?_
        refine r_ireturn hE dX11_tagAt_83 rfl rfl (Nat.zero_le _) (Nat.zero_le _) ?_
        unfold l_tag
        repeat first | rw [if_pos (by assumption)] | rw [if_neg (by assumption)]
        exact ⟨rfl, rfl⟩
    · refine r_iconst (v := 5) hE dX11_tagAt_22 (by decide) ?_
      refine r_goto (tgt := 83) hE dX11_tagAt_23 (by decide) ?_
      refine r_ireturn hE dX11_tagAt_83 rfl rfl (Nat.zero_le _) (Nat.zero_le _) ?_
      unfold l_tag
      repeat first | rw [if_pos (by assumption)] | rw [if_neg (by assumption)]
      exact ⟨rfl, rfl⟩
  · refine r_iconst (v := 4) hE dX11_tagAt_9 (by decide) ?_
    refine r_goto (tgt := 83) hE dX11_tagAt_10 (by decide) ?_
    refine r_ireturn hE dX11_tagAt_83 rfl rfl (Nat.zero_le _) (Nat.zero_le _) ?_
    unfold l_tag
    repeat first | rw [if_pos (by assumption)] | rw [if_neg (by assumption)]
    exact ⟨rfl, rfl⟩
theorem c_readAllOf {V : x_E} {n : Nat} {L : List Nat} {D : y_D} {e : Nat} (hV : y_V V) (hF : y_fm V) (hL : y_ok L) (hen : (D 169).1 7 = nI e) (he : e ≤ 400) {dA g : Nat} {A : l_F} (h8 : 8 ≤ dA) (hA : l_C V n L D e yX11_readAtom cX11_readAtom 3 dA A g) : l_C V n L D e yX11_readAllOf cX11_readAllOf 1 (dA + 1) (l_j (D 172).1 e 27 15 A) g := by
  intro p b s W hp hs
  refine y_ri (by decide) (Nat.le_of_ble_eq_true rfl) (fun E hE => ?_)
  change E 0 0 0 [(0, .ref 169)] [] (y_mk n L (m_P D p b g s W))
  have l1 : ∀ (k p9 b9 s9 : Nat) (W9 : Nat → Int32), e - p9 < k → l_bd e p s p9 s9 → l_jk (D 172).1 e 27 15 A k p9 b9 g s9 W9 = l_j (D 172).1 e 27 15 A p b g s W → E 0 0 9 [(0, .ref 169)] [] (y_mk n L (m_P D p9 b9 g s9 W9)) := by
    intro k p9 b9 s9 W9
    induction hm9 : (k) using Nat.strongRecOn generalizing k p9 b9 s9 W9 with
    | _ m9 ih =>
      intro hk hb9 hw
      subst hm9
      have f1 := hb9.all
      have f2 := l_pa_b (T := (D 172).1) (i := 27) f1.2.1
      have f4 := l_f (T := (D 172).1) f1.2.1
      refine r_aload_n hE dX11_readAllOf_9 rfl ?_
      refine r_ldcS (h := 27) hE (by decide) (sr_198 hV) dX11_readAllOf_10 ?_
      refine t_invv (r := (some (.int (y_b (l_w (D 172).1 (l_bl (D 172).1 e p9) (l_le (D 172).1 e p9) 27))))) (S2 := (y_mk n L (m_P D (l_pa (D 172).1 e 27 p9) (l_bl (D 172).1 e p9) g s9 W9))) hE [.ref 27] (c_passes (i := 27) hV hF (by decide) hL hen he (by omega)) v_yX11_passes m_X11_186 dX11_readAllOf_12 rfl (hL 169 (by decide)) (y_l_169 ((m_P D p9 b9 g s9 W9) 169)) rfl (by omega) ⟨Nat.le_refl _, Nat.le_refl _⟩ (Nat.le_of_ble_eq_true rfl) ?_
      show E 0 0 15 [(0, .ref 169)] [.int (y_b (l_w (D 172).1 (l_bl (D 172).1 e p9) (l_le (D 172).1 e p9) 27))] (y_mk n L (m_P D (l_pa (D 172).1 e 27 p9) (l_bl (D 172).1 e p9) g s9 W9))
      refine r_ifb_eq (tgt := 37) hE dX11_readAllOf_15 (by decide) (fun c15 => ?_) (fun c15 => ?_)
      · refine r_iconst (v := 1) hE dX11_readAllOf_37 (by decide) ?_
        refine r_ireturn hE dX11_readAllOf_38 rfl (by first | rfl | exact y_nb _) (Nat.zero_le _) (Nat.zero_le _) ?_
        refine ⟨_, _, rfl, rfl, true, _, _, _, _, _, ?_, by decide, rfl, ?_, fun _ => rfl⟩
        · rw [← hw, l_jk_e (by omega), if_neg c15]
        · unfold l_bd
          omega
      · have f3 := f2.2.2 c15 (by decide)
        refine r_aload_n hE dX11_readAllOf_18 rfl ?_
        refine t_invvRi hE [] (hA _ _ _ _ (by omega) (by omega)) v_yX11_readAtom m_X11_189 dX11_readAllOf_19 rfl (hL 169 (by decide)) (y_l_169 ((m_P D (l_pa (D 172).1 e 27 p9) (l_bl (D 172).1 e p9) g s9 W9) 169)) rfl (by omega) ⟨Nat.le_refl _, Nat.le_refl _⟩ (Nat.le_of_ble_eq_true rfl) (fun r41 E41 q41 => ?_)
        obtain ⟨ok41, p41, b41, g41, s41, W41, hf41, rfl, rfl, hb41, hg41⟩ := q41
        have hz41 := hb41.all
        show E 0 0 22 [(0, .ref 169)] [.int (y_b (ok41 = true))] (y_mk n L (m_P D p41 b41 g41 s41 W41))
        refine r_ifb_ne (tgt := 27) hE dX11_readAllOf_22 (by decide) (fun c22 => ?_) (fun c22 => ?_)
        · have hk41 : ok41 = true := c22
          subst hk41
          have hh41 := hg41 rfl
          refine r_aload_n hE dX11_readAllOf_27 rfl ?_
          refine r_bipush (v := 15) hE dX11_readAllOf_28 (by decide) ?_
          refine r_iconst (v := 0) hE dX11_readAllOf_30 (by decide) ?_
          refine t_invv (r := none) (S2 := (y_mk n L (m_P D p41 b41 g41 (s41 + 1) (l_em W41 s41 15 0)))) hE [.int 15, .int 0] (c_emits hL (by omega)) v_yX11_emits m_X11_143 dX11_readAllOf_31 rfl (hL 169 (by decide)) (y_l_169 ((m_P D p41 b41 g41 s41 W41) 169)) rfl (by omega) ⟨Nat.le_refl _, Nat.le_refl _⟩ (Nat.le_of_ble_eq_true rfl) ?_
          show E 0 0 34 [(0, .ref 169)] [] (y_mk n L (m_P D p41 b41 g41 (s41 + 1) (l_em W41 s41 15 0)))
          refine r_goto (tgt := 9) hE dX11_readAllOf_34 (by decide) ?_
          rw [hh41]
          exact ih (k - 1) (by omega) (k - 1) _ _ _ _ rfl (by omega) (by unfold l_bd; omega) (by rw [← hw]; conv => rhs; rw [l_jk_e (by omega), if_pos c15, hf41, l_then_t, hh41])
        · refine r_iconst (v := 0) hE dX11_readAllOf_25 (by decide) ?_
          refine r_ireturn hE dX11_readAllOf_26 rfl (by first | rfl | exact y_nb _) (Nat.zero_le _) (Nat.zero_le _) ?_
          have hk41 : ok41 = false := by revert c22; cases ok41 <;> simp
          subst hk41
          refine ⟨_, _, rfl, rfl, false, _, _, _, _, _, ?_, by decide, rfl, ?_, fun c => absurd c (by decide)⟩
          · rw [← hw, l_jk_e (by omega), if_pos c15, hf41, l_then_f]
          · unfold l_bd
            omega
  refine r_aload_n hE dX11_readAllOf_0 rfl ?_
  refine t_invvRi hE [] (hA _ _ _ _ (by omega) (by omega)) v_yX11_readAtom m_X11_189 dX11_readAllOf_1 rfl (hL 169 (by decide)) (y_l_169 ((m_P D p b g s W) 169)) rfl (by omega) ⟨Nat.le_refl _, Nat.le_refl _⟩ (Nat.le_of_ble_eq_true rfl) (fun r42 E42 q42 => ?_)
  obtain ⟨ok42, p42, b42, g42, s42, W42, hf42, rfl, rfl, hb42, hg42⟩ := q42
  have hz42 := hb42.all
  show E 0 0 4 [(0, .ref 169)] [.int (y_b (ok42 = true))] (y_mk n L (m_P D p42 b42 g42 s42 W42))
  refine r_ifb_ne (tgt := 9) hE dX11_readAllOf_4 (by decide) (fun c4 => ?_) (fun c4 => ?_)
  · have hk42 : ok42 = true := c4
    subst hk42
    have hh42 := hg42 rfl
    rw [hh42]
    exact l1 401 _ _ _ _ (by omega) hb42 (by unfold l_j; rw [hf42, l_then_t, hh42])
  · refine r_iconst (v := 0) hE dX11_readAllOf_7 (by decide) ?_
    refine r_ireturn hE dX11_readAllOf_8 rfl (by first | rfl | exact y_nb _) (Nat.zero_le _) (Nat.zero_le _) ?_
    have hk42 : ok42 = false := by revert c4; cases ok42 <;> simp
    subst hk42
    refine ⟨_, _, rfl, rfl, false, _, _, _, _, _, ?_, by decide, rfl, hb42, fun c => absurd c (by decide)⟩
    unfold l_j
    rw [hf42, l_then_f]
theorem c_readCond {V : x_E} {n : Nat} {L : List Nat} {D : y_D} {e : Nat} (hV : y_V V) (hF : y_fm V) (hL : y_ok L) (hen : (D 169).1 7 = nI e) (he : e ≤ 400) {dA g : Nat} {A : l_F} (h8 : 8 ≤ dA) (hA : l_C V n L D e yX11_readAllOf cX11_readAllOf 1 dA A g) : l_C V n L D e yX11_readCond cX11_readCond 1 (dA + 1) (l_j (D 172).1 e 28 16 A) g := by
  intro p b s W hp hs
  refine y_ri (by decide) (Nat.le_of_ble_eq_true rfl) (fun E hE => ?_)
  change E 0 0 0 [(0, .ref 169)] [] (y_mk n L (m_P D p b g s W))
  have l1 : ∀ (k p9 b9 s9 : Nat) (W9 : Nat → Int32), e - p9 < k → l_bd e p s p9 s9 → l_jk (D 172).1 e 28 16 A k p9 b9 g s9 W9 = l_j (D 172).1 e 28 16 A p b g s W → E 0 0 9 [(0, .ref 169)] [] (y_mk n L (m_P D p9 b9 g s9 W9)) := by
    intro k p9 b9 s9 W9
    induction hm9 : (k) using Nat.strongRecOn generalizing k p9 b9 s9 W9 with
    | _ m9 ih =>
      intro hk hb9 hw
      subst hm9
      have f1 := hb9.all
      have f2 := l_pa_b (T := (D 172).1) (i := 28) f1.2.1
      have f4 := l_f (T := (D 172).1) f1.2.1
      refine r_aload_n hE dX11_readCond_9 rfl ?_
      refine r_ldcS (h := 28) hE (by decide) (sr_203 hV) dX11_readCond_10 ?_
      refine t_invv (r := (some (.int (y_b (l_w (D 172).1 (l_bl (D 172).1 e p9) (l_le (D 172).1 e p9) 28))))) (S2 := (y_mk n L (m_P D (l_pa (D 172).1 e 28 p9) (l_bl (D 172).1 e p9) g s9 W9))) hE [.ref 28] (c_passes (i := 28) hV hF (by decide) hL hen he (by omega)) v_yX11_passes m_X11_186 dX11_readCond_12 rfl (hL 169 (by decide)) (y_l_169 ((m_P D p9 b9 g s9 W9) 169)) rfl (by omega) ⟨Nat.le_refl _, Nat.le_refl _⟩ (Nat.le_of_ble_eq_true rfl) ?_
      show E 0 0 15 [(0, .ref 169)] [.int (y_b (l_w (D 172).1 (l_bl (D 172).1 e p9) (l_le (D 172).1 e p9) 28))] (y_mk n L (m_P D (l_pa (D 172).1 e 28 p9) (l_bl (D 172).1 e p9) g s9 W9))
      refine r_ifb_eq (tgt := 37) hE dX11_readCond_15 (by decide) (fun c15 => ?_) (fun c15 => ?_)
      · refine r_iconst (v := 1) hE dX11_readCond_37 (by decide) ?_
        refine r_ireturn hE dX11_readCond_38 rfl (by first | rfl | exact y_nb _) (Nat.zero_le _) (Nat.zero_le _) ?_
        refine ⟨_, _, rfl, rfl, true, _, _, _, _, _, ?_, by decide, rfl, ?_, fun _ => rfl⟩
        · rw [← hw, l_jk_e (by omega), if_neg c15]
        · unfold l_bd
          omega
      · have f3 := f2.2.2 c15 (by decide)
        refine r_aload_n hE dX11_readCond_18 rfl ?_
        refine t_invvRi hE [] (hA _ _ _ _ (by omega) (by omega)) v_yX11_readAllOf m_X11_200 dX11_readCond_19 rfl (hL 169 (by decide)) (y_l_169 ((m_P D (l_pa (D 172).1 e 28 p9) (l_bl (D 172).1 e p9) g s9 W9) 169)) rfl (by omega) ⟨Nat.le_refl _, Nat.le_refl _⟩ (Nat.le_of_ble_eq_true rfl) (fun r43 E43 q43 => ?_)
        obtain ⟨ok43, p43, b43, g43, s43, W43, hf43, rfl, rfl, hb43, hg43⟩ := q43
        have hz43 := hb43.all
        show E 0 0 22 [(0, .ref 169)] [.int (y_b (ok43 = true))] (y_mk n L (m_P D p43 b43 g43 s43 W43))
        refine r_ifb_ne (tgt := 27) hE dX11_readCond_22 (by decide) (fun c22 => ?_) (fun c22 => ?_)
        · have hk43 : ok43 = true := c22
          subst hk43
          have hh43 := hg43 rfl
          refine r_aload_n hE dX11_readCond_27 rfl ?_
          refine r_bipush (v := 16) hE dX11_readCond_28 (by decide) ?_
          refine r_iconst (v := 0) hE dX11_readCond_30 (by decide) ?_
          refine t_invv (r := none) (S2 := (y_mk n L (m_P D p43 b43 g43 (s43 + 1) (l_em W43 s43 16 0)))) hE [.int 16, .int 0] (c_emits hL (by omega)) v_yX11_emits m_X11_143 dX11_readCond_31 rfl (hL 169 (by decide)) (y_l_169 ((m_P D p43 b43 g43 s43 W43) 169)) rfl (by omega) ⟨Nat.le_refl _, Nat.le_refl _⟩ (Nat.le_of_ble_eq_true rfl) ?_
          show E 0 0 34 [(0, .ref 169)] [] (y_mk n L (m_P D p43 b43 g43 (s43 + 1) (l_em W43 s43 16 0)))
          refine r_goto (tgt := 9) hE dX11_readCond_34 (by decide) ?_
          rw [hh43]
          exact ih (k - 1) (by omega) (k - 1) _ _ _ _ rfl (by omega) (by unfold l_bd; omega) (by rw [← hw]; conv => rhs; rw [l_jk_e (by omega), if_pos c15, hf43, l_then_t, hh43])
        · refine r_iconst (v := 0) hE dX11_readCond_25 (by decide) ?_
          refine r_ireturn hE dX11_readCond_26 rfl (by first | rfl | exact y_nb _) (Nat.zero_le _) (Nat.zero_le _) ?_
          have hk43 : ok43 = false := by revert c22; cases ok43 <;> simp
          subst hk43
          refine ⟨_, _, rfl, rfl, false, _, _, _, _, _, ?_, by decide, rfl, ?_, fun c => absurd c (by decide)⟩
          · rw [← hw, l_jk_e (by omega), if_pos c15, hf43, l_then_f]
          · unfold l_bd
            omega
  refine r_aload_n hE dX11_readCond_0 rfl ?_
  refine t_invvRi hE [] (hA _ _ _ _ (by omega) (by omega)) v_yX11_readAllOf m_X11_200 dX11_readCond_1 rfl (hL 169 (by decide)) (y_l_169 ((m_P D p b g s W) 169)) rfl (by omega) ⟨Nat.le_refl _, Nat.le_refl _⟩ (Nat.le_of_ble_eq_true rfl) (fun r44 E44 q44 => ?_)
  obtain ⟨ok44, p44, b44, g44, s44, W44, hf44, rfl, rfl, hb44, hg44⟩ := q44
  have hz44 := hb44.all
  show E 0 0 4 [(0, .ref 169)] [.int (y_b (ok44 = true))] (y_mk n L (m_P D p44 b44 g44 s44 W44))
  refine r_ifb_ne (tgt := 9) hE dX11_readCond_4 (by decide) (fun c4 => ?_) (fun c4 => ?_)
  · have hk44 : ok44 = true := c4
    subst hk44
    have hh44 := hg44 rfl
    rw [hh44]
    exact l1 401 _ _ _ _ (by omega) hb44 (by unfold l_j; rw [hf44, l_then_t, hh44])
  · refine r_iconst (v := 0) hE dX11_readCond_7 (by decide) ?_
    refine r_ireturn hE dX11_readCond_8 rfl (by first | rfl | exact y_nb _) (Nat.zero_le _) (Nat.zero_le _) ?_
    have hk44 : ok44 = false := by revert c4; cases ok44 <;> simp
    subst hk44
    refine ⟨_, _, rfl, rfl, false, _, _, _, _, _, ?_, by decide, rfl, hb44, fun c => absurd c (by decide)⟩
    unfold l_j
    rw [hf44, l_then_f]

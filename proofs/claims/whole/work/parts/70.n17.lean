/-! the reference's reader: words, signs, numbers -/
/-- at the point p, the last begin b, depth g, s steps, the world W -/
def m_P (D : y_D) (p b g s : Nat) (W : Nat → Int32) : y_D := y_sw (y_si (y_si (y_si (y_si D 169 6 (nI p)) 169 8 (nI b)) 169 9 (nI g)) 169 12 (nI s)) 170 W
section R70
variable {D : y_D} {p b g s q : Nat} {W : Nat → Int32}
theorem y_updc {f : Nat → Int32} {i j : Nat} {v w : Int32} (h : i ≠ j) : upd (upd f i v) j w = upd (upd f j w) i v := by
  funext k
  unfold upd
  by_cases h1 : k = j
  · subst h1; simp [Ne.symm h]
  · simp [h1]
theorem y_updd {f : Nat → Int32} {i : Nat} {v w : Int32} : upd (upd f i v) i w = upd f i w := by
  funext k
  unfold upd
  by_cases h1 : k = i <;> simp [h1]
theorem m_P_169 {k : Nat} {v : Int32} : y_si (m_P D p b g s W) 169 k v = y_sw (y_sw D 169 (upd (upd (upd (upd (upd (D 169).1 6 (nI p)) 8 (nI b)) 9 (nI g)) 12 (nI s)) k v)) 170 W := by
  funext j
  by_cases c : j = 169
  · subst c; rfl
  · by_cases c2 : j = 170
    · subst c2; rfl
    · simp [m_P, y_si, y_sw, c, c2]
theorem m_P_eq : m_P D p b g s W = y_sw (y_sw D 169 (upd (upd (upd (upd (D 169).1 6 (nI p)) 8 (nI b)) 9 (nI g)) 12 (nI s))) 170 W := by
  funext j
  by_cases c : j = 169
  · subst c; rfl
  · by_cases c2 : j = 170
    · subst c2; rfl
    · simp [m_P, y_si, y_sw, c, c2]
theorem m_P_6 : y_si (m_P D p b g s W) 169 6 (nI q) = m_P D q b g s W := by
  rw [m_P_169, m_P_eq]
  congr 2
  rw [y_updc (i := 12) (j := 6) (by decide), y_updc (i := 9) (j := 6) (by decide), y_updc (i := 8) (j := 6) (by decide), y_updd]
theorem m_P_8 : y_si (m_P D p b g s W) 169 8 (nI q) = m_P D p q g s W := by
  rw [m_P_169, m_P_eq]
  congr 2
  rw [y_updc (i := 12) (j := 8) (by decide), y_updc (i := 9) (j := 8) (by decide), y_updd]
theorem m_P_9 : y_si (m_P D p b g s W) 169 9 (nI q) = m_P D p b q s W := by
  rw [m_P_169, m_P_eq]
  congr 2
  rw [y_updc (i := 12) (j := 9) (by decide), y_updd]
theorem m_P_12 : y_si (m_P D p b g s W) 169 12 (nI q) = m_P D p b g q W := by
  rw [m_P_169, m_P_eq]
  congr 2
  rw [y_updd]
theorem m_P_w {k : Nat} {v : Int32} : y_si (m_P D p b g s W) 170 k v = m_P D p b g s (upd W k v) := by
  unfold m_P
  rw [y_si_sw]
end R70
/-! the bytes of a text -/
def l_sk (T : Nat → Int32) (e : Nat) (lo hi : Int32) : Nat → Nat → Nat
  | 0, p => p
  | k + 1, p => if p < e ∧ lo ≤ T p ∧ T p ≤ hi then l_sk T e lo hi k (p + 1) else p
/-- behind the bytes from lo to hi that begin at p -/
def l_to (T : Nat → Int32) (e : Nat) (lo hi : Int32) (p : Nat) : Nat := l_sk T e lo hi (e - p) p
section L70
variable {T : Nat → Int32} {e : Nat} {lo hi : Int32} {p : Nat}
theorem l_to_y (h : p < e ∧ lo ≤ T p ∧ T p ≤ hi) : l_to T e lo hi p = l_to T e lo hi (p + 1) := by
  unfold l_to
  rw [show e - p = (e - (p + 1)) + 1 by omega, l_sk, if_pos h]
theorem l_to_n (h : ¬ (p < e ∧ lo ≤ T p ∧ T p ≤ hi)) : l_to T e lo hi p = p := by
  unfold l_to
  rcases e - p with _ | k
  · rfl
  · rw [l_sk, if_neg h]
theorem l_sk_b : ∀ k p, p ≤ l_sk T e lo hi k p ∧ (p ≤ e → l_sk T e lo hi k p ≤ e) := by
  intro k
  induction k with
  | zero => exact fun p => ⟨Nat.le_refl _, fun h => h⟩
  | succ k ih =>
    intro p
    rw [l_sk]
    split
    · have h1 := ih (p + 1)
      rename_i h2
      exact ⟨by omega, fun _ => h1.2 (by omega)⟩
    · exact ⟨Nat.le_refl _, fun h => h⟩
theorem l_to_ge : p ≤ l_to T e lo hi p := (l_sk_b _ _).1
theorem l_to_le (h : p ≤ e) : l_to T e lo hi p ≤ e := (l_sk_b _ _).2 h
theorem l_to_in : ∀ j, p ≤ j → j < l_to T e lo hi p → j < e ∧ lo ≤ T j ∧ T j ≤ hi := by
  unfold l_to
  generalize e - p = k
  induction k generalizing p with
  | zero => intro j h1 h2; rw [l_sk] at h2; omega
  | succ k ih =>
    intro j h1 h2
    rw [l_sk] at h2
    split at h2
    · rename_i h3
      by_cases c : j = p
      · subst c; exact h3
      · exact ih j (by omega) h2
    · omega
theorem l_to_out : ¬ (l_to T e lo hi p < e ∧ lo ≤ T (l_to T e lo hi p) ∧ T (l_to T e lo hi p) ≤ hi) := by
  unfold l_to
  generalize hk : e - p = k
  induction k generalizing p with
  | zero => rw [l_sk]; omega
  | succ k ih =>
    rw [l_sk]
    split
    · exact ih (by omega)
    · assumption
end L70
/-- the first k bytes from b are those of the text i, and there are as many up to p -/
abbrev l_wk (T : Nat → Int32) (b p i k : Nat) : Prop := p - b = (y_bt i).length ∧ ∀ j, j < k → T (b + j) = (y_bt i).getD j 0
abbrev l_w (T : Nat → Int32) (b p i : Nat) : Prop := l_wk T b p i (y_bt i).length
theorem l_wk_end {T : Nat → Int32} {b p i k : Nat} (hk : k ≤ (y_bt i).length) (h : ¬ l_wk T b p i k ∨ (y_bt i).length ≤ k) : y_b (l_wk T b p i k) = y_b (l_w T b p i) := by
  rcases h with h | h
  · rw [y_b_f h, y_b_f (fun c => h ⟨c.1, fun j hj => c.2 j (by omega)⟩)]
  · rw [show k = (y_bt i).length by omega]
theorem l_wk_s {T : Nat → Int32} {b p i k : Nat} (h : l_wk T b p i k) (hk : T (b + k) = (y_bt i).getD k 0) : l_wk T b p i (k + 1) := ⟨h.1, fun j hj => by
  by_cases c : j = k
  · subst c; exact hk
  · exact h.2 j (by omega)⟩
abbrev l_bl (T : Nat → Int32) (e p : Nat) : Nat := l_to T e 32 32 p
abbrev l_le (T : Nat → Int32) (e p : Nat) : Nat := l_to T e 97 122 (l_to T e 32 32 p)
theorem c_isAt {V : x_E} {n : Nat} {L : List Nat} {D : y_D} {e p b g s : Nat} {W : Nat → Int32} (hL : y_ok L) (hen : (D 169).1 7 = nI e) (he : e ≤ 400) (hp : p ≤ e) {lo hi : Int32} : x_Fn V yX11_isAt cX11_isAt 3 (some .boolean) 0 [.ref 169, .int lo, .int hi] (y_mk n L (m_P D p b g s W)) (some (.int (y_b (p < e ∧ lo ≤ (D 172).1 p ∧ (D 172).1 p ≤ hi)))) (y_mk n L (m_P D p b g s W)) := by
  refine x_fn (by decide) (Nat.le_of_ble_eq_true rfl) (fun E hE => ?_)
  change E 0 0 0 [(0, .ref 169), (1, .int lo), (2, .int hi)] [] (y_mk n L (m_P D p b g s W))
  refine r_aload_n hE dX11_isAt_0 rfl ?_
  refine t_geti hE f_X11_99 y_I_169_6 dX11_isAt_1 (hL 169 (by decide)) ?_
  refine r_top (y := (nI p)) rfl ?_
  refine r_aload_n hE dX11_isAt_4 rfl ?_
  refine t_geti hE f_X11_96 y_I_169_7 dX11_isAt_5 (hL 169 (by decide)) ?_
  refine r_top (y := (nI e)) (show ((D 169).1 7 : Int32) = _ from hen) ?_
  refine r_icmp_geN (a := p) (b := e) (tgt := 41) hE dX11_isAt_8 (by decide) (by omega) (by omega) (fun c8 => ?_) (fun c8 => ?_)
  · refine r_iconst (v := 0) hE dX11_isAt_41 (by decide) ?_
    refine r_ireturn hE dX11_isAt_42 rfl (by decide) (Nat.zero_le _) (Nat.zero_le _) ?_
    exact ⟨by grind [y_b], rfl⟩
  · refine r_aload_n hE dX11_isAt_11 rfl ?_
    refine t_getr hE f_X11_20 y_R_169_4 dX11_isAt_12 (hL 169 (by decide)) ?_
    refine r_aload_n hE dX11_isAt_15 rfl ?_
    refine t_geti hE f_X11_99 y_I_169_6 dX11_isAt_16 (hL 169 (by decide)) ?_
    refine r_top (y := (nI p)) rfl ?_
    refine t_baldN (e := p) hE y_A_172 dX11_isAt_19 (hL 172 (by decide)) (by omega) (by decide) ?_
    refine r_top (y := ((D 172).1 p)) rfl ?_
    refine r_iload_n hE dX11_isAt_20 rfl ?_
    refine r_icmp_lt (tgt := 41) hE dX11_isAt_21 (by decide) (fun c21 => ?_) (fun c21 => ?_)
    · refine r_iconst (v := 0) hE dX11_isAt_41 (by decide) ?_
      refine r_ireturn hE dX11_isAt_42 rfl (by decide) (Nat.zero_le _) (Nat.zero_le _) ?_
      exact ⟨by grind [y_b], rfl⟩
    · refine r_aload_n hE dX11_isAt_24 rfl ?_
      refine t_getr hE f_X11_20 y_R_169_4 dX11_isAt_25 (hL 169 (by decide)) ?_
      refine r_aload_n hE dX11_isAt_28 rfl ?_
      refine t_geti hE f_X11_99 y_I_169_6 dX11_isAt_29 (hL 169 (by decide)) ?_
      refine r_top (y := (nI p)) rfl ?_
      refine t_baldN (e := p) hE y_A_172 dX11_isAt_32 (hL 172 (by decide)) (by omega) (by decide) ?_
      refine r_top (y := ((D 172).1 p)) rfl ?_
      refine r_iload_n hE dX11_isAt_33 rfl ?_
      refine r_icmp_gt (tgt := 41) hE dX11_isAt_34 (by decide) (fun c34 => ?_) (fun c34 => ?_)
      · refine r_iconst (v := 0) hE dX11_isAt_41 (by decide) ?_
        refine r_ireturn hE dX11_isAt_42 rfl (by decide) (Nat.zero_le _) (Nat.zero_le _) ?_
        exact ⟨by grind [y_b], rfl⟩
      · refine r_iconst (v := 1) hE dX11_isAt_37 (by decide) ?_
        refine r_goto (tgt := 42) hE dX11_isAt_38 (by decide) ?_
        refine r_ireturn hE dX11_isAt_42 rfl (by decide) (Nat.zero_le _) (Nat.zero_le _) ?_
        exact ⟨by grind [y_b], rfl⟩
theorem c_blanks {V : x_E} {n : Nat} {L : List Nat} {D : y_D} {e p b g s : Nat} {W : Nat → Int32} (hL : y_ok L) (hen : (D 169).1 7 = nI e) (he : e ≤ 400) (hp : p ≤ e) : x_Fn V yX11_blanks cX11_blanks 1 none 1 [.ref 169] (y_mk n L (m_P D p b g s W)) none (y_mk n L (m_P D (l_bl (D 172).1 e p) (l_bl (D 172).1 e p) g s W)) := by
  refine x_fn (by decide) (Nat.le_of_ble_eq_true rfl) (fun E hE => ?_)
  change E 0 0 0 [(0, .ref 169)] [] (y_mk n L (m_P D p b g s W))
  have l1 : ∀ (p9 : Nat), p9 ≤ e → l_bl (D 172).1 e p9 = l_bl (D 172).1 e p → E 0 0 0 [(0, .ref 169)] [] (y_mk n L (m_P D p9 b g s W)) := by
    intro p9
    induction hm9 : (e - p9) using Nat.strongRecOn generalizing p9 with
    | _ m9 ih =>
      intro hp9 hq
      subst hm9
      refine r_aload_n hE dX11_blanks_0 rfl ?_
      refine r_bipush (v := 32) hE dX11_blanks_1 (by decide) ?_
      refine r_bipush (v := 32) hE dX11_blanks_3 (by decide) ?_
      refine t_invv (r := (some (.int (y_b (p9 < e ∧ 32 ≤ (D 172).1 p9 ∧ (D 172).1 p9 ≤ 32))))) (S2 := (y_mk n L (m_P D p9 b g s W))) hE [.int 32, .int 32] (c_isAt (e := e) (p := p9) hL hen he (by omega)) v_yX11_isAt m_X11_105 dX11_blanks_5 rfl (hL 169 (by decide)) (y_l_169 ((m_P D p9 b g s W) 169)) rfl (by decide) ⟨Nat.le_refl _, Nat.le_refl _⟩ (Nat.le_of_ble_eq_true rfl) ?_
      show E 0 0 8 [(0, .ref 169)] [.int (y_b (p9 < e ∧ 32 ≤ (D 172).1 p9 ∧ (D 172).1 p9 ≤ 32))] (y_mk n L (m_P D p9 b g s W))
      refine r_ifb_eq (tgt := 24) hE dX11_blanks_8 (by decide) (fun c8 => ?_) (fun c8 => ?_)
      · refine r_aload_n hE dX11_blanks_24 rfl ?_
        refine r_aload_n hE dX11_blanks_25 rfl ?_
        refine t_geti hE f_X11_99 y_I_169_6 dX11_blanks_26 (hL 169 (by decide)) ?_
        refine r_top (y := (nI p9)) rfl ?_
        refine t_puti hE f_X11_109 y_I_169_8 dX11_blanks_29 (hL 169 (by decide)) rfl rfl ?_
        rw [m_P_8]
        refine r_return hE dX11_blanks_32 rfl (Nat.zero_le _) (Nat.zero_le _) ?_
        exact ⟨rfl, by rw [← hq, show l_bl (D 172).1 e p9 = p9 from l_to_n c8]⟩
      · refine r_aload_n hE dX11_blanks_11 rfl ?_
        refine r_dup hE dX11_blanks_12 rfl ?_
        refine t_geti hE f_X11_99 y_I_169_6 dX11_blanks_13 (hL 169 (by decide)) ?_
        refine r_top (y := (nI p9)) rfl ?_
        refine r_iconst (v := 1) hE dX11_blanks_16 (by decide) ?_
        refine r_iaddN (a := p9) (b := 1) hE dX11_blanks_17 ?_
        refine t_puti hE f_X11_99 y_I_169_6 dX11_blanks_18 (hL 169 (by decide)) rfl rfl ?_
        rw [m_P_6]
        refine r_goto (tgt := 0) hE dX11_blanks_21 (by decide) ?_
        exact ih (e - (p9 + 1)) (by omega) (p9 + 1) rfl (by omega) (by rw [← hq]; exact (l_to_y c8).symm)
  exact l1 p hp rfl
theorem c_letters {V : x_E} {n : Nat} {L : List Nat} {D : y_D} {e p b g s : Nat} {W : Nat → Int32} (hL : y_ok L) (hen : (D 169).1 7 = nI e) (he : e ≤ 400) (hp : p ≤ e) : x_Fn V yX11_letters cX11_letters 1 none 2 [.ref 169] (y_mk n L (m_P D p b g s W)) none (y_mk n L (m_P D (l_le (D 172).1 e p) (l_bl (D 172).1 e p) g s W)) := by
  refine x_fn (by decide) (Nat.le_of_ble_eq_true rfl) (fun E hE => ?_)
  change E 0 0 0 [(0, .ref 169)] [] (y_mk n L (m_P D p b g s W))
  have l1 : ∀ (p9 : Nat), p9 ≤ e → l_to (D 172).1 e 97 122 p9 = l_le (D 172).1 e p → E 0 0 4 [(0, .ref 169)] [] (y_mk n L (m_P D p9 (l_bl (D 172).1 e p) g s W)) := by
    intro p9
    induction hm9 : (e - p9) using Nat.strongRecOn generalizing p9 with
    | _ m9 ih =>
      intro hp9 hq
      subst hm9
      refine r_aload_n hE dX11_letters_4 rfl ?_
      refine r_bipush (v := 97) hE dX11_letters_5 (by decide) ?_
      refine r_bipush (v := 122) hE dX11_letters_7 (by decide) ?_
      refine t_invv (r := (some (.int (y_b (p9 < e ∧ 97 ≤ (D 172).1 p9 ∧ (D 172).1 p9 ≤ 122))))) (S2 := (y_mk n L (m_P D p9 (l_bl (D 172).1 e p) g s W))) hE [.int 97, .int 122] (c_isAt (e := e) (p := p9) hL hen he (by omega)) v_yX11_isAt m_X11_105 dX11_letters_9 rfl (hL 169 (by decide)) (y_l_169 ((m_P D p9 (l_bl (D 172).1 e p) g s W) 169)) rfl (by decide) ⟨Nat.le_refl _, Nat.le_refl _⟩ (Nat.le_of_ble_eq_true rfl) ?_
      show E 0 0 12 [(0, .ref 169)] [.int (y_b (p9 < e ∧ 97 ≤ (D 172).1 p9 ∧ (D 172).1 p9 ≤ 122))] (y_mk n L (m_P D p9 (l_bl (D 172).1 e p) g s W))
      refine r_ifb_eq (tgt := 28) hE dX11_letters_12 (by decide) (fun c12 => ?_) (fun c12 => ?_)
      · refine r_return hE dX11_letters_28 rfl (Nat.zero_le _) (Nat.zero_le _) ?_
        exact ⟨rfl, by rw [← hq, l_to_n c12]⟩
      · refine r_aload_n hE dX11_letters_15 rfl ?_
        refine r_dup hE dX11_letters_16 rfl ?_
        refine t_geti hE f_X11_99 y_I_169_6 dX11_letters_17 (hL 169 (by decide)) ?_
        refine r_top (y := (nI p9)) rfl ?_
        refine r_iconst (v := 1) hE dX11_letters_20 (by decide) ?_
        refine r_iaddN (a := p9) (b := 1) hE dX11_letters_21 ?_
        refine t_puti hE f_X11_99 y_I_169_6 dX11_letters_22 (hL 169 (by decide)) rfl rfl ?_
        rw [m_P_6]
        refine r_goto (tgt := 4) hE dX11_letters_25 (by decide) ?_
        exact ih (e - (p9 + 1)) (by omega) (p9 + 1) rfl (by omega) (by rw [← hq]; exact (l_to_y c12).symm)
  refine r_aload_n hE dX11_letters_0 rfl ?_
  refine t_invv (r := none) (S2 := (y_mk n L (m_P D (l_bl (D 172).1 e p) (l_bl (D 172).1 e p) g s W))) hE [] (c_blanks hL hen he (by omega)) v_yX11_blanks m_X11_112 dX11_letters_1 rfl (hL 169 (by decide)) (y_l_169 ((m_P D p b g s W) 169)) rfl (by decide) ⟨Nat.le_refl _, Nat.le_refl _⟩ (Nat.le_of_ble_eq_true rfl) ?_
  show E 0 0 4 [(0, .ref 169)] [] (y_mk n L (m_P D (l_bl (D 172).1 e p) (l_bl (D 172).1 e p) g s W))
  exact l1 _ (l_to_le hp) rfl
theorem c_isWord {V : x_E} {n : Nat} {L : List Nat} {D : y_D} {i e p b g s : Nat} {W : Nat → Int32} (hV : y_V V) (hF : y_fm V) (hi : i < 29) (hL : y_ok L) (hen : (D 169).1 7 = nI e) (he : e ≤ 400) (hp : p ≤ e) (hb : b ≤ p) : x_Fn V yX11_isWord cX11_isWord 4 (some .boolean) 4 [.ref 169, .ref i] (y_mk n L (m_P D p b g s W)) (some (.int (y_b (l_w (D 172).1 b p i)))) (y_mk n L (m_P D p b g s W)) := by
  refine x_fn (by decide) (Nat.le_of_ble_eq_true rfl) (fun E hE => ?_)
  change E 0 0 0 [(0, .ref 169), (1, .ref i)] [] (y_mk n L (m_P D p b g s W))
  have hl9 := y_bt_len hi
  have l1 : ∀ (k : Nat), k ≤ (y_bt i).length → E 0 0 24 [(0, .ref 169), (1, .ref i), (2, .int (y_b (l_wk (D 172).1 b p i k))), (3, .int (nI k))] [] (y_mk n L (m_P D p b g s W)) := by
    intro k
    induction hm9 : ((y_bt i).length - k) using Nat.strongRecOn generalizing k with
    | _ m9 ih =>
      intro hk
      subst hm9
      have hl9 := y_bt_len hi
      refine r_iload_n hE dX11_isWord_24 rfl ?_
      refine r_ifb_eq (tgt := 67) hE dX11_isWord_25 (by decide) (fun c25 => ?_) (fun c25 => ?_)
      · refine r_iload_n hE dX11_isWord_67 rfl ?_
        refine r_ireturn hE dX11_isWord_68 rfl (by first | rfl | exact y_nb _) (Nat.zero_le _) (Nat.zero_le _) ?_
        first
          | exact ⟨congrArg (fun z => some (Value.int z)) (l_wk_end hk (Or.inl c25)), rfl⟩
          | exact ⟨congrArg (fun z => some (Value.int z)) (l_wk_end hk (Or.inr c33)), rfl⟩
      · refine r_iload_n hE dX11_isWord_28 rfl ?_
        refine r_aload_n hE dX11_isWord_29 rfl ?_
        refine t_invvI (r := some (.int (nI ((y_bt i).length)))) hE hV hi rfl [] (j_length hV hi) v_yJ0_length_8abf5 m_X11_115 dX11_isWord_30 rfl (by decide) ⟨Nat.le_refl _, Nat.le_refl _⟩ (Nat.le_of_ble_eq_true rfl) ?_
        show E 0 0 33 [(0, .ref 169), (1, .ref i), (2, .int (y_b (l_wk (D 172).1 b p i k))), (3, .int (nI k))] [.int (nI ((y_bt i).length)), .int (nI k)] (y_mk n L (m_P D p b g s W))
        refine r_icmp_geN (a := k) (b := (y_bt i).length) (tgt := 67) hE dX11_isWord_33 (by decide) (by omega) (by omega) (fun c33 => ?_) (fun c33 => ?_)
        · refine r_iload_n hE dX11_isWord_67 rfl ?_
          refine r_ireturn hE dX11_isWord_68 rfl (by first | rfl | exact y_nb _) (Nat.zero_le _) (Nat.zero_le _) ?_
          first
            | exact ⟨congrArg (fun z => some (Value.int z)) (l_wk_end hk (Or.inl c25)), rfl⟩
            | exact ⟨congrArg (fun z => some (Value.int z)) (l_wk_end hk (Or.inr c33)), rfl⟩
        · refine r_aload_n hE dX11_isWord_36 rfl ?_
          refine t_getr hE f_X11_20 y_R_169_4 dX11_isWord_37 (hL 169 (by decide)) ?_
          refine r_aload_n hE dX11_isWord_40 rfl ?_
          refine t_geti hE f_X11_109 y_I_169_8 dX11_isWord_41 (hL 169 (by decide)) ?_
          refine r_top (y := (nI b)) rfl ?_
          refine r_iload_n hE dX11_isWord_44 rfl ?_
          refine r_iaddN (a := b) (b := k) hE dX11_isWord_45 ?_
          refine t_baldN (e := b + k) hE y_A_172 dX11_isWord_46 (hL 172 (by decide)) (by have h9 := c25.1; omega) (by decide) ?_
          refine r_top (y := ((D 172).1 (b + k))) rfl ?_
          refine r_aload_n hE dX11_isWord_47 rfl ?_
          refine r_iload_n hE dX11_isWord_48 rfl ?_
          refine t_invvI (r := some (.int ((y_bt i).getD k 0))) hE hV hi rfl [.int (nI k)] (j_charAt (a := k) hV hF hi (by omega)) v_yJ0_charAt_5068e m_X11_121 dX11_isWord_49 rfl (by decide) ⟨Nat.le_refl _, Nat.le_refl _⟩ (Nat.le_of_ble_eq_true rfl) ?_
          show E 0 0 52 [(0, .ref 169), (1, .ref i), (2, .int (y_b (l_wk (D 172).1 b p i k))), (3, .int (nI k))] [.int ((y_bt i).getD k 0), .int ((D 172).1 (b + k))] (y_mk n L (m_P D p b g s W))
          refine r_icmp_ne (tgt := 59) hE dX11_isWord_52 (by decide) (fun c52 => ?_) (fun c52 => ?_)
          · refine r_iconst (v := 0) hE dX11_isWord_59 (by decide) ?_
            refine r_istore_n (ls2 := [(0, .ref 169), (1, .ref i), (2, .int 0), (3, .int (nI k))]) hE dX11_isWord_60 (by decide) rfl ?_
            refine r_iincN (a := k) (b := 1) (ls2 := [(0, .ref 169), (1, .ref i), (2, .int 0), (3, .int (nI (k + 1)))]) hE dX11_isWord_61 rfl rfl (by decide) rfl ?_
            refine r_goto (tgt := 24) hE dX11_isWord_64 (by decide) ?_
            have h0 := ih ((y_bt i).length - (k + 1)) (by omega) (k + 1) rfl (by omega)
            rw [y_b_f (fun z => c52 (z.2 k (by omega)))] at h0
            exact h0
          · refine r_iconst (v := 1) hE dX11_isWord_55 (by decide) ?_
            refine r_goto (tgt := 60) hE dX11_isWord_56 (by decide) ?_
            refine r_istore_n (ls2 := [(0, .ref 169), (1, .ref i), (2, .int 1), (3, .int (nI k))]) hE dX11_isWord_60 (by decide) rfl ?_
            refine r_iincN (a := k) (b := 1) (ls2 := [(0, .ref 169), (1, .ref i), (2, .int 1), (3, .int (nI (k + 1)))]) hE dX11_isWord_61 rfl rfl (by decide) rfl ?_
            refine r_goto (tgt := 24) hE dX11_isWord_64 (by decide) ?_
            have h0 := ih ((y_bt i).length - (k + 1)) (by omega) (k + 1) rfl (by omega)
            rw [y_b_t (l_wk_s c25 c52)] at h0
            exact h0
  refine r_aload_n hE dX11_isWord_0 rfl ?_
  refine t_geti hE f_X11_99 y_I_169_6 dX11_isWord_1 (hL 169 (by decide)) ?_
  refine r_top (y := (nI p)) rfl ?_
  refine r_aload_n hE dX11_isWord_4 rfl ?_
  refine t_geti hE f_X11_109 y_I_169_8 dX11_isWord_5 (hL 169 (by decide)) ?_
  refine r_top (y := (nI b)) rfl ?_
  refine r_isubN (a := p) (b := b) hE dX11_isWord_8 (by omega) ?_
  refine r_aload_n hE dX11_isWord_9 rfl ?_
  refine t_invvI (r := some (.int (nI ((y_bt i).length)))) hE hV hi rfl [] (j_length hV hi) v_yJ0_length_8abf5 m_X11_115 dX11_isWord_10 rfl (by decide) ⟨Nat.le_refl _, Nat.le_refl _⟩ (Nat.le_of_ble_eq_true rfl) ?_
  show E 0 0 13 [(0, .ref 169), (1, .ref i)] [.int (nI ((y_bt i).length)), .int (nI (p - b))] (y_mk n L (m_P D p b g s W))
  refine r_icmp_neN (a := p - b) (b := (y_bt i).length) (tgt := 20) hE dX11_isWord_13 (by decide) (by omega) (by omega) (fun c13 => ?_) (fun c13 => ?_)
  · refine r_iconst (v := 0) hE dX11_isWord_20 (by decide) ?_
    refine r_istore_n (ls2 := [(0, .ref 169), (1, .ref i), (2, .int 0)]) hE dX11_isWord_21 (by decide) rfl ?_
    refine r_iconst (v := 0) hE dX11_isWord_22 (by decide) ?_
    refine r_istore_n (ls2 := [(0, .ref 169), (1, .ref i), (2, .int 0), (3, .int 0)]) hE dX11_isWord_23 (by decide) rfl ?_
    have h0 := l1 0 (Nat.zero_le _)
    rw [y_b_f (p := l_wk (D 172).1 b p i 0) (fun z => c13 z.1)] at h0
    exact h0
  · refine r_iconst (v := 1) hE dX11_isWord_16 (by decide) ?_
    refine r_goto (tgt := 21) hE dX11_isWord_17 (by decide) ?_
    refine r_istore_n (ls2 := [(0, .ref 169), (1, .ref i), (2, .int 1)]) hE dX11_isWord_21 (by decide) rfl ?_
    refine r_iconst (v := 0) hE dX11_isWord_22 (by decide) ?_
    refine r_istore_n (ls2 := [(0, .ref 169), (1, .ref i), (2, .int 1), (3, .int 0)]) hE dX11_isWord_23 (by decide) rfl ?_
    have h0 := l1 0 (Nat.zero_le _)
    rw [y_b_t (p := l_wk (D 172).1 b p i 0) ⟨c13, fun j hj => absurd hj (by omega)⟩] at h0
    exact h0

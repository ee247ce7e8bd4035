/-! a whole RULE is read alike -/
section P15
variable {T : Nat → Int32} {e m : Nat} {K B C : Nat → Int32}
abbrev t_kk (i : Nat) : Nat := 237 + 851 * 10 + 1 + 5 * i
/-- the first n LINES of the draft and of the class's row are alike -/
def t_LN (n : Nat) (W LN : Nat → Int32) : Prop := ∀ i, i < n → ∃ so a c, so ≤ 3 ∧ LN (3 * i) = t_kd so ∧ LN (3 * i + 1) = nI a ∧ LN (3 * i + 2) = nI c ∧ W (t_kk i) = nI so ∧ W (t_kk i + 1) = nI a ∧ W (t_kk i + 2) = nI c ∧ (so ≤ 1 → a < 4) ∧ (so = 0 → 1 ≤ c ∧ c ≤ 7) ∧ (so = 1 → c ≤ 99) ∧ (so = 2 → a ≤ 300 ∧ c ≤ 300) ∧ (so = 3 → 1 ≤ a ∧ a ≤ 300 ∧ c = 0)
theorem t_end (h : t_H T e K B C m) {j : Nat} (hj : j ≤ m) : K j = 0 ↔ t_b T e j = e := by
  obtain ⟨s, s1, s2, s3, s4, s5, s6⟩ := t_k_n (T := T) (e := e) (b := t_b T e j) h.1
  rw [(h.2.1 j hj).1, s1]
  constructor
  · intro q
    have h9 : s = 0 := (nI_eq (a := s) (b := 0) (by omega) (by decide)).mp q
    rcases Nat.lt_or_ge j m with z | z
    · have hb := h.2.2.1 j z
      by_cases ql : t_L T (t_b T e j)
      · have := s3 hb ql
        omega
      · by_cases qg : t_G T (t_b T e j)
        · have := s4 hb ql qg
          omega
        · have := s5 hb ql qg
          omega
    · rw [show j = m by omega]
      exact h.2.2.2
  · intro q
    have := s6 (by omega)
    rw [this]
    rfl
theorem t_semi (h : t_H T e K B C m) {p j : Nat} (hp : l_bl T e p = t_b T e j) (hj : j ≤ m) : (K j = 4 ↔ (l_bl T e p < e ∧ 59 ≤ T (l_bl T e p) ∧ T (l_bl T e p) ≤ 59)) ∧ (K j = 4 → j < m ∧ l_bl T e p + 1 ≤ e ∧ l_bl T e (l_bl T e p + 1) = t_b T e (j + 1)) := by
  have e1 := t_sign h.1 hp (c := 59) (Or.inl rfl)
  rw [← (h.2.1 j hj).1] at e1
  have e2 : t_sgc 59 = 4 := by decide
  rw [e2] at e1
  refine ⟨e1.symm, fun q => ?_⟩
  have hi : l_is T e 59 p := e1.mpr q
  obtain ⟨d1, d2⟩ := t_sign_e h.1 hp (c := 59) (Or.inl rfl) hi
  unfold l_sg at d1
  rw [if_pos hi] at d1
  exact ⟨t_H_lt h hj d2, by rw [d1]; exact t_e_le d2, by rw [d1]; rfl⟩
theorem t_LN_up {i : Nat} {W W2 W3 LN LN2 : Nat → Int32} (h1 : t_LN i W LN) (h2 : t_RL (t_kk i) (3 * i) W2 W3 LN LN2) (hW : ∀ j, j < t_kk i → W2 j = W j) {v : Int32} : t_LN (i + 1) (upd W3 (t_kk i + 4) v) LN2 := by
  obtain ⟨so, a, c, r1, r2, r3, r4, r5, r6, r7⟩ := h2
  intro i2 hi2
  by_cases q : i2 = i
  · subst q
    refine ⟨so, a, c, r1, ?_, ?_, ?_, ?_, ?_, ?_, r7⟩
    · rw [r2]
      exact t_u3.1
    · rw [r2]
      exact t_u3.2.1
    · rw [r2]
      exact t_u3.2.2.1
    · rw [y_updn (by omega)]
      exact r3
    · rw [y_updn (by omega)]
      exact r4
    · rw [y_updn (by omega)]
      exact r5
  · obtain ⟨so2, a2, c2, g1, g2, g3, g4, g5, g6, g7, g8⟩ := h1 i2 (by omega)
    have eW : ∀ d, d < 3 → upd W3 (t_kk i + 4) v (t_kk i2 + d) = W (t_kk i2 + d) := by
      intro d hd
      have k1 : t_kk i = 8748 + 5 * i := by unfold t_kk; omega
      have k2 : t_kk i2 = 8748 + 5 * i2 := by unfold t_kk; omega
      rw [y_updn (by omega), r6 _ (by omega) (by omega) (by omega), hW _ (by omega)]
    have eL : ∀ d, d < 3 → LN2 (3 * i2 + d) = LN (3 * i2 + d) := by
      intro d hd
      rw [r2]
      exact t_u3.2.2.2 _ (by omega) (by omega) (by omega)
    exact ⟨so2, a2, c2, g1, (eL 0 (by decide)).trans g2, (eL 1 (by decide)).trans g3, (eL 2 (by decide)).trans g4, (eW 0 (by decide)).trans g5, (eW 1 (by decide)).trans g6, (eW 2 (by decide)).trans g7, g8⟩
theorem t_rlk (h : t_H T e K B C m) : ∀ (f i : Nat) {p b g s nx : Nat} {wr : Int32} {W LN : Nat → Int32}, f + i = 10 → l_bl T e p = t_b T e nx → nx ≤ m → p ≤ e → t_LN i W LN →
    ∃ (ok : Bool) (nx2 : Nat) (wr2 : Int32) (lc2 : Nat) (LN2 : Nat → Int32) (v : Int32) (p2 b2 g2 s2 : Nat) (W2 : Nat → Int32), k_rlk K B C f nx wr (3 * i) LN = (ok, nx2, wr2, lc2, LN2) ∧ l_allk T e (l_rule T e) (f + 1) i p b g s W = (v, p2, b2, g2, s2, W2) ∧ ((ok = true ∧ wr2 = wr ∧ ∃ n, 1 ≤ n ∧ n ≤ 10 ∧ v = nI n ∧ lc2 = 3 * n ∧ t_LN n W2 LN2) ∨ (ok = false ∧ v = -1 ∧ wr2 = nI b2))
  | 0, i, p, b, g, s, nx, wr, W, LN, hf, hp, hx, hpe, hl => by
    have hi : i = 10 := by omega
    subst hi
    have e1 : l_line T e (l_rule T e) 10 p b g s W = (false, l_le T e p, l_bl T e p, g, s, W) := l_line10
    rw [l_allk_f (by decide) e1]
    exact ⟨_, _, _, _, _, _, _, _, _, _, _, rfl, rfl, Or.inr ⟨rfl, rfl, by rw [(h.2.1 nx hx).2.1, hp]⟩⟩
  | f + 1, i, p, b, g, s, nx, wr, W, LN, hf, hp, hx, hpe, hl => by
    obtain ⟨W', hW'⟩ : ∃ z, z = upd (upd (upd W (t_kk i + 1) 0) (t_kk i + 2) 0) (t_kk i + 3) (nI s) := ⟨_, rfl⟩
    have hW0 : W' (t_kk i + 2) = 0 := by rw [hW', y_updn (by omega), y_upds]
    have hWl : ∀ j, j < t_kk i → W' j = W j := fun j hj => by rw [hW', y_updn (by omega), y_updn (by omega), y_updn (by omega)]
    obtain ⟨ok, nx2, wr2, lc2, LN2, p2, b2, g2, s2, W2, e1, e2, -, -, -, e3, e4⟩ := t_rule (g := g) (s := s) (k := t_kk i) (lc := 3 * i) (wr := wr) (LN := LN) h hp hx hW0
    have el : l_line T e (l_rule T e) i p b g s W = (ok, p2, b2, g2, s2, upd W2 (t_kk i + 4) (nI s2)) := by
      unfold l_line
      rw [if_neg (by omega), ← hW', e2]
      rfl
    cases ok with
    | false =>
      have ek : k_rlk K B C (f + 1) nx wr (3 * i) LN = (false, nx2, wr2, lc2, LN2) := by
        rw [k_rlk_e (by omega), e1]
        rfl
      rw [l_allk_f (by omega) el]
      exact ⟨_, _, _, _, _, _, _, _, _, _, _, ek, rfl, Or.inr ⟨rfl, rfl, e4 rfl⟩⟩
    | true =>
      obtain ⟨a1, a2, a3, a4, a5, a6, a7⟩ := e3 rfl
      have hl2 : t_LN (i + 1) (upd W2 (t_kk i + 4) (nI s2)) LN2 := t_LN_up hl a7 hWl
      have ek : k_rlk K B C (f + 1) nx wr (3 * i) LN = (if K nx2 = 0 then (true, nx2, wr2, lc2, LN2) else if K nx2 = 4 then k_rlk K B C f (nx2 + 1) wr2 lc2 LN2 else (false, nx2, B nx2, lc2, LN2)) := by
        rw [k_rlk_e (by omega), e1]
        rfl
      have ea : l_allk T e (l_rule T e) (f + 1 + 1) i p b g s W = (if l_bl T e p2 = e then (nI (i + 1), l_bl T e p2, l_bl T e p2, g2, s2, upd W2 (t_kk i + 4) (nI s2)) else if l_bl T e p2 < e ∧ 59 ≤ T (l_bl T e p2) ∧ T (l_bl T e p2) ≤ 59 then l_allk T e (l_rule T e) (f + 1) (i + 1) (l_bl T e p2 + 1) (l_bl T e p2) g2 s2 (upd W2 (t_kk i + 4) (nI s2)) else (-1, l_bl T e p2, l_bl T e p2, g2, s2, upd W2 (t_kk i + 4) (nI s2))) := by
        exact l_allk_t (by omega) el
      rw [ek, ea]
      have he := t_end h a4
      rw [← a2] at he
      by_cases c : l_bl T e p2 = e
      · rw [if_pos (he.mpr c), if_pos c]
        exact ⟨_, _, _, _, _, _, _, _, _, _, _, rfl, rfl, Or.inl ⟨rfl, a5, i + 1, by omega, by omega, rfl, by omega, hl2⟩⟩
      · rw [if_neg (fun q => c (he.mp q)), if_neg c]
        obtain ⟨s1, s2'⟩ := t_semi h a2 a4
        by_cases c4 : K nx2 = 4
        · obtain ⟨d1, d2, d3⟩ := s2' c4
          rw [if_pos c4, if_pos (s1.mp c4), a5, show lc2 = 3 * (i + 1) by omega]
          exact t_rlk h f (i + 1) (by omega) d3 (by omega) d2 hl2
        · rw [if_neg c4, if_neg (fun q => c4 (s1.mpr q))]
          exact ⟨_, _, _, _, _, _, _, _, _, _, _, rfl, rfl, Or.inr ⟨rfl, rfl, by rw [(h.2.1 nx2 a4).2.1, a2]⟩⟩
/-- a RULE, as a whole -/
theorem t_rls (h : t_H T e K B C m) {b g s : Nat} {W LN : Nat → Int32} :
    ∃ (ok : Bool) (nx2 : Nat) (wr2 : Int32) (lc2 : Nat) (LN2 : Nat → Int32) (v : Int32) (p2 b2 g2 s2 : Nat) (W2 : Nat → Int32), k_rls K B C LN = (ok, nx2, wr2, lc2, LN2) ∧ l_all T e (l_rule T e) 0 b g s W = (v, p2, b2, g2, s2, W2) ∧ ((ok = true ∧ wr2 = -1 ∧ ∃ n, n ≤ 10 ∧ v = nI n ∧ lc2 = 3 * n ∧ t_LN n W2 LN2) ∨ (ok = false ∧ v = -1 ∧ wr2 = nI b2)) := by
  have hb0 : l_bl T e 0 = t_b T e 0 := rfl
  have he := t_end h (Nat.zero_le m)
  unfold k_rls l_all
  rw [← hb0] at he
  by_cases c : l_bl T e 0 = e
  · rw [if_pos (he.mpr c), if_pos c]
    exact ⟨_, _, _, _, _, _, _, _, _, _, _, rfl, rfl, Or.inl ⟨rfl, rfl, 0, by omega, rfl, rfl, fun i hi => absurd hi (by omega)⟩⟩
  · rw [if_neg (fun q => c (he.mp q)), if_neg c]
    have hle : l_bl T e 0 ≤ e := l_to_le (Nat.zero_le _)
    have hbb : l_bl T e (l_bl T e 0) = t_b T e 0 := by
      rw [← hb0]
      exact l_to_n l_to_out
    obtain ⟨ok, nx2, wr2, lc2, LN2, v, p2, b2, g2, s2, W2, e1, e2, e3⟩ := t_rlk h 10 0 (b := l_bl T e 0) (g := g) (s := s) (wr := -1) (W := W) (LN := LN) (by omega) hbb (Nat.zero_le _) hle (fun i hi => absurd hi (by omega))
    refine ⟨ok, nx2, wr2, lc2, LN2, v, p2, b2, g2, s2, W2, e1, e2, ?_⟩
    rcases e3 with ⟨a1, a2, n, a3, a4, a5⟩ | a
    · exact Or.inl ⟨a1, a2, n, a4, a5⟩
    · exact Or.inr a
end P15

/-! a LINE of a RULE is read alike -/
section P14
variable {T : Nat → Int32} {e m : Nat} {K B C : Nat → Int32}
/-- K, B, C are the tokens of the text, m is the place of the END -/
def t_H (T : Nat → Int32) (e : Nat) (K B C : Nat → Int32) (m : Nat) : Prop := t_by T ∧ (∀ j, j ≤ m → K j = t_k T e (t_b T e j) ∧ B j = nI (t_b T e j) ∧ C j = t_c T e (t_b T e j)) ∧ (∀ j, j < m → t_b T e j < e) ∧ t_b T e m = e
theorem t_H_lt (h : t_H T e K B C m) {j : Nat} (hj : j ≤ m) (hb : t_b T e j < e) : j < m := by
  rcases Nat.lt_or_ge j m with q | q
  · exact q
  · rw [show j = m by omega, h.2.2.2] at hb
    omega
theorem t_e_le {b : Nat} (hb : b < e) : t_e T e b ≤ e := by
  unfold t_e
  rw [if_pos hb]
  split
  · exact l_to_le (by omega)
  · split
    · exact l_to_le (by omega)
    · omega
theorem t_H_n (h : t_H T e K B C m) {j : Nat} (hj : j ≤ m) : k_nx K C j = t_n T e (t_b T e j) := by
  unfold k_nx t_n
  rw [(h.2.1 j hj).1, (h.2.1 j hj).2.2]
/-- a number, or none, at the token j -/
theorem t_nb (h : t_H T e K B C m) {p j lo hi : Nat} (hp : l_bl T e p = t_b T e j) (hj : j ≤ m) (hlo : lo < 1000) (hhi : hi ≤ 999) :
    (k_bad (k_nx K C j) (nI lo) (nI hi) ∧ l_nv T e lo hi p = -1) ∨ (¬ k_bad (k_nx K C j) (nI lo) (nI hi) ∧ j < m ∧ l_di T e p ≤ e ∧ l_bl T e (l_di T e p) = t_b T e (j + 1) ∧ ∃ n, k_nx K C j = nI n ∧ l_nv T e lo hi p = nI n ∧ lo ≤ n ∧ n ≤ hi) := by
  have e1 := t_num h.1 hp hlo hhi
  rw [t_H_n h hj]
  by_cases c : k_bad (t_n T e (t_b T e j)) (nI lo) (nI hi)
  · rw [if_pos c] at e1
    exact Or.inl ⟨c, e1⟩
  · rw [if_neg c] at e1
    refine Or.inr ⟨c, ?_⟩
    have hk : t_k T e (t_b T e j) = 2 := by
      apply Classical.byContradiction
      intro q
      refine c (Or.inl ?_)
      unfold t_n
      rw [if_neg q]
      refine Int32.lt_iff_toInt_lt.mpr ?_
      rw [nI_toInt (by omega)]
      have : (-1 : Int32).toInt = -1 := by decide
      omega
    obtain ⟨d1, d2⟩ := t_num_e h.1 hp hk
    have c1 : ¬ t_n T e (t_b T e j) < nI lo := fun q => c (Or.inl q)
    have c2 : ¬ nI hi < t_n T e (t_b T e j) := fun q => c (Or.inr q)
    obtain ⟨n, hn, en⟩ := nI_of (x := t_n T e (t_b T e j)) (fun q => c1 (by
      rw [Int32.lt_iff_toInt_lt] at q ⊢
      rw [nI_toInt (by omega)]
      have : (0 : Int32).toInt = 0 := by decide
      omega))
    rw [en] at c1 c2
    rw [Int32.lt_iff_toInt_lt, nI_toInt hn, nI_toInt (by omega)] at c1 c2
    refine ⟨t_H_lt h hj d2, by rw [d1]; exact t_e_le d2, by rw [d1]; rfl, n, en, by rw [e1, en], by omega, by omega⟩
/-- a word at the token j -/
theorem t_wb (h : t_H T e K B C m) {p j i : Nat} (hp : l_bl T e p = t_b T e j) (hj : j ≤ m) (h6 : 6 ≤ i) (h29 : i < 29) :
    (¬ K j = nI (t_cd i) ∧ ¬ l_w T (l_bl T e p) (l_le T e p) i) ∨ (K j = nI (t_cd i) ∧ l_w T (l_bl T e p) (l_le T e p) i ∧ j < m ∧ l_le T e p ≤ e ∧ l_bl T e (l_le T e p) = t_b T e (j + 1)) := by
  have e1 := t_word h.1 hp h6 h29
  rw [← (h.2.1 j hj).1] at e1
  rw [hp]
  by_cases c : K j = nI (t_cd i)
  · refine Or.inr ⟨c, e1.mpr c, ?_⟩
    rw [(h.2.1 j hj).1] at c
    obtain ⟨d1, d2⟩ := t_word_e h.1 hp h6 h29 c
    exact ⟨t_H_lt h hj d2, by rw [d1]; exact t_e_le d2, by rw [d1]; rfl⟩
  · exact Or.inl ⟨c, fun q => c (e1.mp q)⟩
def t_kd (s : Nat) : Int32 := if s = 0 then 10 else if s = 1 then 12 else if s = 2 then 13 else 15
/-- a LINE of a RULE, in the reference at k, in the class at lc -/
def t_RL (k lc : Nat) (W W2 LN LN2 : Nat → Int32) : Prop := ∃ so a c, so ≤ 3 ∧ LN2 = upd (upd (upd LN lc (t_kd so)) (lc + 1) (nI a)) (lc + 2) (nI c) ∧ W2 k = nI so ∧ W2 (k + 1) = nI a ∧ W2 (k + 2) = nI c ∧ (∀ j, j ≠ k → j ≠ k + 1 → j ≠ k + 2 → W2 j = W j) ∧ (so ≤ 1 → a < 4) ∧ (so = 0 → 1 ≤ c ∧ c ≤ 7) ∧ (so = 1 → c ≤ 99) ∧ (so = 2 → a ≤ 300 ∧ c ≤ 300) ∧ (so = 3 → 1 ≤ a ∧ a ≤ 300 ∧ c = 0)
theorem t_u3 {k : Nat} {W : Nat → Int32} {x y z : Int32} : upd (upd (upd W k x) (k + 1) y) (k + 2) z k = x ∧ upd (upd (upd W k x) (k + 1) y) (k + 2) z (k + 1) = y ∧ upd (upd (upd W k x) (k + 1) y) (k + 2) z (k + 2) = z ∧ ∀ j, j ≠ k → j ≠ k + 1 → j ≠ k + 2 → upd (upd (upd W k x) (k + 1) y) (k + 2) z j = W j := by
  refine ⟨?_, ?_, y_upds, fun j h1 h2 h3 => ?_⟩
  · rw [y_updn (by omega), y_updn (by omega), y_upds]
  · rw [y_updn (by omega), y_upds]
  · rw [y_updn h3, y_updn h2, y_updn h1]
theorem nI_n0 {n : Nat} (h : n < 2 ^ 31) : 0 ≤ nI n := nI_pos' h
theorem t_m1 : ¬ (0 : Int32) ≤ -1 := by decide
theorem t_rule (h : t_H T e K B C m) {p nx g s k lc : Nat} {wr : Int32} {W LN : Nat → Int32} (hp : l_bl T e p = t_b T e nx) (hx : nx ≤ m) (hW0 : W (k + 2) = 0) :
    ∃ (ok : Bool) (nx2 : Nat) (wr2 : Int32) (lc2 : Nat) (LN2 : Nat → Int32) (p2 b2 g2 s2 : Nat) (W2 : Nat → Int32), k_rl K B C nx wr lc LN = (ok, nx2, wr2, lc2, LN2) ∧ l_rule T e k (l_le T e p) (l_bl T e p) g s W = (ok, p2, b2, g2, s2, W2) ∧ g2 = g ∧ s2 = s ∧ (∀ j, j < k ∨ k + 2 < j → W2 j = W j) ∧ (ok = true → p2 ≤ e ∧ l_bl T e p2 = t_b T e nx2 ∧ nx < nx2 ∧ nx2 ≤ m ∧ wr2 = wr ∧ lc2 = lc + 3 ∧ t_RL k lc W W2 LN LN2) ∧ (ok = false → wr2 = nI b2) := by
  have hB : ∀ j, j ≤ m → B j = nI (t_b T e j) := fun j hj => (h.2.1 j hj).2.1
  have u1 : ∀ (x : Int32) j, j < k ∨ k + 2 < j → upd W k x j = W j := fun x j hj => y_updn (by omega)
  have u2 : ∀ (x y : Int32) j, j < k ∨ k + 2 < j → upd (upd W k x) (k + 1) y j = W j := fun x y j hj => by rw [y_updn (by omega), y_updn (by omega)]
  have u3 : ∀ (x y z : Int32) j, j < k ∨ k + 2 < j → upd (upd (upd W k x) (k + 1) y) (k + 2) z j = W j := fun x y z j hj => t_u3.2.2.2 j (by omega) (by omega) (by omega)
  unfold k_rl l_rule
  rcases t_wb (i := 6) h hp hx (by decide) (by decide) with ⟨c1, c2⟩ | ⟨c1, c2, c3, c4, c5⟩
  rotate_left
  · rw [if_pos (show K nx = 10 from c1), if_pos c2]
    unfold k_pair
    rcases t_nb (lo := 0) (hi := 3) h c5 (by omega) (by decide) (by decide) with ⟨d1, d2⟩ | ⟨d1, d2, d3, d4, n, d5, d6, d7, d8⟩
    · rw [if_pos (show k_bad (k_nx K C (nx + 1)) 0 3 from d1), d2, if_pos t_m1]
      exact ⟨_, _, _, _, _, _, _, _, _, _, rfl, rfl, rfl, rfl, u2 _ _, fun q => absurd q (by decide), fun _ => by rw [hB _ (by omega), c5]⟩
    · rw [if_neg (show ¬ k_bad (k_nx K C (nx + 1)) 0 3 from d1), d6, if_neg (show ¬ ¬ 0 ≤ nI n from fun q => q (nI_n0 (by omega))), if_neg (show ¬ (11 : Int32) = 2 by decide)]
      rcases t_wb (i := 10) h d4 (by omega) (by decide) (by decide) with ⟨f1, f2⟩ | ⟨f1, f2, f3, f4, f5⟩
      · rw [if_pos (show (11 : Int32) ≠ 2 ∧ ¬ K (nx + 1 + 1) = 11 from ⟨by decide, f1⟩), if_neg f2]
        exact ⟨_, _, _, _, _, _, _, _, _, _, rfl, rfl, rfl, rfl, u2 _ _, fun q => absurd q (by decide), fun _ => by rw [hB _ (by omega), d4]⟩
      · rw [if_neg (show ¬ ((11 : Int32) ≠ 2 ∧ ¬ K (nx + 1 + 1) = 11) from fun q => q.2 f1), if_pos f2]
        rcases t_nb (lo := 1) (hi := 7) h f5 (by omega) (by decide) (by decide) with ⟨g1, g2⟩ | ⟨g1, g2, g3, g4, n2, g5, g6, g7, g8⟩
        · rw [if_pos (show k_bad (k_nx K C (nx + 1 + 1 + 1)) 1 7 from g1), g2, if_neg t_m1]
          exact ⟨_, _, _, _, _, _, _, _, _, _, rfl, rfl, rfl, rfl, u3 _ _ _, fun q => absurd q (by decide), fun _ => by rw [hB _ (by omega), f5]⟩
        · rw [if_neg (show ¬ k_bad (k_nx K C (nx + 1 + 1 + 1)) 1 7 from g1), g6, if_pos (show 0 ≤ nI n2 from nI_n0 (by omega)), d5, g5]
          refine ⟨_, _, _, _, _, _, _, _, _, _, rfl, rfl, rfl, rfl, u3 _ _ _, fun _ => ⟨g3, g4, by omega, by omega, rfl, rfl, 0, n, n2, by decide, rfl, t_u3.1, t_u3.2.1, t_u3.2.2.1, t_u3.2.2.2, ?_⟩, fun q => absurd q (by decide)⟩
          exact ⟨fun _ => by omega, fun _ => by omega, fun q => absurd q (by decide), fun q => absurd q (by decide), fun q => absurd q (by decide)⟩
  rw [if_neg (show ¬ K nx = 10 from c1), if_neg c2]
  rcases t_wb (i := 7) h hp hx (by decide) (by decide) with ⟨c1, c2⟩ | ⟨c1, c2, c3, c4, c5⟩
  rotate_left
  · rw [if_pos (show K nx = 12 from c1), if_pos c2]
    unfold k_pair
    rcases t_nb (lo := 0) (hi := 3) h c5 (by omega) (by decide) (by decide) with ⟨d1, d2⟩ | ⟨d1, d2, d3, d4, n, d5, d6, d7, d8⟩
    · rw [if_pos (show k_bad (k_nx K C (nx + 1)) 0 3 from d1), d2, if_pos t_m1]
      exact ⟨_, _, _, _, _, _, _, _, _, _, rfl, rfl, rfl, rfl, u2 _ _, fun q => absurd q (by decide), fun _ => by rw [hB _ (by omega), c5]⟩
    · rw [if_neg (show ¬ k_bad (k_nx K C (nx + 1)) 0 3 from d1), d6, if_neg (show ¬ ¬ 0 ≤ nI n from fun q => q (nI_n0 (by omega))), if_neg (show ¬ ((2 : Int32) ≠ 2 ∧ ¬ K (nx + 1 + 1) = 2) from fun q => q.1 rfl), if_pos (show (2 : Int32) = 2 from rfl)]
      rcases t_nb (lo := 0) (hi := 99) h d4 (by omega) (by decide) (by decide) with ⟨g1, g2⟩ | ⟨g1, g2, g3, g4, n2, g5, g6, g7, g8⟩
      · rw [if_pos (show k_bad (k_nx K C (nx + 1 + 1)) 0 99 from g1), g2, decide_eq_false t_m1]
        exact ⟨_, _, _, _, _, _, _, _, _, _, rfl, rfl, rfl, rfl, u3 _ _ _, fun q => absurd q (by decide), fun _ => by rw [hB _ (by omega), d4]⟩
      · rw [if_neg (show ¬ k_bad (k_nx K C (nx + 1 + 1)) 0 99 from g1), g6, decide_eq_true (nI_n0 (by omega)), d5, g5]
        refine ⟨_, _, _, _, _, _, _, _, _, _, rfl, rfl, rfl, rfl, u3 _ _ _, fun _ => ⟨g3, g4, by omega, by omega, rfl, rfl, 1, n, n2, by decide, rfl, t_u3.1, t_u3.2.1, t_u3.2.2.1, t_u3.2.2.2, ?_⟩, fun q => absurd q (by decide)⟩
        exact ⟨fun _ => by omega, fun q => absurd q (by decide), fun _ => by omega, fun q => absurd q (by decide), fun q => absurd q (by decide)⟩
  rw [if_neg (show ¬ K nx = 12 from c1), if_neg c2]
  rcases t_wb (i := 8) h hp hx (by decide) (by decide) with ⟨c1, c2⟩ | ⟨c1, c2, c3, c4, c5⟩
  rotate_left
  · rw [if_pos (show K nx = 13 from c1), if_pos c2]
    unfold k_pair
    rcases t_nb (lo := 0) (hi := 300) h c5 (by omega) (by decide) (by decide) with ⟨d1, d2⟩ | ⟨d1, d2, d3, d4, n, d5, d6, d7, d8⟩
    · rw [if_pos (show k_bad (k_nx K C (nx + 1)) 0 300 from d1), d2, if_pos t_m1]
      exact ⟨_, _, _, _, _, _, _, _, _, _, rfl, rfl, rfl, rfl, u2 _ _, fun q => absurd q (by decide), fun _ => by rw [hB _ (by omega), c5]⟩
    · rw [if_neg (show ¬ k_bad (k_nx K C (nx + 1)) 0 300 from d1), d6, if_neg (show ¬ ¬ 0 ≤ nI n from fun q => q (nI_n0 (by omega))), if_neg (show ¬ (14 : Int32) = 2 by decide)]
      rcases t_wb (i := 11) h d4 (by omega) (by decide) (by decide) with ⟨f1, f2⟩ | ⟨f1, f2, f3, f4, f5⟩
      · rw [if_pos (show (14 : Int32) ≠ 2 ∧ ¬ K (nx + 1 + 1) = 14 from ⟨by decide, f1⟩), if_neg f2]
        exact ⟨_, _, _, _, _, _, _, _, _, _, rfl, rfl, rfl, rfl, u2 _ _, fun q => absurd q (by decide), fun _ => by rw [hB _ (by omega), d4]⟩
      · rw [if_neg (show ¬ ((14 : Int32) ≠ 2 ∧ ¬ K (nx + 1 + 1) = 14) from fun q => q.2 f1), if_pos f2, nI_cl (by omega), d5]
        rcases t_nb (lo := n) (hi := 300) h f5 (by omega) (by omega) (by decide) with ⟨g1, g2⟩ | ⟨g1, g2, g3, g4, n2, g5, g6, g7, g8⟩
        · rw [if_pos (show k_bad (k_nx K C (nx + 1 + 1 + 1)) (nI n) 300 from g1), g2, if_neg t_m1]
          exact ⟨_, _, _, _, _, _, _, _, _, _, rfl, rfl, rfl, rfl, u3 _ _ _, fun q => absurd q (by decide), fun _ => by rw [hB _ (by omega), f5]⟩
        · rw [if_neg (show ¬ k_bad (k_nx K C (nx + 1 + 1 + 1)) (nI n) 300 from g1), g6, if_pos (show 0 ≤ nI n2 from nI_n0 (by omega)), g5]
          refine ⟨_, _, _, _, _, _, _, _, _, _, rfl, rfl, rfl, rfl, u3 _ _ _, fun _ => ⟨g3, g4, by omega, by omega, rfl, rfl, 2, n, n2, by decide, rfl, t_u3.1, t_u3.2.1, t_u3.2.2.1, t_u3.2.2.2, ?_⟩, fun q => absurd q (by decide)⟩
          exact ⟨fun q => absurd q (by decide), fun q => absurd q (by decide), fun q => absurd q (by decide), fun _ => by omega, fun q => absurd q (by decide)⟩
  rw [if_neg (show ¬ K nx = 13 from c1), if_neg c2]
  rcases t_wb (i := 9) h hp hx (by decide) (by decide) with ⟨c1, c2⟩ | ⟨c1, c2, c3, c4, c5⟩
  rotate_left
  · rw [if_pos (show K nx = 15 from c1), if_pos c2]
    rcases t_nb (lo := 1) (hi := 300) h c5 (by omega) (by decide) (by decide) with ⟨d1, d2⟩ | ⟨d1, d2, d3, d4, n, d5, d6, d7, d8⟩
    · rw [if_pos (show k_bad (k_nx K C (nx + 1)) 1 300 from d1), d2, decide_eq_false t_m1]
      exact ⟨_, _, _, _, _, _, _, _, _, _, rfl, rfl, rfl, rfl, u2 _ _, fun q => absurd q (by decide), fun _ => by rw [hB _ (by omega), c5]⟩
    · rw [if_neg (show ¬ k_bad (k_nx K C (nx + 1)) 1 300 from d1), d6, decide_eq_true (nI_n0 (by omega)), d5]
      refine ⟨_, _, _, _, _, _, _, _, _, _, rfl, rfl, rfl, rfl, u2 _ _, fun _ => ⟨d3, d4, by omega, by omega, rfl, rfl, 3, n, 0, by decide, rfl, ?_, y_upds, ?_, fun j j1 j2 j3 => ?_, ?_⟩, fun q => absurd q (by decide)⟩
      · rw [y_updn (by omega), y_upds]
        rfl
      · rw [y_updn (by omega), y_updn (by omega), hW0]
        rfl
      · rw [y_updn j2, y_updn j1]
      · exact ⟨fun q => absurd q (by decide), fun q => absurd q (by decide), fun q => absurd q (by decide), fun q => absurd q (by decide), fun _ => by omega⟩
  rw [if_neg (show ¬ K nx = 15 from c1), if_neg c2]
  exact ⟨_, _, _, _, _, _, _, _, _, _, rfl, rfl, rfl, rfl, u1 _, fun q => absurd q (by decide), fun _ => by rw [hB _ hx, hp]⟩
end P14

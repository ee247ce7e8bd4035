/-! a part of a sum is read alike -/
section P18
variable {T : Nat → Int32} {e m : Nat} {K B C : Nat → Int32}
theorem t_stay {p b : Nat} (h : l_bl T e p = b) : l_bl T e b = b := by
  rw [← h]
  exact l_to_n l_to_out
theorem v_tn {n : Nat} : (2 : Int32) * 1024 + nI n = nI (2 * 1024 + n) ∧ (31 : Int32) * 1024 + nI n = nI (31 * 1024 + n) ∧ (32 : Int32) * 1024 + nI n = nI (32 * 1024 + n) ∧ (29 : Int32) * 1024 + 0 = nI (29 * 1024 + 0) ∧ (30 : Int32) * 1024 + 0 = nI (30 * 1024 + 0) := by
  refine ⟨?_, ?_, ?_, by decide, by decide⟩
  · rw [← v_add, show (2 : Int32) * 1024 = nI (2 * 1024) by decide]
  · rw [← v_add, show (31 : Int32) * 1024 = nI (31 * 1024) by decide]
  · rw [← v_add, show (32 : Int32) * 1024 = nI (32 * 1024) by decide]
/-- what a part is: its token, its number, what the reference asks -/
def t_P (sc s : Nat) (ST ST2 W W2 : Nat → Int32) : Prop := ∃ t n r, n < 1024 ∧ ((t = 2 ∧ r = 10 ∧ n ≤ 999) ∨ (t = 29 ∧ r = 0 ∧ n = 0) ∨ (t = 30 ∧ r = 1 ∧ n = 0) ∨ (t = 31 ∧ r = 2 ∧ n < 4) ∨ (t = 32 ∧ r = 3 ∧ n < 4)) ∧ ST2 = upd ST sc (nI (t * 1024 + n)) ∧ W2 = l_em W s (nI r) (nI n)
theorem t_part (h : t_H T e K B C m) {p b g s nx sc : Nat} {wr : Int32} {W ST : Nat → Int32} (hp : l_bl T e p = t_b T e nx) (hx : nx ≤ m) :
    ∃ (ok : Bool) (nx2 : Nat) (wr2 : Int32) (sc2 : Nat) (ST2 : Nat → Int32) (p2 b2 g2 s2 : Nat) (W2 : Nat → Int32), k_part K B C nx wr sc ST = (ok, nx2, wr2, sc2, ST2) ∧ l_part T e p b g s W = (ok, p2, b2, g2, s2, W2) ∧ (ok = true → p2 ≤ e ∧ l_bl T e p2 = t_b T e nx2 ∧ nx < nx2 ∧ nx2 ≤ m ∧ g2 = g ∧ wr2 = wr ∧ sc2 = sc + 1 ∧ s2 = s + 1 ∧ t_P sc s ST ST2 W W2) ∧ (ok = false → wr2 = nI b2) := by
  have hB : ∀ j, j ≤ m → B j = nI (t_b T e j) := fun j hj => (h.2.1 j hj).2.1
  obtain ⟨s9, k1, k2, k3, k4, k5, k6⟩ := t_k_n (T := T) (e := e) (b := t_b T e nx) h.1
  rw [← (h.2.1 nx hx).1] at k1
  have kne : ∀ c, c < 33 → (K nx = nI c ↔ s9 = c) := fun c hc => by
    rw [k1]
    exact nI_eq (by omega) (by omega)
  unfold k_part l_part
  by_cases cl : t_b T e nx < e ∧ t_L T (t_b T e nx)
  · have hle := t_le hp
    rw [if_pos cl] at hle
    have hgt : t_b T e nx < t_e T e (t_b T e nx) := by
      unfold t_e
      rw [if_pos cl.1, if_pos cl.2]
      have : t_b T e nx + 1 ≤ l_to T e 97 122 (t_b T e nx + 1) := l_to_ge
      omega
    have hs := k3 cl.1 cl.2
    rw [if_neg (show ¬ l_le T e p ≤ l_bl T e p by rw [hle, hp]; omega), if_neg (show ¬ K nx = 2 from fun q => by have := (kne 2 (by decide)).mp q; omega)]
    rcases t_wb (i := 23) h hp hx (by decide) (by decide) with ⟨c1, c2⟩ | ⟨c1, c2, c3, c4, c5⟩
    rotate_left
    · have e9 := (kne 29 (by decide)).mp c1
      rw [if_pos c2, if_neg (show ¬ (K nx = 31 ∨ K nx = 32) from fun q => by rcases q with q | q; (have := (kne 31 (by decide)).mp q; omega); (have := (kne 32 (by decide)).mp q; omega)), if_pos (show K nx = 29 ∨ K nx = 30 from Or.inl c1), show K nx = 29 from c1, v_tn (n := 0).2.2.2.1]
      exact ⟨_, _, _, _, _, _, _, _, _, _, rfl, rfl, fun _ => ⟨c4, c5, by omega, by omega, rfl, rfl, rfl, rfl, 29, 0, 0, by decide, by omega, rfl, rfl⟩, fun q => absurd q (by decide)⟩
    rw [if_neg c2]
    rcases t_wb (i := 24) h hp hx (by decide) (by decide) with ⟨d1, d2⟩ | ⟨c1, c2, c3, c4, c5⟩
    rotate_left
    · have e9 := (kne 30 (by decide)).mp c1
      rw [if_pos c2, if_neg (show ¬ (K nx = 31 ∨ K nx = 32) from fun q => by rcases q with q | q; (have := (kne 31 (by decide)).mp q; omega); (have := (kne 32 (by decide)).mp q; omega)), if_pos (show K nx = 29 ∨ K nx = 30 from Or.inr c1), show K nx = 30 from c1, v_tn (n := 0).2.2.2.2]
      exact ⟨_, _, _, _, _, _, _, _, _, _, rfl, rfl, fun _ => ⟨c4, c5, by omega, by omega, rfl, rfl, rfl, rfl, 30, 0, 1, by decide, by omega, rfl, rfl⟩, fun q => absurd q (by decide)⟩
    rw [if_neg d2]
    rcases t_wb (i := 25) h hp hx (by decide) (by decide) with ⟨f1, f2⟩ | ⟨c1, c2, c3, c4, c5⟩
    rotate_left
    · rw [if_pos c2, if_pos (show K nx = 31 ∨ K nx = 32 from Or.inl c1)]
      rcases t_nb (lo := 0) (hi := 3) h c5 (by omega) (by decide) (by decide) with ⟨q1, q2⟩ | ⟨q1, q2, q3, q4, n, q5, q6, q7, q8⟩
      · rw [if_pos (show k_bad (k_nx K C (nx + 1)) 0 3 from q1), q2, if_neg (show ¬ ¬ (-1 : Int32) < 0 by decide)]
        exact ⟨_, _, _, _, _, _, _, _, _, _, rfl, rfl, fun q => absurd q (by decide), fun _ => by rw [hB _ (by omega), c5]⟩
      · rw [if_neg (show ¬ k_bad (k_nx K C (nx + 1)) 0 3 from q1), q6, if_pos (show ¬ nI n < 0 from nI_pos (by omega)), q5, show K nx = 31 from c1, v_tn.2.1]
        exact ⟨_, _, _, _, _, _, _, _, _, _, rfl, rfl, fun _ => ⟨q3, q4, by omega, by omega, rfl, rfl, rfl, rfl, 31, n, 2, by omega, by omega, rfl, rfl⟩, fun q => absurd q (by decide)⟩
    rw [if_neg f2]
    rcases t_wb (i := 26) h hp hx (by decide) (by decide) with ⟨g1, g2⟩ | ⟨c1, c2, c3, c4, c5⟩
    rotate_left
    · rw [if_pos c2, if_pos (show K nx = 31 ∨ K nx = 32 from Or.inr c1)]
      rcases t_nb (lo := 0) (hi := 3) h c5 (by omega) (by decide) (by decide) with ⟨q1, q2⟩ | ⟨q1, q2, q3, q4, n, q5, q6, q7, q8⟩
      · rw [if_pos (show k_bad (k_nx K C (nx + 1)) 0 3 from q1), q2, if_neg (show ¬ ¬ (-1 : Int32) < 0 by decide)]
        exact ⟨_, _, _, _, _, _, _, _, _, _, rfl, rfl, fun q => absurd q (by decide), fun _ => by rw [hB _ (by omega), c5]⟩
      · rw [if_neg (show ¬ k_bad (k_nx K C (nx + 1)) 0 3 from q1), q6, if_pos (show ¬ nI n < 0 from nI_pos (by omega)), q5, show K nx = 32 from c1, v_tn.2.2.1]
        exact ⟨_, _, _, _, _, _, _, _, _, _, rfl, rfl, fun _ => ⟨q3, q4, by omega, by omega, rfl, rfl, rfl, rfl, 32, n, 3, by omega, by omega, rfl, rfl⟩, fun q => absurd q (by decide)⟩
    rw [if_neg g2, if_neg (show ¬ (K nx = 31 ∨ K nx = 32) from fun q => q.elim f1 g1), if_neg (show ¬ (K nx = 29 ∨ K nx = 30) from fun q => q.elim c1 d1)]
    exact ⟨_, _, _, _, _, _, _, _, _, _, rfl, rfl, fun q => absurd q (by decide), fun _ => by rw [hB _ hx, hp]⟩
  · have hle := t_le hp
    rw [if_neg cl] at hle
    have hp2 : l_bl T e (l_le T e p) = t_b T e nx := by rw [hle]; exact t_stay hp
    rw [if_pos (show l_le T e p ≤ l_bl T e p by rw [hle, hp]; omega)]
    rcases t_nb (lo := 0) (hi := 999) h hp2 hx (by decide) (by decide) with ⟨q1, q2⟩ | ⟨q1, q2, q3, q4, n, q5, q6, q7, q8⟩
    · rw [q2, if_neg t_m1]
      have hsm : s9 = 0 ∨ s9 = 1 ∨ s9 = 2 ∨ (4 ≤ s9 ∧ s9 ≤ 9) := by
        by_cases z : t_b T e nx < e
        · have nl : ¬ t_L T (t_b T e nx) := fun w => cl ⟨z, w⟩
          by_cases zg : t_G T (t_b T e nx)
          · have := k4 z nl zg
            omega
          · have := k5 z nl zg
            omega
        · have := k6 z
          omega
      by_cases c2 : K nx = 2
      · rw [if_pos c2, if_pos (show k_bad (k_nx K C nx) 0 999 from q1)]
        exact ⟨_, _, _, _, _, _, _, _, _, _, rfl, rfl, fun q => absurd q (by decide), fun _ => by rw [hB _ hx, hp2]⟩
      · rw [if_neg c2, if_neg (show ¬ (K nx = 31 ∨ K nx = 32) from fun q => by rcases q with q | q; (have := (kne 31 (by decide)).mp q; omega); (have := (kne 32 (by decide)).mp q; omega)), if_neg (show ¬ (K nx = 29 ∨ K nx = 30) from fun q => by rcases q with q | q; (have := (kne 29 (by decide)).mp q; omega); (have := (kne 30 (by decide)).mp q; omega))]
        exact ⟨_, _, _, _, _, _, _, _, _, _, rfl, rfl, fun q => absurd q (by decide), fun _ => by rw [hB _ hx, hp2]⟩
    · have c2 : K nx = 2 := by
        apply Classical.byContradiction
        intro z
        unfold k_nx at q5
        rw [if_neg z] at q5
        have := nI_pos (n := n) (by omega)
        rw [← q5] at this
        exact this (by decide)
      rw [if_pos c2, if_neg (show ¬ k_bad (k_nx K C nx) 0 999 from q1), q6, if_pos (show 0 ≤ nI n from nI_n0 (by omega)), q5, c2, v_tn.1]
      exact ⟨_, _, _, _, _, _, _, _, _, _, rfl, rfl, fun _ => ⟨q3, q4, by omega, by omega, rfl, rfl, rfl, rfl, 2, n, 10, by omega, by omega, rfl, rfl⟩, fun q => absurd q (by decide)⟩
end P18

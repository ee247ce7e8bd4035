/-! the words of the class, one by one -/
theorem k_wd_n {T : Nat → Int32} {a c f q t u : Nat} (h : ¬ (y_bt 2).getD q 0 = 32) : k_wd T a c (f + 1) q t u = k_wd T a c f (q + 1) t u := by rw [k_wd, if_neg h]
theorem k_wd_y {T : Nat → Int32} {a c f q t u : Nat} (h : (y_bt 2).getD q 0 = 32) : k_wd T a c (f + 1) q t u = if k_sm T a c u q then t else k_wd T a c f (q + 1) (t + 1) (q + 1) := by rw [k_wd, if_pos h]
theorem k_wd_run {T : Nat → Int32} {a c t u : Nat} : ∀ (l f q : Nat), (∀ j, j < l → ¬ (y_bt 2).getD (q + j) 0 = 32) → (y_bt 2).getD (q + l) 0 = 32 → k_wd T a c (f + 1 + l) q t u = if k_sm T a c u (q + l) then t else k_wd T a c f (q + l + 1) (t + 1) (q + l + 1) := by
  intro l
  induction l with
  | zero => intro f q _ h2; exact k_wd_y h2
  | succ l ih =>
    intro f q h1 h2
    rw [show f + 1 + (l + 1) = (f + 1 + l) + 1 by omega, k_wd_n (q := q) (h1 0 (by omega)), ih f (q + 1) (fun j hj => by rw [show q + 1 + j = q + (j + 1) by omega]; exact h1 (j + 1) (by omega)) (by rw [show q + 1 + l = q + (l + 1) by omega]; exact h2), show q + 1 + l = q + (l + 1) by omega]
theorem k_word_e {T : Nat → Int32} {a c : Nat} : k_word T a c = if k_sm T a c 0 4 then 10 else if k_sm T a c 5 7 then 11 else if k_sm T a c 8 11 then 12 else if k_sm T a c 12 15 then 13 else if k_sm T a c 16 18 then 14 else if k_sm T a c 19 23 then 15 else if k_sm T a c 24 28 then 16 else if k_sm T a c 29 33 then 17 else if k_sm T a c 34 39 then 18 else if k_sm T a c 40 44 then 19 else if k_sm T a c 45 47 then 20 else if k_sm T a c 48 51 then 21 else if k_sm T a c 52 55 then 22 else if k_sm T a c 56 60 then 23 else if k_sm T a c 61 67 then 24 else if k_sm T a c 68 73 then 25 else if k_sm T a c 74 78 then 26 else if k_sm T a c 79 83 then 27 else if k_sm T a c 84 89 then 28 else if k_sm T a c 90 96 then 29 else if k_sm T a c 97 102 then 30 else if k_sm T a c 103 108 then 31 else if k_sm T a c 109 114 then 32 else 1 := by
  unfold k_word
  rw [y_bt2]
  rw [show k_wd T a c 115 0 10 0 = if k_sm T a c 0 4 then 10 else k_wd T a c 110 5 11 5 from k_wd_run 4 110 0 (by decide +kernel) (by decide +kernel)]
  rw [show k_wd T a c 110 5 11 5 = if k_sm T a c 5 7 then 11 else k_wd T a c 107 8 12 8 from k_wd_run 2 107 5 (by decide +kernel) (by decide +kernel)]
  rw [show k_wd T a c 107 8 12 8 = if k_sm T a c 8 11 then 12 else k_wd T a c 103 12 13 12 from k_wd_run 3 103 8 (by decide +kernel) (by decide +kernel)]
  rw [show k_wd T a c 103 12 13 12 = if k_sm T a c 12 15 then 13 else k_wd T a c 99 16 14 16 from k_wd_run 3 99 12 (by decide +kernel) (by decide +kernel)]
  rw [show k_wd T a c 99 16 14 16 = if k_sm T a c 16 18 then 14 else k_wd T a c 96 19 15 19 from k_wd_run 2 96 16 (by decide +kernel) (by decide +kernel)]
  rw [show k_wd T a c 96 19 15 19 = if k_sm T a c 19 23 then 15 else k_wd T a c 91 24 16 24 from k_wd_run 4 91 19 (by decide +kernel) (by decide +kernel)]
  rw [show k_wd T a c 91 24 16 24 = if k_sm T a c 24 28 then 16 else k_wd T a c 86 29 17 29 from k_wd_run 4 86 24 (by decide +kernel) (by decide +kernel)]
  rw [show k_wd T a c 86 29 17 29 = if k_sm T a c 29 33 then 17 else k_wd T a c 81 34 18 34 from k_wd_run 4 81 29 (by decide +kernel) (by decide +kernel)]
  rw [show k_wd T a c 81 34 18 34 = if k_sm T a c 34 39 then 18 else k_wd T a c 75 40 19 40 from k_wd_run 5 75 34 (by decide +kernel) (by decide +kernel)]
  rw [show k_wd T a c 75 40 19 40 = if k_sm T a c 40 44 then 19 else k_wd T a c 70 45 20 45 from k_wd_run 4 70 40 (by decide +kernel) (by decide +kernel)]
  rw [show k_wd T a c 70 45 20 45 = if k_sm T a c 45 47 then 20 else k_wd T a c 67 48 21 48 from k_wd_run 2 67 45 (by decide +kernel) (by decide +kernel)]
  rw [show k_wd T a c 67 48 21 48 = if k_sm T a c 48 51 then 21 else k_wd T a c 63 52 22 52 from k_wd_run 3 63 48 (by decide +kernel) (by decide +kernel)]
  rw [show k_wd T a c 63 52 22 52 = if k_sm T a c 52 55 then 22 else k_wd T a c 59 56 23 56 from k_wd_run 3 59 52 (by decide +kernel) (by decide +kernel)]
  rw [show k_wd T a c 59 56 23 56 = if k_sm T a c 56 60 then 23 else k_wd T a c 54 61 24 61 from k_wd_run 4 54 56 (by decide +kernel) (by decide +kernel)]
  rw [show k_wd T a c 54 61 24 61 = if k_sm T a c 61 67 then 24 else k_wd T a c 47 68 25 68 from k_wd_run 6 47 61 (by decide +kernel) (by decide +kernel)]
  rw [show k_wd T a c 47 68 25 68 = if k_sm T a c 68 73 then 25 else k_wd T a c 41 74 26 74 from k_wd_run 5 41 68 (by decide +kernel) (by decide +kernel)]
  rw [show k_wd T a c 41 74 26 74 = if k_sm T a c 74 78 then 26 else k_wd T a c 36 79 27 79 from k_wd_run 4 36 74 (by decide +kernel) (by decide +kernel)]
  rw [show k_wd T a c 36 79 27 79 = if k_sm T a c 79 83 then 27 else k_wd T a c 31 84 28 84 from k_wd_run 4 31 79 (by decide +kernel) (by decide +kernel)]
  rw [show k_wd T a c 31 84 28 84 = if k_sm T a c 84 89 then 28 else k_wd T a c 25 90 29 90 from k_wd_run 5 25 84 (by decide +kernel) (by decide +kernel)]
  rw [show k_wd T a c 25 90 29 90 = if k_sm T a c 90 96 then 29 else k_wd T a c 18 97 30 97 from k_wd_run 6 18 90 (by decide +kernel) (by decide +kernel)]
  rw [show k_wd T a c 18 97 30 97 = if k_sm T a c 97 102 then 30 else k_wd T a c 12 103 31 103 from k_wd_run 5 12 97 (by decide +kernel) (by decide +kernel)]
  rw [show k_wd T a c 12 103 31 103 = if k_sm T a c 103 108 then 31 else k_wd T a c 6 109 32 109 from k_wd_run 5 6 103 (by decide +kernel) (by decide +kernel)]
  rw [show k_wd T a c 6 109 32 109 = if k_sm T a c 109 114 then 32 else k_wd T a c 0 115 33 115 from k_wd_run 5 0 109 (by decide +kernel) (by decide +kernel)]
  rfl

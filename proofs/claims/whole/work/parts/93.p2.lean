/-! the words of the class are those of the reference -/
theorem k_sm_w {T : Nat → Int32} {a c u v i : Nat} (hl : (y_bt i).length = v - u) (hb : ∀ j, j < v - u → (y_bt 2).getD (u + j) 0 = (y_bt i).getD j 0) : k_sm T a c u v ↔ l_w T a c i := by
  constructor
  · intro h
    refine ⟨by rw [hl]; exact h.1, fun j hj => ?_⟩
    rw [hl] at hj
    rw [← hb j hj]
    exact h.2 j (by rw [h.1]; exact hj)
  · intro h
    have h1 : c - a = v - u := by rw [← hl]; exact h.1
    refine ⟨h1, fun j hj => ?_⟩
    rw [h1] at hj
    rw [hb j hj]
    exact h.2 j (by rw [hl]; exact hj)
theorem k_sm_6 {T : Nat → Int32} {a c : Nat} : k_sm T a c 0 4 ↔ l_w T a c 6 := k_sm_w (by decide +kernel) (by decide +kernel)
theorem k_sm_10 {T : Nat → Int32} {a c : Nat} : k_sm T a c 5 7 ↔ l_w T a c 10 := k_sm_w (by decide +kernel) (by decide +kernel)
theorem k_sm_7 {T : Nat → Int32} {a c : Nat} : k_sm T a c 8 11 ↔ l_w T a c 7 := k_sm_w (by decide +kernel) (by decide +kernel)
theorem k_sm_8 {T : Nat → Int32} {a c : Nat} : k_sm T a c 12 15 ↔ l_w T a c 8 := k_sm_w (by decide +kernel) (by decide +kernel)
theorem k_sm_11 {T : Nat → Int32} {a c : Nat} : k_sm T a c 16 18 ↔ l_w T a c 11 := k_sm_w (by decide +kernel) (by decide +kernel)
theorem k_sm_9 {T : Nat → Int32} {a c : Nat} : k_sm T a c 19 23 ↔ l_w T a c 9 := k_sm_w (by decide +kernel) (by decide +kernel)
theorem k_sm_12 {T : Nat → Int32} {a c : Nat} : k_sm T a c 24 28 ↔ l_w T a c 12 := k_sm_w (by decide +kernel) (by decide +kernel)
theorem k_sm_13 {T : Nat → Int32} {a c : Nat} : k_sm T a c 29 33 ↔ l_w T a c 13 := k_sm_w (by decide +kernel) (by decide +kernel)
theorem k_sm_14 {T : Nat → Int32} {a c : Nat} : k_sm T a c 34 39 ↔ l_w T a c 14 := k_sm_w (by decide +kernel) (by decide +kernel)
theorem k_sm_15 {T : Nat → Int32} {a c : Nat} : k_sm T a c 40 44 ↔ l_w T a c 15 := k_sm_w (by decide +kernel) (by decide +kernel)
theorem k_sm_28 {T : Nat → Int32} {a c : Nat} : k_sm T a c 45 47 ↔ l_w T a c 28 := k_sm_w (by decide +kernel) (by decide +kernel)
theorem k_sm_27 {T : Nat → Int32} {a c : Nat} : k_sm T a c 48 51 ↔ l_w T a c 27 := k_sm_w (by decide +kernel) (by decide +kernel)
theorem k_sm_16 {T : Nat → Int32} {a c : Nat} : k_sm T a c 52 55 ↔ l_w T a c 16 := k_sm_w (by decide +kernel) (by decide +kernel)
theorem k_sm_17 {T : Nat → Int32} {a c : Nat} : k_sm T a c 56 60 ↔ l_w T a c 17 := k_sm_w (by decide +kernel) (by decide +kernel)
theorem k_sm_18 {T : Nat → Int32} {a c : Nat} : k_sm T a c 61 67 ↔ l_w T a c 18 := k_sm_w (by decide +kernel) (by decide +kernel)
theorem k_sm_19 {T : Nat → Int32} {a c : Nat} : k_sm T a c 68 73 ↔ l_w T a c 19 := k_sm_w (by decide +kernel) (by decide +kernel)
theorem k_sm_20 {T : Nat → Int32} {a c : Nat} : k_sm T a c 74 78 ↔ l_w T a c 20 := k_sm_w (by decide +kernel) (by decide +kernel)
theorem k_sm_21 {T : Nat → Int32} {a c : Nat} : k_sm T a c 79 83 ↔ l_w T a c 21 := k_sm_w (by decide +kernel) (by decide +kernel)
theorem k_sm_22 {T : Nat → Int32} {a c : Nat} : k_sm T a c 84 89 ↔ l_w T a c 22 := k_sm_w (by decide +kernel) (by decide +kernel)
theorem k_sm_23 {T : Nat → Int32} {a c : Nat} : k_sm T a c 90 96 ↔ l_w T a c 23 := k_sm_w (by decide +kernel) (by decide +kernel)
theorem k_sm_24 {T : Nat → Int32} {a c : Nat} : k_sm T a c 97 102 ↔ l_w T a c 24 := k_sm_w (by decide +kernel) (by decide +kernel)
theorem k_sm_25 {T : Nat → Int32} {a c : Nat} : k_sm T a c 103 108 ↔ l_w T a c 25 := k_sm_w (by decide +kernel) (by decide +kernel)
theorem k_sm_26 {T : Nat → Int32} {a c : Nat} : k_sm T a c 109 114 ↔ l_w T a c 26 := k_sm_w (by decide +kernel) (by decide +kernel)
/-- the token of a word, by the reference's texts -/
theorem k_word_w {T : Nat → Int32} {a c : Nat} : k_word T a c = if l_w T a c 6 then 10 else if l_w T a c 10 then 11 else if l_w T a c 7 then 12 else if l_w T a c 8 then 13 else if l_w T a c 11 then 14 else if l_w T a c 9 then 15 else if l_w T a c 12 then 16 else if l_w T a c 13 then 17 else if l_w T a c 14 then 18 else if l_w T a c 15 then 19 else if l_w T a c 28 then 20 else if l_w T a c 27 then 21 else if l_w T a c 16 then 22 else if l_w T a c 17 then 23 else if l_w T a c 18 then 24 else if l_w T a c 19 then 25 else if l_w T a c 20 then 26 else if l_w T a c 21 then 27 else if l_w T a c 22 then 28 else if l_w T a c 23 then 29 else if l_w T a c 24 then 30 else if l_w T a c 25 then 31 else if l_w T a c 26 then 32 else 1 := by
  rw [k_word_e]
  by_cases h6 : l_w T a c 6
  · rw [if_pos (k_sm_6.mpr h6), if_pos h6]
  rw [if_neg (fun z => h6 (k_sm_6.mp z)), if_neg h6]
  by_cases h10 : l_w T a c 10
  · rw [if_pos (k_sm_10.mpr h10), if_pos h10]
  rw [if_neg (fun z => h10 (k_sm_10.mp z)), if_neg h10]
  by_cases h7 : l_w T a c 7
  · rw [if_pos (k_sm_7.mpr h7), if_pos h7]
  rw [if_neg (fun z => h7 (k_sm_7.mp z)), if_neg h7]
  by_cases h8 : l_w T a c 8
  · rw [if_pos (k_sm_8.mpr h8), if_pos h8]
  rw [if_neg (fun z => h8 (k_sm_8.mp z)), if_neg h8]
  by_cases h11 : l_w T a c 11
  · rw [if_pos (k_sm_11.mpr h11), if_pos h11]
  rw [if_neg (fun z => h11 (k_sm_11.mp z)), if_neg h11]
  by_cases h9 : l_w T a c 9
  · rw [if_pos (k_sm_9.mpr h9), if_pos h9]
  rw [if_neg (fun z => h9 (k_sm_9.mp z)), if_neg h9]
  by_cases h12 : l_w T a c 12
  · rw [if_pos (k_sm_12.mpr h12), if_pos h12]
  rw [if_neg (fun z => h12 (k_sm_12.mp z)), if_neg h12]
  by_cases h13 : l_w T a c 13
  · rw [if_pos (k_sm_13.mpr h13), if_pos h13]
  rw [if_neg (fun z => h13 (k_sm_13.mp z)), if_neg h13]
  by_cases h14 : l_w T a c 14
  · rw [if_pos (k_sm_14.mpr h14), if_pos h14]
  rw [if_neg (fun z => h14 (k_sm_14.mp z)), if_neg h14]
  by_cases h15 : l_w T a c 15
  · rw [if_pos (k_sm_15.mpr h15), if_pos h15]
  rw [if_neg (fun z => h15 (k_sm_15.mp z)), if_neg h15]
  by_cases h28 : l_w T a c 28
  · rw [if_pos (k_sm_28.mpr h28), if_pos h28]
  rw [if_neg (fun z => h28 (k_sm_28.mp z)), if_neg h28]
  by_cases h27 : l_w T a c 27
  · rw [if_pos (k_sm_27.mpr h27), if_pos h27]
  rw [if_neg (fun z => h27 (k_sm_27.mp z)), if_neg h27]
  by_cases h16 : l_w T a c 16
  · rw [if_pos (k_sm_16.mpr h16), if_pos h16]
  rw [if_neg (fun z => h16 (k_sm_16.mp z)), if_neg h16]
  by_cases h17 : l_w T a c 17
  · rw [if_pos (k_sm_17.mpr h17), if_pos h17]
  rw [if_neg (fun z => h17 (k_sm_17.mp z)), if_neg h17]
  by_cases h18 : l_w T a c 18
  · rw [if_pos (k_sm_18.mpr h18), if_pos h18]
  rw [if_neg (fun z => h18 (k_sm_18.mp z)), if_neg h18]
  by_cases h19 : l_w T a c 19
  · rw [if_pos (k_sm_19.mpr h19), if_pos h19]
  rw [if_neg (fun z => h19 (k_sm_19.mp z)), if_neg h19]
  by_cases h20 : l_w T a c 20
  · rw [if_pos (k_sm_20.mpr h20), if_pos h20]
  rw [if_neg (fun z => h20 (k_sm_20.mp z)), if_neg h20]
  by_cases h21 : l_w T a c 21
  · rw [if_pos (k_sm_21.mpr h21), if_pos h21]
  rw [if_neg (fun z => h21 (k_sm_21.mp z)), if_neg h21]
  by_cases h22 : l_w T a c 22
  · rw [if_pos (k_sm_22.mpr h22), if_pos h22]
  rw [if_neg (fun z => h22 (k_sm_22.mp z)), if_neg h22]
  by_cases h23 : l_w T a c 23
  · rw [if_pos (k_sm_23.mpr h23), if_pos h23]
  rw [if_neg (fun z => h23 (k_sm_23.mp z)), if_neg h23]
  by_cases h24 : l_w T a c 24
  · rw [if_pos (k_sm_24.mpr h24), if_pos h24]
  rw [if_neg (fun z => h24 (k_sm_24.mp z)), if_neg h24]
  by_cases h25 : l_w T a c 25
  · rw [if_pos (k_sm_25.mpr h25), if_pos h25]
  rw [if_neg (fun z => h25 (k_sm_25.mp z)), if_neg h25]
  by_cases h26 : l_w T a c 26
  · rw [if_pos (k_sm_26.mpr h26), if_pos h26]
  rw [if_neg (fun z => h26 (k_sm_26.mp z)), if_neg h26]

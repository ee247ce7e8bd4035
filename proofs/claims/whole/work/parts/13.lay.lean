/-- what a cell holds: numbers, long numbers, references; of the cells that come later: of which kind it is and how long -/
abbrev y_c : Type := (Nat → Int32) × (Nat → Int64) × (Nat → Option Nat) × Nat × Nat
abbrev y_D : Type := Nat → y_c
def y_dyn (c : y_c) : x_C := if c.2.2.2.1 = 1 then .inr (4, [va_rf (c.2.2.1 0)]) else if c.2.2.2.1 = 2 then .inr (8, [.int (c.1 0), .int (c.1 1), .int (c.1 2), va_rf (c.2.2.1 0)]) else .inl (0, c.2.2.2.2, .inl c.1)
def y_lay (h : Nat) (c : y_c) : x_C := if h < 64 then y_dyn c else if 190 < h then y_dyn c else (if h < 127 then (if h < 95 then (if h < 79 then (if h < 71 then (if h < 67 then (if h < 65 then (.inr (9, [.ref 65, .int (c.1 1), .ref 66, .ref 73, .ref 112, .int (c.1 5), .ref 151, .ref 163, .ref 166, .ref 167, .ref 168])) else (if h < 66 then (.inl (1, 400, .inl c.1)) else (.inr (2, [.ref 67, .int (c.1 1), .int (c.1 2), .ref 71, .int (c.1 4), .int (c.1 5), .int (c.1 6), .int (c.1 7), .ref 72, .int (c.1 9)])))) else (if h < 69 then (if h < 68 then (.inr (5, [.ref 68, .ref 69, .ref 70, .int (c.1 3)])) else (.inl (0, 401, .inl c.1))) else (if h < 70 then (.inl (0, 401, .inl c.1)) else (.inl (0, 401, .inl c.1))))) else (if h < 75 then (if h < 73 then (if h < 72 then (.inl (0, 30, .inl c.1)) else (.inl (0, 800, .inl c.1))) else (if h < 74 then (.inr (0, [.ref 74, .ref 76, .int (c.1 2), .ref 77, .int (c.1 4), .ref 78, .ref 80, .ref 82, .ref 84, .ref 86, .ref 88, .ref 90, .int (c.1 12), .int (c.1 13)])) else (.inr (7, [.int (c.1 0), .ref 75, .int (c.1 2)])))) else (if h < 77 then (if h < 76 then (.inl (0, 16, .inl c.1)) else (.inl (4, 4, .inr (.inr (.inr (.inr c.2.2.1)))))) else (if h < 78 then (.inl (5, 6, .inr (.inr (.inr (.inr c.2.2.1))))) else (.inr (7, [.int (c.1 0), .ref 79, .int (c.1 2)])))))) else (if h < 87 then (if h < 83 then (if h < 81 then (if h < 80 then (.inl (0, 18, .inl c.1)) else (.inr (7, [.int (c.1 0), .ref 81, .int (c.1 2)]))) else (if h < 82 then (.inl (0, 20, .inl c.1)) else (.inr (7, [.int (c.1 0), .ref 83, .int (c.1 2)])))) else (if h < 85 then (if h < 84 then (.inl (0, 12, .inl c.1)) else (.inr (7, [.int (c.1 0), .ref 85, .int (c.1 2)]))) else (if h < 86 then (.inl (0, 15, .inl c.1)) else (.inr (7, [.int (c.1 0), .ref 87, .int (c.1 2)]))))) else (if h < 91 then (if h < 89 then (if h < 88 then (.inl (0, 60, .inl c.1)) else (.inr (7, [.int (c.1 0), .ref 89, .int (c.1 2)]))) else (if h < 90 then (.inl (0, 60, .inl c.1)) else (.inr (7, [.int (c.1 0), .ref 91, .int (c.1 2)])))) else (if h < 93 then (if h < 92 then (.inl (0, 24, .inl c.1)) else (y_dyn c)) else (if h < 94 then (y_dyn c) else (y_dyn c)))))) else (if h < 111 then (if h < 103 then (if h < 99 then (if h < 97 then (if h < 96 then (y_dyn c) else (y_dyn c)) else (if h < 98 then (y_dyn c) else (y_dyn c))) else (if h < 101 then (if h < 100 then (y_dyn c) else (y_dyn c)) else (if h < 102 then (y_dyn c) else (y_dyn c)))) else (if h < 107 then (if h < 105 then (if h < 104 then (y_dyn c) else (y_dyn c)) else (if h < 106 then (y_dyn c) else (y_dyn c))) else (if h < 109 then (if h < 108 then (y_dyn c) else (y_dyn c)) else (if h < 110 then (y_dyn c) else (y_dyn c))))) else (if h < 119 then (if h < 115 then (if h < 113 then (if h < 112 then (y_dyn c) else (.inr (0, [.ref 113, .ref 115, .int (c.1 2), .ref 116, .int (c.1 4), .ref 117, .ref 119, .ref 121, .ref 123, .ref 125, .ref 127, .ref 129, .int (c.1 12), .int (c.1 13)]))) else (if h < 114 then (.inr (7, [.int (c.1 0), .ref 114, .int (c.1 2)])) else (.inl (0, 16, .inl c.1)))) else (if h < 117 then (if h < 116 then (.inl (4, 4, .inr (.inr (.inr (.inr c.2.2.1))))) else (.inl (5, 6, .inr (.inr (.inr (.inr c.2.2.1)))))) else (if h < 118 then (.inr (7, [.int (c.1 0), .ref 118, .int (c.1 2)])) else (.inl (0, 18, .inl c.1))))) else (if h < 123 then (if h < 121 then (if h < 120 then (.inr (7, [.int (c.1 0), .ref 120, .int (c.1 2)])) else (.inl (0, 20, .inl c.1))) else (if h < 122 then (.inr (7, [.int (c.1 0), .ref 122, .int (c.1 2)])) else (.inl (0, 12, .inl c.1)))) else (if h < 125 then (if h < 124 then (.inr (7, [.int (c.1 0), .ref 124, .int (c.1 2)])) else (.inl (0, 15, .inl c.1))) else (if h < 126 then (.inr (7, [.int (c.1 0), .ref 126, .int (c.1 2)])) else (.inl (0, 60, .inl c.1)))))))) else (if h < 159 then (if h < 143 then (if h < 135 then (if h < 131 then (if h < 129 then (if h < 128 then (.inr (7, [.int (c.1 0), .ref 128, .int (c.1 2)])) else (.inl (0, 60, .inl c.1))) else (if h < 130 then (.inr (7, [.int (c.1 0), .ref 130, .int (c.1 2)])) else (.inl (0, 24, .inl c.1)))) else (if h < 133 then (if h < 132 then (y_dyn c) else (y_dyn c)) else (if h < 134 then (y_dyn c) else (y_dyn c)))) else (if h < 139 then (if h < 137 then (if h < 136 then (y_dyn c) else (y_dyn c)) else (if h < 138 then (y_dyn c) else (y_dyn c))) else (if h < 141 then (if h < 140 then (y_dyn c) else (y_dyn c)) else (if h < 142 then (y_dyn c) else (y_dyn c))))) else (if h < 151 then (if h < 147 then (if h < 145 then (if h < 144 then (y_dyn c) else (y_dyn c)) else (if h < 146 then (y_dyn c) else (y_dyn c))) else (if h < 149 then (if h < 148 then (y_dyn c) else (y_dyn c)) else (if h < 150 then (y_dyn c) else (y_dyn c)))) else (if h < 155 then (if h < 153 then (if h < 152 then (.inr (1, [.ref 73, .ref 152, .ref 158, .ref 159, .ref 190, .ref 160, .ref 161, .ref 162])) else (.inr (6, [.int (c.1 0), .int (c.1 1), .int (c.1 2), .ref 153, .ref 154, .ref 155, .ref 156, .ref 157, .int (c.1 8)]))) else (if h < 154 then (.inl (0, 301, .inl c.1)) else (.inl (0, 4, .inl c.1)))) else (if h < 157 then (if h < 156 then (.inl (0, 4, .inl c.1)) else (.inl (0, 4, .inl c.1))) else (if h < 158 then (.inl (0, 24, .inl c.1)) else (.inl (0, 1806, .inl c.1))))))) else (if h < 175 then (if h < 167 then (if h < 163 then (if h < 161 then (if h < 160 then (.inl (0, 1806, .inl c.1)) else (.inl (0, 301, .inl c.1))) else (if h < 162 then (.inl (0, 301, .inl c.1)) else (.inl (0, 512, .inl c.1)))) else (if h < 165 then (if h < 164 then (.inr (3, [.ref 73, .ref 164, .ref 165])) else (.inl (0, 64, .inl c.1))) else (if h < 166 then (.inl (0, 64, .inl c.1)) else (.inl (3, 5, .inr (.inl c.2.1)))))) else (if h < 171 then (if h < 169 then (if h < 168 then (.inl (0, 5, .inl c.1)) else (.inl (0, 8, .inl c.1))) else (if h < 170 then (.inr (10, [.int (c.1 0), .ref 170, .ref 171, .int (c.1 3), .ref 172, .int (c.1 5), .int (c.1 6), .int (c.1 7), .int (c.1 8), .int (c.1 9), .int (c.1 10), .ref 173, .int (c.1 12), .int (c.1 13), .ref 174, .ref 175, .ref 176, .ref 177, .ref 178, .ref 179, .ref 180, .ref 181, .ref 182, .int (c.1 23), .ref 183, .ref 184, .ref 185, .ref 186, .ref 187, .ref 188])) else (.inl (0, 9598, .inl c.1)))) else (if h < 173 then (if h < 172 then (.inl (0, 8747, .inl c.1)) else (.inl (1, 400, .inl c.1))) else (if h < 174 then (.inl (0, 5, .inl c.1)) else (.inl (2, 301, .inl c.1)))))) else (if h < 183 then (if h < 179 then (if h < 177 then (if h < 176 then (.inl (0, 4, .inl c.1)) else (.inl (0, 4, .inl c.1))) else (if h < 178 then (.inl (0, 400, .inl c.1)) else (.inl (2, 4816, .inl c.1)))) else (if h < 181 then (if h < 180 then (.inl (2, 4816, .inl c.1)) else (.inl (2, 4816, .inl c.1))) else (if h < 182 then (.inl (2, 4816, .inl c.1)) else (.inl (0, 28992, .inl c.1))))) else (if h < 187 then (if h < 185 then (if h < 184 then (.inl (2, 512, .inl c.1)) else (.inl (0, 512, .inl c.1))) else (if h < 186 then (.inl (0, 5, .inl c.1)) else (.inl (3, 5, .inr (.inl c.2.1))))) else (if h < 189 then (if h < 188 then (.inl (0, 64, .inl c.1)) else (.inl (0, 64, .inl c.1))) else (if h < 190 then (.inl (3, 1, .inr (.inl c.2.1))) else (.inl (0, 6, .inl c.1)))))))))
def y_mk (n : Nat) (L : List Nat) (D : y_D) : x_S := (n, L, fun h => y_lay h (D h))
def y_si (D : y_D) (h k : Nat) (v : Int32) : y_D := fun j => if j = h then (upd (D h).1 k v, (D h).2) else D j
def y_sl (D : y_D) (h k : Nat) (v : Int64) : y_D := fun j => if j = h then ((D h).1, vp_updL (D h).2.1 k v, (D h).2.2) else D j
def y_sq (D : y_D) (h k : Nat) (v : Nat) : y_D := fun j => if j = h then ((D h).1, (D h).2.1, va_up (D h).2.2.1 k (some v), (D h).2.2.2) else D j
theorem y_si_s {D : y_D} {h k : Nat} {v : Int32} : y_si D h k v h = (upd (D h).1 k v, (D h).2) := by unfold y_si; rw [if_pos rfl]
theorem y_si_n {D : y_D} {h k j : Nat} {v : Int32} (hj : j ≠ h) : y_si D h k v j = D j := by unfold y_si; rw [if_neg hj]
/-- the cell h is an object of the class ci whose place k is a number -/
def y_I (h ci k : Nat) : Prop := ∀ c : y_c, ∃ fs : List Value, y_lay h c = .inr (ci, fs) ∧ fs[k]? = some (.int (c.1 k)) ∧ k < fs.length ∧ ∀ v, y_lay h (upd c.1 k v, c.2) = .inr (ci, fs.set k (.int v))
def y_R (h ci k h2 : Nat) : Prop := ∀ c : y_c, ∃ fs : List Value, y_lay h c = .inr (ci, fs) ∧ fs[k]? = some (.ref h2)
def y_A (h t len : Nat) : Prop := ∀ c : y_c, y_lay h c = .inl (t, len, .inl c.1)
def y_J (h len : Nat) : Prop := ∀ c : y_c, y_lay h c = .inl (3, len, .inr (.inl c.2.1))
def y_Q (h t len : Nat) : Prop := ∀ c : y_c, y_lay h c = .inl (t, len, .inr (.inr (.inr (.inr c.2.2.1))))
/-- h is a cell of the class ci -/
def y_K (h ci : Nat) : Prop := ∀ c : y_c, ∃ fs : List Value, y_lay h c = .inr (ci, fs)
theorem y_put {n : Nat} {L : List Nat} {D : y_D} {h : Nat} {c : y_c} {e : x_C} (he : y_lay h c = e) : x_put (y_mk n L D) h e = y_mk n L (fun j => if j = h then c else D j) := by
  unfold x_put y_mk
  refine congrArg (fun f => (n, L, f)) (funext fun j => ?_)
  dsimp only
  by_cases hj : j = h
  · subst hj
    rw [if_pos rfl, if_pos rfl, he]
  · rw [if_neg hj, if_neg hj]
theorem y_l_64 (c : y_c) : y_lay 64 c = .inr (9, [.ref 65, .int (c.1 1), .ref 66, .ref 73, .ref 112, .int (c.1 5), .ref 151, .ref 163, .ref 166, .ref 167, .ref 168]) := rfl
theorem y_K_64 : y_K 64 9 := fun c => ⟨_, y_l_64 c⟩
theorem y_R_64_0 : y_R 64 9 0 65 := fun c => ⟨_, y_l_64 c, rfl⟩
theorem y_I_64_1 : y_I 64 9 1 := fun c => ⟨_, y_l_64 c, rfl, Nat.le_of_ble_eq_true rfl, fun v => y_l_64 (upd c.1 1 v, c.2)⟩
theorem y_R_64_2 : y_R 64 9 2 66 := fun c => ⟨_, y_l_64 c, rfl⟩
theorem y_R_64_3 : y_R 64 9 3 73 := fun c => ⟨_, y_l_64 c, rfl⟩
theorem y_R_64_4 : y_R 64 9 4 112 := fun c => ⟨_, y_l_64 c, rfl⟩
theorem y_I_64_5 : y_I 64 9 5 := fun c => ⟨_, y_l_64 c, rfl, Nat.le_of_ble_eq_true rfl, fun v => y_l_64 (upd c.1 5 v, c.2)⟩
theorem y_R_64_6 : y_R 64 9 6 151 := fun c => ⟨_, y_l_64 c, rfl⟩
theorem y_R_64_7 : y_R 64 9 7 163 := fun c => ⟨_, y_l_64 c, rfl⟩
theorem y_R_64_8 : y_R 64 9 8 166 := fun c => ⟨_, y_l_64 c, rfl⟩
theorem y_R_64_9 : y_R 64 9 9 167 := fun c => ⟨_, y_l_64 c, rfl⟩
theorem y_R_64_10 : y_R 64 9 10 168 := fun c => ⟨_, y_l_64 c, rfl⟩
theorem y_A_65 : y_A 65 1 400 := fun _ => rfl
theorem y_l_66 (c : y_c) : y_lay 66 c = .inr (2, [.ref 67, .int (c.1 1), .int (c.1 2), .ref 71, .int (c.1 4), .int (c.1 5), .int (c.1 6), .int (c.1 7), .ref 72, .int (c.1 9)]) := rfl
theorem y_K_66 : y_K 66 2 := fun c => ⟨_, y_l_66 c⟩
theorem y_R_66_0 : y_R 66 2 0 67 := fun c => ⟨_, y_l_66 c, rfl⟩
theorem y_I_66_1 : y_I 66 2 1 := fun c => ⟨_, y_l_66 c, rfl, Nat.le_of_ble_eq_true rfl, fun v => y_l_66 (upd c.1 1 v, c.2)⟩
theorem y_I_66_2 : y_I 66 2 2 := fun c => ⟨_, y_l_66 c, rfl, Nat.le_of_ble_eq_true rfl, fun v => y_l_66 (upd c.1 2 v, c.2)⟩
theorem y_R_66_3 : y_R 66 2 3 71 := fun c => ⟨_, y_l_66 c, rfl⟩
theorem y_I_66_4 : y_I 66 2 4 := fun c => ⟨_, y_l_66 c, rfl, Nat.le_of_ble_eq_true rfl, fun v => y_l_66 (upd c.1 4 v, c.2)⟩
theorem y_I_66_5 : y_I 66 2 5 := fun c => ⟨_, y_l_66 c, rfl, Nat.le_of_ble_eq_true rfl, fun v => y_l_66 (upd c.1 5 v, c.2)⟩
theorem y_I_66_6 : y_I 66 2 6 := fun c => ⟨_, y_l_66 c, rfl, Nat.le_of_ble_eq_true rfl, fun v => y_l_66 (upd c.1 6 v, c.2)⟩
theorem y_I_66_7 : y_I 66 2 7 := fun c => ⟨_, y_l_66 c, rfl, Nat.le_of_ble_eq_true rfl, fun v => y_l_66 (upd c.1 7 v, c.2)⟩
theorem y_R_66_8 : y_R 66 2 8 72 := fun c => ⟨_, y_l_66 c, rfl⟩
theorem y_I_66_9 : y_I 66 2 9 := fun c => ⟨_, y_l_66 c, rfl, Nat.le_of_ble_eq_true rfl, fun v => y_l_66 (upd c.1 9 v, c.2)⟩
theorem y_l_67 (c : y_c) : y_lay 67 c = .inr (5, [.ref 68, .ref 69, .ref 70, .int (c.1 3)]) := rfl
theorem y_K_67 : y_K 67 5 := fun c => ⟨_, y_l_67 c⟩
theorem y_R_67_0 : y_R 67 5 0 68 := fun c => ⟨_, y_l_67 c, rfl⟩
theorem y_R_67_1 : y_R 67 5 1 69 := fun c => ⟨_, y_l_67 c, rfl⟩
theorem y_R_67_2 : y_R 67 5 2 70 := fun c => ⟨_, y_l_67 c, rfl⟩
theorem y_I_67_3 : y_I 67 5 3 := fun c => ⟨_, y_l_67 c, rfl, Nat.le_of_ble_eq_true rfl, fun v => y_l_67 (upd c.1 3 v, c.2)⟩
theorem y_A_68 : y_A 68 0 401 := fun _ => rfl
theorem y_A_69 : y_A 69 0 401 := fun _ => rfl
theorem y_A_70 : y_A 70 0 401 := fun _ => rfl
theorem y_A_71 : y_A 71 0 30 := fun _ => rfl
theorem y_A_72 : y_A 72 0 800 := fun _ => rfl
theorem y_l_73 (c : y_c) : y_lay 73 c = .inr (0, [.ref 74, .ref 76, .int (c.1 2), .ref 77, .int (c.1 4), .ref 78, .ref 80, .ref 82, .ref 84, .ref 86, .ref 88, .ref 90, .int (c.1 12), .int (c.1 13)]) := rfl
theorem y_K_73 : y_K 73 0 := fun c => ⟨_, y_l_73 c⟩
theorem y_R_73_0 : y_R 73 0 0 74 := fun c => ⟨_, y_l_73 c, rfl⟩
theorem y_R_73_1 : y_R 73 0 1 76 := fun c => ⟨_, y_l_73 c, rfl⟩
theorem y_I_73_2 : y_I 73 0 2 := fun c => ⟨_, y_l_73 c, rfl, Nat.le_of_ble_eq_true rfl, fun v => y_l_73 (upd c.1 2 v, c.2)⟩
theorem y_R_73_3 : y_R 73 0 3 77 := fun c => ⟨_, y_l_73 c, rfl⟩
theorem y_I_73_4 : y_I 73 0 4 := fun c => ⟨_, y_l_73 c, rfl, Nat.le_of_ble_eq_true rfl, fun v => y_l_73 (upd c.1 4 v, c.2)⟩
theorem y_R_73_5 : y_R 73 0 5 78 := fun c => ⟨_, y_l_73 c, rfl⟩
theorem y_R_73_6 : y_R 73 0 6 80 := fun c => ⟨_, y_l_73 c, rfl⟩
theorem y_R_73_7 : y_R 73 0 7 82 := fun c => ⟨_, y_l_73 c, rfl⟩
theorem y_R_73_8 : y_R 73 0 8 84 := fun c => ⟨_, y_l_73 c, rfl⟩
theorem y_R_73_9 : y_R 73 0 9 86 := fun c => ⟨_, y_l_73 c, rfl⟩
theorem y_R_73_10 : y_R 73 0 10 88 := fun c => ⟨_, y_l_73 c, rfl⟩
theorem y_R_73_11 : y_R 73 0 11 90 := fun c => ⟨_, y_l_73 c, rfl⟩
theorem y_I_73_12 : y_I 73 0 12 := fun c => ⟨_, y_l_73 c, rfl, Nat.le_of_ble_eq_true rfl, fun v => y_l_73 (upd c.1 12 v, c.2)⟩
theorem y_I_73_13 : y_I 73 0 13 := fun c => ⟨_, y_l_73 c, rfl, Nat.le_of_ble_eq_true rfl, fun v => y_l_73 (upd c.1 13 v, c.2)⟩
theorem y_Q_76 : y_Q 76 4 4 := fun _ => rfl
theorem y_Q_77 : y_Q 77 5 6 := fun _ => rfl
theorem y_l_74 (c : y_c) : y_lay 74 c = .inr (7, [.int (c.1 0), .ref 75, .int (c.1 2)]) := rfl
theorem y_K_74 : y_K 74 7 := fun c => ⟨_, y_l_74 c⟩
theorem y_I_74_0 : y_I 74 7 0 := fun c => ⟨_, y_l_74 c, rfl, Nat.le_of_ble_eq_true rfl, fun v => y_l_74 (upd c.1 0 v, c.2)⟩
theorem y_R_74_1 : y_R 74 7 1 75 := fun c => ⟨_, y_l_74 c, rfl⟩
theorem y_I_74_2 : y_I 74 7 2 := fun c => ⟨_, y_l_74 c, rfl, Nat.le_of_ble_eq_true rfl, fun v => y_l_74 (upd c.1 2 v, c.2)⟩
theorem y_A_75 : y_A 75 0 16 := fun _ => rfl
theorem y_l_78 (c : y_c) : y_lay 78 c = .inr (7, [.int (c.1 0), .ref 79, .int (c.1 2)]) := rfl
theorem y_K_78 : y_K 78 7 := fun c => ⟨_, y_l_78 c⟩
theorem y_I_78_0 : y_I 78 7 0 := fun c => ⟨_, y_l_78 c, rfl, Nat.le_of_ble_eq_true rfl, fun v => y_l_78 (upd c.1 0 v, c.2)⟩
theorem y_R_78_1 : y_R 78 7 1 79 := fun c => ⟨_, y_l_78 c, rfl⟩
theorem y_I_78_2 : y_I 78 7 2 := fun c => ⟨_, y_l_78 c, rfl, Nat.le_of_ble_eq_true rfl, fun v => y_l_78 (upd c.1 2 v, c.2)⟩
theorem y_A_79 : y_A 79 0 18 := fun _ => rfl
theorem y_l_80 (c : y_c) : y_lay 80 c = .inr (7, [.int (c.1 0), .ref 81, .int (c.1 2)]) := rfl
theorem y_K_80 : y_K 80 7 := fun c => ⟨_, y_l_80 c⟩
theorem y_I_80_0 : y_I 80 7 0 := fun c => ⟨_, y_l_80 c, rfl, Nat.le_of_ble_eq_true rfl, fun v => y_l_80 (upd c.1 0 v, c.2)⟩
theorem y_R_80_1 : y_R 80 7 1 81 := fun c => ⟨_, y_l_80 c, rfl⟩
theorem y_I_80_2 : y_I 80 7 2 := fun c => ⟨_, y_l_80 c, rfl, Nat.le_of_ble_eq_true rfl, fun v => y_l_80 (upd c.1 2 v, c.2)⟩
theorem y_A_81 : y_A 81 0 20 := fun _ => rfl
theorem y_l_82 (c : y_c) : y_lay 82 c = .inr (7, [.int (c.1 0), .ref 83, .int (c.1 2)]) := rfl
theorem y_K_82 : y_K 82 7 := fun c => ⟨_, y_l_82 c⟩
theorem y_I_82_0 : y_I 82 7 0 := fun c => ⟨_, y_l_82 c, rfl, Nat.le_of_ble_eq_true rfl, fun v => y_l_82 (upd c.1 0 v, c.2)⟩
theorem y_R_82_1 : y_R 82 7 1 83 := fun c => ⟨_, y_l_82 c, rfl⟩
theorem y_I_82_2 : y_I 82 7 2 := fun c => ⟨_, y_l_82 c, rfl, Nat.le_of_ble_eq_true rfl, fun v => y_l_82 (upd c.1 2 v, c.2)⟩
theorem y_A_83 : y_A 83 0 12 := fun _ => rfl
theorem y_l_84 (c : y_c) : y_lay 84 c = .inr (7, [.int (c.1 0), .ref 85, .int (c.1 2)]) := rfl
theorem y_K_84 : y_K 84 7 := fun c => ⟨_, y_l_84 c⟩
theorem y_I_84_0 : y_I 84 7 0 := fun c => ⟨_, y_l_84 c, rfl, Nat.le_of_ble_eq_true rfl, fun v => y_l_84 (upd c.1 0 v, c.2)⟩
theorem y_R_84_1 : y_R 84 7 1 85 := fun c => ⟨_, y_l_84 c, rfl⟩
theorem y_I_84_2 : y_I 84 7 2 := fun c => ⟨_, y_l_84 c, rfl, Nat.le_of_ble_eq_true rfl, fun v => y_l_84 (upd c.1 2 v, c.2)⟩
theorem y_A_85 : y_A 85 0 15 := fun _ => rfl
theorem y_l_86 (c : y_c) : y_lay 86 c = .inr (7, [.int (c.1 0), .ref 87, .int (c.1 2)]) := rfl
theorem y_K_86 : y_K 86 7 := fun c => ⟨_, y_l_86 c⟩
theorem y_I_86_0 : y_I 86 7 0 := fun c => ⟨_, y_l_86 c, rfl, Nat.le_of_ble_eq_true rfl, fun v => y_l_86 (upd c.1 0 v, c.2)⟩
theorem y_R_86_1 : y_R 86 7 1 87 := fun c => ⟨_, y_l_86 c, rfl⟩
theorem y_I_86_2 : y_I 86 7 2 := fun c => ⟨_, y_l_86 c, rfl, Nat.le_of_ble_eq_true rfl, fun v => y_l_86 (upd c.1 2 v, c.2)⟩
theorem y_A_87 : y_A 87 0 60 := fun _ => rfl
theorem y_l_88 (c : y_c) : y_lay 88 c = .inr (7, [.int (c.1 0), .ref 89, .int (c.1 2)]) := rfl
theorem y_K_88 : y_K 88 7 := fun c => ⟨_, y_l_88 c⟩
theorem y_I_88_0 : y_I 88 7 0 := fun c => ⟨_, y_l_88 c, rfl, Nat.le_of_ble_eq_true rfl, fun v => y_l_88 (upd c.1 0 v, c.2)⟩
theorem y_R_88_1 : y_R 88 7 1 89 := fun c => ⟨_, y_l_88 c, rfl⟩
theorem y_I_88_2 : y_I 88 7 2 := fun c => ⟨_, y_l_88 c, rfl, Nat.le_of_ble_eq_true rfl, fun v => y_l_88 (upd c.1 2 v, c.2)⟩
theorem y_A_89 : y_A 89 0 60 := fun _ => rfl
theorem y_l_90 (c : y_c) : y_lay 90 c = .inr (7, [.int (c.1 0), .ref 91, .int (c.1 2)]) := rfl
theorem y_K_90 : y_K 90 7 := fun c => ⟨_, y_l_90 c⟩
theorem y_I_90_0 : y_I 90 7 0 := fun c => ⟨_, y_l_90 c, rfl, Nat.le_of_ble_eq_true rfl, fun v => y_l_90 (upd c.1 0 v, c.2)⟩
theorem y_R_90_1 : y_R 90 7 1 91 := fun c => ⟨_, y_l_90 c, rfl⟩
theorem y_I_90_2 : y_I 90 7 2 := fun c => ⟨_, y_l_90 c, rfl, Nat.le_of_ble_eq_true rfl, fun v => y_l_90 (upd c.1 2 v, c.2)⟩
theorem y_A_91 : y_A 91 0 24 := fun _ => rfl
theorem y_l_112 (c : y_c) : y_lay 112 c = .inr (0, [.ref 113, .ref 115, .int (c.1 2), .ref 116, .int (c.1 4), .ref 117, .ref 119, .ref 121, .ref 123, .ref 125, .ref 127, .ref 129, .int (c.1 12), .int (c.1 13)]) := rfl
theorem y_K_112 : y_K 112 0 := fun c => ⟨_, y_l_112 c⟩
theorem y_R_112_0 : y_R 112 0 0 113 := fun c => ⟨_, y_l_112 c, rfl⟩
theorem y_R_112_1 : y_R 112 0 1 115 := fun c => ⟨_, y_l_112 c, rfl⟩
theorem y_I_112_2 : y_I 112 0 2 := fun c => ⟨_, y_l_112 c, rfl, Nat.le_of_ble_eq_true rfl, fun v => y_l_112 (upd c.1 2 v, c.2)⟩
theorem y_R_112_3 : y_R 112 0 3 116 := fun c => ⟨_, y_l_112 c, rfl⟩
theorem y_I_112_4 : y_I 112 0 4 := fun c => ⟨_, y_l_112 c, rfl, Nat.le_of_ble_eq_true rfl, fun v => y_l_112 (upd c.1 4 v, c.2)⟩
theorem y_R_112_5 : y_R 112 0 5 117 := fun c => ⟨_, y_l_112 c, rfl⟩
theorem y_R_112_6 : y_R 112 0 6 119 := fun c => ⟨_, y_l_112 c, rfl⟩
theorem y_R_112_7 : y_R 112 0 7 121 := fun c => ⟨_, y_l_112 c, rfl⟩
theorem y_R_112_8 : y_R 112 0 8 123 := fun c => ⟨_, y_l_112 c, rfl⟩
theorem y_R_112_9 : y_R 112 0 9 125 := fun c => ⟨_, y_l_112 c, rfl⟩
theorem y_R_112_10 : y_R 112 0 10 127 := fun c => ⟨_, y_l_112 c, rfl⟩
theorem y_R_112_11 : y_R 112 0 11 129 := fun c => ⟨_, y_l_112 c, rfl⟩
theorem y_I_112_12 : y_I 112 0 12 := fun c => ⟨_, y_l_112 c, rfl, Nat.le_of_ble_eq_true rfl, fun v => y_l_112 (upd c.1 12 v, c.2)⟩
theorem y_I_112_13 : y_I 112 0 13 := fun c => ⟨_, y_l_112 c, rfl, Nat.le_of_ble_eq_true rfl, fun v => y_l_112 (upd c.1 13 v, c.2)⟩
theorem y_Q_115 : y_Q 115 4 4 := fun _ => rfl
theorem y_Q_116 : y_Q 116 5 6 := fun _ => rfl
theorem y_l_113 (c : y_c) : y_lay 113 c = .inr (7, [.int (c.1 0), .ref 114, .int (c.1 2)]) := rfl
theorem y_K_113 : y_K 113 7 := fun c => ⟨_, y_l_113 c⟩
theorem y_I_113_0 : y_I 113 7 0 := fun c => ⟨_, y_l_113 c, rfl, Nat.le_of_ble_eq_true rfl, fun v => y_l_113 (upd c.1 0 v, c.2)⟩
theorem y_R_113_1 : y_R 113 7 1 114 := fun c => ⟨_, y_l_113 c, rfl⟩
theorem y_I_113_2 : y_I 113 7 2 := fun c => ⟨_, y_l_113 c, rfl, Nat.le_of_ble_eq_true rfl, fun v => y_l_113 (upd c.1 2 v, c.2)⟩
theorem y_A_114 : y_A 114 0 16 := fun _ => rfl
theorem y_l_117 (c : y_c) : y_lay 117 c = .inr (7, [.int (c.1 0), .ref 118, .int (c.1 2)]) := rfl
theorem y_K_117 : y_K 117 7 := fun c => ⟨_, y_l_117 c⟩
theorem y_I_117_0 : y_I 117 7 0 := fun c => ⟨_, y_l_117 c, rfl, Nat.le_of_ble_eq_true rfl, fun v => y_l_117 (upd c.1 0 v, c.2)⟩
theorem y_R_117_1 : y_R 117 7 1 118 := fun c => ⟨_, y_l_117 c, rfl⟩
theorem y_I_117_2 : y_I 117 7 2 := fun c => ⟨_, y_l_117 c, rfl, Nat.le_of_ble_eq_true rfl, fun v => y_l_117 (upd c.1 2 v, c.2)⟩
theorem y_A_118 : y_A 118 0 18 := fun _ => rfl
theorem y_l_119 (c : y_c) : y_lay 119 c = .inr (7, [.int (c.1 0), .ref 120, .int (c.1 2)]) := rfl
theorem y_K_119 : y_K 119 7 := fun c => ⟨_, y_l_119 c⟩
theorem y_I_119_0 : y_I 119 7 0 := fun c => ⟨_, y_l_119 c, rfl, Nat.le_of_ble_eq_true rfl, fun v => y_l_119 (upd c.1 0 v, c.2)⟩
theorem y_R_119_1 : y_R 119 7 1 120 := fun c => ⟨_, y_l_119 c, rfl⟩
theorem y_I_119_2 : y_I 119 7 2 := fun c => ⟨_, y_l_119 c, rfl, Nat.le_of_ble_eq_true rfl, fun v => y_l_119 (upd c.1 2 v, c.2)⟩
theorem y_A_120 : y_A 120 0 20 := fun _ => rfl
theorem y_l_121 (c : y_c) : y_lay 121 c = .inr (7, [.int (c.1 0), .ref 122, .int (c.1 2)]) := rfl
theorem y_K_121 : y_K 121 7 := fun c => ⟨_, y_l_121 c⟩
theorem y_I_121_0 : y_I 121 7 0 := fun c => ⟨_, y_l_121 c, rfl, Nat.le_of_ble_eq_true rfl, fun v => y_l_121 (upd c.1 0 v, c.2)⟩
theorem y_R_121_1 : y_R 121 7 1 122 := fun c => ⟨_, y_l_121 c, rfl⟩
theorem y_I_121_2 : y_I 121 7 2 := fun c => ⟨_, y_l_121 c, rfl, Nat.le_of_ble_eq_true rfl, fun v => y_l_121 (upd c.1 2 v, c.2)⟩
theorem y_A_122 : y_A 122 0 12 := fun _ => rfl
theorem y_l_123 (c : y_c) : y_lay 123 c = .inr (7, [.int (c.1 0), .ref 124, .int (c.1 2)]) := rfl
theorem y_K_123 : y_K 123 7 := fun c => ⟨_, y_l_123 c⟩
theorem y_I_123_0 : y_I 123 7 0 := fun c => ⟨_, y_l_123 c, rfl, Nat.le_of_ble_eq_true rfl, fun v => y_l_123 (upd c.1 0 v, c.2)⟩
theorem y_R_123_1 : y_R 123 7 1 124 := fun c => ⟨_, y_l_123 c, rfl⟩
theorem y_I_123_2 : y_I 123 7 2 := fun c => ⟨_, y_l_123 c, rfl, Nat.le_of_ble_eq_true rfl, fun v => y_l_123 (upd c.1 2 v, c.2)⟩
theorem y_A_124 : y_A 124 0 15 := fun _ => rfl
theorem y_l_125 (c : y_c) : y_lay 125 c = .inr (7, [.int (c.1 0), .ref 126, .int (c.1 2)]) := rfl
theorem y_K_125 : y_K 125 7 := fun c => ⟨_, y_l_125 c⟩
theorem y_I_125_0 : y_I 125 7 0 := fun c => ⟨_, y_l_125 c, rfl, Nat.le_of_ble_eq_true rfl, fun v => y_l_125 (upd c.1 0 v, c.2)⟩
theorem y_R_125_1 : y_R 125 7 1 126 := fun c => ⟨_, y_l_125 c, rfl⟩
theorem y_I_125_2 : y_I 125 7 2 := fun c => ⟨_, y_l_125 c, rfl, Nat.le_of_ble_eq_true rfl, fun v => y_l_125 (upd c.1 2 v, c.2)⟩
theorem y_A_126 : y_A 126 0 60 := fun _ => rfl
theorem y_l_127 (c : y_c) : y_lay 127 c = .inr (7, [.int (c.1 0), .ref 128, .int (c.1 2)]) := rfl
theorem y_K_127 : y_K 127 7 := fun c => ⟨_, y_l_127 c⟩
theorem y_I_127_0 : y_I 127 7 0 := fun c => ⟨_, y_l_127 c, rfl, Nat.le_of_ble_eq_true rfl, fun v => y_l_127 (upd c.1 0 v, c.2)⟩
theorem y_R_127_1 : y_R 127 7 1 128 := fun c => ⟨_, y_l_127 c, rfl⟩
theorem y_I_127_2 : y_I 127 7 2 := fun c => ⟨_, y_l_127 c, rfl, Nat.le_of_ble_eq_true rfl, fun v => y_l_127 (upd c.1 2 v, c.2)⟩
theorem y_A_128 : y_A 128 0 60 := fun _ => rfl
theorem y_l_129 (c : y_c) : y_lay 129 c = .inr (7, [.int (c.1 0), .ref 130, .int (c.1 2)]) := rfl
theorem y_K_129 : y_K 129 7 := fun c => ⟨_, y_l_129 c⟩
theorem y_I_129_0 : y_I 129 7 0 := fun c => ⟨_, y_l_129 c, rfl, Nat.le_of_ble_eq_true rfl, fun v => y_l_129 (upd c.1 0 v, c.2)⟩
theorem y_R_129_1 : y_R 129 7 1 130 := fun c => ⟨_, y_l_129 c, rfl⟩
theorem y_I_129_2 : y_I 129 7 2 := fun c => ⟨_, y_l_129 c, rfl, Nat.le_of_ble_eq_true rfl, fun v => y_l_129 (upd c.1 2 v, c.2)⟩
theorem y_A_130 : y_A 130 0 24 := fun _ => rfl
theorem y_l_151 (c : y_c) : y_lay 151 c = .inr (1, [.ref 73, .ref 152, .ref 158, .ref 159, .ref 190, .ref 160, .ref 161, .ref 162]) := rfl
theorem y_K_151 : y_K 151 1 := fun c => ⟨_, y_l_151 c⟩
theorem y_R_151_0 : y_R 151 1 0 73 := fun c => ⟨_, y_l_151 c, rfl⟩
theorem y_R_151_1 : y_R 151 1 1 152 := fun c => ⟨_, y_l_151 c, rfl⟩
theorem y_R_151_2 : y_R 151 1 2 158 := fun c => ⟨_, y_l_151 c, rfl⟩
theorem y_R_151_3 : y_R 151 1 3 159 := fun c => ⟨_, y_l_151 c, rfl⟩
theorem y_R_151_4 : y_R 151 1 4 190 := fun c => ⟨_, y_l_151 c, rfl⟩
theorem y_R_151_5 : y_R 151 1 5 160 := fun c => ⟨_, y_l_151 c, rfl⟩
theorem y_R_151_6 : y_R 151 1 6 161 := fun c => ⟨_, y_l_151 c, rfl⟩
theorem y_R_151_7 : y_R 151 1 7 162 := fun c => ⟨_, y_l_151 c, rfl⟩
theorem y_l_152 (c : y_c) : y_lay 152 c = .inr (6, [.int (c.1 0), .int (c.1 1), .int (c.1 2), .ref 153, .ref 154, .ref 155, .ref 156, .ref 157, .int (c.1 8)]) := rfl
theorem y_K_152 : y_K 152 6 := fun c => ⟨_, y_l_152 c⟩
theorem y_I_152_0 : y_I 152 6 0 := fun c => ⟨_, y_l_152 c, rfl, Nat.le_of_ble_eq_true rfl, fun v => y_l_152 (upd c.1 0 v, c.2)⟩
theorem y_I_152_1 : y_I 152 6 1 := fun c => ⟨_, y_l_152 c, rfl, Nat.le_of_ble_eq_true rfl, fun v => y_l_152 (upd c.1 1 v, c.2)⟩
theorem y_I_152_2 : y_I 152 6 2 := fun c => ⟨_, y_l_152 c, rfl, Nat.le_of_ble_eq_true rfl, fun v => y_l_152 (upd c.1 2 v, c.2)⟩
theorem y_R_152_3 : y_R 152 6 3 153 := fun c => ⟨_, y_l_152 c, rfl⟩
theorem y_R_152_4 : y_R 152 6 4 154 := fun c => ⟨_, y_l_152 c, rfl⟩
theorem y_R_152_5 : y_R 152 6 5 155 := fun c => ⟨_, y_l_152 c, rfl⟩
theorem y_R_152_6 : y_R 152 6 6 156 := fun c => ⟨_, y_l_152 c, rfl⟩
theorem y_R_152_7 : y_R 152 6 7 157 := fun c => ⟨_, y_l_152 c, rfl⟩
theorem y_I_152_8 : y_I 152 6 8 := fun c => ⟨_, y_l_152 c, rfl, Nat.le_of_ble_eq_true rfl, fun v => y_l_152 (upd c.1 8 v, c.2)⟩
theorem y_A_153 : y_A 153 0 301 := fun _ => rfl
theorem y_A_154 : y_A 154 0 4 := fun _ => rfl
theorem y_A_155 : y_A 155 0 4 := fun _ => rfl
theorem y_A_156 : y_A 156 0 4 := fun _ => rfl
theorem y_A_157 : y_A 157 0 24 := fun _ => rfl
theorem y_A_158 : y_A 158 0 1806 := fun _ => rfl
theorem y_A_159 : y_A 159 0 1806 := fun _ => rfl
theorem y_A_160 : y_A 160 0 301 := fun _ => rfl
theorem y_A_161 : y_A 161 0 301 := fun _ => rfl
theorem y_A_162 : y_A 162 0 512 := fun _ => rfl
theorem y_l_163 (c : y_c) : y_lay 163 c = .inr (3, [.ref 73, .ref 164, .ref 165]) := rfl
theorem y_K_163 : y_K 163 3 := fun c => ⟨_, y_l_163 c⟩
theorem y_R_163_0 : y_R 163 3 0 73 := fun c => ⟨_, y_l_163 c, rfl⟩
theorem y_R_163_1 : y_R 163 3 1 164 := fun c => ⟨_, y_l_163 c, rfl⟩
theorem y_R_163_2 : y_R 163 3 2 165 := fun c => ⟨_, y_l_163 c, rfl⟩
theorem y_A_164 : y_A 164 0 64 := fun _ => rfl
theorem y_A_165 : y_A 165 0 64 := fun _ => rfl
theorem y_J_166 : y_J 166 5 := fun _ => rfl
theorem y_A_167 : y_A 167 0 5 := fun _ => rfl
theorem y_A_168 : y_A 168 0 8 := fun _ => rfl
theorem y_l_169 (c : y_c) : y_lay 169 c = .inr (10, [.int (c.1 0), .ref 170, .ref 171, .int (c.1 3), .ref 172, .int (c.1 5), .int (c.1 6), .int (c.1 7), .int (c.1 8), .int (c.1 9), .int (c.1 10), .ref 173, .int (c.1 12), .int (c.1 13), .ref 174, .ref 175, .ref 176, .ref 177, .ref 178, .ref 179, .ref 180, .ref 181, .ref 182, .int (c.1 23), .ref 183, .ref 184, .ref 185, .ref 186, .ref 187, .ref 188]) := rfl
theorem y_K_169 : y_K 169 10 := fun c => ⟨_, y_l_169 c⟩
theorem y_I_169_0 : y_I 169 10 0 := fun c => ⟨_, y_l_169 c, rfl, Nat.le_of_ble_eq_true rfl, fun v => y_l_169 (upd c.1 0 v, c.2)⟩
theorem y_R_169_1 : y_R 169 10 1 170 := fun c => ⟨_, y_l_169 c, rfl⟩
theorem y_R_169_2 : y_R 169 10 2 171 := fun c => ⟨_, y_l_169 c, rfl⟩
theorem y_I_169_3 : y_I 169 10 3 := fun c => ⟨_, y_l_169 c, rfl, Nat.le_of_ble_eq_true rfl, fun v => y_l_169 (upd c.1 3 v, c.2)⟩
theorem y_R_169_4 : y_R 169 10 4 172 := fun c => ⟨_, y_l_169 c, rfl⟩
theorem y_I_169_5 : y_I 169 10 5 := fun c => ⟨_, y_l_169 c, rfl, Nat.le_of_ble_eq_true rfl, fun v => y_l_169 (upd c.1 5 v, c.2)⟩
theorem y_I_169_6 : y_I 169 10 6 := fun c => ⟨_, y_l_169 c, rfl, Nat.le_of_ble_eq_true rfl, fun v => y_l_169 (upd c.1 6 v, c.2)⟩
theorem y_I_169_7 : y_I 169 10 7 := fun c => ⟨_, y_l_169 c, rfl, Nat.le_of_ble_eq_true rfl, fun v => y_l_169 (upd c.1 7 v, c.2)⟩
theorem y_I_169_8 : y_I 169 10 8 := fun c => ⟨_, y_l_169 c, rfl, Nat.le_of_ble_eq_true rfl, fun v => y_l_169 (upd c.1 8 v, c.2)⟩
theorem y_I_169_9 : y_I 169 10 9 := fun c => ⟨_, y_l_169 c, rfl, Nat.le_of_ble_eq_true rfl, fun v => y_l_169 (upd c.1 9 v, c.2)⟩
theorem y_I_169_10 : y_I 169 10 10 := fun c => ⟨_, y_l_169 c, rfl, Nat.le_of_ble_eq_true rfl, fun v => y_l_169 (upd c.1 10 v, c.2)⟩
theorem y_R_169_11 : y_R 169 10 11 173 := fun c => ⟨_, y_l_169 c, rfl⟩
theorem y_I_169_12 : y_I 169 10 12 := fun c => ⟨_, y_l_169 c, rfl, Nat.le_of_ble_eq_true rfl, fun v => y_l_169 (upd c.1 12 v, c.2)⟩
theorem y_I_169_13 : y_I 169 10 13 := fun c => ⟨_, y_l_169 c, rfl, Nat.le_of_ble_eq_true rfl, fun v => y_l_169 (upd c.1 13 v, c.2)⟩
theorem y_R_169_14 : y_R 169 10 14 174 := fun c => ⟨_, y_l_169 c, rfl⟩
theorem y_R_169_15 : y_R 169 10 15 175 := fun c => ⟨_, y_l_169 c, rfl⟩
theorem y_R_169_16 : y_R 169 10 16 176 := fun c => ⟨_, y_l_169 c, rfl⟩
theorem y_R_169_17 : y_R 169 10 17 177 := fun c => ⟨_, y_l_169 c, rfl⟩
theorem y_R_169_18 : y_R 169 10 18 178 := fun c => ⟨_, y_l_169 c, rfl⟩
theorem y_R_169_19 : y_R 169 10 19 179 := fun c => ⟨_, y_l_169 c, rfl⟩
theorem y_R_169_20 : y_R 169 10 20 180 := fun c => ⟨_, y_l_169 c, rfl⟩
theorem y_R_169_21 : y_R 169 10 21 181 := fun c => ⟨_, y_l_169 c, rfl⟩
theorem y_R_169_22 : y_R 169 10 22 182 := fun c => ⟨_, y_l_169 c, rfl⟩
theorem y_I_169_23 : y_I 169 10 23 := fun c => ⟨_, y_l_169 c, rfl, Nat.le_of_ble_eq_true rfl, fun v => y_l_169 (upd c.1 23 v, c.2)⟩
theorem y_R_169_24 : y_R 169 10 24 183 := fun c => ⟨_, y_l_169 c, rfl⟩
theorem y_R_169_25 : y_R 169 10 25 184 := fun c => ⟨_, y_l_169 c, rfl⟩
theorem y_R_169_26 : y_R 169 10 26 185 := fun c => ⟨_, y_l_169 c, rfl⟩
theorem y_R_169_27 : y_R 169 10 27 186 := fun c => ⟨_, y_l_169 c, rfl⟩
theorem y_R_169_28 : y_R 169 10 28 187 := fun c => ⟨_, y_l_169 c, rfl⟩
theorem y_R_169_29 : y_R 169 10 29 188 := fun c => ⟨_, y_l_169 c, rfl⟩
theorem y_A_170 : y_A 170 0 9598 := fun _ => rfl
theorem y_A_171 : y_A 171 0 8747 := fun _ => rfl
theorem y_A_172 : y_A 172 1 400 := fun _ => rfl
theorem y_A_173 : y_A 173 0 5 := fun _ => rfl
theorem y_A_174 : y_A 174 2 301 := fun _ => rfl
theorem y_A_175 : y_A 175 0 4 := fun _ => rfl
theorem y_A_176 : y_A 176 0 4 := fun _ => rfl
theorem y_A_177 : y_A 177 0 400 := fun _ => rfl
theorem y_A_178 : y_A 178 2 4816 := fun _ => rfl
theorem y_A_179 : y_A 179 2 4816 := fun _ => rfl
theorem y_A_180 : y_A 180 2 4816 := fun _ => rfl
theorem y_A_181 : y_A 181 2 4816 := fun _ => rfl
theorem y_A_182 : y_A 182 0 28992 := fun _ => rfl
theorem y_A_183 : y_A 183 2 512 := fun _ => rfl
theorem y_A_184 : y_A 184 0 512 := fun _ => rfl
theorem y_A_185 : y_A 185 0 5 := fun _ => rfl
theorem y_J_186 : y_J 186 5 := fun _ => rfl
theorem y_A_187 : y_A 187 0 64 := fun _ => rfl
theorem y_A_188 : y_A 188 0 64 := fun _ => rfl
theorem y_J_189 : y_J 189 1 := fun _ => rfl
theorem y_A_190 : y_A 190 0 6 := fun _ => rfl
section R13
variable {V : x_E} {own nm : String} {cc : ByteArray} {nL d MC MS pc ce sl : Nat} {ret : Option FieldType} {Q : Option Value → x_S → Prop} {E : x_P} {ls : List (Nat × Value)} {st : List Value} {n : Nat} {L : List Nat} {D : y_D}
theorem t_geti (hE : x_X V own cc nL ret d MC MS nm Q E) {i ci k h : Nat} {t : FieldType} {fin sm : Bool} (hF : x_F own i ci k t fin sm) (hI : y_I h ci k) (hd : decode cc pc = .ok (.getfield i, 3)) (hm : h ∈ L) (kk : E ce sl (pc + 3) ls (.int ((D h).1 k) :: st) (y_mk n L D)) : E ce sl pc ls (.ref h :: st) (y_mk n L D) := by
  obtain ⟨fs, h1, h2, -, -⟩ := hI (D h)
  exact r_getf hE hF hd hm h1 h2 kk
theorem t_getr (hE : x_X V own cc nL ret d MC MS nm Q E) {i ci k h h2 : Nat} {t : FieldType} {fin sm : Bool} (hF : x_F own i ci k t fin sm) (hI : y_R h ci k h2) (hd : decode cc pc = .ok (.getfield i, 3)) (hm : h ∈ L) (kk : E ce sl (pc + 3) ls (.ref h2 :: st) (y_mk n L D)) : E ce sl pc ls (.ref h :: st) (y_mk n L D) := by
  obtain ⟨fs, h1, h2⟩ := hI (D h)
  exact r_getf hE hF hd hm h1 h2 kk
theorem t_puti (hE : x_X V own cc nL ret d MC MS nm Q E) {i ci k h : Nat} {t : FieldType} {sm : Bool} {v : Int32} (hF : x_F own i ci k t false sm) (hI : y_I h ci k) (hd : decode cc pc = .ok (.putfield i, 3)) (hm : h ∈ L) (hn : narrow t (.int v) = .int v) (hf : fits t (.int v) = true) (kk : E ce sl (pc + 3) ls st (y_mk n L (y_si D h k v))) : E ce sl pc ls (.int v :: .ref h :: st) (y_mk n L D) := by
  obtain ⟨fs, h1, h2, h3, h4⟩ := hI (D h)
  refine r_putf hE hF hd hm h1 hn hf h3 ?_
  rw [y_put (h4 v)]
  exact kk
theorem t_alen (hE : x_X V own cc nL ret d MC MS nm Q E) {t len h : Nat} {v : Int32} (hA : y_A h t len) (ht : t < 6) (hd : decode cc pc = .ok (.arraylength, 1)) (hm : h ∈ L) (hv : Int32.ofNat len = v) (kk : E ce sl (pc + 1) ls (.int v :: st) (y_mk n L D)) : E ce sl pc ls (.ref h :: st) (y_mk n L D) := r_alen hE ht hd hm (hA (D h)) hv kk
theorem t_lald (hE : x_X V own cc nL ret d MC MS nm Q E) {len h : Nat} {i : Int32} (hA : y_J h len) (hd : decode cc pc = .ok (.laload, 1)) (hm : h ∈ L) (hin : vp_in i len) (kk : E ce sl (pc + 1) ls (.long ((D h).2.1 i.toNatClampNeg) :: st) (y_mk n L D)) : E ce sl pc ls (.int i :: .ref h :: st) (y_mk n L D) := r_lald hE hd hm (hA (D h)) hin kk
theorem t_last (hE : x_X V own cc nL ret d MC MS nm Q E) {len h : Nat} {i : Int32} {x : Int64} (hA : y_J h len) (hd : decode cc pc = .ok (.lastore, 1)) (hm : h ∈ L) (hin : vp_in i len) (kk : E ce sl (pc + 1) ls st (y_mk n L (y_sl D h i.toNatClampNeg x))) : E ce sl pc ls (.long x :: .int i :: .ref h :: st) (y_mk n L D) := by
  refine r_last hE hd hm (hA (D h)) hin ?_
  rw [y_put (c := ((D h).1, vp_updL (D h).2.1 i.toNatClampNeg x, (D h).2.2)) (hA _)]
  exact kk
theorem t_aald (hE : x_X V own cc nL ret d MC MS nm Q E) {t len h : Nat} {i : Int32} (hA : y_Q h t len) (ht : t = 4 ∨ t = 5) (hd : decode cc pc = .ok (.aaload, 1)) (hm : h ∈ L) (hin : vp_in i len) (kk : E ce sl (pc + 1) ls (va_rf ((D h).2.2.1 i.toNatClampNeg) :: st) (y_mk n L D)) : E ce sl pc ls (.int i :: .ref h :: st) (y_mk n L D) := r_aald hE ht hd hm (hA (D h)) hin kk
theorem t_aast (hE : x_X V own cc nL ret d MC MS nm Q E) {t len h v ci : Nat} {vs : List Value} {i : Int32} (hA : y_Q h t len) (ht : (t = 4 ∧ ci = 4) ∨ (t = 5 ∧ ci = 8)) (hd : decode cc pc = .ok (.aastore, 1)) (hm : h ∈ L) (hm2 : v ∈ L) (hc2 : y_lay v (D v) = .inr (ci, vs)) (hin : vp_in i len) (kk : E ce sl (pc + 1) ls st (y_mk n L (y_sq D h i.toNatClampNeg v))) : E ce sl pc ls (.ref v :: .int i :: .ref h :: st) (y_mk n L D) := by
  refine r_aast hE ht hd hm (hA (D h)) hm2 hc2 hin ?_
  rw [y_put (c := ((D h).1, (D h).2.1, va_up (D h).2.2.1 i.toNatClampNeg (some v), (D h).2.2.2)) (hA _)]
  exact kk
theorem t_iald (hE : x_X V own cc nL ret d MC MS nm Q E) {len h : Nat} {i : Int32} (hA : y_A h 0 len) (hd : decode cc pc = .ok (.iaload, 1)) (hm : h ∈ L) (hin : vp_in i len) (kk : E ce sl (pc + 1) ls (.int ((D h).1 i.toNatClampNeg) :: st) (y_mk n L D)) : E ce sl pc ls (.int i :: .ref h :: st) (y_mk n L D) := r_iald hE hd hm (hA (D h)) hin kk
theorem t_iast (hE : x_X V own cc nL ret d MC MS nm Q E) {len h : Nat} {i x : Int32} (hA : y_A h 0 len) (hd : decode cc pc = .ok (.iastore, 1)) (hm : h ∈ L) (hin : vp_in i len) (kk : E ce sl (pc + 1) ls st (y_mk n L (y_si D h i.toNatClampNeg x))) : E ce sl pc ls (.int x :: .int i :: .ref h :: st) (y_mk n L D) := by
  refine r_iast hE hd hm (hA (D h)) hin ?_
  rw [y_put (c := (upd (D h).1 i.toNatClampNeg x, (D h).2)) (hA _)]
  exact kk
theorem t_bald (hE : x_X V own cc nL ret d MC MS nm Q E) {len h : Nat} {i : Int32} (hA : y_A h 1 len) (hd : decode cc pc = .ok (.baload, 1)) (hm : h ∈ L) (hin : vp_in i len) (kk : E ce sl (pc + 1) ls (.int ((D h).1 i.toNatClampNeg) :: st) (y_mk n L D)) : E ce sl pc ls (.int i :: .ref h :: st) (y_mk n L D) := r_bald hE hd hm (hA (D h)) hin kk
theorem t_bast (hE : x_X V own cc nL ret d MC MS nm Q E) {len h : Nat} {i x : Int32} (hA : y_A h 1 len) (hd : decode cc pc = .ok (.bastore, 1)) (hm : h ∈ L) (hin : vp_in i len) (kk : E ce sl (pc + 1) ls st (y_mk n L (y_si D h i.toNatClampNeg (vp_nar .byte x)))) : E ce sl pc ls (.int x :: .int i :: .ref h :: st) (y_mk n L D) := by
  refine r_bast hE hd hm (hA (D h)) hin ?_
  rw [y_put (c := (upd (D h).1 i.toNatClampNeg (vp_nar .byte x), (D h).2)) (hA _)]
  exact kk
theorem t_zald (hE : x_X V own cc nL ret d MC MS nm Q E) {len h : Nat} {i : Int32} (hA : y_A h 2 len) (hd : decode cc pc = .ok (.baload, 1)) (hm : h ∈ L) (hin : vp_in i len) (kk : E ce sl (pc + 1) ls (.int ((D h).1 i.toNatClampNeg) :: st) (y_mk n L D)) : E ce sl pc ls (.int i :: .ref h :: st) (y_mk n L D) := r_zald hE hd hm (hA (D h)) hin kk
theorem t_zast (hE : x_X V own cc nL ret d MC MS nm Q E) {len h : Nat} {i x : Int32} (hA : y_A h 2 len) (hd : decode cc pc = .ok (.bastore, 1)) (hm : h ∈ L) (hin : vp_in i len) (kk : E ce sl (pc + 1) ls st (y_mk n L (y_si D h i.toNatClampNeg (vp_nar .boolean x)))) : E ce sl pc ls (.int x :: .int i :: .ref h :: st) (y_mk n L D) := by
  refine r_zast hE hd hm (hA (D h)) hin ?_
  rw [y_put (c := (upd (D h).1 i.toNatClampNeg (vp_nar .boolean x), (D h).2)) (hA _)]
  exact kk
end R13
/-- a method on these values, in this state: it answers r, the state is then S2, within d frames, no new cell -/
def x_Fn (V : x_E) (y : MethodName) (cc : ByteArray) (nL : Nat) (ret : Option FieldType) (d : Nat) (a : List Value) (S : x_S) (r : Option Value) (S2 : x_S) : Prop := x_Ct V y cc nL ret d 0 0 (fun a0 S0 => a0 = a ∧ S0 = S) (fun _ _ r0 S1 => r0 = r ∧ S1 = S2)
theorem x_fn {V : x_E} {y : MethodName} {cc : ByteArray} {nL : Nat} {ret : Option FieldType} {d : Nat} {a : List Value} {S : x_S} {r : Option Value} {S2 : x_S} (hy : plainName y.cls = true) (hn : (lg_sl a).length ≤ nL) (body : ∀ E, x_X V y.cls cc nL ret d 0 0 y.name (fun r0 S1 => r0 = r ∧ S1 = S2) E → E 0 0 0 (lv_args 0 a) [] S) : x_Fn V y cc nL ret d a S r S2 := by
  refine x_met hy (fun a0 S0 h => by rw [h.1]; exact hn) (fun a0 S0 h E hE => ?_)
  obtain ⟨rfl, rfl⟩ := h
  exact body E hE
section R13b
variable {V : x_E} {own nm : String} {cc : ByteArray} {nL d MC MS pc ce sl : Nat} {ret : Option FieldType} {Q : Option Value → x_S → Prop} {E : x_P} {ls : List (Nat × Value)} {st st0 : List Value} {S S2 : x_S}
variable {i : Nat} {y : MethodName} {cc2 : ByteArray} {nL2 d2 : Nat} {ret2 : Option FieldType} {r : Option Value}
theorem t_invs (hE : x_X V own cc nL ret d MC MS nm Q E) (a : List Value) (hC : x_Fn V y cc2 nL2 ret2 d2 a S r S2) (hY : x_YS y cc2 nL2 ret2 a.length) (hl : Cond.methodLink own i y ∈ gT) (hd : decode cc pc = .ok (.invokestatic i, 3)) (hst : st0 = a.reverse ++ st) (hdd : d2 + 1 ≤ d) (hcap : ce ≤ MC ∧ sl ≤ MS) (hW : (st.map fun v => v.category).sum ≤ 8) (kk : E ce sl (pc + 3) ls (r.toList ++ st) S2) : E ce sl pc ls st0 S :=
  r_invs hE a hC hY hl hd hst hdd hcap hW ⟨rfl, rfl⟩ (fun r0 S0 h => by obtain ⟨rfl, rfl⟩ := h; exact kk)
theorem t_invsN (hE : x_X V own cc nL ret d MC MS nm Q E) {host : String} (a : List Value) (hC : x_Fn V y cc2 nL2 ret2 d2 a S r S2) (hY : x_YS y cc2 nL2 ret2 a.length) (hl : ∀ (U : State) (H : Heap), V.2.2.2.2.2.2 U H → va_Nw (.methodLinkNest own i y host) U) (hd : decode cc pc = .ok (.invokestatic i, 3)) (hst : st0 = a.reverse ++ st) (hdd : d2 + 1 ≤ d) (hcap : ce ≤ MC ∧ sl ≤ MS) (hW : (st.map fun v => v.category).sum ≤ 8) (kk : E ce sl (pc + 3) ls (r.toList ++ st) S2) : E ce sl pc ls st0 S :=
  r_invsN hE a hC hY hl hd hst hdd hcap hW ⟨rfl, rfl⟩ (fun r0 S0 h => by obtain ⟨rfl, rfl⟩ := h; exact kk)
theorem t_invv (hE : x_X V own cc nL ret d MC MS nm Q E) {h ci : Nat} {fs : List Value} {T : u_T} {N : Nat} (a : List Value) (hC : x_Fn V y cc2 nL2 ret2 d2 (.ref h :: a) S r S2) (hY : x_YV y cc2 nL2 ret2 a.length) (hl : Cond.methodLink own i y ∈ gT) (hd : decode cc pc = .ok (.invokevirtual i, 3)) (hst : st0 = a.reverse ++ .ref h :: st) (hm : h ∈ S.2.1) (hc : S.2.2 h = .inr (ci, fs)) (hcl : vwCl[ci]? = some (y.cls, T, N)) (hdd : d2 + 1 ≤ d) (hcap : ce ≤ MC ∧ sl ≤ MS) (hW : (st.map fun v => v.category).sum ≤ 8) (kk : E ce sl (pc + 3) ls (r.toList ++ st) S2) : E ce sl pc ls st0 S :=
  r_invv hE a hC hY hl hd hst hm hc hcl hdd hcap hW ⟨rfl, rfl⟩ (fun r0 S0 h => by obtain ⟨rfl, rfl⟩ := h; exact kk)
end R13b

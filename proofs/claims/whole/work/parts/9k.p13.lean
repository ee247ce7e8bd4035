/-! what the reader of the reference does at a token -/
def t_cd (i : Nat) : Nat := ([10, 12, 13, 15, 11, 14, 16, 17, 18, 19, 22, 23, 24, 25, 26, 27, 28, 29, 30, 31, 32, 21, 20] : List Nat).getD (i - 6) 0
theorem l_w_u {T : Nat → Int32} {a c i i2 : Nat} (h1 : l_w T a c i) (h2 : l_w T a c i2) : y_bt i = y_bt i2 := by
  have hl : (y_bt i).length = (y_bt i2).length := by rw [← h1.1, ← h2.1]
  apply List.ext_getElem hl
  intro j j1 j2
  have a1 := h1.2 j j1
  have a2 := h2.2 j j2
  rw [a1] at a2
  rw [List.getD_eq_getElem?_getD, List.getElem?_eq_getElem j1, List.getD_eq_getElem?_getD, List.getElem?_eq_getElem j2] at a2
  exact a2
theorem y_bt_inj : ∀ i, i < 29 → 6 ≤ i → ∀ i2, i2 < 29 → 6 ≤ i2 → y_bt i = y_bt i2 → i = i2 := by decide +kernel
theorem y_bt_len2 : ∀ i, i < 29 → 6 ≤ i → 2 ≤ (y_bt i).length := by decide +kernel
theorem t_cd_inj : ∀ i, i < 29 → 6 ≤ i → ∀ i2, i2 < 29 → 6 ≤ i2 → t_cd i = t_cd i2 → i = i2 := by decide +kernel
theorem t_cd_b : ∀ i, i < 29 → 6 ≤ i → 10 ≤ t_cd i ∧ t_cd i ≤ 32 := by decide +kernel
theorem k_word_c {T : Nat → Int32} {a c : Nat} : (∃ i, 6 ≤ i ∧ i < 29 ∧ l_w T a c i ∧ k_word T a c = t_cd i) ∨ ((∀ i, 6 ≤ i → i < 29 → ¬ l_w T a c i) ∧ k_word T a c = 1) := by
  rw [k_word_w]
  by_cases h6 : l_w T a c 6
  · exact Or.inl ⟨6, by decide, by decide, h6, if_pos h6⟩
  rw [if_neg h6]
  by_cases h10 : l_w T a c 10
  · exact Or.inl ⟨10, by decide, by decide, h10, if_pos h10⟩
  rw [if_neg h10]
  by_cases h7 : l_w T a c 7
  · exact Or.inl ⟨7, by decide, by decide, h7, if_pos h7⟩
  rw [if_neg h7]
  by_cases h8 : l_w T a c 8
  · exact Or.inl ⟨8, by decide, by decide, h8, if_pos h8⟩
  rw [if_neg h8]
  by_cases h11 : l_w T a c 11
  · exact Or.inl ⟨11, by decide, by decide, h11, if_pos h11⟩
  rw [if_neg h11]
  by_cases h9 : l_w T a c 9
  · exact Or.inl ⟨9, by decide, by decide, h9, if_pos h9⟩
  rw [if_neg h9]
  by_cases h12 : l_w T a c 12
  · exact Or.inl ⟨12, by decide, by decide, h12, if_pos h12⟩
  rw [if_neg h12]
  by_cases h13 : l_w T a c 13
  · exact Or.inl ⟨13, by decide, by decide, h13, if_pos h13⟩
  rw [if_neg h13]
  by_cases h14 : l_w T a c 14
  · exact Or.inl ⟨14, by decide, by decide, h14, if_pos h14⟩
  rw [if_neg h14]
  by_cases h15 : l_w T a c 15
  · exact Or.inl ⟨15, by decide, by decide, h15, if_pos h15⟩
  rw [if_neg h15]
  by_cases h28 : l_w T a c 28
  · exact Or.inl ⟨28, by decide, by decide, h28, if_pos h28⟩
  rw [if_neg h28]
  by_cases h27 : l_w T a c 27
  · exact Or.inl ⟨27, by decide, by decide, h27, if_pos h27⟩
  rw [if_neg h27]
  by_cases h16 : l_w T a c 16
  · exact Or.inl ⟨16, by decide, by decide, h16, if_pos h16⟩
  rw [if_neg h16]
  by_cases h17 : l_w T a c 17
  · exact Or.inl ⟨17, by decide, by decide, h17, if_pos h17⟩
  rw [if_neg h17]
  by_cases h18 : l_w T a c 18
  · exact Or.inl ⟨18, by decide, by decide, h18, if_pos h18⟩
  rw [if_neg h18]
  by_cases h19 : l_w T a c 19
  · exact Or.inl ⟨19, by decide, by decide, h19, if_pos h19⟩
  rw [if_neg h19]
  by_cases h20 : l_w T a c 20
  · exact Or.inl ⟨20, by decide, by decide, h20, if_pos h20⟩
  rw [if_neg h20]
  by_cases h21 : l_w T a c 21
  · exact Or.inl ⟨21, by decide, by decide, h21, if_pos h21⟩
  rw [if_neg h21]
  by_cases h22 : l_w T a c 22
  · exact Or.inl ⟨22, by decide, by decide, h22, if_pos h22⟩
  rw [if_neg h22]
  by_cases h23 : l_w T a c 23
  · exact Or.inl ⟨23, by decide, by decide, h23, if_pos h23⟩
  rw [if_neg h23]
  by_cases h24 : l_w T a c 24
  · exact Or.inl ⟨24, by decide, by decide, h24, if_pos h24⟩
  rw [if_neg h24]
  by_cases h25 : l_w T a c 25
  · exact Or.inl ⟨25, by decide, by decide, h25, if_pos h25⟩
  rw [if_neg h25]
  by_cases h26 : l_w T a c 26
  · exact Or.inl ⟨26, by decide, by decide, h26, if_pos h26⟩
  rw [if_neg h26]
  refine Or.inr ⟨fun i h1 h2 => ?_, rfl⟩
  rcases (show i = 6 ∨ i = 7 ∨ i = 8 ∨ i = 9 ∨ i = 10 ∨ i = 11 ∨ i = 12 ∨ i = 13 ∨ i = 14 ∨ i = 15 ∨ i = 16 ∨ i = 17 ∨ i = 18 ∨ i = 19 ∨ i = 20 ∨ i = 21 ∨ i = 22 ∨ i = 23 ∨ i = 24 ∨ i = 25 ∨ i = 26 ∨ i = 27 ∨ i = 28 by omega) with rfl | rfl | rfl | rfl | rfl | rfl | rfl | rfl | rfl | rfl | rfl | rfl | rfl | rfl | rfl | rfl | rfl | rfl | rfl | rfl | rfl | rfl | rfl
  · exact h6
  · exact h7
  · exact h8
  · exact h9
  · exact h10
  · exact h11
  · exact h12
  · exact h13
  · exact h14
  · exact h15
  · exact h16
  · exact h17
  · exact h18
  · exact h19
  · exact h20
  · exact h21
  · exact h22
  · exact h23
  · exact h24
  · exact h25
  · exact h26
  · exact h27
  · exact h28
theorem k_word_i {T : Nat → Int32} {a c i : Nat} (h6 : 6 ≤ i) (h29 : i < 29) : k_word T a c = t_cd i ↔ l_w T a c i := by
  rcases k_word_c (T := T) (a := a) (c := c) with ⟨i2, a1, a2, a3, a4⟩ | ⟨a1, a2⟩
  · constructor
    · intro h
      rw [a4] at h
      rw [← t_cd_inj i2 a2 a1 i h29 h6 h]
      exact a3
    · intro h
      rw [← y_bt_inj i2 a2 a1 i h29 h6 (l_w_u a3 h)]
      exact a4
  · have hb := t_cd_b i h29 h6
    exact ⟨fun h => absurd h (by omega), fun h => absurd h (a1 i h6 h29)⟩
theorem k_word_b {T : Nat → Int32} {a c : Nat} : k_word T a c = 1 ∨ (10 ≤ k_word T a c ∧ k_word T a c ≤ 32) := by
  rcases k_word_c (T := T) (a := a) (c := c) with ⟨i2, a1, a2, a3, a4⟩ | ⟨a1, a2⟩
  · rw [a4]
    exact Or.inr (t_cd_b i2 a2 a1)
  · exact Or.inl a2
/-- bytes -/
def t_by (T : Nat → Int32) : Prop := ∀ j, -128 ≤ (T j).toInt ∧ (T j).toInt ≤ 127
theorem k_sign_n {x : Int32} (h : -128 ≤ x.toInt ∧ x.toInt ≤ 127) : ∃ s, k_sign x = nI s ∧ (s = 1 ∨ (4 ≤ s ∧ s ≤ 9)) := by
  rw [k_sign_e h.1 h.2]
  split
  · exact ⟨4, rfl, by omega⟩
  split
  · exact ⟨5, rfl, by omega⟩
  split
  · exact ⟨6, rfl, by omega⟩
  split
  · exact ⟨7, rfl, by omega⟩
  split
  · exact ⟨8, rfl, by omega⟩
  split
  · exact ⟨9, rfl, by omega⟩
  · exact ⟨1, rfl, by omega⟩
section P13
variable {T : Nat → Int32} {e p b : Nat}
/-- the token at b is a natural number below 33 -/
theorem t_k_n (hT : t_by T) : ∃ s, t_k T e b = nI s ∧ s < 33 ∧ (b < e → t_L T b → s = 1 ∨ 10 ≤ s) ∧ (b < e → ¬ t_L T b → t_G T b → s = 2) ∧ (b < e → ¬ t_L T b → ¬ t_G T b → s = 1 ∨ (4 ≤ s ∧ s ≤ 9)) ∧ (¬ b < e → s = 0) := by
  unfold t_k
  by_cases c : b < e
  · rw [if_pos c]
    by_cases cl : t_L T b
    · rw [if_pos cl]
      have := k_word_b (T := T) (a := b) (c := l_to T e 97 122 (b + 1))
      exact ⟨_, rfl, by omega, fun _ _ => by omega, fun _ q => absurd cl q, fun _ q => absurd cl q, fun q => absurd c q⟩
    · rw [if_neg cl]
      by_cases cg : t_G T b
      · rw [if_pos cg]
        exact ⟨2, rfl, by decide, fun _ q => absurd q cl, fun _ _ _ => rfl, fun _ _ q => absurd cg q, fun q => absurd c q⟩
      · rw [if_neg cg]
        obtain ⟨s, e1, e2⟩ := k_sign_n (hT b)
        exact ⟨s, e1, by omega, fun _ q => absurd q cl, fun _ _ q => absurd q cg, fun _ _ _ => e2, fun q => absurd c q⟩
  · rw [if_neg c]
    exact ⟨0, rfl, by decide, fun q => absurd q c, fun q => absurd q c, fun q => absurd q c, fun _ => rfl⟩
theorem t_LG (h1 : t_G T b) : ¬ t_L T b := fun h2 => absurd (Int32.le_trans h2.1 h1.2) (by decide)
theorem t_le (hb : l_bl T e p = b) : l_le T e p = if b < e ∧ t_L T b then t_e T e b else b := by
  show l_to T e 97 122 (l_bl T e p) = _
  rw [hb]
  by_cases c : b < e ∧ t_L T b
  · rw [if_pos c, l_to_y ⟨c.1, c.2⟩]
    unfold t_e
    rw [if_pos c.1, if_pos c.2]
  · rw [if_neg c]
    exact l_to_n c
theorem t_di (hb : l_bl T e p = b) : l_di T e p = if b < e ∧ t_G T b then t_e T e b else b := by
  show l_to T e 48 57 (l_bl T e p) = _
  rw [hb]
  by_cases c : b < e ∧ t_G T b
  · rw [if_pos c, l_to_y ⟨c.1, c.2⟩]
    unfold t_e
    rw [if_pos c.1, if_neg (t_LG c.2), if_pos c.2]
  · rw [if_neg c]
    exact l_to_n c
/-- a word stands at b just where its token does -/
theorem t_word (hT : t_by T) (hb : l_bl T e p = b) {i : Nat} (h6 : 6 ≤ i) (h29 : i < 29) : l_w T b (l_le T e p) i ↔ t_k T e b = nI (t_cd i) := by
  have hcd := t_cd_b i h29 h6
  rw [t_le hb]
  by_cases c : b < e ∧ t_L T b
  · rw [if_pos c]
    have e1 : t_e T e b = l_to T e 97 122 (b + 1) := by
      unfold t_e
      rw [if_pos c.1, if_pos c.2]
    have e2 : t_k T e b = nI (k_word T b (l_to T e 97 122 (b + 1))) := by
      unfold t_k
      rw [if_pos c.1, if_pos c.2]
    rw [e1, e2, ← k_word_i h6 h29]
    have := k_word_b (T := T) (a := b) (c := l_to T e 97 122 (b + 1))
    exact ⟨fun h => by rw [h], fun h => (nI_eq (by omega) (by omega)).mp h⟩
  · rw [if_neg c]
    have hl := y_bt_len2 i h29 h6
    refine ⟨fun h => absurd h.1 (by omega), fun h => ?_⟩
    obtain ⟨s, s1, s2, s3, s4, s5, s6⟩ := t_k_n (T := T) (e := e) (b := b) hT
    rw [s1] at h
    have h9 := (nI_eq (by omega) (by omega)).mp h
    by_cases q : b < e
    · have nl : ¬ t_L T b := fun z => c ⟨q, z⟩
      by_cases qg : t_G T b
      · have := s4 q nl qg
        omega
      · have := s5 q nl qg
        omega
    · have := s6 q
      omega
/-- behind a word -/
theorem t_word_e (hT : t_by T) (hb : l_bl T e p = b) {i : Nat} (h6 : 6 ≤ i) (h29 : i < 29) (h : t_k T e b = nI (t_cd i)) : l_le T e p = t_e T e b ∧ b < e := by
  have hcd := t_cd_b i h29 h6
  obtain ⟨s, s1, s2, s3, s4, s5, s6⟩ := t_k_n (T := T) (e := e) (b := b) hT
  rw [s1] at h
  have h9 := (nI_eq (by omega) (by omega)).mp h
  have c : b < e ∧ t_L T b := by
    by_cases q : b < e
    · by_cases ql : t_L T b
      · exact ⟨q, ql⟩
      · by_cases qg : t_G T b
        · have := s4 q ql qg
          omega
        · have := s5 q ql qg
          omega
    · have := s6 q
      omega
  rw [t_le hb, if_pos c]
  exact ⟨rfl, c.1⟩
def t_sgc (c : Int32) : Int32 := if c = 59 then 4 else if c = 40 then 5 else if c = 41 then 6 else if c = 43 then 7 else if c = 60 then 8 else if c = 62 then 9 else 1
theorem t_sign (hT : t_by T) (hb : l_bl T e p = b) {c : Int32} (hc : c = 59 ∨ c = 40 ∨ c = 41 ∨ c = 43 ∨ c = 60 ∨ c = 62) : l_is T e c p ↔ t_k T e b = t_sgc c := by
  have hne : ¬ (97 ≤ c ∧ c ≤ 122) ∧ ¬ (48 ≤ c ∧ c ≤ 57) := by
    rcases hc with rfl | rfl | rfl | rfl | rfl | rfl <;> decide
  have hcn : ∃ n, t_sgc c = nI n ∧ 4 ≤ n ∧ n ≤ 9 := by
    rcases hc with rfl | rfl | rfl | rfl | rfl | rfl
    · exact ⟨4, by decide, by decide, by decide⟩
    · exact ⟨5, by decide, by decide, by decide⟩
    · exact ⟨6, by decide, by decide, by decide⟩
    · exact ⟨7, by decide, by decide, by decide⟩
    · exact ⟨8, by decide, by decide, by decide⟩
    · exact ⟨9, by decide, by decide, by decide⟩
  obtain ⟨n, n1, n2, n3⟩ := hcn
  show l_bl T e p < e ∧ c ≤ T (l_bl T e p) ∧ T (l_bl T e p) ≤ c ↔ _
  rw [hb]
  obtain ⟨s, s1, s2, s3, s4, s5, s6⟩ := t_k_n (T := T) (e := e) (b := b) hT
  constructor
  · rintro ⟨a1, a2, a3⟩
    have ec : T b = c := Int32.le_antisymm a3 a2
    have nl : ¬ t_L T b := by unfold t_L; rw [ec]; exact hne.1
    have ng : ¬ t_G T b := by unfold t_G; rw [ec]; exact hne.2
    unfold t_k
    rw [if_pos a1, if_neg nl, if_neg ng, k_sign_e (hT b).1 (hT b).2, ec]
    rfl
  · intro h
    rw [s1, n1] at h
    have h9 := (nI_eq (by omega) (by omega)).mp h
    by_cases q : b < e
    · by_cases ql : t_L T b
      · have := s3 q ql
        omega
      · by_cases qg : t_G T b
        · have := s4 q ql qg
          omega
        · have h8 : k_sign (T b) = t_sgc c := by
            have e2 : t_k T e b = k_sign (T b) := by
              unfold t_k
              rw [if_pos q, if_neg ql, if_neg qg]
            rw [← e2, s1, n1, h9]
          have e3 : k_sign (T b) = t_sgc (T b) := k_sign_e (hT b).1 (hT b).2
          rw [e3] at h8
          have e4 : T b = c := by
            unfold t_sgc at h8
            rcases hc with rfl | rfl | rfl | rfl | rfl | rfl <;> (split at h8 <;> first | assumption | (exact absurd h8 (by decide)) | (split at h8 <;> first | assumption | (exact absurd h8 (by decide)) | (split at h8 <;> first | assumption | (exact absurd h8 (by decide)) | (split at h8 <;> first | assumption | (exact absurd h8 (by decide)) | (split at h8 <;> first | assumption | (exact absurd h8 (by decide)) | (split at h8 <;> first | assumption | (exact absurd h8 (by decide))))))))
          rw [e4]
          exact ⟨q, Int32.le_refl _, Int32.le_refl _⟩
    · have := s6 q
      omega
/-- behind a sign -/
theorem t_sign_e (hT : t_by T) (hb : l_bl T e p = b) {c : Int32} (hc : c = 59 ∨ c = 40 ∨ c = 41 ∨ c = 43 ∨ c = 60 ∨ c = 62) (h : l_is T e c p) : l_sg T e c p = t_e T e b ∧ b < e := by
  have hne : ¬ (97 ≤ c ∧ c ≤ 122) ∧ ¬ (48 ≤ c ∧ c ≤ 57) := by
    rcases hc with rfl | rfl | rfl | rfl | rfl | rfl <;> decide
  have h2 : b < e ∧ c ≤ T b ∧ T b ≤ c := by
    have h3 : l_bl T e p < e ∧ c ≤ T (l_bl T e p) ∧ T (l_bl T e p) ≤ c := h
    rw [hb] at h3
    exact h3
  have ec : T b = c := Int32.le_antisymm h2.2.2 h2.2.1
  unfold l_sg t_e
  rw [if_pos h, hb, if_pos h2.1, if_neg (by unfold t_L; rw [ec]; exact hne.1), if_neg (by unfold t_G; rw [ec]; exact hne.2)]
  exact ⟨rfl, h2.1⟩
/-- the number at b, as the class tells it -/
def t_n (T : Nat → Int32) (e b : Nat) : Int32 := if t_k T e b = 2 then t_c T e b else -1
theorem t_num (hT : t_by T) (hb : l_bl T e p = b) {lo hi : Nat} (hlo : lo < 1000) (hhi : hi ≤ 999) : l_nv T e lo hi p = if k_bad (t_n T e b) (nI lo) (nI hi) then -1 else t_n T e b := by
  by_cases c : b < e ∧ t_G T b
  · have e1 : t_k T e b = 2 := by
      unfold t_k
      rw [if_pos c.1, if_neg (t_LG c.2), if_pos c.2]
    have e2 : t_c T e b = nI (k_num T b (l_to T e 48 57 (b + 1))) := by
      unfold t_c
      rw [if_pos c.1, if_neg (t_LG c.2), if_pos c.2]
    unfold t_n
    rw [if_pos e1, e2]
    exact (k_num_nv hb ⟨c.1, c.2.1, c.2.2⟩ hlo hhi).symm
  · have e1 : t_n T e b = -1 := by
      unfold t_n
      obtain ⟨s, s1, s2, s3, s4, s5, s6⟩ := t_k_n (T := T) (e := e) (b := b) hT
      refine if_neg (fun h => ?_)
      rw [s1] at h
      have h9 := (nI_eq (a := s) (b := 2) (by omega) (by decide)).mp h
      by_cases q : b < e
      · by_cases ql : t_L T b
        · have := s3 q ql
          omega
        · by_cases qg : t_G T b
          · exact c ⟨q, qg⟩
          · have := s5 q ql qg
            omega
      · have := s6 q
        omega
    have e2 : l_di T e p = l_bl T e p := by rw [t_di hb, if_neg c, hb]
    have e3 : l_nv T e lo hi p = -1 := by
      unfold l_nv
      exact if_pos (Or.inl e2)
    rw [e3, e1]
    split <;> rfl
/-- behind a number -/
theorem t_num_e (hT : t_by T) (hb : l_bl T e p = b) (h : t_k T e b = 2) : l_di T e p = t_e T e b ∧ b < e := by
  obtain ⟨s, s1, s2, s3, s4, s5, s6⟩ := t_k_n (T := T) (e := e) (b := b) hT
  rw [s1] at h
  have h9 := (nI_eq (a := s) (b := 2) (by omega) (by decide)).mp h
  have c : b < e ∧ t_G T b := by
    by_cases q : b < e
    · by_cases ql : t_L T b
      · have := s3 q ql
        omega
      · by_cases qg : t_G T b
        · exact ⟨q, qg⟩
        · have := s5 q ql qg
          omega
    · have := s6 q
      omega
  rw [t_di hb, if_pos c]
  exact ⟨rfl, c.1⟩
end P13

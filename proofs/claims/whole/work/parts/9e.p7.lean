/-! what the class has is what the reference has -/
def q_tb (D : y_D) (W : Nat → Int32) (h cnt base wd : Nat) : Prop := (D h).1 2 = W cnt ∧ (D h).1 0 = nI wd ∧ ∀ k c, k < q_n W cnt → c < wd → (D (h + 1)).1 (k * wd + c) = W (base + wd * k + c)
theorem q_tb_n {D : y_D} {W : Nat → Int32} {h cnt base wd : Nat} (a : q_tb D W h cnt base wd) : q_n (D h).1 2 = q_n W cnt := by
  unfold q_n
  rw [a.1]
theorem q_tb_c {D : y_D} {W : Nat → Int32} {h cnt base wd k c : Nat} (a : q_tb D W h cnt base wd) (hk : k < q_n W cnt) (hc : c < wd) : q_n (D (h + 1)).1 (k * wd + c) = q_n W (base + wd * k + c) := by
  unfold q_n
  rw [a.2.2 k c hk hc]
/-- the RULE t of the class is that of the reference -/
def q_ru (D : y_D) (W : Nat → Int32) (t : Nat) : Prop := k_rm D t = m_k W t ∧ ∀ i, i < m_k W t → c_p (k_rt D t) i = m_o W t i 0 ∧ c_a (k_rt D t) i = m_o W t i 1 ∧ c_b (k_rt D t) i = m_o W t i 2
theorem s_last_c {p a p2 a2 : Nat → Nat} {wo : Int32} : ∀ {k}, (∀ i, i < k → p i = p2 i ∧ a i = a2 i) → s_last p a wo k = s_last p2 a2 wo k
  | 0, _ => rfl
  | k + 1, h => by
    unfold s_last
    rw [s_last_c (k := k) (fun i hi => h i (by omega)), (h k (by omega)).1, (h k (by omega)).2]
theorem s_lit_c {p a b p2 a2 b2 : Nat → Nat} {wo : Int32} {s : Nat} : ∀ {k}, (∀ i, i < k → p i = p2 i ∧ a i = a2 i ∧ b i = b2 i) → s_lit p a b wo s k = s_lit p2 a2 b2 wo s k
  | 0, _ => rfl
  | k + 1, h => by
    unfold s_lit
    rw [s_lit_c (k := k) (fun i hi => h i (by omega)), (h k (by omega)).1, (h k (by omega)).2.1, (h k (by omega)).2.2]
theorem s_by_c {c : Nat} {p a b p2 a2 b2 : Nat → Nat} {wo : Int32} {l : Nat} : ∀ {k}, (∀ i, i < k → p i = p2 i ∧ a i = a2 i ∧ b i = b2 i) → s_by c p a b wo l k = s_by c p2 a2 b2 wo l k
  | 0, _ => rfl
  | k + 1, h => by
    unfold s_by
    rw [s_by_c (k := k) (fun i hi => h i (by omega)), (h k (by omega)).1, (h k (by omega)).2.1, (h k (by omega)).2.2]
theorem q_last {D : y_D} {W : Nat → Int32} {t : Nat} {wo : Int32} (h : q_ru D W t) : k_last D t wo = m_ls W t wo := by
  unfold k_last m_ls
  rw [h.1]
  exact s_last_c (fun i hi => ⟨(h.2 i hi).1, (h.2 i hi).2.1⟩)
theorem m_bys_b {F : Nat → Int32} : ∀ n, n ≤ 4 → ∀ l, l < 4 → (y_bit (m_bys F n) l ↔ l < n ∧ ¬ F l < 0)
  | 0, _, l, hl => ⟨fun h => absurd h (y_bit_0 (by omega)), fun h => absurd h.1 (by omega)⟩
  | n + 1, hn, l, hl => by
    have ih := m_bys_b (F := F) n (by omega) l hl
    show y_bit (m_bys F n ||| (if F n < 0 then 0 else nI (2 ^ n))) l ↔ _
    rw [y_bit_or (by omega), ih]
    by_cases c : F n < 0
    · rw [if_pos c]
      constructor
      · rintro (h | h)
        · exact ⟨by omega, h.2⟩
        · exact absurd h (y_bit_0 (by omega))
      · rintro ⟨h1, h2⟩
        refine Or.inl ⟨?_, h2⟩
        by_cases q : l = n
        · rw [q] at h2
          exact absurd c h2
        · omega
    · rw [if_neg c, y_bit_tb (by omega), Nat.testBit_two_pow]
      constructor
      · rintro (h | h)
        · exact ⟨by omega, h.2⟩
        · have e : n = l := of_decide_eq_true h
          rw [← e]
          exact ⟨by omega, c⟩
      · rintro ⟨h1, h2⟩
        by_cases q : n = l
        · exact Or.inr (decide_eq_true q)
        · exact Or.inl ⟨by omega, h2⟩
/-- PERSONS' numbers are small -/
def q_PB (W : Nat → Int32) : Prop := ∀ k c, k < q_n W 0 → c < 2 → q_ok W (12 + 2 * k + c) 400
/-- a RULE is settled alike in the class and in the reference -/
def q_E (DS DL : y_D) : Prop := (∀ s, s < 301 → (DS 153).1 s = (DL 174).1 s) ∧ ∀ l, l < 4 → (y_bit ((DS 152).1 1) l ↔ ¬ (DL 175).1 l < 0) ∧ (y_bit ((DS 152).1 2) l ↔ ¬ (DL 176).1 l < 0) ∧ (DS 154).1 l = m_per (DL 170).1 ((DL 175).1 l) 0 ∧ (DS 155).1 l = m_per (DL 170).1 ((DL 175).1 l) 1 ∧ (DS 156).1 l = (if (DL 176).1 l < 0 then 99 else (DL 176).1 l) ∧ (∃ n, n ≤ 999 ∧ (DS 154).1 l = nI n) ∧ ∃ n, n ≤ 999 ∧ (DS 156).1 l = nI n
theorem s_by_v {c : Nat} {p a b : Nat → Nat} {wo : Int32} {l : Nat} : ∀ k, s_by c p a b wo l k = -1 ∨ ∃ i, i < k ∧ p i = c ∧ a i = l ∧ s_by c p a b wo l k = nI (b i)
  | 0 => Or.inl rfl
  | k + 1 => by
    unfold s_by
    by_cases q : nI k ≠ wo ∧ p k = c ∧ a k = l
    · rw [if_pos q]
      exact Or.inr ⟨k, by omega, q.2.1, q.2.2, rfl⟩
    · rw [if_neg q]
      rcases s_by_v (c := c) (p := p) (a := a) (b := b) (wo := wo) (l := l) k with h | ⟨i, h1, h2⟩
      · exact Or.inl h
      · exact Or.inr ⟨i, by omega, h2⟩
theorem q_per {D : y_D} {W : Nat → Int32} (hP : q_tb D W 74 0 12 2) (h0 : q_ok W 0 8) {x : Int32} {c : Nat} (hx : x = -1 ∨ ∃ b : Nat, b < 8 ∧ x = nI b) (hc : c < 2) : c_per D (q_n (D 74).1 2) x c = m_per W x c := by
  have hn := q_tb_n hP
  have h8 := h0.2
  unfold c_per m_per
  rcases hx with rfl | ⟨b, hb, rfl⟩
  · rw [if_pos (by decide), if_neg (fun q => absurd q.1 (by decide))]
  · have e1 : (nI b).toNatClampNeg = b := nI_cl (by omega)
    rw [if_neg (nI_pos (by omega)), e1]
    unfold y_pg
    rw [hn]
    have e2 : (0 ≤ nI b ∧ nI b ≤ W 0 - 1) ↔ b < q_n W 0 := by
      have hW0 : W 0 = nI (q_n W 0) := h0.1
      obtain ⟨z, hz⟩ : ∃ z, z = q_n W 0 := ⟨_, rfl⟩
      rw [hW0, ← hz]
      rw [← hz] at h8
      have : ∀ b, b < 8 → ∀ z, z ≤ 8 → ((0 ≤ nI b ∧ nI b ≤ nI z - 1) ↔ b < z) := by decide +kernel
      exact this b hb z h8
    by_cases q : b < q_n W 0
    · rw [if_pos ⟨q, hc⟩, if_pos (e2.mpr q)]
      have := hP.2.2 b c q hc
      exact this
    · rw [if_neg (fun z => q z.1), if_neg (fun z => q (e2.mp z))]
theorem m_per_n {W : Nat → Int32} (h : q_PB W) (h0 : q_ok W 0 8) {x : Int32} {c : Nat} (hx : x = -1 ∨ ∃ b : Nat, b < 8 ∧ x = nI b) (hc : c < 2) : ∃ n, n ≤ 999 ∧ m_per W x c = nI n := by
  unfold m_per
  rcases hx with rfl | ⟨b, hb, rfl⟩
  · rw [if_neg (fun q => absurd q.1 (by decide))]
    exact ⟨0, by decide, rfl⟩
  · have h8 := h0.2
    have e1 : (nI b).toNatClampNeg = b := nI_cl (by omega)
    have e2 : (0 ≤ nI b ∧ nI b ≤ W 0 - 1) ↔ b < q_n W 0 := by
      have hW0 : W 0 = nI (q_n W 0) := h0.1
      obtain ⟨z, hz⟩ : ∃ z, z = q_n W 0 := ⟨_, rfl⟩
      rw [hW0, ← hz]
      rw [← hz] at h8
      have : ∀ b, b < 8 → ∀ z, z ≤ 8 → ((0 ≤ nI b ∧ nI b ≤ nI z - 1) ↔ b < z) := by decide +kernel
      exact this b hb z h8
    by_cases q : b < q_n W 0
    · rw [if_pos (e2.mpr q), e1]
      have h9 := h b c q hc
      have h10 := h9.2
      exact ⟨_, by omega, h9.1⟩
    · rw [if_neg (fun z => q (e2.mp z))]
      exact ⟨0, by decide, rfl⟩
theorem q_E_ok {D DS DL : y_D} {W : Nat → Int32} {t : Nat} {wo : Int32} (hP2 : q_tb D W 74 0 12 2 ∧ q_PB W) (h0 : q_ok W 0 8) (hW : m_wr W t) (hR : q_ru D W t) (hS : c_G (c_per D (q_n (D 74).1 2)) DS (k_rt D t) wo (k_rm D t)) (hL : m_L W DL t wo) : q_E DS DL := by
  obtain ⟨hP, hPB⟩ := hP2
  obtain ⟨s1, s2, s3, s4, s5, s6, s7⟩ := hS
  obtain ⟨l1, l2, l3, l4, l5⟩ := hL
  rw [hR.1] at s2 s3 s4 s5 s6 s7
  have eb : ∀ c l, s_by c (c_p (k_rt D t)) (c_a (k_rt D t)) (c_b (k_rt D t)) wo l (m_k W t) = s_by c (fun i => m_o W t i 0) (fun i => m_o W t i 1) (fun i => m_o W t i 2) wo l (m_k W t) := fun c l => s_by_c (fun i hi => hR.2 i hi)
  have hv : ∀ l, s_by 0 (fun i => m_o W t i 0) (fun i => m_o W t i 1) (fun i => m_o W t i 2) wo l (m_k W t) = -1 ∨ ∃ b : Nat, b < 8 ∧ s_by 0 (fun i => m_o W t i 0) (fun i => m_o W t i 1) (fun i => m_o W t i 2) wo l (m_k W t) = nI b := by
    intro l
    rcases s_by_v (c := 0) (p := fun i => m_o W t i 0) (a := fun i => m_o W t i 1) (b := fun i => m_o W t i 2) (wo := wo) (l := l) (m_k W t) with h | ⟨i, h1, h2, h3, h4⟩
    · exact Or.inl h
    · exact Or.inr ⟨m_o W t i 2, (hW.2 i h1).2.2.2.2.1 h2, h4⟩
  refine ⟨fun s hs => ?_, fun l hl => ⟨?_, ?_, ?_, ?_, ?_, ?_, ?_⟩⟩
  · rw [s2 s hs, l3 s hs]
    exact s_lit_c (fun i hi => hR.2 i hi)
  · rw [s3, m_bys_b 4 (Nat.le_refl _) l hl, l4 l hl, ← eb 0 l]
    exact ⟨fun h => h.2, fun h => ⟨hl, h⟩⟩
  · rw [s4, m_bys_b 4 (Nat.le_refl _) l hl, l5 l hl, ← eb 1 l]
    exact ⟨fun h => h.2, fun h => ⟨hl, h⟩⟩
  · rw [s5 l hl, l4 l hl, l1, eb 0 l]
    exact q_per hP h0 (hv l) (by decide)
  · rw [s6 l hl, l4 l hl, l1, eb 0 l]
    exact q_per hP h0 (hv l) (by decide)
  · rw [s7 l hl, l5 l hl, eb 1 l]
  · rw [s5 l hl, eb 0 l, q_per hP h0 (hv l) (by decide)]
    exact m_per_n hPB h0 (hv l) (by decide)
  · rw [s7 l hl, eb 1 l]
    rcases s_by_v (c := 1) (p := fun i => m_o W t i 0) (a := fun i => m_o W t i 1) (b := fun i => m_o W t i 2) (wo := wo) (l := l) (m_k W t) with h | ⟨i, h1, h2, h3, h4⟩
    · rw [h, if_pos (by decide)]
      exact ⟨99, by decide, rfl⟩
    · have h9 := (hW.2 i h1).2.2.1.2
      have h9' : m_o W t i 2 ≤ 999 := h9
      rw [h4, if_neg (nI_pos (by omega))]
      exact ⟨_, h9', rfl⟩

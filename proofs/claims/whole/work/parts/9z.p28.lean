/-! class and reference, all that they remember -/
section P28
variable {D D2 : y_D} {L L2 : List Nat} {W W2 : Nat → Int32} {n n2 : Nat}
/-- the kept book in the place of the book -/
def g_kp (D : y_D) : y_D := fun j => if 73 ≤ j ∧ j < 92 then D (j + 39) else D j
/-- how wide the kept tables are -/
def g_kw (D : y_D) : Prop := (D 113).1 0 = nI 2 ∧ (D 117).1 0 = nI 3 ∧ (D 119).1 0 = nI 2 ∧ (D 121).1 0 = nI 3 ∧ (D 123).1 0 = nI 3 ∧ (D 125).1 0 = nI 5 ∧ (D 127).1 0 = nI 3 ∧ (D 129).1 0 = nI 4
/-- class and reference are alike -/
def g_G (n : Nat) (L : List Nat) (D : y_D) : Prop := (y_ok L ∧ 191 ≤ n ∧ ∀ h, h ∈ L → h < n) ∧ g_B D L (D 170).1 ∧ k_CI D ∧ (∃ e, e ≤ 400 ∧ (D 64).1 1 = nI e ∧ (D 169).1 5 = nI e) ∧ ((D 65).1 = (D 172).1 ∧ t_by (D 65).1) ∧ (D 66).1 2 = (D 169).1 10 ∧ (((D 64).1 5 = 0 ∧ (D 169).1 3 = 0) ∨ ((D 64).1 5 = 1 ∧ (D 169).1 3 = 1 ∧ g_B (g_kp D) L (D 171).1)) ∧ y_rq D L 115 4 1 ∧ y_rq D L 116 6 2 ∧ g_kw D
theorem g_TB_eq (a : g_TB D W) (h : ∀ j, 73 ≤ j ∧ j < 92 → D2 j = D j) : g_TB D2 W := by
  obtain ⟨t0, t3, t4, t5, t6, t7, t8, t9⟩ := a
  have f : ∀ {h9 cnt base wd mx : Nat} {R : (Nat → Int32) → Prop}, 73 ≤ h9 → h9 + 1 < 92 → g_T D W h9 cnt base wd mx R → g_T D2 W h9 cnt base wd mx R := by
    intro h9 cnt base wd mx R h1 h2 b
    obtain ⟨⟨b1, b2, b3⟩, b4, b5⟩ := b
    have e1 := h h9 (by omega)
    have e2 := h (h9 + 1) (by omega)
    refine ⟨⟨by rw [e1]; exact b1, by rw [e1]; exact b2, fun k c hk hc => by rw [e2]; exact b3 k c hk hc⟩, b4, b5⟩
  exact ⟨f (by decide) (by decide) t0, f (by decide) (by decide) t3, f (by decide) (by decide) t4, f (by decide) (by decide) t5, f (by decide) (by decide) t6, f (by decide) (by decide) t7, f (by decide) (by decide) t8, f (by decide) (by decide) t9⟩
theorem g_B_eq (a : g_B D L W) (h : ∀ j, (73 ≤ j ∧ j < 92) ∨ y_dh j → D2 j = D j) : g_B D2 L W := by
  obtain ⟨t, r, w, s⟩ := a
  have e73 := h 73 (Or.inl (by decide))
  have e76 := h 76 (Or.inl (by decide))
  have e77 := h 77 (Or.inl (by decide))
  refine ⟨g_TB_eq t (fun j hj => h j (Or.inl hj)), g_RU_fr r (by rw [e73]) (fun i _ => by rw [e76]) (fun j _ hj => h j (Or.inr hj)) (fun _ q => q) rfl (fun _ _ _ => rfl), g_WA_fr w (by rw [e73]) (fun i _ => by rw [e77]) (fun j _ hj => h j (Or.inr hj)) (fun _ q => q) rfl (fun _ _ _ => rfl), ?_⟩
  unfold g_SC at s ⊢
  rw [e73]
  exact s
theorem y_rq_eq {h len k : Nat} (a : y_rq D L h len k) (h1 : D2 h = D h) (h2 : ∀ j, j ∈ L → y_dh j → D2 j = D j) (h3 : ∀ j, j ∈ L → j ∈ L2) : y_rq D2 L2 h len k := by
  intro i hi
  obtain ⟨r, a1, a2, a3, a4⟩ := a i hi
  exact ⟨r, by rw [h1]; exact a1, h3 r a2, a3, by rw [h2 r a2 a3]; exact a4⟩
theorem g_G_put (G : g_G n L D) (hn : n ≤ n2) (hB : g_B D2 L (D2 170).1) (hC : k_CI D2) (hf : ∀ j, j = 64 ∨ j = 65 ∨ j = 66 ∨ (112 ≤ j ∧ j < 131) ∨ j = 171 ∨ j = 172 ∨ y_dh j → D2 j = D j) (h9 : ∀ k, k = 3 ∨ k = 5 ∨ k = 10 → (D2 169).1 k = (D 169).1 k) : g_G n2 L D2 := by
  obtain ⟨⟨g1, g2, g3⟩, g4, g5, g6, g7, g8, g9, g10, g11, gk⟩ := G
  have hd : ∀ j, j ∈ L → y_dh j → D2 j = D j := fun j _ hj => hf j (by simp only [hj, or_true])
  refine ⟨⟨g1, by omega, fun h hh => Nat.lt_of_lt_of_le (g3 h hh) hn⟩, hB, hC, ?_, ?_, ?_, ?_, y_rq_eq g10 (hf 115 (by omega)) hd (fun _ q => q), y_rq_eq g11 (hf 116 (by omega)) hd (fun _ q => q), by
    unfold g_kw at gk ⊢
    rw [hf 113 (by omega), hf 117 (by omega), hf 119 (by omega), hf 121 (by omega), hf 123 (by omega), hf 125 (by omega), hf 127 (by omega), hf 129 (by omega)]
    exact gk⟩
  · rw [hf 64 (by omega), h9 5 (by decide)]
    exact g6
  · rw [hf 65 (by omega), hf 172 (by omega)]
    exact g7
  · rw [hf 66 (by omega), h9 10 (by decide)]
    exact g8
  · rw [hf 64 (by omega), h9 3 (by decide), hf 171 (by omega)]
    rcases g9 with g9 | ⟨q1, q2, q3⟩
    · exact Or.inl g9
    · refine Or.inr ⟨q1, q2, g_B_eq q3 (fun j hj => ?_)⟩
      unfold g_kp
      by_cases c : 73 ≤ j ∧ j < 92
      · rw [if_pos c, if_pos c]
        exact hf _ (by omega)
      · rw [if_neg c, if_neg c]
        exact hf j (by rcases hj with hj | hj; (exact absurd hj c); (simp only [hj, or_true]))
/-- calls that only ask -/
theorem g_G_fr (G : g_G n L D) (hn : n ≤ n2) (h : ∀ j, ¬ (152 ≤ j ∧ j < 170) → ¬ (173 ≤ j ∧ j < 191) → D2 j = D j) (h9 : ∀ k, k = 3 ∨ k = 5 ∨ k = 10 → (D2 169).1 k = (D 169).1 k) (hC : k_CI D2) : g_G n2 L D2 := by
  have hd : ∀ j, y_dh j → ¬ (152 ≤ j ∧ j < 170) ∧ ¬ (173 ≤ j ∧ j < 191) := fun j hj => by unfold y_dh at hj; omega
  refine g_G_put G hn ?_ hC (fun j hj => ?_) h9
  · rw [h 170 (by decide) (by decide)]
    refine g_B_eq G.2.1 (fun j hj => ?_)
    rcases hj with hj | hj
    · exact h j (by omega) (by omega)
    · exact h j (hd j hj).1 (hd j hj).2
  · have : ¬ (152 ≤ j ∧ j < 170) ∧ ¬ (173 ≤ j ∧ j < 191) := by
      rcases hj with hj | hj | hj | hj | hj | hj | hj
      · omega
      · omega
      · omega
      · omega
      · omega
      · omega
      · exact hd j hj
    exact h j this.1 this.2
/-- a row more in the table h -/
def g_ad (D D2 : y_D) (W W2 : Nat → Int32) (h cnt base wd k : Nat) (f : Nat → Int32) : Prop := (∀ j, j ≠ h → j ≠ h + 1 → (73 ≤ j ∧ j < 92) ∨ y_dh j → D2 j = D j) ∧ (D2 h).1 2 = nI (k + 1) ∧ (D2 h).1 0 = (D h).1 0 ∧ (∀ j, j < k * wd → (D2 (h + 1)).1 j = (D (h + 1)).1 j) ∧ (∀ c, c < wd → (D2 (h + 1)).1 (k * wd + c) = f c) ∧ W2 cnt = nI (k + 1) ∧ (∀ j, j ≠ cnt → ¬ (base + wd * k ≤ j ∧ j < base + wd * k + wd) → W2 j = W j) ∧ ∀ c, c < wd → W2 (base + wd * k + c) = f c
theorem g_ad_o {h cnt base wd k mx : Nat} {f : Nat → Int32} {R R2 : (Nat → Int32) → Prop} {h9 c9 b9 w9 m9 : Nat} (a : g_ad D D2 W W2 h cnt base wd k f) (t : g_T D W h9 c9 b9 w9 m9 R) (hk : k < mx) (d1 : 73 ≤ h9 ∧ h9 + 1 < 92 ∧ (h9 + 1 < h ∨ h + 1 < h9)) (d2 : c9 ≠ cnt ∧ c9 < 12 ∧ cnt < 12 ∧ 12 ≤ base ∧ 12 ≤ b9) (d3 : b9 + m9 * w9 ≤ base ∨ base + mx * wd ≤ b9) (hR : g_cg w9 R R2) : g_T D2 W2 h9 c9 b9 w9 m9 R2 := by
  have e1 := a.1 h9 (by omega) (by omega) (Or.inl (by omega))
  have e2 := a.1 (h9 + 1) (by omega) (by omega) (Or.inl (by omega))
  have hm : (k + 1) * wd ≤ mx * wd := Nat.mul_le_mul (by omega) (Nat.le_refl _)
  have hc : (k + 1) * wd = wd * k + wd := by rw [Nat.add_mul, Nat.one_mul, Nat.mul_comm k wd]
  rw [hc] at hm
  refine g_T_fr t (by rw [e1]) (by rw [e1]) (fun j _ => by rw [e2]) (a.2.2.2.2.2.2.1 c9 d2.1 (by omega)) (fun j hj => a.2.2.2.2.2.2.1 _ (by omega) (by omega)) hR
theorem g_ad_s {h cnt base wd k mx : Nat} {f : Nat → Int32} {R R2 : (Nat → Int32) → Prop} (a : g_ad D D2 W W2 h cnt base wd k f) (t : g_T D W h cnt base wd mx R) (hc : cnt < base) (hq : q_n W cnt = k) (hk : k < mx) (hmx : mx < 1000) (hf : R2 f) (hR : g_cg wd R R2) (hR2 : g_cg wd R2 R2) : g_T D2 W2 h cnt base wd mx R2 := by
  obtain ⟨a1, a2, a3, a4, a5, a6, a7, a8⟩ := a
  exact g_T_add t hq hk hmx a2 a3 a4 a5 a6 (fun j hj => a7 _ (by omega) (by rw [Nat.mul_comm wd k]; omega)) a8 hf hR hR2
theorem g_ad_B {h cnt base wd k : Nat} {f : Nat → Int32} (a : g_ad D D2 W W2 h cnt base wd k f) (b : g_B D L W) (hh : h ≠ 72 ∧ h ≠ 73 ∧ h ≠ 75 ∧ h ≠ 76 ∧ h ≠ 77 ∧ 73 < h ∧ h < 91) (hc : cnt ≠ 1 ∧ cnt ≠ 2 ∧ cnt ≠ 10 ∧ cnt ≠ 11 ∧ cnt < 12 ∧ 12 ≤ base) (hb : base + wd * k + wd ≤ 237) (t : g_TB D2 W2) : g_B D2 L W2 := by
  have hd : ∀ j, y_dh j → j ≠ h ∧ j ≠ h + 1 := fun j hj => by unfold y_dh at hj; omega
  have e73 := a.1 73 (by omega) (by omega) (Or.inl (by decide))
  have e76 := a.1 76 (by omega) (by omega) (Or.inl (by decide))
  have e77 := a.1 77 (by omega) (by omega) (Or.inl (by decide))
  have hw := a.2.2.2.2.2.2.1
  refine ⟨t, g_RU_fr b.2.1 (by rw [e73]) (fun i _ => by rw [e76]) (fun j _ hj => a.1 j (hd j hj).1 (hd j hj).2 (Or.inr hj)) (fun _ q => q) (hw 1 (by omega) (by omega)) (fun j j1 j2 => hw j (by omega) (by omega)), g_WA_fr b.2.2.1 (by rw [e73]) (fun i _ => by rw [e77]) (fun j _ hj => a.1 j (hd j hj).1 (hd j hj).2 (Or.inr hj)) (fun _ q => q) (hw 2 (by omega) (by omega)) (fun j j1 j2 => hw j (by omega) (by omega)), ?_⟩
  obtain ⟨s1, s2, s3, s4⟩ := b.2.2.2
  have w11 := hw 11 (by omega) (by omega)
  have w10 := hw 10 (by omega) (by omega)
  exact ⟨by rw [e73, w11]; exact s1, (q_ok_e w11 s2).1, by rw [e73, w10]; exact s3, (q_ok_e w10 s4).1⟩
theorem g_ad_74 {k : Nat} {f : Nat → Int32} (a : g_ad D D2 W W2 74 0 12 2 k f) (b : g_B D L W) (hk : q_n W 0 = k) (hm : k < 8) (hf : (g_r0) f) : g_B D2 L W2 := by
  have hw := a.2.2.2.2.2.2.1
  have n3 : q_n W 3 ≤ q_n W2 3 := by
    unfold q_n
    rw [hw 3 (by decide) (by omega)]
    exact Nat.le_refl _
  have n1 : q_n W 1 ≤ q_n W2 1 := by
    unfold q_n
    rw [hw 1 (by decide) (by omega)]
    exact Nat.le_refl _
  obtain ⟨t0, t3, t4, t5, t6, t7, t8, t9⟩ := b.1
  exact g_ad_B a b (by decide) (by decide) (by omega) ⟨g_ad_s (mx := 8) a t0 (by decide) hk hm (by decide) hf g_cg0 g_cg0, g_ad_o (mx := 8) a t3 hm (by decide) (by decide) (by decide) g_cg3, g_ad_o (mx := 8) a t4 hm (by decide) (by decide) (by decide) (g_cg4 n3), g_ad_o (mx := 8) a t5 hm (by decide) (by decide) (by decide) g_cg5, g_ad_o (mx := 8) a t6 hm (by decide) (by decide) (by decide) g_cg6, g_ad_o (mx := 8) a t7 hm (by decide) (by decide) (by decide) (g_cg7 n1), g_ad_o (mx := 8) a t8 hm (by decide) (by decide) (by decide) g_cg8, g_ad_o (mx := 8) a t9 hm (by decide) (by decide) (by decide) g_cg9⟩
theorem g_ad_78 {k : Nat} {f : Nat → Int32} (a : g_ad D D2 W W2 78 3 28 3 k f) (b : g_B D L W) (hk : q_n W 3 = k) (hm : k < 6) (hf : (g_r3) f) : g_B D2 L W2 := by
  have hw := a.2.2.2.2.2.2.1
  have n3 : q_n W 3 ≤ q_n W2 3 := by
    have : q_n W2 3 = k + 1 := (q_mk (B := 6) a.2.2.2.2.2.1 (by omega) (by omega)).2
    omega
  have n1 : q_n W 1 ≤ q_n W2 1 := by
    unfold q_n
    rw [hw 1 (by decide) (by omega)]
    exact Nat.le_refl _
  obtain ⟨t0, t3, t4, t5, t6, t7, t8, t9⟩ := b.1
  exact g_ad_B a b (by decide) (by decide) (by omega) ⟨g_ad_o (mx := 6) a t0 hm (by decide) (by decide) (by decide) g_cg0, g_ad_s (mx := 6) a t3 (by decide) hk hm (by decide) hf g_cg3 g_cg3, g_ad_o (mx := 6) a t4 hm (by decide) (by decide) (by decide) (g_cg4 n3), g_ad_o (mx := 6) a t5 hm (by decide) (by decide) (by decide) g_cg5, g_ad_o (mx := 6) a t6 hm (by decide) (by decide) (by decide) g_cg6, g_ad_o (mx := 6) a t7 hm (by decide) (by decide) (by decide) (g_cg7 n1), g_ad_o (mx := 6) a t8 hm (by decide) (by decide) (by decide) g_cg8, g_ad_o (mx := 6) a t9 hm (by decide) (by decide) (by decide) g_cg9⟩
theorem g_ad_80 {k : Nat} {f : Nat → Int32} (a : g_ad D D2 W W2 80 4 46 2 k f) (b : g_B D L W) (hk : q_n W 4 = k) (hm : k < 10) (hf : (g_r4 (q_n W2 3)) f) : g_B D2 L W2 := by
  have hw := a.2.2.2.2.2.2.1
  have n3 : q_n W 3 ≤ q_n W2 3 := by
    unfold q_n
    rw [hw 3 (by decide) (by omega)]
    exact Nat.le_refl _
  have n1 : q_n W 1 ≤ q_n W2 1 := by
    unfold q_n
    rw [hw 1 (by decide) (by omega)]
    exact Nat.le_refl _
  obtain ⟨t0, t3, t4, t5, t6, t7, t8, t9⟩ := b.1
  exact g_ad_B a b (by decide) (by decide) (by omega) ⟨g_ad_o (mx := 10) a t0 hm (by decide) (by decide) (by decide) g_cg0, g_ad_o (mx := 10) a t3 hm (by decide) (by decide) (by decide) g_cg3, g_ad_s (mx := 10) a t4 (by decide) hk hm (by decide) hf (g_cg4 n3) (g_cg4 (Nat.le_refl _)), g_ad_o (mx := 10) a t5 hm (by decide) (by decide) (by decide) g_cg5, g_ad_o (mx := 10) a t6 hm (by decide) (by decide) (by decide) g_cg6, g_ad_o (mx := 10) a t7 hm (by decide) (by decide) (by decide) (g_cg7 n1), g_ad_o (mx := 10) a t8 hm (by decide) (by decide) (by decide) g_cg8, g_ad_o (mx := 10) a t9 hm (by decide) (by decide) (by decide) g_cg9⟩
theorem g_ad_82 {k : Nat} {f : Nat → Int32} (a : g_ad D D2 W W2 82 5 66 3 k f) (b : g_B D L W) (hk : q_n W 5 = k) (hm : k < 4) (hf : (g_r5) f) : g_B D2 L W2 := by
  have hw := a.2.2.2.2.2.2.1
  have n3 : q_n W 3 ≤ q_n W2 3 := by
    unfold q_n
    rw [hw 3 (by decide) (by omega)]
    exact Nat.le_refl _
  have n1 : q_n W 1 ≤ q_n W2 1 := by
    unfold q_n
    rw [hw 1 (by decide) (by omega)]
    exact Nat.le_refl _
  obtain ⟨t0, t3, t4, t5, t6, t7, t8, t9⟩ := b.1
  exact g_ad_B a b (by decide) (by decide) (by omega) ⟨g_ad_o (mx := 4) a t0 hm (by decide) (by decide) (by decide) g_cg0, g_ad_o (mx := 4) a t3 hm (by decide) (by decide) (by decide) g_cg3, g_ad_o (mx := 4) a t4 hm (by decide) (by decide) (by decide) (g_cg4 n3), g_ad_s (mx := 4) a t5 (by decide) hk hm (by decide) hf g_cg5 g_cg5, g_ad_o (mx := 4) a t6 hm (by decide) (by decide) (by decide) g_cg6, g_ad_o (mx := 4) a t7 hm (by decide) (by decide) (by decide) (g_cg7 n1), g_ad_o (mx := 4) a t8 hm (by decide) (by decide) (by decide) g_cg8, g_ad_o (mx := 4) a t9 hm (by decide) (by decide) (by decide) g_cg9⟩
theorem g_ad_84 {k : Nat} {f : Nat → Int32} (a : g_ad D D2 W W2 84 6 78 3 k f) (b : g_B D L W) (hk : q_n W 6 = k) (hm : k < 5) (hf : (g_r6) f) : g_B D2 L W2 := by
  have hw := a.2.2.2.2.2.2.1
  have n3 : q_n W 3 ≤ q_n W2 3 := by
    unfold q_n
    rw [hw 3 (by decide) (by omega)]
    exact Nat.le_refl _
  have n1 : q_n W 1 ≤ q_n W2 1 := by
    unfold q_n
    rw [hw 1 (by decide) (by omega)]
    exact Nat.le_refl _
  obtain ⟨t0, t3, t4, t5, t6, t7, t8, t9⟩ := b.1
  exact g_ad_B a b (by decide) (by decide) (by omega) ⟨g_ad_o (mx := 5) a t0 hm (by decide) (by decide) (by decide) g_cg0, g_ad_o (mx := 5) a t3 hm (by decide) (by decide) (by decide) g_cg3, g_ad_o (mx := 5) a t4 hm (by decide) (by decide) (by decide) (g_cg4 n3), g_ad_o (mx := 5) a t5 hm (by decide) (by decide) (by decide) g_cg5, g_ad_s (mx := 5) a t6 (by decide) hk hm (by decide) hf g_cg6 g_cg6, g_ad_o (mx := 5) a t7 hm (by decide) (by decide) (by decide) (g_cg7 n1), g_ad_o (mx := 5) a t8 hm (by decide) (by decide) (by decide) g_cg8, g_ad_o (mx := 5) a t9 hm (by decide) (by decide) (by decide) g_cg9⟩
theorem g_ad_86 {k : Nat} {f : Nat → Int32} (a : g_ad D D2 W W2 86 7 93 5 k f) (b : g_B D L W) (hk : q_n W 7 = k) (hm : k < 12) (hf : (g_r7 (q_n W2 1)) f) : g_B D2 L W2 := by
  have hw := a.2.2.2.2.2.2.1
  have n3 : q_n W 3 ≤ q_n W2 3 := by
    unfold q_n
    rw [hw 3 (by decide) (by omega)]
    exact Nat.le_refl _
  have n1 : q_n W 1 ≤ q_n W2 1 := by
    unfold q_n
    rw [hw 1 (by decide) (by omega)]
    exact Nat.le_refl _
  obtain ⟨t0, t3, t4, t5, t6, t7, t8, t9⟩ := b.1
  exact g_ad_B a b (by decide) (by decide) (by omega) ⟨g_ad_o (mx := 12) a t0 hm (by decide) (by decide) (by decide) g_cg0, g_ad_o (mx := 12) a t3 hm (by decide) (by decide) (by decide) g_cg3, g_ad_o (mx := 12) a t4 hm (by decide) (by decide) (by decide) (g_cg4 n3), g_ad_o (mx := 12) a t5 hm (by decide) (by decide) (by decide) g_cg5, g_ad_o (mx := 12) a t6 hm (by decide) (by decide) (by decide) g_cg6, g_ad_s (mx := 12) a t7 (by decide) hk hm (by decide) hf (g_cg7 n1) (g_cg7 (Nat.le_refl _)), g_ad_o (mx := 12) a t8 hm (by decide) (by decide) (by decide) g_cg8, g_ad_o (mx := 12) a t9 hm (by decide) (by decide) (by decide) g_cg9⟩
theorem g_ad_88 {k : Nat} {f : Nat → Int32} (a : g_ad D D2 W W2 88 8 153 3 k f) (b : g_B D L W) (hk : q_n W 8 = k) (hm : k < 20) (hf : (g_r8) f) : g_B D2 L W2 := by
  have hw := a.2.2.2.2.2.2.1
  have n3 : q_n W 3 ≤ q_n W2 3 := by
    unfold q_n
    rw [hw 3 (by decide) (by omega)]
    exact Nat.le_refl _
  have n1 : q_n W 1 ≤ q_n W2 1 := by
    unfold q_n
    rw [hw 1 (by decide) (by omega)]
    exact Nat.le_refl _
  obtain ⟨t0, t3, t4, t5, t6, t7, t8, t9⟩ := b.1
  exact g_ad_B a b (by decide) (by decide) (by omega) ⟨g_ad_o (mx := 20) a t0 hm (by decide) (by decide) (by decide) g_cg0, g_ad_o (mx := 20) a t3 hm (by decide) (by decide) (by decide) g_cg3, g_ad_o (mx := 20) a t4 hm (by decide) (by decide) (by decide) (g_cg4 n3), g_ad_o (mx := 20) a t5 hm (by decide) (by decide) (by decide) g_cg5, g_ad_o (mx := 20) a t6 hm (by decide) (by decide) (by decide) g_cg6, g_ad_o (mx := 20) a t7 hm (by decide) (by decide) (by decide) (g_cg7 n1), g_ad_s (mx := 20) a t8 (by decide) hk hm (by decide) hf g_cg8 g_cg8, g_ad_o (mx := 20) a t9 hm (by decide) (by decide) (by decide) g_cg9⟩
theorem g_ad_90 {k : Nat} {f : Nat → Int32} (a : g_ad D D2 W W2 90 9 213 4 k f) (b : g_B D L W) (hk : q_n W 9 = k) (hm : k < 6) (hf : (g_r9) f) : g_B D2 L W2 := by
  have hw := a.2.2.2.2.2.2.1
  have n3 : q_n W 3 ≤ q_n W2 3 := by
    unfold q_n
    rw [hw 3 (by decide) (by omega)]
    exact Nat.le_refl _
  have n1 : q_n W 1 ≤ q_n W2 1 := by
    unfold q_n
    rw [hw 1 (by decide) (by omega)]
    exact Nat.le_refl _
  obtain ⟨t0, t3, t4, t5, t6, t7, t8, t9⟩ := b.1
  exact g_ad_B a b (by decide) (by decide) (by omega) ⟨g_ad_o (mx := 6) a t0 hm (by decide) (by decide) (by decide) g_cg0, g_ad_o (mx := 6) a t3 hm (by decide) (by decide) (by decide) g_cg3, g_ad_o (mx := 6) a t4 hm (by decide) (by decide) (by decide) (g_cg4 n3), g_ad_o (mx := 6) a t5 hm (by decide) (by decide) (by decide) g_cg5, g_ad_o (mx := 6) a t6 hm (by decide) (by decide) (by decide) g_cg6, g_ad_o (mx := 6) a t7 hm (by decide) (by decide) (by decide) (g_cg7 n1), g_ad_o (mx := 6) a t8 hm (by decide) (by decide) (by decide) g_cg8, g_ad_s (mx := 6) a t9 (by decide) hk hm (by decide) hf g_cg9 g_cg9⟩
end P28

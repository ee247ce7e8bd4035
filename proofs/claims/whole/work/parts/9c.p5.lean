/-! knots: the ways backwards of the class are the ways forwards of the reference -/
section P5
variable {tn : Nat → Nat → Prop} {wt : Nat → Nat → Nat} {kn : Nat} {c0 : Nat → Nat}
theorem r_fw_up {f j s x y : Nat} (h : r_fw tn wt kn f j s x) (hxy : x ≤ y) : r_fw tn wt kn f j s y :=
  g_up (fun _ _ _ h _ => h) (fun _ _ _ _ _ h h2 => by obtain ⟨k, a1, a2, a3, a4, a5⟩ := h; exact ⟨k, a1, a2, a3, a4, by omega⟩) h hxy
theorem r_bw_up {j s x y : Nat} (h : r_bw tn wt kn c0 j s x) (hxy : x ≤ y) : r_bw tn wt kn c0 j s y :=
  g_up (B := fun s x => c0 s ≤ x) (E := fun u v a x => ∃ k, k < kn ∧ v < 2 ^ kn ∧ tn v k ∧ u = v ^^^ 2 ^ k ∧ a + wt v k ≤ x) (fun _ _ _ h h2 => Nat.le_trans h h2) (fun _ _ _ _ _ h h2 => by obtain ⟨k, a1, a2, a3, a4, a5⟩ := h; exact ⟨k, a1, a2, a3, a4, by omega⟩) h hxy
/-- a turn ahead of a way -/
theorem r_fw_pre {v k : Nat} (hk : k < kn) (hv : v < 2 ^ kn) (ht : tn v k) : ∀ (j : Nat) {s y : Nat}, r_fw tn wt kn (v ^^^ 2 ^ k) j s y → ∃ j2, r_fw tn wt kn v j2 s (wt v k + y)
  | 0, s, y, h => ⟨1, Or.inr ⟨v, 0, Nat.zero_le _, ⟨k, hk, hv, ht, h, by omega⟩, rfl⟩⟩
  | j + 1, s, y, h => by
    rcases h with h | ⟨u, a, h1, ⟨q, e1, e2, e3, e4, e5⟩, h3⟩
    · exact r_fw_pre hk hv ht j h
    · obtain ⟨j2, h4⟩ := r_fw_pre hk hv ht j h3
      exact ⟨j2 + 1, Or.inr ⟨u, wt v k + a, by omega, ⟨q, e1, e2, e3, e4, by omega⟩, h4⟩⟩
theorem r_fw_lt {f : Nat} (hf : f < 2 ^ kn) : ∀ (j : Nat) {s x : Nat}, r_fw tn wt kn f j s x → s < 2 ^ kn
  | 0, s, x, h => by
    have e : s = f := h
    omega
  | j + 1, s, x, h => by
    rcases h with h | ⟨u, a, h1, ⟨q, e1, e2, e3, e4, e5⟩, h3⟩
    · exact r_fw_lt hf j h
    · rw [e4]
      exact r_xlt e1 e2
theorem r_bw_fw : ∀ (j : Nat) {v x : Nat}, v < 2 ^ kn → r_bw tn wt kn c0 j v x → ∃ s y j2, s < 2 ^ kn ∧ r_fw tn wt kn v j2 s y ∧ y + c0 s ≤ x
  | 0, v, x, hv, h => ⟨v, 0, 0, hv, rfl, by have h9 : c0 v ≤ x := h; omega⟩
  | j + 1, v, x, hv, h => by
    rcases h with h | ⟨u, a, h1, ⟨q, e1, e2, e3, e4, e5⟩, h3⟩
    · exact r_bw_fw j hv h
    · have hu : u < 2 ^ kn := by rw [e4]; exact r_xlt e1 hv
      obtain ⟨s, y, j2, g1, g2, g3⟩ := r_bw_fw j hu h3
      rw [e4] at g2
      obtain ⟨j3, g4⟩ := r_fw_pre e1 hv e3 j2 g2
      exact ⟨s, wt v q + y, j3, g1, g4, by omega⟩
theorem r_fw_bw {f : Nat} : ∀ (j : Nat) {s y a j1 : Nat}, r_fw tn wt kn f j s y → r_bw tn wt kn c0 j1 s a → ∃ j2, r_bw tn wt kn c0 j2 f (y + a)
  | 0, s, y, a, j1, h, hb => by
    have e : s = f := h
    subst e
    exact ⟨j1, r_bw_up hb (by omega)⟩
  | j + 1, s, y, a, j1, h, hb => by
    rcases h with h | ⟨u, b, h1, ⟨q, e1, e2, e3, e4, e5⟩, h3⟩
    · exact r_fw_bw j h hb
    · have hb2 : r_bw tn wt kn c0 (j1 + 1) u (a + wt u q) := Or.inr ⟨s, a, by omega, ⟨q, e1, e2, e3, e4, by omega⟩, hb⟩
      obtain ⟨j2, g⟩ := r_fw_bw j h3 hb2
      exact ⟨j2, r_bw_up g (by omega)⟩
theorem r_bw_iff {v x : Nat} (hv : v < 2 ^ kn) : (∃ j, r_bw tn wt kn c0 j v x) ↔ ∃ s y, s < 2 ^ kn ∧ (∃ j, r_fw tn wt kn v j s y) ∧ y + c0 s ≤ x := by
  constructor
  · rintro ⟨j, h⟩
    obtain ⟨s, y, j2, g1, g2, g3⟩ := r_bw_fw j hv h
    exact ⟨s, y, g1, ⟨j2, g2⟩, g3⟩
  · rintro ⟨s, y, g1, ⟨j, g2⟩, g3⟩
    obtain ⟨j2, h⟩ := r_fw_bw (j1 := 0) (a := c0 s) j g2 (Nat.le_refl _)
    exact ⟨j2, r_bw_up h g3⟩
theorem r_L_lt {R Q : Nat → Prop} {a : Nat} (ha : r_L R a) (h : ∀ x, x < 1000000 → (R x ↔ Q x)) : r_L Q a := ⟨ha.1, fun c => (h a c).mp (ha.2.1 c), fun x hx q => ha.2.2 x hx ((h x hx).mpr q)⟩
theorem r_L_1 {R : Nat → Prop} {a b : Nat} (ha : r_L R a) (hb : r_L R b) : a = b := r_L_u ha hb (fun _ => Iff.rfl)
theorem r_to_iff {st v x : Nat} (hv : v < 2 ^ kn) (hx : x < 1000000) : (∃ j, r_bw tn wt kn (r_c0 st) j v x) ↔ r_to tn wt kn st v x := by
  rw [r_bw_iff hv]
  unfold r_to r_c0
  constructor
  · rintro ⟨s, y, g1, ⟨j, g2⟩, g3⟩
    by_cases c : s ||| st = s
    · rw [if_pos c] at g3
      exact ⟨s, g1, c, j, r_fw_up g2 (by omega)⟩
    · rw [if_neg c] at g3
      omega
  · rintro ⟨s, g1, c, j, g2⟩
    exact ⟨s, x, g1, ⟨j, g2⟩, by rw [if_pos c]; omega⟩
theorem r_in_iff {st x : Nat} {c : Nat → Nat} (hc : ∀ s, s < 2 ^ kn → r_L (fun x => ∃ j, r_bw tn wt kn r_c1 j s x) (c s)) (hx : x < 1000000) : (∃ j, r_bw tn wt kn (r_c2 st c) j 0 x) ↔ r_in tn wt kn st x := by
  have h0 : 0 < 2 ^ kn := Nat.pow_pos (by decide)
  have key : ∀ s, s < 2 ^ kn → ∀ b, b < 1000000 → ((∃ j, r_bw tn wt kn r_c1 j s b) ↔ ∃ j, r_fw tn wt kn s j 0 b) := by
    intro s hs b hb
    rw [r_bw_iff hs]
    unfold r_c1
    constructor
    · rintro ⟨z, y, g1, ⟨j, g2⟩, g3⟩
      by_cases q : z = 0
      · subst q
        rw [if_pos rfl] at g3
        exact ⟨j, r_fw_up g2 (by omega)⟩
      · rw [if_neg q] at g3
        omega
    · rintro ⟨j, g⟩
      exact ⟨0, b, h0, ⟨j, g⟩, by rw [if_pos rfl]; omega⟩
  rw [r_bw_iff h0]
  unfold r_in r_c2
  constructor
  · rintro ⟨s, y, g1, ⟨j, g2⟩, g3⟩
    by_cases q : s ||| st = s
    · rw [if_pos q] at g3
      have hl := hc s g1
      exact ⟨s, g1, q, y, c s, g3, ⟨j, g2⟩, (key s g1 (c s) (by omega)).mp (hl.2.1 (by omega))⟩
    · rw [if_neg q] at g3
      omega
  · rintro ⟨s, g1, q, a, b, g2, ⟨j, g3⟩, g4⟩
    refine ⟨s, a, g1, ⟨j, g3⟩, ?_⟩
    rw [if_pos q]
    have := (hc s g1).2.2 b (by omega) ((key s g1 b (by omega)).mpr g4)
    omega
/-- where each turn takes a second, no second is no turn -/
theorem r_fw_0 (hw : ∀ u k, k < kn → 1 ≤ wt u k) {f : Nat} : ∀ (j : Nat) {s : Nat}, r_fw tn wt kn f j s 0 → s = f
  | 0, s, h => h
  | j + 1, s, h => by
    rcases h with h | ⟨u, a, h1, ⟨q, e1, e2, e3, e4, e5⟩, h3⟩
    · exact r_fw_0 hw j h
    · have := hw u q e1
      omega
theorem r_first_iff (hw : ∀ u k, k < kn → 1 ≤ wt u k) {st : Nat} {c op : Nat → Nat} (hop : ∀ k, k < kn → 1 ≤ op k) (hop2 : ∀ k, k < kn → op k ≤ 99) {v : Int32} (hc : ∀ s, s < 2 ^ kn → r_L (fun x => ∃ j, r_bw tn wt kn (r_c0 st) j s x) (c s))
    (h : (v = -1 ∧ (c 0 = 0 ∨ c 0 = 1000000 ∨ ∀ k, k < kn → ¬ (tn 0 k ∧ op k + c (2 ^ k) = c 0))) ∨ ∃ k, k < kn ∧ v = nI k ∧ c 0 ≠ 0 ∧ c 0 ≠ 1000000 ∧ (tn 0 k ∧ op k + c (2 ^ k) = c 0) ∧ ∀ i, i < k → ¬ (tn 0 i ∧ op i + c (2 ^ i) = c 0)) : r_first tn wt kn st op v := by
  have h0 : 0 < 2 ^ kn := Nat.pow_pos (by decide)
  have hL : ∀ s, s < 2 ^ kn → r_L (r_to tn wt kn st s) (c s) := fun s hs => r_L_lt (hc s hs) (fun x hx => r_to_iff hs hx)
  have hz : c 0 = 0 ↔ st = 0 := by
    constructor
    · intro e
      obtain ⟨s, g1, g2, j, g3⟩ := (hL 0 h0).2.1 (by omega)
      rw [e] at g3
      have e2 := r_fw_0 hw j g3
      subst e2
      rw [Nat.zero_or] at g2
      exact g2
    · intro e
      subst e
      have := (hL 0 h0).2.2 0 (by decide) ⟨0, h0, rfl, 0, rfl⟩
      omega
  have hF : ∀ k, k < kn → ((tn 0 k ∧ op k + c (2 ^ k) = c 0) ↔ r_F tn wt kn st op (c 0) k) := by
    intro k hk
    have h2 : 2 ^ k < 2 ^ kn := Nat.pow_lt_pow_right (by decide) hk
    unfold r_F
    constructor
    · rintro ⟨a, b⟩
      exact ⟨a, c (2 ^ k), hL _ h2, b⟩
    · rintro ⟨a, Lk, b1, b2⟩
      rw [r_L_1 b1 (hL _ h2)] at b2
      exact ⟨a, b2⟩
  refine ⟨c 0, hL 0 h0, ?_⟩
  rcases h with ⟨e, h⟩ | ⟨k, hk, e, h1, h2, h3, h4⟩
  · refine Or.inl ⟨e, ?_⟩
    rcases h with h | h | h
    · exact Or.inl (hz.mp h)
    · exact Or.inr (Or.inl h)
    · exact Or.inr (Or.inr (fun k hk q => h k hk ((hF k hk).mpr q)))
  · exact Or.inr ⟨k, hk, e, fun q => h1 (hz.mpr q), h2, (hF k hk).mp h3, fun i hi q => h4 i hi ((hF i (by omega)).mpr q)⟩
/-- one answer alone -/
theorem r_first_u {st : Nat} {op : Nat → Nat} {v w : Int32} (hkn : kn ≤ 6) (h1 : r_first tn wt kn st op v) (h2 : r_first tn wt kn st op w) : v = w := by
  obtain ⟨L0, a1, a2⟩ := h1
  obtain ⟨L1, b1, b2⟩ := h2
  have e := r_L_1 a1 b1
  subst e
  rcases a2 with ⟨e1, a2⟩ | ⟨k, hk, e1, c1, c2, c3, c4⟩
  · rcases b2 with ⟨e2, b2⟩ | ⟨k2, hk2, e2, d1, d2, d3, d4⟩
    · rw [e1, e2]
    · rcases a2 with a2 | a2 | a2
      · exact absurd a2 d1
      · exact absurd a2 d2
      · exact absurd d3 (a2 k2 hk2)
  · rcases b2 with ⟨e2, b2⟩ | ⟨k2, hk2, e2, d1, d2, d3, d4⟩
    · rcases b2 with b2 | b2 | b2
      · exact absurd b2 c1
      · exact absurd b2 c2
      · exact absurd c3 (b2 k hk)
    · by_cases q : k < k2
      · exact absurd c3 (d4 k q)
      · by_cases q2 : k2 < k
        · exact absurd d3 (c4 k2 q2)
        · rw [e1, e2, show k = k2 by omega]
end P5
section P5b
variable {tn tn2 : Nat → Nat → Prop} {wt wt2 : Nat → Nat → Nat} {kn : Nat}
theorem r_fw_c (ht : ∀ u k, k < kn → (tn u k ↔ tn2 u k)) (hw : ∀ u k, k < kn → wt u k = wt2 u k) {f : Nat} : ∀ (j : Nat) {s x : Nat}, r_fw tn wt kn f j s x ↔ r_fw tn2 wt2 kn f j s x
  | 0, s, x => Iff.rfl
  | j + 1, s, x => by
    constructor
    · rintro (h | ⟨u, a, h1, ⟨q, e1, e2, e3, e4, e5⟩, h3⟩)
      · exact Or.inl ((r_fw_c ht hw j).mp h)
      · exact Or.inr ⟨u, a, h1, ⟨q, e1, e2, (ht u q e1).mp e3, e4, by rw [← hw u q e1]; exact e5⟩, (r_fw_c ht hw j).mp h3⟩
    · rintro (h | ⟨u, a, h1, ⟨q, e1, e2, e3, e4, e5⟩, h3⟩)
      · exact Or.inl ((r_fw_c ht hw j).mpr h)
      · exact Or.inr ⟨u, a, h1, ⟨q, e1, e2, (ht u q e1).mpr e3, e4, by rw [hw u q e1]; exact e5⟩, (r_fw_c ht hw j).mpr h3⟩
theorem r_to_c (ht : ∀ u k, k < kn → (tn u k ↔ tn2 u k)) (hw : ∀ u k, k < kn → wt u k = wt2 u k) {st f x : Nat} : r_to tn wt kn st f x ↔ r_to tn2 wt2 kn st f x := by
  unfold r_to
  constructor
  · rintro ⟨s, a, b, j, c⟩
    exact ⟨s, a, b, j, (r_fw_c ht hw j).mp c⟩
  · rintro ⟨s, a, b, j, c⟩
    exact ⟨s, a, b, j, (r_fw_c ht hw j).mpr c⟩
theorem r_in_c (ht : ∀ u k, k < kn → (tn u k ↔ tn2 u k)) (hw : ∀ u k, k < kn → wt u k = wt2 u k) {st x : Nat} : r_in tn wt kn st x ↔ r_in tn2 wt2 kn st x := by
  unfold r_in
  constructor
  · rintro ⟨s, g1, g2, a, b, g3, ⟨j, g4⟩, i, g5⟩
    exact ⟨s, g1, g2, a, b, g3, ⟨j, (r_fw_c ht hw j).mp g4⟩, i, (r_fw_c ht hw i).mp g5⟩
  · rintro ⟨s, g1, g2, a, b, g3, ⟨j, g4⟩, i, g5⟩
    exact ⟨s, g1, g2, a, b, g3, ⟨j, (r_fw_c ht hw j).mpr g4⟩, i, (r_fw_c ht hw i).mpr g5⟩
theorem r_F_c (ht : ∀ u k, k < kn → (tn u k ↔ tn2 u k)) (hw : ∀ u k, k < kn → wt u k = wt2 u k) {st L0 k : Nat} {op op2 : Nat → Nat} (hk : k < kn) (ho : op k = op2 k) (h : r_F tn wt kn st op L0 k) : r_F tn2 wt2 kn st op2 L0 k := by
  obtain ⟨a, Lk, b, c⟩ := h
  exact ⟨(ht 0 k hk).mp a, Lk, r_L_imp b (fun x => r_to_c ht hw), by rw [← ho]; exact c⟩
theorem r_first_c (ht : ∀ u k, k < kn → (tn u k ↔ tn2 u k)) (hw : ∀ u k, k < kn → wt u k = wt2 u k) {st : Nat} {op op2 : Nat → Nat} (ho : ∀ k, k < kn → op k = op2 k) {v : Int32} (h : r_first tn wt kn st op v) : r_first tn2 wt2 kn st op2 v := by
  have ht' : ∀ u k, k < kn → (tn2 u k ↔ tn u k) := fun u k hk => (ht u k hk).symm
  have hw' : ∀ u k, k < kn → wt2 u k = wt u k := fun u k hk => (hw u k hk).symm
  obtain ⟨L0, h1, h2⟩ := h
  refine ⟨L0, r_L_imp h1 (fun x => r_to_c ht hw), ?_⟩
  rcases h2 with ⟨e, h2⟩ | ⟨k, hk, e, g1, g2, g3, g4⟩
  · refine Or.inl ⟨e, ?_⟩
    rcases h2 with h2 | h2 | h2
    · exact Or.inl h2
    · exact Or.inr (Or.inl h2)
    · exact Or.inr (Or.inr (fun k hk q => h2 k hk (r_F_c ht' hw' hk (ho k hk).symm q)))
  · exact Or.inr ⟨k, hk, e, g1, g2, r_F_c ht hw hk (ho k hk) g3, fun i hi q => g4 i hi (r_F_c ht' hw' (by omega) (ho i (by omega)).symm q)⟩
/-- the KNOTS of the class are those of the reference -/
def q_K (D : y_D) (W : Nat → Int32) : Prop := (D 90).1 2 = W 9 ∧ (D 73).1 13 = W 10 ∧ ∀ k c, k < q_n W 9 → c < 4 → (D 91).1 (k * 4 + c) = W (213 + 4 * k + c)
theorem q_K_c {D : y_D} {W : Nat → Int32} (h : q_K D W) {k c : Nat} (hk : k < q_n W 9) (hc : c < 4) : q_n (D 91).1 (k * 4 + c) = q_n W (213 + 4 * k + c) := by
  show ((D 91).1 (k * 4 + c)).toNatClampNeg = (W (213 + 4 * k + c)).toNatClampNeg
  rw [h.2.2 k c hk hc]
theorem q_K_n {D : y_D} {W : Nat → Int32} (h : q_K D W) : q_n (D 90).1 2 = q_n W 9 := by
  show ((D 90).1 2).toNatClampNeg = (W 9).toNatClampNeg
  rw [h.1]
theorem q_K_10 {D : y_D} {W : Nat → Int32} (h : q_K D W) : q_n (D 73).1 13 = q_n W 10 := by
  show ((D 73).1 13).toNatClampNeg = (W 10).toNatClampNeg
  rw [h.2.1]
theorem r_clr_b {s k j : Nat} : (r_clr s k).testBit j = true ↔ j ≠ k ∧ s.testBit j = true := by
  unfold r_clr
  by_cases q : s.testBit k = true
  · rw [if_pos q, Nat.testBit_xor, Nat.testBit_two_pow]
    by_cases e : k = j
    · subst e
      simp [q]
    · have e2 : j ≠ k := fun z => e z.symm
      simp [e, e2]
  · rw [if_neg q]
    constructor
    · intro h
      exact ⟨fun e => q (by rw [← e]; exact h), h⟩
    · exact fun h => h.2
theorem q_rs {D : y_D} {W : Nat → Int32} (h : q_K D W) {s k : Nat} : ∀ j, j ≤ q_n W 9 → m_rs W s k j = q_n (D 73).1 13 + r_sum (k_gv D) (r_clr s k) j
  | 0, _ => by
    rw [q_K_10 h]
    rfl
  | j + 1, hj => by
    have ih := q_rs h (s := s) (k := k) j (by omega)
    unfold m_rs r_sum
    rw [ih]
    have e : k_gv D j = q_n W (213 + 4 * j + 3) := by
      unfold k_gv
      rw [if_pos (by rw [q_K_n h]; omega)]
      exact q_K_c h (by omega) (by decide)
    by_cases q : j ≠ k ∧ s.testBit j = true
    · rw [if_pos q, if_pos (r_clr_b.mpr q), e]
      omega
    · rw [if_neg q, if_neg (fun z => q (r_clr_b.mp z))]
      omega
theorem q_rs6 {D : y_D} {s : Nat} : ∀ j, r_sum (k_gv D) s (q_n (D 90).1 2 + j) = r_sum (k_gv D) s (q_n (D 90).1 2)
  | 0 => rfl
  | j + 1 => by
    show r_sum (k_gv D) s (q_n (D 90).1 2 + j) + (if s.testBit (q_n (D 90).1 2 + j) = true then k_gv D (q_n (D 90).1 2 + j) else 0) = _
    rw [q_rs6 j]
    have e : k_gv D (q_n (D 90).1 2 + j) = 0 := by
      unfold k_gv
      rw [if_neg (by omega)]
    rw [e]
    split <;> rfl
theorem q_tn {D : y_D} {W : Nat → Int32} (h : q_K D W) (hK : k_BK D) {s k : Nat} (hk : k < q_n W 9) : k_tn D s k ↔ m_tn W s k := by
  have hn := q_K_n h
  have h6 : q_n (D 90).1 2 ≤ 6 := hK.1.1.2
  have e := q_rs6 (D := D) (s := r_clr s k) (6 - q_n (D 90).1 2)
  rw [show q_n (D 90).1 2 + (6 - q_n (D 90).1 2) = 6 by omega] at e
  unfold k_tn m_tn k_rS
  rw [q_rs h (q_n W 9) (Nat.le_refl _), e, hn, q_K_c h hk (by decide)]
theorem q_wt {D : y_D} {W : Nat → Int32} (h : q_K D W) {s k : Nat} (hk : k < q_n W 9) : k_kwt D s k = m_wt W s k := by
  unfold k_kwt m_wt
  rw [q_K_c h hk (by decide), q_K_c h hk (by decide)]
  rfl
theorem q_w1 {D : y_D} (hK : k_BK D) {u k : Nat} (hk : k < q_n (D 90).1 2) : 1 ≤ k_kwt D u k := by
  unfold k_kwt
  have := hK.2.2 k hk
  split
  · exact this.2.1.2
  · exact this.1.2
/-- out: one answer -/
theorem q_out {D : y_D} {W : Nat → Int32} (h : q_K D W) (hK : k_BK D) {st : Nat} {i9 v w : Int32}
    (h1 : (i9 = 0 ∧ (∃ L9, r_L (fun x => ∃ j, r_bw (k_tn D) (k_kwt D) (q_n (D 90).1 2) (r_c0 st) j 0 x) L9 ∧ v = r_an L9)) ∨ (¬ i9 = 0 ∧ (∃ c : Nat → Nat, (∀ s, s < 2 ^ q_n (D 90).1 2 → r_L (fun x => ∃ j, r_bw (k_tn D) (k_kwt D) (q_n (D 90).1 2) r_c1 j s x) (c s)) ∧ ∃ L9, r_L (fun x => ∃ j, r_bw (k_tn D) (k_kwt D) (q_n (D 90).1 2) (r_c2 st c) j 0 x) L9 ∧ v = r_an L9)))
    (h2 : ∃ L, (i9 = 0 ∧ r_L (r_to (m_tn W) (m_wt W) (q_n W 9) st 0) L ∧ w = r_an L) ∨ (¬ i9 = 0 ∧ r_L (r_in (m_tn W) (m_wt W) (q_n W 9) st) L ∧ w = r_an L)) : v = w := by
  have hn := q_K_n h
  rw [hn] at h1
  have h0 : 0 < 2 ^ q_n W 9 := Nat.pow_pos (by decide)
  have ht : ∀ u k, k < q_n W 9 → (k_tn D u k ↔ m_tn W u k) := fun u k hk => q_tn h hK hk
  have hw : ∀ u k, k < q_n W 9 → k_kwt D u k = m_wt W u k := fun u k hk => q_wt h hk
  obtain ⟨L, h2⟩ := h2
  rcases h1 with ⟨e1, L9, a1, a2⟩ | ⟨e1, c, a0, L9, a1, a2⟩
  · rcases h2 with ⟨_, b1, b2⟩ | ⟨e2, _⟩
    · have a3 := r_L_imp (r_L_lt a1 (fun x hx => r_to_iff h0 hx)) (fun x => r_to_c ht hw)
      rw [a2, b2, r_L_1 a3 b1]
    · exact absurd e1 e2
  · rcases h2 with ⟨e2, _⟩ | ⟨_, b1, b2⟩
    · exact absurd e2 e1
    · have a3 := r_L_imp (r_L_lt a1 (fun x hx => r_in_iff a0 hx)) (fun x => r_in_c ht hw)
      rw [a2, b2, r_L_1 a3 b1]
theorem q_first {D : y_D} {W : Nat → Int32} (h : q_K D W) (hK : k_BK D) {st : Nat} {v w : Int32}
    (h1 : ∃ c : Nat → Nat, (∀ s, s < 2 ^ q_n (D 90).1 2 → r_L (fun x => ∃ j, r_bw (k_tn D) (k_kwt D) (q_n (D 90).1 2) (r_c0 st) j s x) (c s)) ∧ ((v = -1 ∧ (c 0 = 0 ∨ c 0 = 1000000 ∨ ∀ k, k < q_n (D 90).1 2 → ¬ (q_n (D 91).1 (k * 4 + 2) ≤ k_rS D 0 ∧ q_n (D 91).1 (k * 4 + 0) + c (2 ^ k) = c 0))) ∨ ∃ k, k < q_n (D 90).1 2 ∧ v = nI k ∧ c 0 ≠ 0 ∧ c 0 ≠ 1000000 ∧ (q_n (D 91).1 (k * 4 + 2) ≤ k_rS D 0 ∧ q_n (D 91).1 (k * 4 + 0) + c (2 ^ k) = c 0) ∧ ∀ i, i < k → ¬ (q_n (D 91).1 (i * 4 + 2) ≤ k_rS D 0 ∧ q_n (D 91).1 (i * 4 + 0) + c (2 ^ i) = c 0)))
    (h2 : r_first (m_tn W) (m_wt W) (q_n W 9) st (fun k => q_n W (213 + 4 * k)) w) : v = w := by
  have hn := q_K_n h
  have h6 : q_n (D 90).1 2 ≤ 6 := hK.1.1.2
  have ez : ∀ k, r_clr 0 k = 0 := fun k => by
    unfold r_clr
    rw [if_neg (by rw [Nat.zero_testBit]; decide)]
  have e : ∀ k, (q_n (D 91).1 (k * 4 + 2) ≤ k_rS D 0) = k_tn D 0 k := fun k => by unfold k_tn; rw [ez]
  obtain ⟨c, a1, a2⟩ := h1
  simp only [e] at a2
  have g := r_first_iff (op := fun k => q_n (D 91).1 (k * 4 + 0)) (fun u k hk => q_w1 hK hk) (fun k hk => (hK.2.2 k hk).1.2) (fun k hk => (hK.2.2 k hk).1.1.2) a1 a2
  rw [hn] at g h6
  have g2 := r_first_c (op2 := fun k => q_n W (213 + 4 * k)) (fun u k hk => q_tn h hK hk) (fun u k hk => q_wt h hk) (fun k hk => q_K_c h hk (by decide)) g
  exact r_first_u h6 g2 h2
end P5b

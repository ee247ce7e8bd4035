/-! class and reference hold the same book -/
/-- x is a number of lo .. hi -/
def v_in (x : Int32) (lo hi : Nat) : Prop := ∃ n, x = nI n ∧ lo ≤ n ∧ n ≤ hi
theorem v_in_ok {W : Nat → Int32} {j lo hi : Nat} (h : v_in (W j) lo hi) (hh : hi < 2 ^ 31) : q_ok W j hi ∧ lo ≤ q_n W j := by
  obtain ⟨n, h1, h2, h3⟩ := h
  have := q_mk h1 h3 (by omega)
  exact ⟨this.1, by rw [this.2]; exact h2⟩
theorem q_ok_e {W W2 : Nat → Int32} {j j2 B : Nat} (h : W2 j2 = W j) (a : q_ok W j B) : q_ok W2 j2 B ∧ q_n W2 j2 = q_n W j := by
  have e : q_n W2 j2 = q_n W j := by unfold q_n; rw [h]
  exact ⟨⟨by rw [h, e]; exact a.1, by rw [e]; exact a.2⟩, e⟩
/-- a table: class and reference alike, its rows are as R says -/
def g_T (D : y_D) (W : Nat → Int32) (h cnt base wd mx : Nat) (R : (Nat → Int32) → Prop) : Prop := q_tb D W h cnt base wd ∧ q_ok W cnt mx ∧ ∀ k, k < q_n W cnt → R (fun c => W (base + wd * k + c))
def g_r0 (f : Nat → Int32) : Prop := v_in (f 0) 0 400 ∧ v_in (f 1) 0 400
def g_r3 (f : Nat → Int32) : Prop := v_in (f 0) 0 2 ∧ v_in (f 1) 0 2
def g_r4 (N : Nat) (f : Nat → Int32) : Prop := (∃ t, f 0 = nI t ∧ t ≤ 5 ∧ t < N) ∧ v_in (f 1) 0 300
def g_r5 (f : Nat → Int32) : Prop := v_in (f 0) 0 5 ∧ v_in (f 1) 1 9 ∧ v_in (f 2) 1 9
def g_r6 (f : Nat → Int32) : Prop := v_in (f 0) 1 99 ∧ (f 2 = -1 ∨ v_in (f 2) 0 7)
def g_r7 (N : Nat) (f : Nat → Int32) : Prop := ∃ t, f 0 = nI t ∧ t ≤ 4 ∧ t < N
def g_r8 (f : Nat → Int32) : Prop := v_in (f 0) 0 7 ∧ v_in (f 1) 0 7 ∧ v_in (f 2) 0 365
def g_r9 (f : Nat → Int32) : Prop := v_in (f 0) 1 99 ∧ v_in (f 1) 1 99 ∧ v_in (f 2) 0 50 ∧ v_in (f 3) 0 50
def g_RU (D : y_D) (L : List Nat) (W : Nat → Int32) : Prop := (D 73).1 2 = W 1 ∧ q_ok W 1 4 ∧ (∀ t, t < q_n W 1 → m_wr W t ∧ q_ru D W t) ∧ ∀ i, i < 4 → k_RU D L i
def g_WA (D : y_D) (L : List Nat) (W : Nat → Int32) : Prop := (D 73).1 4 = W 2 ∧ q_ok W 2 6 ∧ (∀ w, w < q_n W 2 → m_ww W (4 + w) ∧ q_wy D W w) ∧ ∀ i, i < 6 → k_WA D L i
def g_SC (D : y_D) (W : Nat → Int32) : Prop := (D 73).1 12 = W 11 ∧ q_ok W 11 255 ∧ (D 73).1 13 = W 10 ∧ q_ok W 10 50
def g_TB (D : y_D) (W : Nat → Int32) : Prop := g_T D W 74 0 12 2 8 g_r0 ∧ g_T D W 78 3 28 3 6 g_r3 ∧ g_T D W 80 4 46 2 10 (g_r4 (q_n W 3)) ∧ g_T D W 82 5 66 3 4 g_r5 ∧ g_T D W 84 6 78 3 5 g_r6 ∧ g_T D W 86 7 93 5 12 (g_r7 (q_n W 1)) ∧ g_T D W 88 8 153 3 20 g_r8 ∧ g_T D W 90 9 213 4 6 g_r9
/-- the whole book -/
def g_B (D : y_D) (L : List Nat) (W : Nat → Int32) : Prop := g_TB D W ∧ g_RU D L W ∧ g_WA D L W ∧ g_SC D W
section P25
variable {D : y_D} {L : List Nat} {W : Nat → Int32}
theorem g_T_n {h cnt base wd mx : Nat} {R : (Nat → Int32) → Prop} (a : g_T D W h cnt base wd mx R) : q_ok (D h).1 2 mx ∧ q_n (D h).1 2 = q_n W cnt := q_ok_e a.1.1 a.2.1
theorem g_T_e {h cnt base wd mx k c lo hi : Nat} {R : (Nat → Int32) → Prop} (a : g_T D W h cnt base wd mx R) (hk : k < q_n (D h).1 2) (hc : c < wd) (hh : hi < 2 ^ 31) (hv : v_in (W (base + wd * k + c)) lo hi) : q_ok (D (h + 1)).1 (k * wd + c) hi ∧ lo ≤ q_n (D (h + 1)).1 (k * wd + c) := by
  rw [(g_T_n a).2] at hk
  have e := a.1.2.2 k c hk hc
  have := v_in_ok hv hh
  have z := q_ok_e e this.1
  exact ⟨z.1, by rw [z.2]; exact this.2⟩
theorem g_k_B (h : g_B D L W) : k_B D L := by
  obtain ⟨⟨t0, t3, t4, t5, t6, t7, t8, t9⟩, r, w, s⟩ := h
  refine ⟨(q_ok_e r.1 r.2.1).1, (q_ok_e w.1 w.2.1).1, ⟨(g_T_n t0).1, t0.1.2.1⟩, ⟨(g_T_n t3).1, t3.1.2.1⟩, ⟨(g_T_n t4).1, t4.1.2.1⟩, r.2.2.2, w.2.2.2, fun i hi => ?_, fun i hi => ?_, fun i hi => ?_⟩
  · have hi2 : i < q_n W 4 := by rw [← (g_T_n t4).2]; exact hi
    obtain ⟨⟨t, a1, a2, a3⟩, a4⟩ := t4.2.2 i hi2
    exact ⟨(g_T_e (lo := 0) t4 hi (by decide) (by decide) ⟨t, a1, by omega, a2⟩).1, (g_T_e t4 hi (by decide) (by decide) a4).1⟩
  · have hi2 : i < q_n W 0 := by rw [← (g_T_n t0).2]; exact hi
    exact (g_T_e t0 hi (by decide) (by decide) (t0.2.2 i hi2).1).1
  · have hi2 : i < q_n W 3 := by rw [← (g_T_n t3).2]; exact hi
    obtain ⟨a1, a2⟩ := t3.2.2 i hi2
    exact ⟨(g_T_e t3 hi (by decide) (by decide) a1).1, (g_T_e t3 hi (by decide) (by decide) a2).1⟩
theorem g_k_BO (h : g_B D L W) : k_BO D := by
  obtain ⟨⟨t0, t3, t4, t5, t6, t7, t8, t9⟩, r, w, s⟩ := h
  refine ⟨⟨(g_T_n t5).1, t5.1.2.1⟩, ⟨(g_T_n t6).1, t6.1.2.1⟩, ⟨(g_T_n t7).1, t7.1.2.1⟩, fun i hi => ?_, fun i hi => ?_, fun i hi => ?_⟩
  · have hi2 : i < q_n W 5 := by rw [← (g_T_n t5).2]; exact hi
    obtain ⟨a1, a2, a3⟩ := t5.2.2 i hi2
    exact ⟨(g_T_e t5 hi (by decide) (by decide) a1).1, g_T_e t5 hi (by decide) (by decide) a2, g_T_e t5 hi (by decide) (by decide) a3⟩
  · have hi2 : i < q_n W 6 := by rw [← (g_T_n t6).2]; exact hi
    obtain ⟨a1, a2⟩ := t6.2.2 i hi2
    refine ⟨g_T_e t6 hi (by decide) (by decide) a1, ?_⟩
    rcases a2 with a2 | a2
    · exact Or.inl ((t6.1.2.2 i 2 hi2 (by decide)).trans a2)
    · exact Or.inr (g_T_e t6 hi (by decide) (by decide) a2).1
  · have hi2 : i < q_n W 7 := by rw [← (g_T_n t7).2]; exact hi
    obtain ⟨t, a1, a2, a3⟩ := t7.2.2 i hi2
    have e : (D 87).1 (i * 5 + 0) = nI t := (t7.1.2.2 i 0 hi2 (by decide)).trans a1
    have q := q_mk e a2 (by omega)
    exact ⟨q.1.1, by rw [q.2, (q_ok_e r.1 r.2.1).2]; exact a3⟩
theorem g_k_BT (h : g_B D L W) : k_BT D := by
  obtain ⟨⟨t0, t3, t4, t5, t6, t7, t8, t9⟩, r, w, s⟩ := h
  refine ⟨⟨(g_T_n t8).1, t8.1.2.1⟩, (q_ok_e s.1 s.2.1).1, fun i hi => ?_⟩
  have hi2 : i < q_n W 8 := by rw [← (g_T_n t8).2]; exact hi
  obtain ⟨a1, a2, a3⟩ := t8.2.2 i hi2
  exact ⟨(g_T_e t8 hi (by decide) (by decide) a1).1, (g_T_e t8 hi (by decide) (by decide) a2).1, (g_T_e t8 hi (by decide) (by decide) a3).1⟩
theorem g_k_BK (h : g_B D L W) : k_BK D := by
  obtain ⟨⟨t0, t3, t4, t5, t6, t7, t8, t9⟩, r, w, s⟩ := h
  refine ⟨⟨(g_T_n t9).1, t9.1.2.1⟩, (q_ok_e s.2.2.1 s.2.2.2).1, fun i hi => ?_⟩
  have hi2 : i < q_n W 9 := by rw [← (g_T_n t9).2]; exact hi
  obtain ⟨a1, a2, a3, a4⟩ := t9.2.2 i hi2
  exact ⟨g_T_e t9 hi (by decide) (by decide) a1, g_T_e t9 hi (by decide) (by decide) a2, (g_T_e t9 hi (by decide) (by decide) a3).1, (g_T_e t9 hi (by decide) (by decide) a4).1⟩
theorem g_m_W (h : g_B D L W) : m_W W := by
  obtain ⟨⟨t0, t3, t4, t5, t6, t7, t8, t9⟩, r, w, s⟩ := h
  refine ⟨t0.2.1, r.2.1, w.2.1, t3.2.1, t4.2.1, fun t ht => (r.2.2.1 t ht).1, fun t ht => (w.2.2.1 t ht).1, fun j hj => ?_⟩
  obtain ⟨⟨t, a1, a2, a3⟩, a4⟩ := t4.2.2 j hj
  exact ⟨(v_in_ok (lo := 0) (j := 46 + 2 * j) ⟨t, a1, by omega, a2⟩ (by decide)).1, (v_in_ok (j := 46 + 2 * j + 1) a4 (by decide)).1⟩
theorem g_m_WO (h : g_B D L W) : m_WO W := by
  obtain ⟨⟨t0, t3, t4, t5, t6, t7, t8, t9⟩, r, w, s⟩ := h
  refine ⟨t5.2.1, t6.2.1, t7.2.1, fun i hi => ?_, fun i hi => ?_, fun i hi => ?_⟩
  · obtain ⟨a1, a2, a3⟩ := t5.2.2 i hi
    exact ⟨(v_in_ok (j := 66 + 3 * i) a1 (by decide)).1, v_in_ok (j := 66 + 3 * i + 1) a2 (by decide), v_in_ok (j := 66 + 3 * i + 2) a3 (by decide)⟩
  · obtain ⟨a1, a2⟩ := t6.2.2 i hi
    refine ⟨v_in_ok (j := 78 + 3 * i) a1 (by decide), ?_⟩
    rcases a2 with a2 | a2
    · exact Or.inl a2
    · exact Or.inr (v_in_ok (j := 78 + 3 * i + 2) a2 (by decide)).1
  · obtain ⟨t, a1, a2, a3⟩ := t7.2.2 i hi
    have q := q_mk (W := W) (j := 93 + 5 * i) a1 a2 (by omega)
    exact ⟨q.1.1, by rw [q.2]; exact a3⟩
theorem g_m_WT (h : g_B D L W) : m_WT W := by
  obtain ⟨⟨t0, t3, t4, t5, t6, t7, t8, t9⟩, r, w, s⟩ := h
  refine ⟨t8.2.1, s.2.1, fun i hi => ?_⟩
  obtain ⟨a1, a2, a3⟩ := t8.2.2 i hi
  exact ⟨(v_in_ok (j := 153 + 3 * i) a1 (by decide)).1, (v_in_ok (j := 153 + 3 * i + 1) a2 (by decide)).1, (v_in_ok (j := 153 + 3 * i + 2) a3 (by decide)).1⟩
theorem g_m_WK (h : g_B D L W) : m_WK W := by
  obtain ⟨⟨t0, t3, t4, t5, t6, t7, t8, t9⟩, r, w, s⟩ := h
  refine ⟨t9.2.1, s.2.2.2, fun i hi => ?_⟩
  obtain ⟨a1, a2, a3, a4⟩ := t9.2.2 i hi
  exact ⟨(v_in_ok (j := 213 + 4 * i) a1 (by decide)).1, (v_in_ok (j := 213 + 4 * i + 1) a2 (by decide)).1, (v_in_ok (j := 213 + 4 * i + 2) a3 (by decide)).1, (v_in_ok (j := 213 + 4 * i + 3) a4 (by decide)).1⟩
theorem g_q_A (h : g_B D L W) : q_A D W := by
  obtain ⟨⟨t0, t3, t4, t5, t6, t7, t8, t9⟩, r, w, s⟩ := h
  refine ⟨⟨t0.1, fun k c hk hc => ?_⟩, t3.1, t4.1, ⟨r.1, fun t ht => (r.2.2.1 t ht).2⟩, w.1, fun t ht => (w.2.2.1 t ht).2⟩
  obtain ⟨a1, a2⟩ := t0.2.2 k hk
  by_cases q : c = 0
  · rw [q]
    exact (v_in_ok (j := 12 + 2 * k + 0) a1 (by decide)).1
  · rw [show c = 1 by omega]
    exact (v_in_ok (j := 12 + 2 * k + 1) a2 (by decide)).1
theorem g_q_O (h : g_B D L W) : q_O D W := ⟨h.1.2.2.2.1.1, h.1.2.2.2.2.1.1, h.1.2.2.2.2.2.1.1⟩
theorem g_q_D (h : g_B D L W) : q_D D W := ⟨h.1.2.2.2.2.2.2.1.1, h.2.2.2.1⟩
theorem g_q_K (h : g_B D L W) : q_K D W := ⟨h.1.2.2.2.2.2.2.2.1.1, h.2.2.2.2.2.1, h.1.2.2.2.2.2.2.2.1.2.2⟩
theorem g_q_N (h : g_B D L W) : q_N W := by
  intro j hj
  obtain ⟨⟨t, a1, a2, a3⟩, a4⟩ := h.1.2.2.1.2.2 j hj
  have q := q_mk (W := W) (j := 46 + 2 * j) a1 a2 (by omega)
  rw [q.2]
  exact a3
end P25

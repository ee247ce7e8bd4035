/-! the book alike: what stays when other things change, a row more -/
section P26
variable {D D2 : y_D} {L L2 : List Nat} {W W2 : Nat → Int32}
/-- R looks at wd numbers alone, and R2 follows -/
def g_cg (wd : Nat) (R R2 : (Nat → Int32) → Prop) : Prop := ∀ f g : Nat → Int32, (∀ c, c < wd → g c = f c) → R f → R2 g
theorem g_cg0 : g_cg 2 g_r0 g_r0 := fun f g h a => ⟨by rw [h 0 (by decide)]; exact a.1, by rw [h 1 (by decide)]; exact a.2⟩
theorem g_cg3 : g_cg 3 g_r3 g_r3 := fun f g h a => ⟨by rw [h 0 (by decide)]; exact a.1, by rw [h 1 (by decide)]; exact a.2⟩
theorem g_cg4 {N N2 : Nat} (hN : N ≤ N2) : g_cg 2 (g_r4 N) (g_r4 N2) := fun f g h a => by
  obtain ⟨⟨t, a1, a2, a3⟩, a4⟩ := a
  exact ⟨⟨t, by rw [h 0 (by decide)]; exact a1, a2, by omega⟩, by rw [h 1 (by decide)]; exact a4⟩
theorem g_cg5 : g_cg 3 g_r5 g_r5 := fun f g h a => ⟨by rw [h 0 (by decide)]; exact a.1, by rw [h 1 (by decide)]; exact a.2.1, by rw [h 2 (by decide)]; exact a.2.2⟩
theorem g_cg6 : g_cg 3 g_r6 g_r6 := fun f g h a => ⟨by rw [h 0 (by decide)]; exact a.1, by rw [h 2 (by decide)]; exact a.2⟩
theorem g_cg7 {N N2 : Nat} (hN : N ≤ N2) : g_cg 5 (g_r7 N) (g_r7 N2) := fun f g h a => by
  obtain ⟨t, a1, a2, a3⟩ := a
  exact ⟨t, by rw [h 0 (by decide)]; exact a1, a2, by omega⟩
theorem g_cg8 : g_cg 3 g_r8 g_r8 := fun f g h a => ⟨by rw [h 0 (by decide)]; exact a.1, by rw [h 1 (by decide)]; exact a.2.1, by rw [h 2 (by decide)]; exact a.2.2⟩
theorem g_cg9 : g_cg 4 g_r9 g_r9 := fun f g h a => ⟨by rw [h 0 (by decide)]; exact a.1, by rw [h 1 (by decide)]; exact a.2.1, by rw [h 2 (by decide)]; exact a.2.2.1, by rw [h 3 (by decide)]; exact a.2.2.2⟩
theorem v_kw {k mx wd c : Nat} (hk : k < mx) (hc : c < wd) : k * wd + c < mx * wd := by
  have : (k + 1) * wd ≤ mx * wd := Nat.mul_le_mul (by omega) (Nat.le_refl _)
  rw [Nat.add_mul] at this
  omega
theorem g_T_fr {h cnt base wd mx : Nat} {R R2 : (Nat → Int32) → Prop} (a : g_T D W h cnt base wd mx R) (h1 : (D2 h).1 2 = (D h).1 2) (h2 : (D2 h).1 0 = (D h).1 0) (h3 : ∀ j, j < mx * wd → (D2 (h + 1)).1 j = (D (h + 1)).1 j) (h4 : W2 cnt = W cnt) (h5 : ∀ j, j < mx * wd → W2 (base + j) = W (base + j)) (hR : g_cg wd R R2) : g_T D2 W2 h cnt base wd mx R2 := by
  obtain ⟨⟨a1, a2, a3⟩, a4, a5⟩ := a
  have q := q_ok_e h4 a4
  refine ⟨⟨by rw [h1, h4]; exact a1, by rw [h2]; exact a2, fun k c hk hc => ?_⟩, q.1, fun k hk => ?_⟩
  · rw [q.2] at hk
    have hj := v_kw (Nat.lt_of_lt_of_le hk a4.2) hc
    have e2 := h5 _ hj
    rw [h3 _ hj, a3 k c hk hc, show base + wd * k + c = base + (k * wd + c) by rw [Nat.mul_comm k wd]; omega, e2]
  · rw [q.2] at hk
    refine hR _ _ (fun c hc => ?_) (a5 k hk)
    have hj := v_kw (Nat.lt_of_lt_of_le hk a4.2) hc
    have e2 := h5 _ hj
    show W2 (base + wd * k + c) = W (base + wd * k + c)
    rw [show base + wd * k + c = base + (k * wd + c) by rw [Nat.mul_comm k wd]; omega, e2]
theorem g_T_add {h cnt base wd mx k : Nat} {R R2 : (Nat → Int32) → Prop} {f : Nat → Int32} (a : g_T D W h cnt base wd mx R) (hk : q_n W cnt = k) (hm : k < mx) (hmx : mx < 1000) (h1 : (D2 h).1 2 = nI (k + 1)) (h2 : (D2 h).1 0 = (D h).1 0) (h3 : ∀ j, j < k * wd → (D2 (h + 1)).1 j = (D (h + 1)).1 j) (h3' : ∀ c, c < wd → (D2 (h + 1)).1 (k * wd + c) = f c) (h4 : W2 cnt = nI (k + 1)) (h5 : ∀ j, j < k * wd → W2 (base + j) = W (base + j)) (h5' : ∀ c, c < wd → W2 (base + wd * k + c) = f c) (hf : R2 f) (hR : g_cg wd R R2) (hR2 : g_cg wd R2 R2) : g_T D2 W2 h cnt base wd mx R2 := by
  obtain ⟨⟨a1, a2, a3⟩, a4, a5⟩ := a
  have q := q_mk (B := mx) h4 (by omega) (by omega)
  refine ⟨⟨by rw [h1, h4], by rw [h2]; exact a2, fun i c hi hc => ?_⟩, q.1, fun i hi => ?_⟩
  · rw [q.2] at hi
    by_cases z : i = k
    · rw [z, h3' c hc, h5' c hc]
    · have hj := v_kw (k := i) (mx := k) (by omega) hc
      have e2 := h5 _ hj
      rw [h3 _ hj, a3 i c (by omega) hc, show base + wd * i + c = base + (i * wd + c) by rw [Nat.mul_comm i wd]; omega, e2]
  · rw [q.2] at hi
    by_cases z : i = k
    · rw [z]
      exact hR2 f _ h5' hf
    · refine hR _ _ (fun c hc => ?_) (a5 i (by omega))
      have hj := v_kw (k := i) (mx := k) (by omega) hc
      have e2 := h5 _ hj
      show W2 (base + wd * i + c) = W (base + wd * i + c)
      rw [show base + wd * i + c = base + (i * wd + c) by rw [Nat.mul_comm i wd]; omega, e2]
/-! a text of the reference that stays -/
theorem v_mo_s {t : Nat} (h : ∀ j, 237 + 851 * t ≤ j → j < 237 + 851 * t + 851 → W2 j = W j) {i j : Nat} (hi : i < 10) (hj : j < 5) : W2 (237 + 851 * t + 1 + 5 * i + j) = W (237 + 851 * t + 1 + 5 * i + j) ∧ m_o W2 t i j = m_o W t i j := by
  have e := h (237 + 851 * t + 1 + 5 * i + j) (by omega) (by omega)
  exact ⟨e, by unfold m_o q_n; rw [e]⟩
theorem m_wr_c {t : Nat} (h : ∀ j, 237 + 851 * t ≤ j → j < 237 + 851 * t + 851 → W2 j = W j) (a : m_wr W t) : m_wr W2 t ∧ m_k W2 t = m_k W t := by
  obtain ⟨a1, a2⟩ := a
  have q := q_ok_e (h (237 + 851 * t) (by omega) (by omega)) a1
  refine ⟨⟨q.1, fun i hi => ?_⟩, q.2⟩
  have hi2 : i < m_k W t := Nat.lt_of_lt_of_eq hi q.2
  have h10 : i < 10 := Nat.lt_of_lt_of_le hi2 a1.2
  obtain ⟨b1, b2, b3, b4, b5, b6, b7⟩ := a2 i hi2
  have o0 := v_mo_s h h10 (j := 0) (by decide)
  have o1 := v_mo_s h h10 (j := 1) (by decide)
  have o2 := v_mo_s h h10 (j := 2) (by decide)
  refine ⟨(q_ok_e o0.1 b1).1, (q_ok_e o1.1 b2).1, (q_ok_e o2.1 b3).1, ?_, ?_, ?_, ?_⟩
  · rw [o0.2, o1.2]
    exact b4
  · rw [o0.2, o2.2]
    exact b5
  · rw [o0.2, o2.2]
    exact b6
  · rw [o0.2, o1.2]
    exact b7
theorem m_ww_c {t : Nat} (h : ∀ j, 237 + 851 * t ≤ j → j < 237 + 851 * t + 851 → W2 j = W j) (a : m_ww W t) : m_ww W2 t ∧ m_k W2 t = m_k W t ∧ ∀ i, i < m_k W t → m_o W t i 0 = 3 → m_sl W2 t (m_o W2 t i 4 - m_o W2 t i 3) (m_o W2 t i 3) = m_sl W t (m_o W t i 4 - m_o W t i 3) (m_o W t i 3) := by
  obtain ⟨a1, a2⟩ := a
  have q := q_ok_e (h (237 + 851 * t) (by omega) (by omega)) a1
  have hs : ∀ i, i < m_k W t → m_o W t i 0 = 3 → m_sl W2 t (m_o W2 t i 4 - m_o W2 t i 3) (m_o W2 t i 3) = m_sl W t (m_o W t i 4 - m_o W t i 3) (m_o W t i 3) := by
    intro i hi h3
    have h10 : i < 10 := Nat.lt_of_lt_of_le hi a1.2
    obtain ⟨-, -, -, -, -, b6⟩ := a2 i hi
    obtain ⟨c1, c2, c3, c4, c5⟩ := b6 h3
    have c2' : m_o W t i 4 ≤ 400 := c2.2
    rw [(v_mo_s h h10 (j := 3) (by decide)).2, (v_mo_s h h10 (j := 4) (by decide)).2]
    exact v_mlt _ _ (fun o o1 o2 => h _ (by omega) (by omega))
  refine ⟨⟨q.1, fun i hi => ?_⟩, q.2, hs⟩
  have hi2 : i < m_k W t := Nat.lt_of_lt_of_eq hi q.2
  have h10 : i < 10 := Nat.lt_of_lt_of_le hi2 a1.2
  obtain ⟨b1, b2, b3, b4, b5, b6⟩ := a2 i hi2
  have o0 := v_mo_s h h10 (j := 0) (by decide)
  have o1 := v_mo_s h h10 (j := 1) (by decide)
  have o3 := v_mo_s h h10 (j := 3) (by decide)
  have o4 := v_mo_s h h10 (j := 4) (by decide)
  refine ⟨(q_ok_e o0.1 b1).1, (q_ok_e o1.1 b2).1, ?_, ?_, ?_, fun h3 => ?_⟩
  · rw [o0.2, o1.2]
    exact b3
  · rw [o0.2, o1.2]
    exact b4
  · rw [o0.2, o1.2]
    exact b5
  · rw [o0.2] at h3
    obtain ⟨c1, c2, c3, c4, c5⟩ := b6 h3
    have c2' : m_o W t i 4 ≤ 400 := c2.2
    refine ⟨(q_ok_e o3.1 c1).1, (q_ok_e o4.1 c2).1, by rw [o3.2, o4.2]; exact c3, fun j j1 j2 => ?_, by rw [hs i hi2 h3]; exact c5⟩
    rw [o3.2] at j1
    rw [o4.2] at j2
    have z := c4 j j1 j2
    have w1 := h (237 + 851 * t + 51 + 2 * j) (by omega) (by omega)
    have w2 := h (237 + 851 * t + 51 + 2 * j + 1) (by omega) (by omega)
    unfold m_ws q_ok q_n at z ⊢
    rw [w1, w2]
    exact z
theorem g_rh {i : Nat} (a : k_RU D L i) (h2 : (D2 76).2.2.1 i = (D 76).2.2.1 i) (h3 : ∀ h, h ∈ L → y_dh h → D2 h = D h) : k_rh D2 i = k_rh D i ∧ D2 (k_rh D i) = D (k_rh D i) ∧ k_rr D2 i = k_rr D i ∧ D2 (k_rr D i) = D (k_rr D i) := by
  have e1 : k_rh D2 i = k_rh D i := by
    show ((D2 76).2.2.1 i).getD 0 = _
    rw [h2]
  have e2 := h3 _ a.2.1 a.2.2.1
  have e3 : k_rr D2 i = k_rr D i := by
    show ((D2 (k_rh D2 i)).2.2.1 0).getD 0 = _
    rw [e1, e2]
  exact ⟨e1, e2, e3, h3 _ a.2.2.2.2.2.1 a.2.2.2.2.2.2.1⟩
theorem k_RU_fr {i : Nat} (a : k_RU D L i) (h2 : (D2 76).2.2.1 i = (D 76).2.2.1 i) (h3 : ∀ h, h ∈ L → y_dh h → D2 h = D h) (h4 : ∀ h, h ∈ L → h ∈ L2) : k_RU D2 L2 i ∧ k_rt D2 i = k_rt D i ∧ k_rm D2 i = k_rm D i := by
  obtain ⟨e1, e2, e3, e4⟩ := g_rh a h2 h3
  have et : k_rt D2 i = k_rt D i := by
    show (D2 (k_rr D2 i)).1 = _
    rw [e3, e4]
  have em : k_rm D2 i = k_rm D i := by
    show (D2 (k_rr D2 i)).2.2.2.2 / 3 = _
    rw [e3, e4]
  obtain ⟨a1, a2, a3, a4, a5, a6, a7, a8, a9, a10, a11⟩ := a
  refine ⟨⟨by rw [h2, e1]; exact a1, by rw [e1]; exact h4 _ a2, by rw [e1]; exact a3, by rw [e1, e2]; exact a4, by rw [e1, e2, e3]; exact a5, by rw [e3]; exact h4 _ a6, by rw [e3]; exact a7, by rw [e3, e4]; exact a8, by rw [em, e3, e4]; exact a9, by rw [em]; exact a10, by rw [et, em]; exact a11⟩, et, em⟩
theorem g_RU_fr (a : g_RU D L W) (h1 : (D2 73).1 2 = (D 73).1 2) (h2 : ∀ i, i < 4 → (D2 76).2.2.1 i = (D 76).2.2.1 i) (h3 : ∀ h, h ∈ L → y_dh h → D2 h = D h) (h4 : ∀ h, h ∈ L → h ∈ L2) (h5 : W2 1 = W 1) (h6 : ∀ j, 237 ≤ j → j < 3641 → W2 j = W j) : g_RU D2 L2 W2 := by
  obtain ⟨a1, a2, a3, a4⟩ := a
  have q := q_ok_e h5 a2
  refine ⟨by rw [h1, h5]; exact a1, q.1, fun t ht => ?_, fun i hi => (k_RU_fr (a4 i hi) (h2 i hi) h3 h4).1⟩
  rw [q.2] at ht
  have ht4 : t < 4 := Nat.lt_of_lt_of_le ht a2.2
  obtain ⟨b1, b2⟩ := a3 t ht
  have hh : ∀ j, 237 + 851 * t ≤ j → j < 237 + 851 * t + 851 → W2 j = W j := fun j j1 j2 => h6 j (by omega) (by omega)
  have c := m_wr_c hh b1
  obtain ⟨-, et, em⟩ := k_RU_fr (L2 := L2) (a4 t ht4) (h2 t ht4) h3 h4
  refine ⟨c.1, by rw [em, c.2]; exact b2.1, fun i hi => ?_⟩
  rw [c.2] at hi
  have h10 : i < 10 := Nat.lt_of_lt_of_le hi b1.1.2
  rw [et, (v_mo_s hh h10 (j := 0) (by decide)).2, (v_mo_s hh h10 (j := 1) (by decide)).2, (v_mo_s hh h10 (j := 2) (by decide)).2]
  exact b2.2 i hi
theorem g_wh {i : Nat} (a : k_WA D L i) (h2 : (D2 77).2.2.1 i = (D 77).2.2.1 i) (h3 : ∀ h, h ∈ L → y_dh h → D2 h = D h) : k_wh D2 i = k_wh D i ∧ D2 (k_wh D i) = D (k_wh D i) ∧ k_wr D2 i = k_wr D i ∧ D2 (k_wr D i) = D (k_wr D i) := by
  have e1 : k_wh D2 i = k_wh D i := by
    show ((D2 77).2.2.1 i).getD 0 = _
    rw [h2]
  have e2 := h3 _ a.2.1 a.2.2.1
  have e3 : k_wr D2 i = k_wr D i := by
    show ((D2 (k_wh D2 i)).2.2.1 0).getD 0 = _
    rw [e1, e2]
  exact ⟨e1, e2, e3, h3 _ a.2.2.2.2.2.1 a.2.2.2.2.2.2.1⟩
theorem k_WA_fr {i : Nat} (a : k_WA D L i) (h2 : (D2 77).2.2.1 i = (D 77).2.2.1 i) (h3 : ∀ h, h ∈ L → y_dh h → D2 h = D h) (h4 : ∀ h, h ∈ L → h ∈ L2) : k_WA D2 L2 i ∧ k_wt D2 i = k_wt D i ∧ k_wl D2 i = k_wl D i ∧ D2 (k_wh D2 i) = D (k_wh D i) := by
  obtain ⟨e1, e2, e3, e4⟩ := g_wh a h2 h3
  have et : k_wt D2 i = k_wt D i := by
    show (D2 (k_wr D2 i)).1 = _
    rw [e3, e4]
  have em : k_wl D2 i = k_wl D i := by
    show (D2 (k_wr D2 i)).2.2.2.2 = _
    rw [e3, e4]
  have eh : D2 (k_wh D2 i) = D (k_wh D i) := by rw [e1, e2]
  obtain ⟨a1, a2, a3, a4, a5, a6, a7, a8, a9, a10, a11, a12⟩ := a
  refine ⟨⟨by rw [h2, e1]; exact a1, by rw [e1]; exact h4 _ a2, by rw [e1]; exact a3, by rw [eh]; exact a4, by rw [eh, e3]; exact a5, by rw [e3]; exact h4 _ a6, by rw [e3]; exact a7, by rw [e3, e4]; exact a8, by rw [em]; exact a9, by rw [et, em]; exact a10, by rw [et, em]; exact a11, by rw [eh]; exact a12⟩, et, em, eh⟩
theorem g_WA_fr (a : g_WA D L W) (h1 : (D2 73).1 4 = (D 73).1 4) (h2 : ∀ i, i < 6 → (D2 77).2.2.1 i = (D 77).2.2.1 i) (h3 : ∀ h, h ∈ L → y_dh h → D2 h = D h) (h4 : ∀ h, h ∈ L → h ∈ L2) (h5 : W2 2 = W 2) (h6 : ∀ j, 3641 ≤ j → j < 8747 → W2 j = W j) : g_WA D2 L2 W2 := by
  obtain ⟨a1, a2, a3, a4⟩ := a
  have q := q_ok_e h5 a2
  refine ⟨by rw [h1, h5]; exact a1, q.1, fun t ht => ?_, fun i hi => (k_WA_fr (a4 i hi) (h2 i hi) h3 h4).1⟩
  rw [q.2] at ht
  have ht6 : t < 6 := Nat.lt_of_lt_of_le ht a2.2
  obtain ⟨b1, b2⟩ := a3 t ht
  have hh : ∀ j, 237 + 851 * (4 + t) ≤ j → j < 237 + 851 * (4 + t) + 851 → W2 j = W j := fun j j1 j2 => h6 j (by omega) (by omega)
  have c := m_ww_c hh b1
  obtain ⟨-, et, em, eh⟩ := k_WA_fr (L2 := L2) (a4 t ht6) (h2 t ht6) h3 h4
  have ho : ∀ i, i < m_k W (4 + t) → m_o W2 (4 + t) i 0 = m_o W (4 + t) i 0 ∧ m_o W2 (4 + t) i 1 = m_o W (4 + t) i 1 := fun i hi => by
    have h10 : i < 10 := Nat.lt_of_lt_of_le hi b1.1.2
    exact ⟨(v_mo_s hh h10 (j := 0) (by decide)).2, (v_mo_s hh h10 (j := 1) (by decide)).2⟩
  refine ⟨c.1, ?_, ?_, ?_, ?_⟩
  · rw [eh, b2.1]
    show nI (m_fb W (4 + t) (m_k W (4 + t))) = nI (m_fb W2 (4 + t) (m_k W2 (4 + t)))
    rw [c.2.1, m_fb_c _ ho]
  · rw [eh, b2.2.1]
    show nI (m_lst W (4 + t) 1 1 (m_k W (4 + t))) = nI (m_lst W2 (4 + t) 1 1 (m_k W2 (4 + t)))
    rw [c.2.1, m_lst_c _ ho]
  · rw [eh, b2.2.2.1]
    show nI (m_lst W (4 + t) 2 0 (m_k W (4 + t))) = nI (m_lst W2 (4 + t) 2 0 (m_k W2 (4 + t)))
    rw [c.2.1, m_lst_c _ ho]
  · rw [et, em]
    intro DS DL x f hl hE hx hf
    refine (b2.2.2.2 DS DL x f hl hE hx hf).trans ?_
    rw [c.2.1]
    constructor
    · intro z i hi h3
      rw [(ho i hi).1] at h3
      rw [c.2.2 i hi h3]
      exact z i hi h3
    · intro z i hi h3
      have := z i hi (by rw [(ho i hi).1]; exact h3)
      rw [c.2.2 i hi h3] at this
      exact this
end P26

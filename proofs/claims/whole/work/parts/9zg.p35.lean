/-! rule and way: class and reference alike -/
section P35
variable {D : y_D} {L : List Nat} {n : Nat} {W W2 : Nat → Int32}
theorem g_B_ext {D2 : y_D} {L2 : List Nat} (a : g_B D L W) (h : ∀ j, 73 ≤ j ∧ j < 92 → D2 j = D j) (hd : ∀ j, j ∈ L → y_dh j → D2 j = D j) (hl : ∀ j, j ∈ L → j ∈ L2) : g_B D2 L2 W := by
  obtain ⟨t, r, w, s⟩ := a
  have e73 := h 73 (by decide)
  have e76 := h 76 (by decide)
  have e77 := h 77 (by decide)
  refine ⟨g_TB_eq t h, g_RU_fr r (by rw [e73]) (fun i _ => by rw [e76]) hd hl rfl (fun _ _ _ => rfl), g_WA_fr w (by rw [e73]) (fun i _ => by rw [e77]) hd hl rfl (fun _ _ _ => rfl), ?_⟩
  unfold g_SC at s ⊢
  rw [e73]
  exact s
/-- behind a reading -/
theorem g_G_rd {T : y_D} {L2 : List Nat} {n2 : Nat} (G : g_G n L D) (hL2 : y_ok L2) (hn : n ≤ n2) (hlt : ∀ h, h ∈ L2 → h < n2) (hsub : ∀ h, h ∈ L → h ∈ L2) (hB : g_B T L2 (T 170).1) (hC : k_CI T) (h1 : (T 64).1 1 = nI 0) (h2 : (T 64).1 5 = (D 64).1 5) (h3 : T 65 = D 65) (h4 : T 172 = D 172) (h5 : (T 66).1 2 = (T 169).1 10) (h6 : (T 169).1 5 = nI 0) (h7 : (T 169).1 3 = (D 169).1 3) (hf : ∀ j, (112 ≤ j ∧ j < 131) ∨ j = 171 → T j = D j) (hd : ∀ j, j ∈ L → y_dh j → T j = D j) : g_G n2 L2 T := by
  obtain ⟨⟨g1, g2, g3⟩, g4, g5, g6, g7, g8, g9, g10, g11, gk⟩ := G
  refine ⟨⟨hL2, by omega, hlt⟩, hB, hC, ⟨0, by decide, h1, h6⟩, by rw [h3, h4]; exact g7, h5, ?_, y_rq_eq g10 (hf 115 (by decide)) hd hsub, y_rq_eq g11 (hf 116 (by decide)) hd hsub, ?_⟩
  · rw [h2, h7, hf 171 (by decide)]
    rcases g9 with g9 | ⟨q1, q2, q3⟩
    · exact Or.inl g9
    · refine Or.inr ⟨q1, q2, g_B_ext q3 (fun j hj => ?_) (fun j j1 j2 => ?_) hsub⟩
      · rw [g_kp_t hj, g_kp_t hj]
        exact hf _ (by omega)
      · have : ¬ (73 ≤ j ∧ j < 92) := by unfold y_dh at j2; omega
        rw [g_kp_n this, g_kp_n this]
        exact hd j j1 j2
  · unfold g_kw at gk ⊢
    rw [hf 113 (by decide), hf 117 (by decide), hf 119 (by decide), hf 121 (by decide), hf 123 (by decide), hf 125 (by decide), hf 127 (by decide), hf 129 (by decide)]
    exact gk
/-- a reading that keeps nothing -/
theorem g_rd_th {T : y_D} {n2 : Nat} (G : g_G n L D) (hn : n ≤ n2) (hT : ∀ j, j ≠ 64 → ¬ (66 ≤ j ∧ j < 73) → j ≠ 169 → j ≠ 170 → T j = D j) (hw : ∀ j, j < 8747 → (T 170).1 j = (D 170).1 j) (h1 : (T 64).1 1 = nI 0) (h2 : (T 64).1 5 = (D 64).1 5) (h5 : (T 66).1 2 = (T 169).1 10) (h6 : (T 169).1 5 = nI 0) (h7 : (T 169).1 3 = (D 169).1 3) : g_G n2 L T := by
  have td : ∀ j, y_dh j → T j = D j := fun j hj => by
    unfold y_dh at hj
    exact hT j (by omega) (by omega) (by omega) (by omega)
  have t0 : ∀ j, 73 ≤ j → j < 169 → T j = D j := fun j j1 j2 => hT j (by omega) (by omega) (by omega) (by omega)
  have tt : ∀ h N, 73 ≤ h → h < 92 → g_tt D T h N := fun h N a1 a2 => by
    have e1 := t0 h a1 (by omega)
    have e2 := t0 (h + 1) (by omega) (by omega)
    exact ⟨by rw [e1], by rw [e1], fun j _ => by rw [e2]⟩
  have e73 := t0 73 (by decide) (by decide)
  have e76 := t0 76 (by decide) (by decide)
  have e77 := t0 77 (by decide) (by decide)
  refine g_G_rd G G.1.1 hn (fun h hh => Nat.lt_of_lt_of_le (G.1.2.2 h hh) hn) (fun _ q => q) ?_ ?_ h1 h2 (hT 65 (by decide) (by decide) (by decide) (by decide)) (hT 172 (by decide) (by decide) (by decide) (by decide)) h5 h6 h7 (fun j hj => hT j (by omega) (by omega) (by omega) (by omega)) (fun j _ hj => td j hj)
  · exact g_B_cp G.2.1 hw td (fun k _ => by rw [e73]) (fun i _ => by rw [e76]) (fun i _ => by rw [e77]) (tt _ _ (by decide) (by decide)) (tt _ _ (by decide) (by decide)) (tt _ _ (by decide) (by decide)) (tt _ _ (by decide) (by decide)) (tt _ _ (by decide) (by decide)) (tt _ _ (by decide) (by decide)) (tt _ _ (by decide) (by decide)) (tt _ _ (by decide) (by decide))
  · exact k_CI_fr (e := 0) (by decide) (g_k_B G.2.1) (t0 162 (by decide) (by decide)) (t0 74 (by decide) (by decide)) (t0 75 (by decide) (by decide)) (fun _ _ => by rw [e76]) (fun _ _ => by rw [e77]) (fun j _ hj => td j hj) (by rw [e73, Nat.add_zero]) (by rw [e73]; exact Nat.le_refl _) G.2.2.1
/-- the world with the draft kept at a -/
theorem v_w9_o {a c j : Nat} {r v : Int32} (h1 : j ≠ c) (h2 : ¬ (a ≤ j ∧ j < a + 851)) : upd (upd (y_cpw W a 851) a r) c v j = W j := by
  rw [y_updn h1, y_updn (by omega)]
  unfold y_cpw
  rw [if_neg h2]
theorem v_w9_t {a c o : Nat} {r v : Int32} (h1 : a + o ≠ c) (h2 : 1 ≤ o ∧ o < 851) : upd (upd (y_cpw W a 851) a r) c v (a + o) = W (8747 + o) := by
  rw [y_updn h1, y_updn (by omega)]
  unfold y_cpw
  rw [if_pos (by omega), show a + o - a = o by omega]
theorem v_w9_0 {a c : Nat} {r v : Int32} (h1 : a ≠ c) : upd (upd (y_cpw W a 851) a r) c v a = r := by
  rw [y_updn h1, y_upds]
theorem y_sq_n {h k v j : Nat} (hj : j ≠ h) : y_sq D h k v j = D j := by unfold y_sq; rw [if_neg hj]
theorem k_nr_n {g : Nat → Int32} {m j : Nat} (h1 : j ≠ n) (h2 : j ≠ n + 1) : k_nr D n g m j = D j := by unfold k_nr; rw [if_neg h1, if_neg h2]
theorem k_nw_n {a b c : Int32} {g : Nat → Int32} {m j : Nat} (h1 : j ≠ n) (h2 : j ≠ n + 1) : k_nw D n a b c g m j = D j := by unfold k_nw; rw [if_neg h1, if_neg h2]
theorem k_Q_n {nx lc sc j : Nat} {wr fr tk rc : Int32} {LN ST : Nat → Int32} (h : ¬ (66 ≤ j ∧ j < 73)) : k_Q D nx wr lc fr tk rc sc LN ST j = D j := by
  unfold k_Q
  rw [y_sw_ne (by omega), y_sw_ne (by omega), y_sw_ne (by omega)]
theorem k_D1_n {e j : Nat} (h : ¬ (66 ≤ j ∧ j < 73)) : k_D1 D e j = D j := by
  unfold k_D1 k_SKK k_SK
  rw [y_si_n (by omega), y_sw_ne (by omega), y_sw_ne (by omega), y_sw_ne (by omega)]
theorem m_P_n {p b g s j : Nat} (h1 : j ≠ 169) (h2 : j ≠ 170) : m_P D p b g s W j = D j := by
  unfold m_P
  rw [y_sw_ne h2, y_si_n h1, y_si_n h1, y_si_n h1, y_si_n h1]
theorem m_u_n {e j : Nat} (h1 : j ≠ 169) : m_u D e j = D j := by
  unfold m_u
  rw [y_si_n h1, y_si_n h1, y_si_n h1, y_si_n h1, y_si_n h1]
/-- one RULE stays -/
theorem g_RU1 {T : y_D} {L2 : List Nat} {t : Nat} (a : k_RU D L t) (b : m_wr W t ∧ q_ru D W t) (h2 : (T 76).2.2.1 t = (D 76).2.2.1 t) (h3 : ∀ h, h ∈ L → y_dh h → T h = D h) (h4 : ∀ h, h ∈ L → h ∈ L2) (hh : ∀ j, 237 + 851 * t ≤ j → j < 237 + 851 * t + 851 → W2 j = W j) : m_wr W2 t ∧ q_ru T W2 t := by
  obtain ⟨b1, b2⟩ := b
  have c := m_wr_c hh b1
  obtain ⟨-, et, em⟩ := k_RU_fr (L2 := L2) a h2 h3 h4
  refine ⟨c.1, by rw [em, c.2]; exact b2.1, fun i hi => ?_⟩
  rw [c.2] at hi
  have h10 : i < 10 := Nat.lt_of_lt_of_le hi b1.1.2
  rw [et, (v_mo_s hh h10 (j := 0) (by decide)).2, (v_mo_s hh h10 (j := 1) (by decide)).2, (v_mo_s hh h10 (j := 2) (by decide)).2]
  exact b2.2 i hi
/-- one WAY stays -/
theorem g_WA1 {T : y_D} {L2 : List Nat} {t : Nat} (a : k_WA D L t) (b : m_ww W (4 + t) ∧ q_wy D W t) (h2 : (T 77).2.2.1 t = (D 77).2.2.1 t) (h3 : ∀ h, h ∈ L → y_dh h → T h = D h) (h4 : ∀ h, h ∈ L → h ∈ L2) (hh : ∀ j, 237 + 851 * (4 + t) ≤ j → j < 237 + 851 * (4 + t) + 851 → W2 j = W j) : m_ww W2 (4 + t) ∧ q_wy T W2 t := by
  obtain ⟨b1, b2⟩ := b
  have c := m_ww_c hh b1
  obtain ⟨-, et, em, eh⟩ := k_WA_fr (L2 := L2) a h2 h3 h4
  have ho : ∀ i, i < m_k W (4 + t) → m_o W2 (4 + t) i 0 = m_o W (4 + t) i 0 ∧ m_o W2 (4 + t) i 1 = m_o W (4 + t) i 1 := fun i hi => by
    have h10 : i < 10 := Nat.lt_of_lt_of_le hi b1.1.2
    exact ⟨(v_mo_s hh h10 (j := 0) (by decide)).2, (v_mo_s hh h10 (j := 1) (by decide)).2⟩
  refine ⟨c.1, ?_, ?_, ?_, ?_⟩
  · rw [eh, b2.1]
    show nI (m_fb W (4 + t) (m_k W (4 + t))) = nI (m_fb W2 (4 + t) (m_k W2 (4 + t)))
    rw [c.2.1, m_fb_c _ ho]
  · rw [eh, b2.2.1]
    show nI (m_lst W (4 + t) 1 1 (m_k W (4 + t))) = nI (m_lst W2 (4 + t) 1 1 (m_k W2 (4 + t)))
    rw [c.2.1, m_lst_c _ ho]
  · rw [eh, b2.2.2.1]
    show nI (m_lst W (4 + t) 2 0 (m_k W (4 + t))) = nI (m_lst W2 (4 + t) 2 0 (m_k W2 (4 + t)))
    rw [c.2.1, m_lst_c _ ho]
  · rw [et, em]
    intro DS DL x f hl hE hx hf
    refine (b2.2.2.2 DS DL x f hl hE hx hf).trans ?_
    rw [c.2.1]
    constructor
    · intro z i hi h3
      rw [(ho i hi).1] at h3
      rw [c.2.2 i hi h3]
      exact z i hi h3
    · intro z i hi h3
      have := z i hi (by rw [(ho i hi).1]; exact h3)
      rw [c.2.2 i hi h3] at this
      exact this
theorem g_RU_add {T : y_D} {L2 : List Nat} {k : Nat} (a : g_RU D L W) (hk : q_n W 1 = k) (k4 : k < 4) (h1 : (T 73).1 2 = nI (k + 1)) (h2 : ∀ i, i ≠ k → (T 76).2.2.1 i = (D 76).2.2.1 i) (h3 : ∀ h, h ∈ L → y_dh h → T h = D h) (h4 : ∀ h, h ∈ L → h ∈ L2) (h5 : W2 1 = nI (k + 1)) (h6 : ∀ j, 237 ≤ j → j < 237 + 851 * k → W2 j = W j) (hm : m_wr W2 k) (hq : q_ru T W2 k) (hr : k_RU T L2 k) : g_RU T L2 W2 := by
  obtain ⟨a1, a2, a3, a4⟩ := a
  have q := q_mk (B := 4) h5 (by omega) (by omega)
  refine ⟨by rw [h1, h5], q.1, fun t ht => ?_, fun i hi => ?_⟩
  · rw [q.2] at ht
    by_cases z : t = k
    · rw [z]
      exact ⟨hm, hq⟩
    · exact g_RU1 (L2 := L2) (a4 t (by omega)) (a3 t (by omega)) (h2 t z) h3 h4 (fun j j1 j2 => h6 j (by omega) (by omega))
  · by_cases z : i = k
    · rw [z]
      exact hr
    · exact (k_RU_fr (a4 i hi) (h2 i z) h3 h4).1
theorem g_WA_add {T : y_D} {L2 : List Nat} {k : Nat} (a : g_WA D L W) (hk : q_n W 2 = k) (k6 : k < 6) (h1 : (T 73).1 4 = nI (k + 1)) (h2 : ∀ i, i ≠ k → (T 77).2.2.1 i = (D 77).2.2.1 i) (h3 : ∀ h, h ∈ L → y_dh h → T h = D h) (h4 : ∀ h, h ∈ L → h ∈ L2) (h5 : W2 2 = nI (k + 1)) (h6 : ∀ j, 3641 ≤ j → j < 237 + 851 * (4 + k) → W2 j = W j) (hm : m_ww W2 (4 + k)) (hq : q_wy T W2 k) (hr : k_WA T L2 k) : g_WA T L2 W2 := by
  obtain ⟨a1, a2, a3, a4⟩ := a
  have q := q_mk (B := 6) h5 (by omega) (by omega)
  refine ⟨by rw [h1, h5], q.1, fun t ht => ?_, fun i hi => ?_⟩
  · rw [q.2] at ht
    by_cases z : t = k
    · rw [z]
      exact ⟨hm, hq⟩
    · exact g_WA1 (L2 := L2) (a4 t (by omega)) (a3 t (by omega)) (h2 t z) h3 h4 (fun j j1 j2 => h6 j (by omega) (by omega))
  · by_cases z : i = k
    · rw [z]
      exact hr
    · exact (k_WA_fr (a4 i hi) (h2 i z) h3 h4).1
/-- the RULE that was read -/
theorem g_new_ru {W3 LN g : Nat → Int32} {k cnt : Nat} (h10 : cnt ≤ 10) (hl : t_LN cnt W2 LN) (hg : ∀ j, j < 3 * cnt → g j = LN j) (h0 : W3 (237 + 851 * k) = nI cnt) (hw : ∀ o, 1 ≤ o ∧ o < 851 → W3 (237 + 851 * k + o) = W2 (8747 + o)) : m_wr W3 k ∧ m_k W3 k = cnt ∧ c_wl g cnt ∧ ∀ i, i < cnt → c_p g i = m_o W3 k i 0 ∧ c_a g i = m_o W3 k i 1 ∧ c_b g i = m_o W3 k i 2 := by
  have q0 := q_mk (B := 10) h0 h10 (by omega)
  have key : ∀ i, i < cnt → ∃ so a c, so ≤ 3 ∧ a ≤ 300 ∧ c ≤ 300 ∧ g (i * 3) = t_kd so ∧ g (i * 3 + 1) = nI a ∧ g (i * 3 + 2) = nI c ∧ W3 (237 + 851 * k + 1 + 5 * i) = nI so ∧ W3 (237 + 851 * k + 1 + 5 * i + 1) = nI a ∧ W3 (237 + 851 * k + 1 + 5 * i + 2) = nI c ∧ (so ≤ 1 → a < 4) ∧ (so = 0 → c < 8) ∧ (so = 3 → 1 ≤ a) := by
    intro i hi
    obtain ⟨so, a, c, b1, b2, b3, b4, b5, b6, b7, b8, b9, b10, b11, b12⟩ := hl i hi
    have e1 := hw (1 + 5 * i) (by omega)
    have e2 := hw (2 + 5 * i) (by omega)
    have e3 := hw (3 + 5 * i) (by omega)
    have a300 : a ≤ 300 ∧ c ≤ 300 := by
      rcases (by omega : so = 0 ∨ so = 1 ∨ so = 2 ∨ so = 3) with z | z | z | z
      · have := b8 (by omega); have := b9 z; omega
      · have := b8 (by omega); have := b10 z; omega
      · have := b11 z; omega
      · have := b12 z; omega
    refine ⟨so, a, c, b1, a300.1, a300.2, ?_, ?_, ?_, ?_, ?_, ?_, b8, fun z => ?_, fun z => (b12 z).1⟩
    · rw [Nat.mul_comm i 3, hg _ (by omega)]
      exact b2
    · rw [Nat.mul_comm i 3, hg _ (by omega)]
      exact b3
    · rw [Nat.mul_comm i 3, hg _ (by omega)]
      exact b4
    · rw [show 237 + 851 * k + 1 + 5 * i = 237 + 851 * k + (1 + 5 * i) by omega, e1, show 8747 + (1 + 5 * i) = t_kk i by show _ = 237 + 851 * 10 + 1 + 5 * i; omega]
      exact b5
    · rw [show 237 + 851 * k + 1 + 5 * i + 1 = 237 + 851 * k + (2 + 5 * i) by omega, e2, show 8747 + (2 + 5 * i) = t_kk i + 1 by show _ = 237 + 851 * 10 + 1 + 5 * i + 1; omega]
      exact b6
    · rw [show 237 + 851 * k + 1 + 5 * i + 2 = 237 + 851 * k + (3 + 5 * i) by omega, e3, show 8747 + (3 + 5 * i) = t_kk i + 2 by show _ = 237 + 851 * 10 + 1 + 5 * i + 2; omega]
      exact b7
    · have := b9 z
      omega
  have kc : ∀ i so, so ≤ 3 → g (i * 3) = t_kd so → c_p g i = so ∧ (g (i * 3) = 10 ∨ g (i * 3) = 12 ∨ g (i * 3) = 13 ∨ g (i * 3) = 15) := by
    intro i so hso h
    unfold c_p
    rw [h]
    rcases (by omega : so = 0 ∨ so = 1 ∨ so = 2 ∨ so = 3) with z | z | z | z <;> subst z <;> decide
  have val : ∀ i, i < cnt → ∃ so a c, so ≤ 3 ∧ a ≤ 300 ∧ c ≤ 300 ∧ (so ≤ 1 → a < 4) ∧ (so = 0 → c < 8) ∧ (so = 3 → 1 ≤ a) ∧ c_p g i = so ∧ (g (i * 3) = 10 ∨ g (i * 3) = 12 ∨ g (i * 3) = 13 ∨ g (i * 3) = 15) ∧ (g (i * 3 + 1) = nI a ∧ c_a g i = a) ∧ (g (i * 3 + 2) = nI c ∧ c_b g i = c) ∧ (q_ok W3 (237 + 851 * k + 1 + 5 * i) 3 ∧ m_o W3 k i 0 = so) ∧ (q_ok W3 (237 + 851 * k + 1 + 5 * i + 1) 999 ∧ m_o W3 k i 1 = a) ∧ q_ok W3 (237 + 851 * k + 1 + 5 * i + 2) 999 ∧ m_o W3 k i 2 = c := by
    intro i hi
    obtain ⟨so, a, c, b1, b2, b3, b4, b5, b6, b7, b8, b9, b10, b11, b12⟩ := key i hi
    have k1 := kc i so b1 b4
    have m0 := q_mk (B := 3) b7 b1 (by omega)
    have m1 := q_mk (B := 999) b8 (by omega) (by omega)
    have m2 := q_mk (B := 999) b9 (by omega) (by omega)
    refine ⟨so, a, c, b1, b2, b3, b10, b11, b12, k1.1, k1.2, ⟨b5, ?_⟩, ⟨b6, ?_⟩, ⟨m0.1, m0.2⟩, ⟨m1.1, m1.2⟩, m2.1, m2.2⟩
    · unfold c_a
      rw [b5, nI_cl (by omega)]
    · unfold c_b
      rw [b6, nI_cl (by omega)]
  have hmk : m_k W3 k = cnt := q0.2
  refine ⟨⟨q0.1, fun i hi => ?_⟩, hmk, fun i hi => ?_, fun i hi => ?_⟩
  · rw [hmk] at hi
    obtain ⟨so, a, c, b1, b2, b3, b4, b5, b6, b7, b8, b9, b10, ⟨b11, b12⟩, ⟨b13, b14⟩, b15, b16⟩ := val i hi
    rw [b12, b14, b16]
    exact ⟨b11, b13, b15, b4, b5, fun _ => b3, fun z => ⟨b6 z, b2⟩⟩
  · obtain ⟨so, a, c, b1, b2, b3, b4, b5, b6, b7, b8, ⟨b9, b9'⟩, ⟨b10, b10'⟩, -⟩ := val i hi
    rw [b7, b9', b10']
    exact ⟨b9, b10, by omega, by omega, b4, b5, fun _ => b3, fun z => ⟨b6 z, b2⟩, b8⟩
  · obtain ⟨so, a, c, b1, b2, b3, b4, b5, b6, b7, b8, ⟨b9, b9'⟩, ⟨b10, b10'⟩, ⟨b11, b12⟩, ⟨b13, b14⟩, b15, b16⟩ := val i hi
    rw [b7, b9', b10', b12, b14, b16]
    exact ⟨rfl, rfl, rfl⟩
theorem k_RU_new {T : y_D} {L2 : List Nat} {g f0 : Nat → Int32} {l0 : Nat → Int64} {q0 : Nat → Option Nat} {k cnt : Nat} (hn : 191 ≤ n) (h76 : (T 76).2.2.1 k = some n) (hTn : T n = (f0, l0, fun _ => some (n + 1), 1, 0)) (hTn1 : T (n + 1) = (g, l0, q0, 0, 3 * cnt)) (m1 : n ∈ L2) (m2 : n + 1 ∈ L2) (h10 : cnt ≤ 10) (hc : c_wl g cnt) : k_RU T L2 k ∧ k_rm T k = cnt ∧ k_rt T k = g := by
  have e1 : k_rh T k = n := by
    show ((T 76).2.2.1 k).getD 0 = n
    rw [h76]
    rfl
  have e3 : k_rr T k = n + 1 := by
    show ((T (k_rh T k)).2.2.1 0).getD 0 = n + 1
    rw [e1, hTn]
    rfl
  have em : k_rm T k = cnt := by
    show (T (k_rr T k)).2.2.2.2 / 3 = cnt
    rw [e3, hTn1]
    show 3 * cnt / 3 = cnt
    omega
  have et : k_rt T k = g := by
    show (T (k_rr T k)).1 = g
    rw [e3, hTn1]
  refine ⟨⟨by rw [e1]; exact h76, by rw [e1]; exact m1, by rw [e1]; exact Or.inr (Or.inr hn), by rw [e1, hTn], by rw [e1, e3, hTn], by rw [e3]; exact m2, by rw [e3]; exact Or.inr (Or.inr (by omega)), by rw [e3, hTn1], by rw [em, e3, hTn1], by rw [em]; exact h10, by rw [em, et]; exact hc⟩, em, et⟩
theorem m_lst_g {t c d : Nat} (hd : 1 ≤ d) : ∀ {k}, (∀ i, i < k → m_o W t i 0 = c → 1 ≤ m_o W t i 1) → 1 ≤ m_lst W t c d k
  | 0, _ => hd
  | k + 1, h => by
    show 1 ≤ (if m_o W t k 0 = c then m_o W t k 1 else m_lst W t c d k)
    by_cases z : m_o W t k 0 = c
    · rw [if_pos z]
      exact h k (by omega) z
    · rw [if_neg z]
      exact m_lst_g hd (fun i hi => h i (by omega))
theorem k_WA_new {T : y_D} {L2 : List Nat} {g ST : Nat → Int32} {l0 : Nat → Int64} {q0 : Nat → Option Nat} {k cnt s sc : Nat} {fr tk rc : Int32} {W3 : Nat → Int32} (hn : 191 ≤ n) (h77 : (T 77).2.2.1 k = some n) (hTn : T n = k_nwc n fr tk rc) (hTn1 : T (n + 1) = (g, l0, q0, 0, sc)) (m1 : n ∈ L2) (m2 : n + 1 ∈ L2) (hsc : sc ≤ 800) (hg : ∀ j, j < sc → g j = ST j) (hs : s ≤ 400) (h0 : W3 (237 + 851 * (4 + k)) = nI cnt) (h10 : cnt ≤ 10) (hW : t_WY W3 (4 + k) cnt s sc ST fr tk rc) : k_WA T L2 k ∧ m_ww W3 (4 + k) ∧ q_wy T W3 k := by
  obtain ⟨a1, a2, a3, a4, a5, a6, a7, a8, a9⟩ := t_WY_ww hW hs h0 h10
  have e1 : k_wh T k = n := by
    show ((T 77).2.2.1 k).getD 0 = n
    rw [h77]
    rfl
  have e3 : k_wr T k = n + 1 := by
    show ((T (k_wh T k)).2.2.1 0).getD 0 = n + 1
    rw [e1, hTn]
    rfl
  have el : k_wl T k = sc := by
    show (T (k_wr T k)).2.2.2.2 = sc
    rw [e3, hTn1]
  have et : k_wt T k = g := by
    show (T (k_wr T k)).1 = g
    rw [e3, hTn1]
  have eg : c_sl g sc 0 = c_sl ST sc 0 := v_sl_c _ _ (fun j _ j2 => hg j (by omega))
  have f0 : (T n).1 0 = fr := by rw [hTn]; rfl
  have f1 : (T n).1 1 = tk := by rw [hTn]; rfl
  have f2 : (T n).1 2 = rc := by rw [hTn]; rfl
  have hi9 : ∀ i, i < cnt → i < m_k W3 (4 + k) := fun i hi => by rw [a2]; exact hi
  have l60 : m_lst W3 (4 + k) 1 1 cnt ≤ 60 := m_lst_b (by decide) (fun i hi z => ((a1.2 i (hi9 i hi)).2.2.2.1 z).2)
  have l1 : 1 ≤ m_lst W3 (4 + k) 1 1 cnt := m_lst_g (by decide) (fun i hi z => ((a1.2 i (hi9 i hi)).2.2.2.1 z).1)
  have l9 : m_lst W3 (4 + k) 2 0 cnt ≤ 9 := m_lst_b (by decide) (fun i hi z => (a1.2 i (hi9 i hi)).2.2.2.2.1 z)
  have o0 := q_mk (W := (T n).1) (j := 0) (B := 15) (f0.trans a5) a8 (by omega)
  have o1 := q_mk (W := (T n).1) (j := 1) (B := 60) (f1.trans a6) l60 (by omega)
  have o2 := q_mk (W := (T n).1) (j := 2) (B := 9) (f2.trans a7) l9 (by omega)
  refine ⟨⟨by rw [e1]; exact h77, by rw [e1]; exact m1, by rw [e1]; exact Or.inr (Or.inr hn), by rw [e1, hTn]; rfl, by rw [e1, e3, hTn]; rfl, by rw [e3]; exact m2, by rw [e3]; exact Or.inr (Or.inr (by omega)), by rw [e3, hTn1], by rw [el]; exact hsc, ?_, by rw [el, et, eg]; exact a4, by rw [e1]; exact o0.1, by rw [e1]; exact o1.1, by rw [e1, o1.2]; exact l1, by rw [e1]; exact o2.1⟩, a1, ?_, ?_, ?_, ?_⟩
  · rw [el, et]
    intro i hi
    obtain ⟨z, z1, z2⟩ := a3 i hi
    exact ⟨z, (hg i hi).trans z1, z2⟩
  · rw [e1, f0, a5]
    show nI (m_fb W3 (4 + k) cnt) = nI (m_fb W3 (4 + k) (m_k W3 (4 + k)))
    rw [a2]
  · rw [e1, f1, a6]
    show nI (m_lst W3 (4 + k) 1 1 cnt) = nI (m_lst W3 (4 + k) 1 1 (m_k W3 (4 + k)))
    rw [a2]
  · rw [e1, f2, a7]
    show nI (m_lst W3 (4 + k) 2 0 cnt) = nI (m_lst W3 (4 + k) 2 0 (m_k W3 (4 + k)))
    rw [a2]
  · rw [el, et, eg]
    exact a9
theorem v_mem3 {h : Nat} : h ∈ L ++ [n] ++ [n + 1] ↔ h ∈ L ∨ h = n ∨ h = n + 1 := by
  simp only [List.mem_append, List.mem_cons, List.not_mem_nil, or_false, or_assoc]
theorem z_rule1 (G : g_G n L D) {e k : Nat} (he : e ≤ 400) (hk : (D 73).1 2 = nI k) {nx2 : Nat} {wr2 : Int32} {lc2 : Nat} {LN2 : Nat → Int32} {g : Nat → Int32} (h1 : k_rls (k_D1 D e 68).1 (k_D1 D e 69).1 (k_D1 D e 70).1 (k_D1 D e 71).1 = (true, nx2, wr2, lc2, LN2)) (hk4 : k < 4) (hg : ∀ j, j < lc2 → g j = LN2 j) {x : Int64} {D0 D3 : y_D} {b : Int32} (hD0 : D0 = y_sl (y_si (y_sq (k_nr (y_si (k_Q (k_D1 D e) nx2 wr2 lc2 0 1 0 0 LN2 (k_D1 D e 72).1) 64 1 0) n g lc2) 76 k n) 73 2 (nI (k + 1))) 189 0 x) (hR : ∃ (D1 : y_D) (b0 g0 : Nat) (r : Int32) (p2 b2 g2 s2 : Nat) (W2 : Nat → Int32), D1 = m_u D0 e ∧ l_all (D1 172).1 e (l_rule (D1 172).1 e) 0 b0 g0 0 (D0 170).1 = (r, p2, b2, g2, s2, W2) ∧ l_bd e 0 0 p2 s2 ∧ m_KP D1 1 0 4 k r p2 b2 g2 s2 W2 b D3) : b = nI k ∧ (D3 169).1 0 = 0 ∧ g_G (n + 2) (L ++ [n] ++ [n + 1]) D3 ∧ D3 189 = D0 189 := by
  have hn := G.1.2.1
  have d : ∀ j, j ≠ 64 → ¬ (66 ≤ j ∧ j < 73) → j ≠ 73 → j ≠ 76 → j ≠ 189 → j ≠ n → j ≠ n + 1 → D0 j = D j := by
    intro j j1 j2 j3 j4 j5 j6 j7
    rw [hD0, y_sl_n j5, y_si_n j3, y_sq_n j4, k_nr_n j6 j7, y_si_n j1, k_Q_n j2, k_D1_n j2]
  have hH : t_H (D 65).1 e (k_D1 D e 68).1 (k_D1 D e 69).1 (k_D1 D e 70).1 (k_m D e) := ⟨G.2.2.2.2.1.2, (t_scan he).1, (t_scan he).2.1, (t_scan he).2.2⟩
  obtain ⟨D1, b0, g0, r, p2, b2, g2, s2, W2, hD1, hl, hbd, hKP⟩ := hR
  have u : ∀ j, j ≠ 169 → D1 j = D0 j := fun j hj => by rw [hD1, m_u_n hj]
  rw [u 172 (by decide), d 172 (by decide) (by decide) (by decide) (by decide) (by decide) (by omega) (by omega), d 170 (by decide) (by decide) (by decide) (by decide) (by decide) (by omega) (by omega), ← G.2.2.2.2.1.1] at hl
  obtain ⟨ok9, nx9, wr9, lc9, LN9, v9, p9, b9, g9, s9, W9, e1, e2, hc⟩ := t_rls hH (b := b0) (g := g0) (s := 0) (W := (D 170).1) (LN := (k_D1 D e 71).1)
  rw [h1] at e1
  rw [hl] at e2
  simp only [Prod.mk.injEq] at e1 e2
  obtain ⟨rfl, rfl, rfl, rfl, rfl⟩ := e1
  obtain ⟨rfl, rfl, rfl, rfl, rfl, rfl⟩ := e2
  have hW : ∀ j, j < 8747 → W2 j = (D 170).1 j := by
    intro j hj
    have z := l_all_k (T := (D 65).1) (e := e) (G := l_rule (D 65).1 e) (fun k hk => l_rule_k hk) (p := 0) (b := b0) (g := g0) (s := 0) (W := (D 170).1) hj
    rw [hl] at z
    exact z
  rcases hc with ⟨-, hwr, cnt, h10, hv, hlc, hLN⟩ | ⟨hf, -⟩
  case inr => exact absurd hf (by decide)
  have hr0 : 0 ≤ r := by rw [hv]; exact nI_pos' (by omega)
  rcases hKP with ⟨hf, -⟩ | ⟨-, hf, -⟩ | ⟨-, -, hb, hD3⟩
  · exact absurd hr0 hf
  · omega
  rw [Nat.zero_add] at hD3
  have t : ∀ j, j ≠ 169 → j ≠ 170 → D3 j = D0 j := fun j a1 a2 => by rw [hD3, m_P_n a1 a2, y_si_n a1, u j a1]
  obtain ⟨W3, hW3⟩ : ∃ z, z = upd (upd (y_cpw W2 (237 + 851 * k) 851) (237 + 851 * k) r) 1 (nI (k + 1)) := ⟨_, rfl⟩
  rw [← hW3] at hD3
  have t170 : (D3 170).1 = W3 := by rw [hD3]; rfl
  have t169 : (D3 169).1 = upd (upd (upd (upd (upd (upd (upd (upd (upd (upd (D0 169).1 0 0) 7 (nI e)) 5 0) 6 0) 12 0) 10 (-1)) 6 (nI p2)) 8 (nI b2)) 9 (nI g2)) 12 (nI s2) := by rw [hD3, hD1]; rfl
  have w1 : W3 1 = nI (k + 1) := by rw [hW3, y_upds]
  have w0 : W3 (237 + 851 * k) = nI cnt := by rw [hW3, v_w9_0 (by omega)]; exact hv
  have wt : ∀ o, 1 ≤ o ∧ o < 851 → W3 (237 + 851 * k + o) = W2 (8747 + o) := fun o ho => by rw [hW3, v_w9_t (by omega) ho]
  have wo : ∀ j, j ≠ 1 → j < 8747 → ¬ (237 + 851 * k ≤ j ∧ j < 237 + 851 * k + 851) → W3 j = (D 170).1 j := fun j a1 a2 a3 => by rw [hW3, v_w9_o a1 a3]; exact hW j a2
  have dd : ∀ j, j ≠ 64 → ¬ (66 ≤ j ∧ j < 73) → j ≠ 73 → j ≠ 76 → j ≠ 189 → j ≠ n → j ≠ n + 1 → j ≠ 169 → j ≠ 170 → D3 j = D j := fun j a1 a2 a3 a4 a5 a6 a7 a8 a9 => (t j a8 a9).trans (d j a1 a2 a3 a4 a5 a6 a7)
  have ds : ∀ j, 73 ≤ j → j < 169 → j ≠ 73 → j ≠ 76 → D3 j = D j := fun j a1 a2 a3 a4 => dd j (by omega) (by omega) a3 a4 (by omega) (by omega) (by omega) (by omega) (by omega)
  have dl : ∀ j, j ∈ L → y_dh j → D3 j = D j := fun j a1 a2 => by
    have := G.1.2.2 j a1
    unfold y_dh at a2
    exact dd j (by omega) (by omega) (by omega) (by omega) (by omega) (by omega) (by omega) (by omega) (by omega)
  have hsub : ∀ h, h ∈ L → h ∈ L ++ [n] ++ [n + 1] := fun h hh => v_mem3.mpr (Or.inl hh)
  have m1 : n ∈ L ++ [n] ++ [n + 1] := v_mem3.mpr (Or.inr (Or.inl rfl))
  have m2 : n + 1 ∈ L ++ [n] ++ [n + 1] := v_mem3.mpr (Or.inr (Or.inr rfl))
  have t64 : (D3 64).1 = upd (D 64).1 1 0 := by rw [t 64 (by decide) (by decide), hD0, y_sl_n (by decide), y_si_n (by decide), y_sq_n (by decide), k_nr_n (by omega) (by omega), y_si_s, k_Q_n (by decide), k_D1_n (by decide)]
  have t66 : (D3 66).1 2 = -1 := by rw [t 66 (by decide) (by decide), hD0, y_sl_n (by decide), y_si_n (by decide), y_sq_n (by decide), k_nr_n (by omega) (by omega), y_si_n (by decide)]; exact hwr
  have t73 : ∀ j, j ≠ 2 → (D3 73).1 j = (D 73).1 j := fun j hj => by rw [t 73 (by decide) (by decide), hD0, y_sl_n (by decide), y_si_1, if_neg hj, y_sq_n (by decide), k_nr_n (by omega) (by omega), y_si_n (by decide), k_Q_n (by decide), k_D1_n (by decide)]
  have t73k : (D3 73).1 2 = nI (k + 1) := by rw [t 73 (by decide) (by decide), hD0, y_sl_n (by decide), y_si_1, if_pos rfl]
  have tr : (D3 76).2.2.1 = va_up (D 76).2.2.1 k (some n) := by rw [t 76 (by decide) (by decide), hD0, y_sl_n (by decide), y_si_n (by decide)]; unfold y_sq; rw [if_pos rfl, k_nr_n (by omega) (by omega), y_si_n (by decide), k_Q_n (by decide), k_D1_n (by decide)]
  have tn : D3 n = (fun _ => 0, fun _ => 0, fun _ => some (n + 1), 1, 0) := by rw [t n (by omega) (by omega), hD0, y_sl_n (by omega), y_si_n (by omega), y_sq_n (by omega)]; unfold k_nr; rw [if_pos rfl]
  have tn1 : D3 (n + 1) = (g, fun _ => 0, fun _ => none, 0, 3 * cnt) := by rw [t (n + 1) (by omega) (by omega), hD0, y_sl_n (by omega), y_si_n (by omega), y_sq_n (by omega)]; unfold k_nr; rw [if_neg (by omega), if_pos rfl, hlc]
  have trk : (D3 76).2.2.1 k = some n := by rw [tr]; unfold va_up; rw [if_pos rfl]
  have tro : ∀ i, i ≠ k → (D3 76).2.2.1 i = (D 76).2.2.1 i := fun i hi => by rw [tr]; unfold va_up; rw [if_neg hi]
  obtain ⟨⟨b0', b3, b4, b5, b6, b7, b8, b9'⟩, br, bw, s1, s2', s3, s4⟩ := id G.2.1
  have hkq : q_n (D 170).1 1 = k := (q_mk (W := (D 170).1) (B := 4) (br.1.symm.trans hk) (by omega) (by omega)).2
  have hnr := g_new_ru h10 hLN (fun j hj => hg j (by omega)) w0 wt
  have hnew := k_RU_new (T := D3) hn trk tn tn1 m1 m2 h10 hnr.2.2.1
  have hqru : q_ru D3 W3 k := ⟨by rw [hnew.2.1, hnr.2.1], fun i hi => by rw [hnew.2.2]; exact hnr.2.2.2 i (by rw [← hnr.2.1]; exact hi)⟩
  have hB : g_B D3 (L ++ [n] ++ [n + 1]) (D3 170).1 := by
    rw [t170]
    have n1 : q_n (D 170).1 1 ≤ q_n W3 1 := by rw [hkq, (q_mk (B := 4) w1 (by omega) (by omega)).2]; omega
    have n3 : q_n (D 170).1 3 ≤ q_n W3 3 := by unfold q_n; rw [wo 3 (by decide) (by omega) (by omega)]; exact Nat.le_refl _
    have f : ∀ {h9 cnt base wd mx : Nat} {R R2 : (Nat → Int32) → Prop}, g_T D (D 170).1 h9 cnt base wd mx R → 73 < h9 → h9 + 1 < 92 → h9 ≠ 76 → h9 ≠ 77 → h9 + 1 ≠ 76 → h9 + 1 ≠ 77 → cnt ≠ 1 → cnt < 12 → 12 ≤ base → base + mx * wd ≤ 237 → g_cg wd R R2 → g_T D3 W3 h9 cnt base wd mx R2 := by
      intro h9 cnt base wd mx R R2 b a1 a2 a3 a4 a5 a6 a7 a8 a9 a10 hR
      have e1 := ds h9 (by omega) (by omega) (by omega) (by omega)
      have e2 := ds (h9 + 1) (by omega) (by omega) (by omega) (by omega)
      exact g_T_fr b (by rw [e1]) (by rw [e1]) (fun j _ => by rw [e2]) (wo cnt (by omega) (by omega) (by omega)) (fun j hj => wo _ (by omega) (by omega) (by omega)) hR
    refine ⟨⟨f b0' (by decide) (by decide) (by decide) (by decide) (by decide) (by decide) (by decide) (by decide) (by decide) (by decide) g_cg0, f b3 (by decide) (by decide) (by decide) (by decide) (by decide) (by decide) (by decide) (by decide) (by decide) (by decide) g_cg3, f b4 (by decide) (by decide) (by decide) (by decide) (by decide) (by decide) (by decide) (by decide) (by decide) (by decide) (g_cg4 n3), f b5 (by decide) (by decide) (by decide) (by decide) (by decide) (by decide) (by decide) (by decide) (by decide) (by decide) g_cg5, f b6 (by decide) (by decide) (by decide) (by decide) (by decide) (by decide) (by decide) (by decide) (by decide) (by decide) g_cg6, f b7 (by decide) (by decide) (by decide) (by decide) (by decide) (by decide) (by decide) (by decide) (by decide) (by decide) (g_cg7 n1), f b8 (by decide) (by decide) (by decide) (by decide) (by decide) (by decide) (by decide) (by decide) (by decide) (by decide) g_cg8, f b9' (by decide) (by decide) (by decide) (by decide) (by decide) (by decide) (by decide) (by decide) (by decide) (by decide) g_cg9⟩, ?_, ?_, ?_⟩
    · exact g_RU_add br hkq hk4 t73k tro dl hsub w1 (fun j j1 j2 => wo j (by omega) (by omega) (by omega)) hnr.1 hqru hnew.1
    · exact g_WA_fr bw (t73 4 (by decide)) (fun i _ => by rw [ds 77 (by decide) (by decide) (by decide) (by decide)]) dl hsub (wo 2 (by decide) (by omega) (by omega)) (fun j j1 j2 => wo j (by omega) (by omega) (by omega))
    · exact ⟨by rw [t73 12 (by decide), wo 11 (by decide) (by omega) (by omega)]; exact s1, (q_ok_e (wo 11 (by decide) (by omega) (by omega)) s2').1, by rw [t73 13 (by decide), wo 10 (by decide) (by omega) (by omega)]; exact s3, (q_ok_e (wo 10 (by decide) (by omega) (by omega)) s4).1⟩
  have c4 : q_n (D3 73).1 4 = q_n (D 73).1 4 := by unfold q_n; rw [t73 4 (by decide)]
  have c2 : q_n (D 73).1 2 = k := (q_mk (B := 4) hk (by omega) (by omega)).2
  have c2' : q_n (D3 73).1 2 = k + 1 := (q_mk (B := 4) t73k (by omega) (by omega)).2
  have hC : k_CI D3 := k_CI_fr (e := 0) (by decide) (g_k_B G.2.1) (ds 162 (by decide) (by decide) (by decide) (by decide)) (ds 74 (by decide) (by decide) (by decide) (by decide)) (ds 75 (by decide) (by decide) (by decide) (by decide)) (fun i hi => tro i (by omega)) (fun _ _ => by rw [ds 77 (by decide) (by decide) (by decide) (by decide)]) dl (by omega) (by omega) G.2.2.1
  have d169 := d 169 (by decide) (by decide) (by decide) (by decide) (by decide) (by omega) (by omega)
  refine ⟨hb, by rw [t169]; rfl, ?_, t 189 (by decide) (by decide)⟩
  refine g_G_rd G (fun h hh => hsub h (G.1.1 h hh)) (by omega) (fun h hh => ?_) hsub hB hC (by rw [t64]; rfl) (by rw [t64]; rfl) (dd 65 (by decide) (by decide) (by decide) (by decide) (by decide) (by omega) (by omega) (by decide) (by decide)) (dd 172 (by decide) (by decide) (by decide) (by decide) (by decide) (by omega) (by omega) (by decide) (by decide)) (by rw [t66, t169]; rfl) (by rw [t169]; rfl) (by rw [t169, ← d169]; rfl) (fun j hj => dd j (by omega) (by omega) (by omega) (by omega) (by omega) (by omega) (by omega) (by omega) (by omega)) dl
  rcases v_mem3.mp hh with hh | hh | hh
  · have := G.1.2.2 h hh
    omega
  · omega
  · omega
theorem z_rule2 (G : g_G n L D) {e k n2 : Nat} (he : e ≤ 400) {ok : Bool} {nx2 : Nat} {wr2 : Int32} {lc2 : Nat} {LN2 : Nat → Int32} (h1 : k_rls (k_D1 D e 68).1 (k_D1 D e 69).1 (k_D1 D e 70).1 (k_D1 D e 71).1 = (ok, nx2, wr2, lc2, LN2)) (hn2 : n ≤ n2) {i : Nat} {E9 : String} (hi : [y_IAE, y_UOE][i]? = some E9) (hX : (ok = false ∧ E9 = y_IAE) ∨ (ok = true ∧ k = 4 ∧ E9 = y_UOE)) {D0 D3 : y_D} {b : Int32} (hD0 : D0 = y_si (k_Q (k_D1 D e) nx2 wr2 lc2 0 1 0 0 LN2 (k_D1 D e 72).1) 64 1 0) (hR : ∃ (D1 : y_D) (b0 g0 : Nat) (r : Int32) (p2 b2 g2 s2 : Nat) (W2 : Nat → Int32), D1 = m_u D0 e ∧ l_all (D1 172).1 e (l_rule (D1 172).1 e) 0 b0 g0 0 (D0 170).1 = (r, p2, b2, g2, s2, W2) ∧ l_bd e 0 0 p2 s2 ∧ m_KP D1 1 0 4 k r p2 b2 g2 s2 W2 b D3) : (D3 169).1 0 = nI (i + 1) ∧ g_G n2 L D3 := by
  have hn := G.1.2.1
  have d : ∀ j, j ≠ 64 → ¬ (66 ≤ j ∧ j < 73) → D0 j = D j := by
    intro j j1 j2
    rw [hD0, y_si_n j1, k_Q_n j2, k_D1_n j2]
  have hH : t_H (D 65).1 e (k_D1 D e 68).1 (k_D1 D e 69).1 (k_D1 D e 70).1 (k_m D e) := ⟨G.2.2.2.2.1.2, (t_scan he).1, (t_scan he).2.1, (t_scan he).2.2⟩
  obtain ⟨D1, b0, g0, r, p2, b2, g2, s2, W2, hD1, hl, hbd, hKP⟩ := hR
  have u : ∀ j, j ≠ 169 → D1 j = D0 j := fun j hj => by rw [hD1, m_u_n hj]
  rw [u 172 (by decide), d 172 (by decide) (by decide), d 170 (by decide) (by decide), ← G.2.2.2.2.1.1] at hl
  obtain ⟨ok9, nx9, wr9, lc9, LN9, v9, p9, b9, g9, s9, W9, e1, e2, hc⟩ := t_rls hH (b := b0) (g := g0) (s := 0) (W := (D 170).1) (LN := (k_D1 D e 71).1)
  rw [h1] at e1
  rw [hl] at e2
  simp only [Prod.mk.injEq] at e1 e2
  obtain ⟨rfl, rfl, rfl, rfl, rfl⟩ := e1
  obtain ⟨rfl, rfl, rfl, rfl, rfl, rfl⟩ := e2
  have hW : ∀ j, j < 8747 → W2 j = (D 170).1 j := by
    intro j hj
    have z := l_all_k (T := (D 65).1) (e := e) (G := l_rule (D 65).1 e) (fun k hk => l_rule_k hk) (p := 0) (b := b0) (g := g0) (s := 0) (W := (D 170).1) hj
    rw [hl] at z
    exact z
  have d169 := d 169 (by decide) (by decide)
  have d64 : (D0 64).1 = upd (D 64).1 1 0 := by rw [hD0, y_si_s, k_Q_n (by decide), k_D1_n (by decide)]
  have d66 : (D0 66).1 2 = wr2 := by rw [hD0, y_si_n (by decide)]; rfl
  have fin : ∀ (x9 y9 : Int32), D3 = y_si (m_P (y_si D1 169 10 y9) p2 b2 g2 s2 W2) 169 0 x9 → wr2 = y9 → (D3 169).1 0 = x9 ∧ g_G n2 L D3 := by
    intro x9 y9 hD3 hy
    have t : ∀ j, j ≠ 169 → j ≠ 170 → D3 j = D0 j := fun j a1 a2 => by rw [hD3, y_si_n a1, m_P_n a1 a2, y_si_n a1, u j a1]
    have t170 : (D3 170).1 = W2 := by rw [hD3]; rfl
    have t169 : (D3 169).1 = upd (upd (upd (upd (upd (upd (upd (upd (upd (upd (upd (D0 169).1 0 0) 7 (nI e)) 5 0) 6 0) 12 0) 10 y9) 6 (nI p2)) 8 (nI b2)) 9 (nI g2)) 12 (nI s2)) 0 x9 := by rw [hD3, hD1]; rfl
    have t64 := t 64 (by decide) (by decide)
    have t66 := t 66 (by decide) (by decide)
    refine ⟨by rw [t169]; rfl, g_rd_th G hn2 (fun j a1 a2 a3 a4 => (t j a3 a4).trans (d j a1 a2)) (fun j hj => by rw [t170]; exact hW j hj) (by rw [t64, d64]; rfl) (by rw [t64, d64]; rfl) (by rw [t66, d66, t169, hy]; rfl) (by rw [t169]; rfl) (by rw [t169, ← d169]; rfl)⟩
  rcases hc with ⟨hok, hwr, cnt, h10, hv, -⟩ | ⟨hok, hv, hwr⟩
  · have hr0 : 0 ≤ r := by rw [hv]; exact nI_pos' (by omega)
    rcases hX with ⟨hf, -⟩ | ⟨-, hkr, hE⟩
    · rw [hok] at hf
      exact absurd hf (by decide)
    · rcases hKP with ⟨hf, -⟩ | ⟨-, -, -, hD3⟩ | ⟨-, hf, -⟩
      · exact absurd hr0 hf
      · rcases i with _ | _ | i
        · exact absurd ((Option.some.inj hi).trans hE) (show ¬ y_IAE = y_UOE by decide)
        · exact fin _ _ hD3 hwr
        · exact absurd hi (by simp)
      · exact absurd hkr hf
  · rcases hX with ⟨-, hE⟩ | ⟨hf, -⟩
    · have hr0 : ¬ 0 ≤ r := by rw [hv]; decide
      rcases hKP with ⟨-, -, hD3⟩ | ⟨hf, -⟩ | ⟨hf, -⟩
      · rcases i with _ | _ | i
        · exact fin _ _ hD3 hwr
        · exact absurd ((Option.some.inj hi).trans hE) (show ¬ y_UOE = y_IAE by decide)
        · exact absurd hi (by simp)
      · exact absurd hf hr0
      · exact absurd hf hr0
    · rw [hok] at hf
      exact absurd hf (by decide)
theorem z_way1 (G : g_G n L D) {e k : Nat} (he : e ≤ 400) (hk : (D 73).1 4 = nI k) {nx2 : Nat} {wr2 fr2 tk2 rc2 : Int32} {sc2 : Nat} {ST2 : Nat → Int32} {g : Nat → Int32} (h1 : k_wls (k_D1 D e 68).1 (k_D1 D e 69).1 (k_D1 D e 70).1 (k_D1 D e 72).1 = (true, nx2, wr2, fr2, tk2, rc2, sc2, ST2)) (hsc : sc2 ≤ 800) (hk4 : k < 6) (hg : ∀ j, j < sc2 → g j = ST2 j) {x : Int64} {D0 D3 : y_D} {b : Int32} (hD0 : D0 = y_sl (y_si (y_sq (k_nw (y_si (k_Q (k_D1 D e) nx2 wr2 0 fr2 tk2 rc2 sc2 (k_D1 D e 71).1 ST2) 64 1 0) n fr2 tk2 rc2 g sc2) 77 k n) 73 4 (nI (k + 1))) 189 0 x) (hR : ∃ (D1 : y_D) (b0 g0 : Nat) (r : Int32) (p2 b2 g2 s2 : Nat) (W2 : Nat → Int32), D1 = m_u D0 e ∧ l_all (D1 172).1 e (l_way (D1 172).1 e) 0 b0 g0 0 (D0 170).1 = (r, p2, b2, g2, s2, W2) ∧ l_bd e 0 0 p2 s2 ∧ m_KP D1 2 4 6 k r p2 b2 g2 s2 W2 b D3) : b = nI k ∧ (D3 169).1 0 = 0 ∧ g_G (n + 2) (L ++ [n] ++ [n + 1]) D3 ∧ D3 189 = D0 189 := by
  have hn := G.1.2.1
  have d : ∀ j, j ≠ 64 → ¬ (66 ≤ j ∧ j < 73) → j ≠ 73 → j ≠ 77 → j ≠ 189 → j ≠ n → j ≠ n + 1 → D0 j = D j := by
    intro j j1 j2 j3 j4 j5 j6 j7
    rw [hD0, y_sl_n j5, y_si_n j3, y_sq_n j4, k_nw_n j6 j7, y_si_n j1, k_Q_n j2, k_D1_n j2]
  have hH : t_H (D 65).1 e (k_D1 D e 68).1 (k_D1 D e 69).1 (k_D1 D e 70).1 (k_m D e) := ⟨G.2.2.2.2.1.2, (t_scan he).1, (t_scan he).2.1, (t_scan he).2.2⟩
  obtain ⟨D1, b0, g0, r, p2, b2, g2, s2, W2, hD1, hl, hbd, hKP⟩ := hR
  have u : ∀ j, j ≠ 169 → D1 j = D0 j := fun j hj => by rw [hD1, m_u_n hj]
  rw [u 172 (by decide), d 172 (by decide) (by decide) (by decide) (by decide) (by decide) (by omega) (by omega), d 170 (by decide) (by decide) (by decide) (by decide) (by decide) (by omega) (by omega), ← G.2.2.2.2.1.1] at hl
  have hm400 : k_m D e ≤ 400 := k_m_le he
  obtain ⟨ok9, nx9, wr9, fr9, tk9, rc9, sc9, ST9, v9, p9, b9, g9, s9, W9, e1, e2, hc⟩ := t_wls hH hm400 (b := b0) (g := g0) (W := (D 170).1) (ST := (k_D1 D e 72).1)
  rw [h1] at e1
  rw [hl] at e2
  simp only [Prod.mk.injEq] at e1 e2
  obtain ⟨rfl, rfl, rfl, rfl, rfl, rfl, rfl, rfl⟩ := e1
  obtain ⟨rfl, rfl, rfl, rfl, rfl, rfl⟩ := e2
  have hW : ∀ j, j < 8747 → W2 j = (D 170).1 j := by
    intro j hj
    have z := l_all_k (T := (D 65).1) (e := e) (G := l_way (D 65).1 e) (fun k hk => l_way_k hk) (p := 0) (b := b0) (g := g0) (s := 0) (W := (D 170).1) hj
    rw [hl] at z
    exact z
  rcases hc with ⟨-, hwr, cnt, h10, hv, hWY⟩ | ⟨hf, -⟩
  case inr => exact absurd hf (by decide)
  have hr0 : 0 ≤ r := by rw [hv]; exact nI_pos' (by omega)
  rcases hKP with ⟨hf, -⟩ | ⟨-, hf, -⟩ | ⟨-, -, hb, hD3⟩
  · exact absurd hr0 hf
  · omega
  have t : ∀ j, j ≠ 169 → j ≠ 170 → D3 j = D0 j := fun j a1 a2 => by rw [hD3, m_P_n a1 a2, y_si_n a1, u j a1]
  obtain ⟨W3, hW3⟩ : ∃ z, z = upd (upd (y_cpw W2 (237 + 851 * (4 + k)) 851) (237 + 851 * (4 + k)) r) 2 (nI (k + 1)) := ⟨_, rfl⟩
  rw [← hW3] at hD3
  have t170 : (D3 170).1 = W3 := by rw [hD3]; rfl
  have t169 : (D3 169).1 = upd (upd (upd (upd (upd (upd (upd (upd (upd (upd (D0 169).1 0 0) 7 (nI e)) 5 0) 6 0) 12 0) 10 (-1)) 6 (nI p2)) 8 (nI b2)) 9 (nI g2)) 12 (nI s2) := by rw [hD3, hD1]; rfl
  have w1 : W3 2 = nI (k + 1) := by rw [hW3, y_upds]
  have w0 : W3 (237 + 851 * (4 + k)) = nI cnt := by rw [hW3, v_w9_0 (by omega)]; exact hv
  have wt : ∀ o, 1 ≤ o ∧ o < 851 → W3 (237 + 851 * (4 + k) + o) = W2 (8747 + o) := fun o ho => by rw [hW3, v_w9_t (by omega) ho]
  have wo : ∀ j, j ≠ 2 → j < 8747 → ¬ (237 + 851 * (4 + k) ≤ j ∧ j < 237 + 851 * (4 + k) + 851) → W3 j = (D 170).1 j := fun j a1 a2 a3 => by rw [hW3, v_w9_o a1 a3]; exact hW j a2
  have dd : ∀ j, j ≠ 64 → ¬ (66 ≤ j ∧ j < 73) → j ≠ 73 → j ≠ 77 → j ≠ 189 → j ≠ n → j ≠ n + 1 → j ≠ 169 → j ≠ 170 → D3 j = D j := fun j a1 a2 a3 a4 a5 a6 a7 a8 a9 => (t j a8 a9).trans (d j a1 a2 a3 a4 a5 a6 a7)
  have ds : ∀ j, 73 ≤ j → j < 169 → j ≠ 73 → j ≠ 77 → D3 j = D j := fun j a1 a2 a3 a4 => dd j (by omega) (by omega) a3 a4 (by omega) (by omega) (by omega) (by omega) (by omega)
  have dl : ∀ j, j ∈ L → y_dh j → D3 j = D j := fun j a1 a2 => by
    have := G.1.2.2 j a1
    unfold y_dh at a2
    exact dd j (by omega) (by omega) (by omega) (by omega) (by omega) (by omega) (by omega) (by omega) (by omega)
  have hsub : ∀ h, h ∈ L → h ∈ L ++ [n] ++ [n + 1] := fun h hh => v_mem3.mpr (Or.inl hh)
  have m1 : n ∈ L ++ [n] ++ [n + 1] := v_mem3.mpr (Or.inr (Or.inl rfl))
  have m2 : n + 1 ∈ L ++ [n] ++ [n + 1] := v_mem3.mpr (Or.inr (Or.inr rfl))
  have t64 : (D3 64).1 = upd (D 64).1 1 0 := by rw [t 64 (by decide) (by decide), hD0, y_sl_n (by decide), y_si_n (by decide), y_sq_n (by decide), k_nw_n (by omega) (by omega), y_si_s, k_Q_n (by decide), k_D1_n (by decide)]
  have t66 : (D3 66).1 2 = -1 := by rw [t 66 (by decide) (by decide), hD0, y_sl_n (by decide), y_si_n (by decide), y_sq_n (by decide), k_nw_n (by omega) (by omega), y_si_n (by decide)]; exact hwr
  have t73 : ∀ j, j ≠ 4 → (D3 73).1 j = (D 73).1 j := fun j hj => by rw [t 73 (by decide) (by decide), hD0, y_sl_n (by decide), y_si_1, if_neg hj, y_sq_n (by decide), k_nw_n (by omega) (by omega), y_si_n (by decide), k_Q_n (by decide), k_D1_n (by decide)]
  have t73k : (D3 73).1 4 = nI (k + 1) := by rw [t 73 (by decide) (by decide), hD0, y_sl_n (by decide), y_si_1, if_pos rfl]
  have tr : (D3 77).2.2.1 = va_up (D 77).2.2.1 k (some n) := by rw [t 77 (by decide) (by decide), hD0, y_sl_n (by decide), y_si_n (by decide)]; unfold y_sq; rw [if_pos rfl, k_nw_n (by omega) (by omega), y_si_n (by decide), k_Q_n (by decide), k_D1_n (by decide)]
  have tn : D3 n = k_nwc n fr2 tk2 rc2 := by rw [t n (by omega) (by omega), hD0, y_sl_n (by omega), y_si_n (by omega), y_sq_n (by omega)]; unfold k_nw; rw [if_pos rfl]
  have tn1 : D3 (n + 1) = (g, fun _ => 0, fun _ => none, 0, sc2) := by rw [t (n + 1) (by omega) (by omega), hD0, y_sl_n (by omega), y_si_n (by omega), y_sq_n (by omega)]; unfold k_nw; rw [if_neg (by omega), if_pos rfl]
  have trk : (D3 77).2.2.1 k = some n := by rw [tr]; unfold va_up; rw [if_pos rfl]
  have tro : ∀ i, i ≠ k → (D3 77).2.2.1 i = (D 77).2.2.1 i := fun i hi => by rw [tr]; unfold va_up; rw [if_neg hi]
  obtain ⟨⟨b0', b3, b4, b5, b6, b7, b8, b9'⟩, br, bw, s1, s2', s3, s4⟩ := id G.2.1
  have hkq : q_n (D 170).1 2 = k := (q_mk (W := (D 170).1) (B := 6) (bw.1.symm.trans hk) (by omega) (by omega)).2
  have hs4 : s2 ≤ 400 := by unfold l_bd at hbd; omega
  have hWY2 : t_WY W3 (4 + k) cnt s2 sc2 ST2 fr2 tk2 rc2 := t_WY_c (hWY (by omega)) (fun o ho => by rw [wt o (by omega)])
  have hnew := k_WA_new (T := D3) hn trk tn tn1 m1 m2 hsc hg hs4 w0 h10 hWY2
  have hB : g_B D3 (L ++ [n] ++ [n + 1]) (D3 170).1 := by
    rw [t170]
    have n1 : q_n (D 170).1 1 ≤ q_n W3 1 := by unfold q_n; rw [wo 1 (by decide) (by omega) (by omega)]; exact Nat.le_refl _
    have n3 : q_n (D 170).1 3 ≤ q_n W3 3 := by unfold q_n; rw [wo 3 (by decide) (by omega) (by omega)]; exact Nat.le_refl _
    have f : ∀ {h9 cnt base wd mx : Nat} {R R2 : (Nat → Int32) → Prop}, g_T D (D 170).1 h9 cnt base wd mx R → 73 < h9 → h9 + 1 < 92 → h9 ≠ 76 → h9 ≠ 77 → h9 + 1 ≠ 76 → h9 + 1 ≠ 77 → cnt ≠ 2 → cnt < 12 → 12 ≤ base → base + mx * wd ≤ 237 → g_cg wd R R2 → g_T D3 W3 h9 cnt base wd mx R2 := by
      intro h9 cnt base wd mx R R2 b a1 a2 a3 a4 a5 a6 a7 a8 a9 a10 hR
      have e1 := ds h9 (by omega) (by omega) (by omega) (by omega)
      have e2 := ds (h9 + 1) (by omega) (by omega) (by omega) (by omega)
      exact g_T_fr b (by rw [e1]) (by rw [e1]) (fun j _ => by rw [e2]) (wo cnt (by omega) (by omega) (by omega)) (fun j hj => wo _ (by omega) (by omega) (by omega)) hR
    refine ⟨⟨f b0' (by decide) (by decide) (by decide) (by decide) (by decide) (by decide) (by decide) (by decide) (by decide) (by decide) g_cg0, f b3 (by decide) (by decide) (by decide) (by decide) (by decide) (by decide) (by decide) (by decide) (by decide) (by decide) g_cg3, f b4 (by decide) (by decide) (by decide) (by decide) (by decide) (by decide) (by decide) (by decide) (by decide) (by decide) (g_cg4 n3), f b5 (by decide) (by decide) (by decide) (by decide) (by decide) (by decide) (by decide) (by decide) (by decide) (by decide) g_cg5, f b6 (by decide) (by decide) (by decide) (by decide) (by decide) (by decide) (by decide) (by decide) (by decide) (by decide) g_cg6, f b7 (by decide) (by decide) (by decide) (by decide) (by decide) (by decide) (by decide) (by decide) (by decide) (by decide) (g_cg7 n1), f b8 (by decide) (by decide) (by decide) (by decide) (by decide) (by decide) (by decide) (by decide) (by decide) (by decide) g_cg8, f b9' (by decide) (by decide) (by decide) (by decide) (by decide) (by decide) (by decide) (by decide) (by decide) (by decide) g_cg9⟩, ?_, ?_, ?_⟩
    · exact g_RU_fr br (t73 2 (by decide)) (fun i _ => by rw [ds 76 (by decide) (by decide) (by decide) (by decide)]) dl hsub (wo 1 (by decide) (by omega) (by omega)) (fun j j1 j2 => wo j (by omega) (by omega) (by omega))
    · exact g_WA_add bw hkq hk4 t73k tro dl hsub w1 (fun j j1 j2 => wo j (by omega) (by omega) (by omega)) hnew.2.1 hnew.2.2 hnew.1
    · exact ⟨by rw [t73 12 (by decide), wo 11 (by decide) (by omega) (by omega)]; exact s1, (q_ok_e (wo 11 (by decide) (by omega) (by omega)) s2').1, by rw [t73 13 (by decide), wo 10 (by decide) (by omega) (by omega)]; exact s3, (q_ok_e (wo 10 (by decide) (by omega) (by omega)) s4).1⟩
  have c2 : q_n (D3 73).1 2 = q_n (D 73).1 2 := by unfold q_n; rw [t73 2 (by decide)]
  have c4 : q_n (D 73).1 4 = k := (q_mk (B := 6) hk (by omega) (by omega)).2
  have c4' : q_n (D3 73).1 4 = k + 1 := (q_mk (B := 6) t73k (by omega) (by omega)).2
  have hC : k_CI D3 := k_CI_fr (e := 1) (by decide) (g_k_B G.2.1) (ds 162 (by decide) (by decide) (by decide) (by decide)) (ds 74 (by decide) (by decide) (by decide) (by decide)) (ds 75 (by decide) (by decide) (by decide) (by decide)) (fun _ _ => by rw [ds 76 (by decide) (by decide) (by decide) (by decide)]) (fun i hi => tro i (by omega)) dl (by omega) (by omega) G.2.2.1
  have d169 := d 169 (by decide) (by decide) (by decide) (by decide) (by decide) (by omega) (by omega)
  refine ⟨hb, by rw [t169]; rfl, ?_, t 189 (by decide) (by decide)⟩
  refine g_G_rd G (fun h hh => hsub h (G.1.1 h hh)) (by omega) (fun h hh => ?_) hsub hB hC (by rw [t64]; rfl) (by rw [t64]; rfl) (dd 65 (by decide) (by decide) (by decide) (by decide) (by decide) (by omega) (by omega) (by decide) (by decide)) (dd 172 (by decide) (by decide) (by decide) (by decide) (by decide) (by omega) (by omega) (by decide) (by decide)) (by rw [t66, t169]; rfl) (by rw [t169]; rfl) (by rw [t169, ← d169]; rfl) (fun j hj => dd j (by omega) (by omega) (by omega) (by omega) (by omega) (by omega) (by omega) (by omega) (by omega)) dl
  rcases v_mem3.mp hh with hh | hh | hh
  · have := G.1.2.2 h hh
    omega
  · omega
  · omega
theorem z_way2 (G : g_G n L D) {e k n2 : Nat} (he : e ≤ 400) {ok : Bool} {nx2 : Nat} {wr2 fr2 tk2 rc2 : Int32} {sc2 : Nat} {ST2 : Nat → Int32} (h1 : k_wls (k_D1 D e 68).1 (k_D1 D e 69).1 (k_D1 D e 70).1 (k_D1 D e 72).1 = (ok, nx2, wr2, fr2, tk2, rc2, sc2, ST2)) (hn2 : n ≤ n2) {i : Nat} {E9 : String} (hi : [y_IAE, y_UOE][i]? = some E9) (hX : (ok = false ∧ E9 = y_IAE) ∨ (ok = true ∧ k = 6 ∧ E9 = y_UOE)) {D0 D3 : y_D} {b : Int32} (hD0 : D0 = y_si (k_Q (k_D1 D e) nx2 wr2 0 fr2 tk2 rc2 sc2 (k_D1 D e 71).1 ST2) 64 1 0) (hR : ∃ (D1 : y_D) (b0 g0 : Nat) (r : Int32) (p2 b2 g2 s2 : Nat) (W2 : Nat → Int32), D1 = m_u D0 e ∧ l_all (D1 172).1 e (l_way (D1 172).1 e) 0 b0 g0 0 (D0 170).1 = (r, p2, b2, g2, s2, W2) ∧ l_bd e 0 0 p2 s2 ∧ m_KP D1 2 4 6 k r p2 b2 g2 s2 W2 b D3) : (D3 169).1 0 = nI (i + 1) ∧ g_G n2 L D3 := by
  have hn := G.1.2.1
  have d : ∀ j, j ≠ 64 → ¬ (66 ≤ j ∧ j < 73) → D0 j = D j := by
    intro j j1 j2
    rw [hD0, y_si_n j1, k_Q_n j2, k_D1_n j2]
  have hH : t_H (D 65).1 e (k_D1 D e 68).1 (k_D1 D e 69).1 (k_D1 D e 70).1 (k_m D e) := ⟨G.2.2.2.2.1.2, (t_scan he).1, (t_scan he).2.1, (t_scan he).2.2⟩
  obtain ⟨D1, b0, g0, r, p2, b2, g2, s2, W2, hD1, hl, hbd, hKP⟩ := hR
  have u : ∀ j, j ≠ 169 → D1 j = D0 j := fun j hj => by rw [hD1, m_u_n hj]
  rw [u 172 (by decide), d 172 (by decide) (by decide), d 170 (by decide) (by decide), ← G.2.2.2.2.1.1] at hl
  have hm400 : k_m D e ≤ 400 := k_m_le he
  obtain ⟨ok9, nx9, wr9, fr9, tk9, rc9, sc9, ST9, v9, p9, b9, g9, s9, W9, e1, e2, hc⟩ := t_wls hH hm400 (b := b0) (g := g0) (W := (D 170).1) (ST := (k_D1 D e 72).1)
  rw [h1] at e1
  rw [hl] at e2
  simp only [Prod.mk.injEq] at e1 e2
  obtain ⟨rfl, rfl, rfl, rfl, rfl, rfl, rfl, rfl⟩ := e1
  obtain ⟨rfl, rfl, rfl, rfl, rfl, rfl⟩ := e2
  have hW : ∀ j, j < 8747 → W2 j = (D 170).1 j := by
    intro j hj
    have z := l_all_k (T := (D 65).1) (e := e) (G := l_way (D 65).1 e) (fun k hk => l_way_k hk) (p := 0) (b := b0) (g := g0) (s := 0) (W := (D 170).1) hj
    rw [hl] at z
    exact z
  have d169 := d 169 (by decide) (by decide)
  have d64 : (D0 64).1 = upd (D 64).1 1 0 := by rw [hD0, y_si_s, k_Q_n (by decide), k_D1_n (by decide)]
  have d66 : (D0 66).1 2 = wr2 := by rw [hD0, y_si_n (by decide)]; rfl
  have fin : ∀ (x9 y9 : Int32), D3 = y_si (m_P (y_si D1 169 10 y9) p2 b2 g2 s2 W2) 169 0 x9 → wr2 = y9 → (D3 169).1 0 = x9 ∧ g_G n2 L D3 := by
    intro x9 y9 hD3 hy
    have t : ∀ j, j ≠ 169 → j ≠ 170 → D3 j = D0 j := fun j a1 a2 => by rw [hD3, y_si_n a1, m_P_n a1 a2, y_si_n a1, u j a1]
    have t170 : (D3 170).1 = W2 := by rw [hD3]; rfl
    have t169 : (D3 169).1 = upd (upd (upd (upd (upd (upd (upd (upd (upd (upd (upd (D0 169).1 0 0) 7 (nI e)) 5 0) 6 0) 12 0) 10 y9) 6 (nI p2)) 8 (nI b2)) 9 (nI g2)) 12 (nI s2)) 0 x9 := by rw [hD3, hD1]; rfl
    have t64 := t 64 (by decide) (by decide)
    have t66 := t 66 (by decide) (by decide)
    refine ⟨by rw [t169]; rfl, g_rd_th G hn2 (fun j a1 a2 a3 a4 => (t j a3 a4).trans (d j a1 a2)) (fun j hj => by rw [t170]; exact hW j hj) (by rw [t64, d64]; rfl) (by rw [t64, d64]; rfl) (by rw [t66, d66, t169, hy]; rfl) (by rw [t169]; rfl) (by rw [t169, ← d169]; rfl)⟩
  rcases hc with ⟨hok, hwr, cnt, h10, hv, -⟩ | ⟨hok, hv, hwr⟩
  · have hr0 : 0 ≤ r := by rw [hv]; exact nI_pos' (by omega)
    rcases hX with ⟨hf, -⟩ | ⟨-, hkr, hE⟩
    · rw [hok] at hf
      exact absurd hf (by decide)
    · rcases hKP with ⟨hf, -⟩ | ⟨-, -, -, hD3⟩ | ⟨-, hf, -⟩
      · exact absurd hr0 hf
      · rcases i with _ | _ | i
        · exact absurd ((Option.some.inj hi).trans hE) (show ¬ y_IAE = y_UOE by decide)
        · exact fin _ _ hD3 hwr
        · exact absurd hi (by simp)
      · exact absurd hkr hf
  · rcases hX with ⟨-, hE⟩ | ⟨hf, -⟩
    · have hr0 : ¬ 0 ≤ r := by rw [hv]; decide
      rcases hKP with ⟨-, -, hD3⟩ | ⟨hf, -⟩ | ⟨hf, -⟩
      · rcases i with _ | _ | i
        · exact fin _ _ hD3 hwr
        · exact absurd ((Option.some.inj hi).trans hE) (show ¬ y_UOE = y_IAE by decide)
        · exact absurd hi (by simp)
      · exact absurd hf hr0
      · exact absurd hf hr0
    · rw [hok] at hf
      exact absurd hf (by decide)
end P35

/-! the calls that only ask: class and reference alike -/
section P33
variable {D : y_D} {L : List Nat} {n : Nat}
theorem v_rg {W : Nat → Int32} {j B t : Nat} (h : q_ok W j B) (hB : B < 2 ^ 30) (ht : t < q_n W j) : 0 ≤ nI t ∧ nI t < W j := by
  obtain ⟨h1, h2⟩ := h
  have e : nI t < W j := by
    rw [h1]
    exact nI_lt ht (by omega)
  exact ⟨nI_pos' (by omega), e⟩
theorem v_rc {W : Nat → Int32} {j B : Nat} {p : Int32} (h : q_ok W j B) (hB : B < 2 ^ 30) : (0 ≤ p ∧ p ≤ W j - 1) ↔ (0 ≤ p ∧ p < W j) := by
  rw [h.1, v_lt1 (by have := h.2; omega)]
theorem v_rl {t B : Nat} (h : t ≤ B) (hB : B < 2 ^ 30) : 0 ≤ nI t ∧ nI t ≤ nI B := ⟨nI_pos' (by omega), nI_le h (by omega)⟩
theorem v_is {v w : Int32} {P Q : Prop} (h1 : y_is v P) (h2 : y_is w Q) (h : P ↔ Q) : v = w := by
  unfold y_is at h1 h2
  rcases h1 with ⟨rfl, h1⟩ | ⟨rfl, h1⟩ <;> rcases h2 with ⟨rfl, h2⟩ | ⟨rfl, h2⟩
  · rfl
  · exact absurd (h.mp h1) h2
  · exact absurd (h.mpr h2) h1
  · rfl
theorem g_ask0 (G : g_G n L D) {D1 : y_D} (hs : ∀ j, ¬ ((152 ≤ j ∧ j < 169) ∨ j = 190) → D1 j = D j) : k_B D1 L := by
  refine g_k_B (W := (D 170).1) (g_B_eq G.2.1 (fun j hj => hs j ?_))
  unfold y_dh at hj
  omega
theorem g_ask (G : g_G n L D) {D0 D3 : y_D} {n2 : Nat} (hn : n ≤ n2) (hs : ∀ j, ¬ ((152 ≤ j ∧ j < 169) ∨ j = 190) → j ≠ 189 → D0 j = D j) (hC : k_CI D0) (hm : m_ot D0 D3) : g_G n2 L D3 := by
  have dh : ∀ j, y_dh j → ¬ (152 ≤ j ∧ j < 170) ∧ ¬ (170 ≤ j ∧ j < 191) := fun j hj => by unfold y_dh at hj; omega
  have e : ∀ j, ¬ (152 ≤ j ∧ j < 170) → ¬ (173 ≤ j ∧ j < 191) → D3 j = D j := fun j h1 h2 => (hm.1 j (by omega)).trans (hs j (by omega) (by omega))
  have hkB : k_B D0 L := by
    refine g_k_B (W := (D 170).1) (g_B_eq G.2.1 (fun j hj => ?_))
    rcases hj with hj | hj
    · exact hs j (by omega) (by omega)
    · have := dh j hj
      exact hs j (by omega) (by omega)
  refine g_G_fr G hn e (fun k hk => (hm.2 k hk).trans (by rw [hs 169 (by decide) (by decide)])) ?_
  have a : ∀ j, j < 169 → D3 j = D0 j := fun j hj => hm.1 j (Or.inl hj)
  refine k_CI_fr (e := 0) (by decide) hkB (a 162 (by decide)) (a 74 (by decide)) (a 75 (by decide)) (fun _ _ => by rw [a 76 (by decide)]) (fun _ _ => by rw [a 77 (by decide)]) (fun j _ hj => ?_) (by rw [a 73 (by decide), Nat.add_zero]) (by rw [a 73 (by decide)]; exact Nat.le_refl _) hC
  have := dh j hj
  exact hm.1 j (by omega)
theorem g_ask1 (G : g_G n L D) {D1 : y_D} (hs : ∀ j, ¬ ((152 ≤ j ∧ j < 169) ∨ j = 190) → D1 j = D j) (hC : k_CI D1) {x : Int64} : (y_sl D1 189 0 x) 170 = D 170 ∧ ∀ D3, m_ot (y_sl D1 189 0 x) D3 → g_G n L D3 ∧ D3 189 = y_sl D1 189 0 x 189 := by
  refine ⟨by rw [y_sl_n (by decide)]; exact hs 170 (by decide), fun D3 hm => ⟨g_ask G (Nat.le_refl _) (fun j h1 h2 => by rw [y_sl_n h2]; exact hs j h1) ?_ hm, hm.1 189 (by decide)⟩⟩
  refine k_CI_fr (e := 0) (by decide) (g_ask0 G hs) rfl rfl rfl (fun _ _ => rfl) (fun _ _ => rfl) (fun j _ hj => ?_) rfl (Nat.le_refl _) hC
  have : j ≠ 189 := by unfold y_dh at hj; omega
  exact y_sl_n this
theorem g_CI1 (G : g_G n L D) {D1 : y_D} (hs : ∀ j, ¬ (163 ≤ j ∧ j < 169) → D1 j = D j) : k_CI D1 := by
  refine k_CI_fr (e := 0) (by decide) (g_k_B G.2.1) (hs 162 (by decide)) (hs 74 (by decide)) (hs 75 (by decide)) (fun _ _ => by rw [hs 76 (by decide)]) (fun _ _ => by rw [hs 77 (by decide)]) (fun j _ hj => hs j ?_) (by rw [hs 73 (by decide), Nat.add_zero]) (by rw [hs 73 (by decide)]; exact Nat.le_refl _) G.2.2.1
  unfold y_dh at hj
  omega
theorem g_ask2 (G : g_G n L D) {n2 : Nat} (hn : n ≤ n2) {D3 : y_D} (hm : m_ot D D3) : g_G n2 L D3 := g_ask G hn (fun _ _ _ => rfl) G.2.2.1 hm
theorem z_can (G : g_G n L D) {p u hl : Int32} : z_Q n L D (fun v D2 => (k_same D D2 ∧ k_CI D2) ∧ ∃ t DS, t < q_n (D 73).1 2 ∧ p = nI t ∧ c_G (c_per D (q_n (D 74).1 2)) DS (k_rt D t) (-1) (k_rm D t) ∧ y_is v (k_can D DS t u hl)) (fun E9 => ¬ (0 ≤ p ∧ p < (D 73).1 2) ∧ E9 = y_IOB) [y_IOB] (fun D0 b D3 => m_ot D0 D3 ∧ (((¬ (0 ≤ p ∧ p ≤ (D0 170).1 1 - 1)) ∧ (D3 169).1 0 = 1) ∨ ∃ t, t < q_n (D0 170).1 1 ∧ p = nI t ∧ (D3 169).1 0 = 0 ∧ ∃ DL, m_L (D0 170).1 DL t (-1) ∧ y_is b (m_can DL (u &&& (nI (2 ^ (q_n (D0 170).1 2)) - 1)) hl (m_ls (D0 170).1 t (-1)) (q_n (D0 170).1 2) (q_n (D0 170).1 4)))) (fun v b => v = b) := by
  have or : q_ok (D 170).1 1 4 := G.2.1.2.1.2.1
  have er : (D 73).1 2 = (D 170).1 1 := G.2.1.2.1.1
  have nr : q_n (D 73).1 2 = q_n (D 170).1 1 := (q_ok_e er or).2
  have br := or.2
  have hB := G.2.1
  refine ⟨fun v D1 x9 hP b D3 hR => ?_, fun i E9 n2 hi hX hn b D3 hR => ?_⟩
  · obtain ⟨⟨hs, hC⟩, t, DS, l_p, h_p, hS, hv⟩ := hP
    have hq := g_ask1 G (fun j hj => hs.1 j (by simp only [List.mem_cons, List.not_mem_nil, or_false]; omega)) hC (x := x9)
    dsimp only at hR
    rw [hq.1] at hR
    obtain ⟨hm, hR⟩ := hR
    have hG := hq.2 D3 hm
    have c_p : (0 ≤ p ∧ p ≤ (D 170).1 1 - 1) ↔ (0 ≤ p ∧ p < (D 73).1 2) := by rw [er]; exact v_rc or (by decide)
    rw [c_p] at hR
    have a_p : 0 ≤ p ∧ p < (D 73).1 2 := by rw [h_p, er]; exact v_rg or (by decide) (by rw [← nr]; exact l_p)
    rcases hR with ⟨hr, hz⟩ | ⟨t2, m_p, r_p, hz, DL, hLL, hb⟩
    · exact absurd a_p hr
    · refine ⟨?_, hz, hG.1, hG.2⟩
      have q_p : t2 = t := (nI_eq (by omega) (by omega)).mp (r_p.symm.trans h_p)
      subst q_p
      have hA := g_q_A hB
      have hK := g_k_B hB
      have hW := g_m_W hB
      exact v_is hv hb (q_can hA hK hW (g_q_N hB) m_p hS hLL)
  · dsimp only at hR
    obtain ⟨hm, hR⟩ := hR
    have hG := g_ask2 G hn hm
    have c_p : (0 ≤ p ∧ p ≤ (D 170).1 1 - 1) ↔ (0 ≤ p ∧ p < (D 73).1 2) := by rw [er]; exact v_rc or (by decide)
    rw [c_p] at hR
    obtain ⟨hX, -⟩ := hX
    rcases i with _ | i
    · rcases hR with ⟨hr, hz⟩ | ⟨t2, m_p, r_p, hz, DL, hLL, hb⟩
      · exact ⟨hz, hG⟩
      · exfalso
        have a_p : 0 ≤ p ∧ p < (D 73).1 2 := by rw [r_p, er]; exact v_rg or (by decide) m_p
        exact hX a_p
    · exact absurd hi (by simp)
theorem z_earliest (G : g_G n L D) {p u hl r : Int32} : z_Q n L D (fun v D2 => (k_same D D2 ∧ k_CI D2) ∧ ∃ t th DS, t < q_n (D 73).1 2 ∧ th < q_n (D 78).1 2 ∧ p = nI t ∧ r = nI th ∧ c_G (c_per D (q_n (D 74).1 2)) DS (k_rt D t) (-1) (k_rm D t) ∧ k_fs (k_SS D DS t (-1) u hl (y_al DS (k_last D t (-1))) (k_last D t (-1))) (K_setsFor D (q_n (D 78).1 2) th (q_n (D 73).1 4) u) (k_last D t (-1)) v) (fun E9 => (¬ (0 ≤ p ∧ p < (D 73).1 2) ∨ ¬ (0 ≤ r ∧ r < (D 78).1 2)) ∧ E9 = y_IOB) [y_IOB] (fun D0 b D3 => m_ot D0 D3 ∧ (((¬ (0 ≤ p ∧ p ≤ (D0 170).1 1 - 1) ∨ ¬ (0 ≤ r ∧ r ≤ (D0 170).1 3 - 1)) ∧ (D3 169).1 0 = 1) ∨ ∃ t th, t < q_n (D0 170).1 1 ∧ th < q_n (D0 170).1 3 ∧ p = nI t ∧ r = nI th ∧ (D3 169).1 0 = 0 ∧ ∃ DL, m_L (D0 170).1 DL t (-1) ∧ m_ea (fun s f => m_me DL (u &&& (nI (2 ^ (q_n (D0 170).1 2)) - 1)) hl (m_ls (D0 170).1 t (-1)) (q_n (D0 170).1 2) (16 * s + f) ∧ m_cd (D0 170).1 th f (m_rc (D0 170).1 (u &&& (nI (2 ^ (q_n (D0 170).1 2)) - 1)) (q_n (D0 170).1 2))) (m_ls (D0 170).1 t (-1)) b)) (fun v b => v = b) := by
  have or : q_ok (D 170).1 1 4 := G.2.1.2.1.2.1
  have er : (D 73).1 2 = (D 170).1 1 := G.2.1.2.1.1
  have nr : q_n (D 73).1 2 = q_n (D 170).1 1 := (q_ok_e er or).2
  have br := or.2
  have ot : q_ok (D 170).1 3 6 := G.2.1.1.2.1.2.1
  have et : (D 78).1 2 = (D 170).1 3 := G.2.1.1.2.1.1.1
  have nt : q_n (D 78).1 2 = q_n (D 170).1 3 := (q_ok_e et ot).2
  have bt := ot.2
  have hB := G.2.1
  refine ⟨fun v D1 x9 hP b D3 hR => ?_, fun i E9 n2 hi hX hn b D3 hR => ?_⟩
  · obtain ⟨⟨hs, hC⟩, t, th, DS, l_p, l_r, h_p, h_r, hS, hv⟩ := hP
    have hq := g_ask1 G (fun j hj => hs.1 j (by simp only [List.mem_cons, List.not_mem_nil, or_false]; omega)) hC (x := x9)
    dsimp only at hR
    rw [hq.1] at hR
    obtain ⟨hm, hR⟩ := hR
    have hG := hq.2 D3 hm
    have c_p : (0 ≤ p ∧ p ≤ (D 170).1 1 - 1) ↔ (0 ≤ p ∧ p < (D 73).1 2) := by rw [er]; exact v_rc or (by decide)
    rw [c_p] at hR
    have c_r : (0 ≤ r ∧ r ≤ (D 170).1 3 - 1) ↔ (0 ≤ r ∧ r < (D 78).1 2) := by rw [et]; exact v_rc ot (by decide)
    rw [c_r] at hR
    have a_p : 0 ≤ p ∧ p < (D 73).1 2 := by rw [h_p, er]; exact v_rg or (by decide) (by rw [← nr]; exact l_p)
    have a_r : 0 ≤ r ∧ r < (D 78).1 2 := by rw [h_r, et]; exact v_rg ot (by decide) (by rw [← nt]; exact l_r)
    rcases hR with ⟨hr, hz⟩ | ⟨t2, th2, m_p, m_r, r_p, r_r, hz, DL, hLL, hb⟩
    · rcases hr with hr | hr
      · exact absurd a_p hr
      · exact absurd a_r hr
    · refine ⟨?_, hz, hG.1, hG.2⟩
      have q_p : t2 = t := (nI_eq (by omega) (by omega)).mp (r_p.symm.trans h_p)
      subst q_p
      have q_r : th2 = th := (nI_eq (by omega) (by omega)).mp (r_r.symm.trans h_r)
      subst q_r
      have hA := g_q_A hB
      have hK := g_k_B hB
      have hW := g_m_W hB
      exact q_earliest hA hK hW m_p m_r hS hLL hv hb
  · dsimp only at hR
    obtain ⟨hm, hR⟩ := hR
    have hG := g_ask2 G hn hm
    have c_p : (0 ≤ p ∧ p ≤ (D 170).1 1 - 1) ↔ (0 ≤ p ∧ p < (D 73).1 2) := by rw [er]; exact v_rc or (by decide)
    rw [c_p] at hR
    have c_r : (0 ≤ r ∧ r ≤ (D 170).1 3 - 1) ↔ (0 ≤ r ∧ r < (D 78).1 2) := by rw [et]; exact v_rc ot (by decide)
    rw [c_r] at hR
    obtain ⟨hX, -⟩ := hX
    rcases i with _ | i
    · rcases hR with ⟨hr, hz⟩ | ⟨t2, th2, m_p, m_r, r_p, r_r, hz, DL, hLL, hb⟩
      · exact ⟨hz, hG⟩
      · exfalso
        have a_p : 0 ≤ p ∧ p < (D 73).1 2 := by rw [r_p, er]; exact v_rg or (by decide) m_p
        have a_r : 0 ≤ r ∧ r < (D 78).1 2 := by rw [r_r, et]; exact v_rg ot (by decide) m_r
        rcases hX with hX | hX
        · exact hX a_p
        · exact hX a_r
    · exact absurd hi (by simp)
theorem z_may (G : g_G n L D) {p u hl x : Int32} : z_Q n L D (fun v D2 => (k_same D D2 ∧ k_CI D2) ∧ ∃ t s DS, t < q_n (D 73).1 2 ∧ s ≤ 300 ∧ p = nI t ∧ x = nI s ∧ c_G (c_per D (q_n (D 74).1 2)) DS (k_rt D t) (-1) (k_rm D t) ∧ v = (if k_last D t (-1) < s then 0 else y_lm ((k_SS D DS t (-1) u hl (y_al DS (k_last D t (-1))) (k_last D t (-1))) s) 16)) (fun E9 => (¬ (0 ≤ p ∧ p < (D 73).1 2) ∧ E9 = y_IOB) ∨ (¬ ¬ (0 ≤ p ∧ p < (D 73).1 2) ∧ ¬ (0 ≤ x ∧ x ≤ 300) ∧ E9 = y_IAE)) [y_IOB, y_IAE] (fun D0 b D3 => m_ot D0 D3 ∧ (((¬ (0 ≤ p ∧ p ≤ (D0 170).1 1 - 1)) ∧ (D3 169).1 0 = 1) ∨ (¬ (¬ (0 ≤ p ∧ p ≤ (D0 170).1 1 - 1)) ∧ ¬ (0 ≤ x ∧ x ≤ 300) ∧ (D3 169).1 0 = 2) ∨ ∃ t s, t < q_n (D0 170).1 1 ∧ s ≤ 300 ∧ p = nI t ∧ x = nI s ∧ (D3 169).1 0 = 0 ∧ ∃ DL, m_L (D0 170).1 DL t (-1) ∧ ((m_ls (D0 170).1 t (-1)) < s → b = 0) ∧ (s ≤ (m_ls (D0 170).1 t (-1)) → m_orf (fun f => m_me DL (u &&& (nI (2 ^ (q_n (D0 170).1 2)) - 1)) hl (m_ls (D0 170).1 t (-1)) (q_n (D0 170).1 2) (16 * s + f)) 16 b))) (fun v b => v = b) := by
  have or : q_ok (D 170).1 1 4 := G.2.1.2.1.2.1
  have er : (D 73).1 2 = (D 170).1 1 := G.2.1.2.1.1
  have nr : q_n (D 73).1 2 = q_n (D 170).1 1 := (q_ok_e er or).2
  have br := or.2
  have hB := G.2.1
  refine ⟨fun v D1 x9 hP b D3 hR => ?_, fun i E9 n2 hi hX hn b D3 hR => ?_⟩
  · obtain ⟨⟨hs, hC⟩, t, s, DS, l_p, l_x, h_p, h_x, hS, hv⟩ := hP
    have hq := g_ask1 G (fun j hj => hs.1 j (by simp only [List.mem_cons, List.not_mem_nil, or_false]; omega)) hC (x := x9)
    dsimp only at hR
    rw [hq.1] at hR
    obtain ⟨hm, hR⟩ := hR
    have hG := hq.2 D3 hm
    have c_p : (0 ≤ p ∧ p ≤ (D 170).1 1 - 1) ↔ (0 ≤ p ∧ p < (D 73).1 2) := by rw [er]; exact v_rc or (by decide)
    rw [c_p] at hR
    have a_p : 0 ≤ p ∧ p < (D 73).1 2 := by rw [h_p, er]; exact v_rg or (by decide) (by rw [← nr]; exact l_p)
    have a_x : 0 ≤ x ∧ x ≤ 300 := by rw [h_x]; exact v_rl (B := 300) (by omega) (by decide)
    rcases hR with ⟨hr, hz⟩ | ⟨hr, hr2, hz⟩ | ⟨t2, s2, m_p, m_x, r_p, r_x, hz, DL, hLL, hb⟩
    · exact absurd a_p hr
    · exact absurd a_x hr2
    · refine ⟨?_, hz, hG.1, hG.2⟩
      have q_p : t2 = t := (nI_eq (by omega) (by omega)).mp (r_p.symm.trans h_p)
      subst q_p
      have q_x : s2 = s := (nI_eq (by omega) (by omega)).mp (r_x.symm.trans h_x)
      subst q_x
      have hA := g_q_A hB
      have hK := g_k_B hB
      have hW := g_m_W hB
      exact q_may hA hK hW m_p hS hLL hv hb
  · dsimp only at hR
    obtain ⟨hm, hR⟩ := hR
    have hG := g_ask2 G hn hm
    have c_p : (0 ≤ p ∧ p ≤ (D 170).1 1 - 1) ↔ (0 ≤ p ∧ p < (D 73).1 2) := by rw [er]; exact v_rc or (by decide)
    rw [c_p] at hR
    rcases i with _ | _ | i
    · have he : y_IOB = E9 := Option.some.inj hi
      rcases hX with ⟨hX, hE⟩ | ⟨hX, hX2, hE⟩
      · rcases hR with ⟨hr, hz⟩ | ⟨hr, hr2, hz⟩ | ⟨t2, s2, m_p, m_x, r_p, r_x, hz, DL, hLL, hb⟩
        · exact ⟨hz, hG⟩
        · exact absurd hX hr
        · exfalso
          have a_p : 0 ≤ p ∧ p < (D 73).1 2 := by rw [r_p, er]; exact v_rg or (by decide) m_p
          have a_x : 0 ≤ x ∧ x ≤ 300 := by rw [r_x]; exact v_rl (B := 300) (by omega) (by decide)
          exact hX a_p
      · exact absurd (he.trans hE) (show ¬ y_IOB = y_IAE by decide)
    · have he : y_IAE = E9 := Option.some.inj hi
      rcases hX with ⟨hX, hE⟩ | ⟨hX, hX2, hE⟩
      · exact absurd (he.trans hE) (show ¬ y_IAE = y_IOB by decide)
      · rcases hR with ⟨hr, hz⟩ | ⟨hr, hr2, hz⟩ | ⟨t2, s2, m_p, m_x, r_p, r_x, hz, DL, hLL, hb⟩
        · exact absurd hr hX
        · exact ⟨hz, hG⟩
        · exfalso
          have a_p : 0 ≤ p ∧ p < (D 73).1 2 := by rw [r_p, er]; exact v_rg or (by decide) m_p
          have a_x : 0 ≤ x ∧ x ≤ 300 := by rw [r_x]; exact v_rl (B := 300) (by omega) (by decide)
          exact hX2 a_x
    · exact absurd hi (by simp)
theorem z_shut (G : g_G n L D) {r : Int32} : z_Q n L D (fun v D2 => (k_same D D2 ∧ k_CI D2) ∧ ∃ th, th < q_n (D 78).1 2 ∧ r = nI th ∧ m_shb (fun t => k_ever D t th false) (fun t => k_ever D t th true) (fun t => nI (2 ^ t)) (fun _ => 0) (q_n (D 73).1 2) v) (fun E9 => ¬ (0 ≤ r ∧ r < (D 78).1 2) ∧ E9 = y_IOB) [y_IOB] (fun D0 b D3 => m_ot D0 D3 ∧ (((¬ (0 ≤ r ∧ r ≤ (D0 170).1 3 - 1)) ∧ (D3 169).1 0 = 1) ∨ ∃ th, th < q_n (D0 170).1 3 ∧ r = nI th ∧ (D3 169).1 0 = 0 ∧ m_shb (fun t => m_sh (D0 170).1 t th (-1)) (fun t => m_ns (D0 170).1 t th (-1)) (fun t => nI (2 ^ t)) (fun _ => 0) (q_n (D0 170).1 1) b)) (fun v b => v = b) := by
  have ot : q_ok (D 170).1 3 6 := G.2.1.1.2.1.2.1
  have et : (D 78).1 2 = (D 170).1 3 := G.2.1.1.2.1.1.1
  have nt : q_n (D 78).1 2 = q_n (D 170).1 3 := (q_ok_e et ot).2
  have bt := ot.2
  have hB := G.2.1
  refine ⟨fun v D1 x9 hP b D3 hR => ?_, fun i E9 n2 hi hX hn b D3 hR => ?_⟩
  · obtain ⟨⟨hs, hC⟩, th, l_r, h_r, hv⟩ := hP
    have hq := g_ask1 G (fun j hj => hs.1 j (by simp only [List.mem_cons, List.not_mem_nil, or_false]; omega)) hC (x := x9)
    dsimp only at hR
    rw [hq.1] at hR
    obtain ⟨hm, hR⟩ := hR
    have hG := hq.2 D3 hm
    have c_r : (0 ≤ r ∧ r ≤ (D 170).1 3 - 1) ↔ (0 ≤ r ∧ r < (D 78).1 2) := by rw [et]; exact v_rc ot (by decide)
    rw [c_r] at hR
    have a_r : 0 ≤ r ∧ r < (D 78).1 2 := by rw [h_r, et]; exact v_rg ot (by decide) (by rw [← nt]; exact l_r)
    rcases hR with ⟨hr, hz⟩ | ⟨th2, m_r, r_r, hz, hb⟩
    · exact absurd a_r hr
    · refine ⟨?_, hz, hG.1, hG.2⟩
      have q_r : th2 = th := (nI_eq (by omega) (by omega)).mp (r_r.symm.trans h_r)
      subst q_r
      have hA := g_q_A hB
      have hK := g_k_B hB
      have hW := g_m_W hB
      exact q_shut hA hK hW m_r hv hb
  · dsimp only at hR
    obtain ⟨hm, hR⟩ := hR
    have hG := g_ask2 G hn hm
    have c_r : (0 ≤ r ∧ r ≤ (D 170).1 3 - 1) ↔ (0 ≤ r ∧ r < (D 78).1 2) := by rw [et]; exact v_rc ot (by decide)
    rw [c_r] at hR
    obtain ⟨hX, -⟩ := hX
    rcases i with _ | i
    · rcases hR with ⟨hr, hz⟩ | ⟨th2, m_r, r_r, hz, hb⟩
      · exact ⟨hz, hG⟩
      · exfalso
        have a_r : 0 ≤ r ∧ r < (D 78).1 2 := by rw [r_r, et]; exact v_rg ot (by decide) m_r
        exact hX a_r
    · exact absurd hi (by simp)
theorem z_opens (G : g_G n L D) {p r : Int32} : z_Q n L D (fun v D2 => (k_same D D2 ∧ k_CI D2) ∧ ∃ t th, t < q_n (D 73).1 2 ∧ th < q_n (D 78).1 2 ∧ p = nI t ∧ r = nI th ∧ ((k_ever D t th false ∧ m_shb (fun i => ∃ DS, c_G (c_per D (q_n (D 74).1 2)) DS (k_rt D t) (nI i) (k_rm D t) ∧ k_fs (k_SS D DS t (nI i) (nI (2 ^ q_n (D 73).1 4) - 1) 0 (y_al DS (k_last D t (nI i))) (k_last D t (nI i))) (K_setsFor D (q_n (D 78).1 2) th (q_n (D 73).1 4) (nI (2 ^ q_n (D 73).1 4) - 1)) (k_last D t (nI i)) (-1)) (fun i => ∃ DS w, c_G (c_per D (q_n (D 74).1 2)) DS (k_rt D t) (nI i) (k_rm D t) ∧ k_fs (k_SS D DS t (nI i) (nI (2 ^ q_n (D 73).1 4) - 1) 0 (y_al DS (k_last D t (nI i))) (k_last D t (nI i))) (K_setsFor D (q_n (D 78).1 2) th (q_n (D 73).1 4) (nI (2 ^ q_n (D 73).1 4) - 1)) (k_last D t (nI i)) w ∧ w ≠ -1) (fun _ => 0) (fun i => nI (2 ^ i)) (k_rm D t) v) ∨ (k_ever D t th true ∧ v = -1))) (fun E9 => (¬ (0 ≤ p ∧ p < (D 73).1 2) ∨ ¬ (0 ≤ r ∧ r < (D 78).1 2)) ∧ E9 = y_IOB) [y_IOB] (fun D0 b D3 => m_ot D0 D3 ∧ (((¬ (0 ≤ p ∧ p ≤ (D0 170).1 1 - 1) ∨ ¬ (0 ≤ r ∧ r ≤ (D0 170).1 3 - 1)) ∧ (D3 169).1 0 = 1) ∨ ∃ t th, t < q_n (D0 170).1 1 ∧ th < q_n (D0 170).1 3 ∧ p = nI t ∧ r = nI th ∧ (D3 169).1 0 = 0 ∧ ((m_sh (D0 170).1 t th (-1) ∧ m_shb (fun i => m_sh (D0 170).1 t th (nI i)) (fun i => m_ns (D0 170).1 t th (nI i)) (fun _ => 0) (fun i => nI (2 ^ i)) (m_k (D0 170).1 t) b) ∨ (m_ns (D0 170).1 t th (-1) ∧ b = -1)))) (fun v b => v = b) := by
  have or : q_ok (D 170).1 1 4 := G.2.1.2.1.2.1
  have er : (D 73).1 2 = (D 170).1 1 := G.2.1.2.1.1
  have nr : q_n (D 73).1 2 = q_n (D 170).1 1 := (q_ok_e er or).2
  have br := or.2
  have ot : q_ok (D 170).1 3 6 := G.2.1.1.2.1.2.1
  have et : (D 78).1 2 = (D 170).1 3 := G.2.1.1.2.1.1.1
  have nt : q_n (D 78).1 2 = q_n (D 170).1 3 := (q_ok_e et ot).2
  have bt := ot.2
  have hB := G.2.1
  refine ⟨fun v D1 x9 hP b D3 hR => ?_, fun i E9 n2 hi hX hn b D3 hR => ?_⟩
  · obtain ⟨⟨hs, hC⟩, t, th, l_p, l_r, h_p, h_r, hv⟩ := hP
    have hq := g_ask1 G (fun j hj => hs.1 j (by simp only [List.mem_cons, List.not_mem_nil, or_false]; omega)) hC (x := x9)
    dsimp only at hR
    rw [hq.1] at hR
    obtain ⟨hm, hR⟩ := hR
    have hG := hq.2 D3 hm
    have c_p : (0 ≤ p ∧ p ≤ (D 170).1 1 - 1) ↔ (0 ≤ p ∧ p < (D 73).1 2) := by rw [er]; exact v_rc or (by decide)
    rw [c_p] at hR
    have c_r : (0 ≤ r ∧ r ≤ (D 170).1 3 - 1) ↔ (0 ≤ r ∧ r < (D 78).1 2) := by rw [et]; exact v_rc ot (by decide)
    rw [c_r] at hR
    have a_p : 0 ≤ p ∧ p < (D 73).1 2 := by rw [h_p, er]; exact v_rg or (by decide) (by rw [← nr]; exact l_p)
    have a_r : 0 ≤ r ∧ r < (D 78).1 2 := by rw [h_r, et]; exact v_rg ot (by decide) (by rw [← nt]; exact l_r)
    rcases hR with ⟨hr, hz⟩ | ⟨t2, th2, m_p, m_r, r_p, r_r, hz, hb⟩
    · rcases hr with hr | hr
      · exact absurd a_p hr
      · exact absurd a_r hr
    · refine ⟨?_, hz, hG.1, hG.2⟩
      have q_p : t2 = t := (nI_eq (by omega) (by omega)).mp (r_p.symm.trans h_p)
      subst q_p
      have q_r : th2 = th := (nI_eq (by omega) (by omega)).mp (r_r.symm.trans h_r)
      subst q_r
      have hA := g_q_A hB
      have hK := g_k_B hB
      have hW := g_m_W hB
      exact q_opens hA hK hW m_p m_r hv hb
  · dsimp only at hR
    obtain ⟨hm, hR⟩ := hR
    have hG := g_ask2 G hn hm
    have c_p : (0 ≤ p ∧ p ≤ (D 170).1 1 - 1) ↔ (0 ≤ p ∧ p < (D 73).1 2) := by rw [er]; exact v_rc or (by decide)
    rw [c_p] at hR
    have c_r : (0 ≤ r ∧ r ≤ (D 170).1 3 - 1) ↔ (0 ≤ r ∧ r < (D 78).1 2) := by rw [et]; exact v_rc ot (by decide)
    rw [c_r] at hR
    obtain ⟨hX, -⟩ := hX
    rcases i with _ | i
    · rcases hR with ⟨hr, hz⟩ | ⟨t2, th2, m_p, m_r, r_p, r_r, hz, hb⟩
      · exact ⟨hz, hG⟩
      · exfalso
        have a_p : 0 ≤ p ∧ p < (D 73).1 2 := by rw [r_p, er]; exact v_rg or (by decide) m_p
        have a_r : 0 ≤ r ∧ r < (D 78).1 2 := by rw [r_r, et]; exact v_rg ot (by decide) m_r
        rcases hX with hX | hX
        · exact hX a_p
        · exact hX a_r
    · exact absurd hi (by simp)
theorem z_fewest (G : g_G n L D) {p hl : Int32} : z_Q n L D (fun v D2 => (k_same D D2 ∧ k_CI D2) ∧ ∃ t DS, t < q_n (D 73).1 2 ∧ p = nI t ∧ c_G (c_per D (q_n (D 74).1 2)) DS (k_rt D t) (-1) (k_rm D t) ∧ k_few (fun s => k_can D DS t (nI s) hl) (2 ^ q_n (D 73).1 4 - 1) v) (fun E9 => ¬ (0 ≤ p ∧ p < (D 73).1 2) ∧ E9 = y_IOB) [y_IOB] (fun D0 b D3 => m_ot D0 D3 ∧ (((¬ (0 ≤ p ∧ p ≤ (D0 170).1 1 - 1)) ∧ (D3 169).1 0 = 1) ∨ ∃ t, t < q_n (D0 170).1 1 ∧ p = nI t ∧ (D3 169).1 0 = 0 ∧ ∃ DL, m_L (D0 170).1 DL t (-1) ∧ m_few (fun i => m_can DL (nI i &&& (nI (2 ^ (q_n (D0 170).1 2)) - 1)) hl (m_ls (D0 170).1 t (-1)) (q_n (D0 170).1 2) (q_n (D0 170).1 4)) (2 ^ (q_n (D0 170).1 2)) b)) (fun v b => v = b) := by
  have or : q_ok (D 170).1 1 4 := G.2.1.2.1.2.1
  have er : (D 73).1 2 = (D 170).1 1 := G.2.1.2.1.1
  have nr : q_n (D 73).1 2 = q_n (D 170).1 1 := (q_ok_e er or).2
  have br := or.2
  have hB := G.2.1
  refine ⟨fun v D1 x9 hP b D3 hR => ?_, fun i E9 n2 hi hX hn b D3 hR => ?_⟩
  · obtain ⟨⟨hs, hC⟩, t, DS, l_p, h_p, hS, hv⟩ := hP
    have hq := g_ask1 G (fun j hj => hs.1 j (by simp only [List.mem_cons, List.not_mem_nil, or_false]; omega)) hC (x := x9)
    dsimp only at hR
    rw [hq.1] at hR
    obtain ⟨hm, hR⟩ := hR
    have hG := hq.2 D3 hm
    have c_p : (0 ≤ p ∧ p ≤ (D 170).1 1 - 1) ↔ (0 ≤ p ∧ p < (D 73).1 2) := by rw [er]; exact v_rc or (by decide)
    rw [c_p] at hR
    have a_p : 0 ≤ p ∧ p < (D 73).1 2 := by rw [h_p, er]; exact v_rg or (by decide) (by rw [← nr]; exact l_p)
    rcases hR with ⟨hr, hz⟩ | ⟨t2, m_p, r_p, hz, DL, hLL, hb⟩
    · exact absurd a_p hr
    · refine ⟨?_, hz, hG.1, hG.2⟩
      have q_p : t2 = t := (nI_eq (by omega) (by omega)).mp (r_p.symm.trans h_p)
      subst q_p
      have hA := g_q_A hB
      have hK := g_k_B hB
      have hW := g_m_W hB
      exact q_fewest hA hK hW (g_q_N hB) m_p hS hLL hv hb
  · dsimp only at hR
    obtain ⟨hm, hR⟩ := hR
    have hG := g_ask2 G hn hm
    have c_p : (0 ≤ p ∧ p ≤ (D 170).1 1 - 1) ↔ (0 ≤ p ∧ p < (D 73).1 2) := by rw [er]; exact v_rc or (by decide)
    rw [c_p] at hR
    obtain ⟨hX, -⟩ := hX
    rcases i with _ | i
    · rcases hR with ⟨hr, hz⟩ | ⟨t2, m_p, r_p, hz, DL, hLL, hb⟩
      · exact ⟨hz, hG⟩
      · exfalso
        have a_p : 0 ≤ p ∧ p < (D 73).1 2 := by rw [r_p, er]; exact v_rg or (by decide) m_p
        exact hX a_p
    · exact absurd hi (by simp)
theorem z_needs (G : g_G n L D) {p q x y hl : Int32} : z_Q n L D (fun v D2 => (k_same D D2 ∧ k_CI D2) ∧ ∃ w t s f DS, w < q_n (D 73).1 4 ∧ t < q_n (D 73).1 2 ∧ s ≤ 300 ∧ f < 16 ∧ p = nI w ∧ q = nI t ∧ x = nI s ∧ y = nI f ∧ c_G (c_per D (q_n (D 74).1 2)) DS (k_rt D t) (-1) (k_rm D t) ∧ v = y_b (y_bit (k_met DS (k_wt D w) (k_wl D w) s hl) f)) (fun E9 => ((¬ (0 ≤ p ∧ p < (D 73).1 4) ∨ ¬ (0 ≤ q ∧ q < (D 73).1 2)) ∧ E9 = y_IOB) ∨ (¬ (¬ (0 ≤ p ∧ p < (D 73).1 4) ∨ ¬ (0 ≤ q ∧ q < (D 73).1 2)) ∧ ¬ ((0 ≤ x ∧ x ≤ 300) ∧ 0 ≤ y ∧ y ≤ 15) ∧ E9 = y_IAE)) [y_IOB, y_IAE] (fun D0 b D3 => m_ot D0 D3 ∧ (((¬ (0 ≤ p ∧ p ≤ (D0 170).1 2 - 1) ∨ ¬ (0 ≤ q ∧ q ≤ (D0 170).1 1 - 1)) ∧ (D3 169).1 0 = 1) ∨ (¬ (¬ (0 ≤ p ∧ p ≤ (D0 170).1 2 - 1) ∨ ¬ (0 ≤ q ∧ q ≤ (D0 170).1 1 - 1)) ∧ ¬ ((0 ≤ x ∧ x ≤ 300) ∧ 0 ≤ y ∧ y ≤ 15) ∧ (D3 169).1 0 = 2) ∨ ∃ w t s f, w < q_n (D0 170).1 2 ∧ t < q_n (D0 170).1 1 ∧ s ≤ 300 ∧ f < 16 ∧ p = nI w ∧ q = nI t ∧ x = nI s ∧ y = nI f ∧ (D3 169).1 0 = 0 ∧ ∃ DL, m_L (D0 170).1 DL t (-1) ∧ y_is b (m_all DL w s f hl))) (fun v b => v = b) := by
  have or : q_ok (D 170).1 1 4 := G.2.1.2.1.2.1
  have er : (D 73).1 2 = (D 170).1 1 := G.2.1.2.1.1
  have nr : q_n (D 73).1 2 = q_n (D 170).1 1 := (q_ok_e er or).2
  have br := or.2
  have ow : q_ok (D 170).1 2 6 := G.2.1.2.2.1.2.1
  have ew : (D 73).1 4 = (D 170).1 2 := G.2.1.2.2.1.1
  have nw : q_n (D 73).1 4 = q_n (D 170).1 2 := (q_ok_e ew ow).2
  have bw := ow.2
  have hB := G.2.1
  refine ⟨fun v D1 x9 hP b D3 hR => ?_, fun i E9 n2 hi hX hn b D3 hR => ?_⟩
  · obtain ⟨⟨hs, hC⟩, w, t, s, f, DS, l_p, l_q, l_x, l_y, h_p, h_q, h_x, h_y, hS, hv⟩ := hP
    have hq := g_ask1 G (fun j hj => hs.1 j (by simp only [List.mem_cons, List.not_mem_nil, or_false]; omega)) hC (x := x9)
    dsimp only at hR
    rw [hq.1] at hR
    obtain ⟨hm, hR⟩ := hR
    have hG := hq.2 D3 hm
    have c_p : (0 ≤ p ∧ p ≤ (D 170).1 2 - 1) ↔ (0 ≤ p ∧ p < (D 73).1 4) := by rw [ew]; exact v_rc ow (by decide)
    rw [c_p] at hR
    have c_q : (0 ≤ q ∧ q ≤ (D 170).1 1 - 1) ↔ (0 ≤ q ∧ q < (D 73).1 2) := by rw [er]; exact v_rc or (by decide)
    rw [c_q] at hR
    have a_p : 0 ≤ p ∧ p < (D 73).1 4 := by rw [h_p, ew]; exact v_rg ow (by decide) (by rw [← nw]; exact l_p)
    have a_q : 0 ≤ q ∧ q < (D 73).1 2 := by rw [h_q, er]; exact v_rg or (by decide) (by rw [← nr]; exact l_q)
    have a_x : 0 ≤ x ∧ x ≤ 300 := by rw [h_x]; exact v_rl (B := 300) (by omega) (by decide)
    have a_y : 0 ≤ y ∧ y ≤ 15 := by rw [h_y]; exact v_rl (B := 15) (by omega) (by decide)
    rcases hR with ⟨hr, hz⟩ | ⟨hr, hr2, hz⟩ | ⟨w2, t2, s2, f2, m_p, m_q, m_x, m_y, r_p, r_q, r_x, r_y, hz, DL, hLL, hb⟩
    · rcases hr with hr | hr
      · exact absurd a_p hr
      · exact absurd a_q hr
    · exact absurd ⟨a_x, a_y⟩ hr2
    · refine ⟨?_, hz, hG.1, hG.2⟩
      have q_p : w2 = w := (nI_eq (by omega) (by omega)).mp (r_p.symm.trans h_p)
      subst q_p
      have q_q : t2 = t := (nI_eq (by omega) (by omega)).mp (r_q.symm.trans h_q)
      subst q_q
      have q_x : s2 = s := (nI_eq (by omega) (by omega)).mp (r_x.symm.trans h_x)
      subst q_x
      have q_y : f2 = f := (nI_eq (by omega) (by omega)).mp (r_y.symm.trans h_y)
      subst q_y
      have hA := g_q_A hB
      have hK := g_k_B hB
      have hW := g_m_W hB
      exact q_needs hA hW m_q m_p m_x m_y hS hLL hv hb
  · dsimp only at hR
    obtain ⟨hm, hR⟩ := hR
    have hG := g_ask2 G hn hm
    have c_p : (0 ≤ p ∧ p ≤ (D 170).1 2 - 1) ↔ (0 ≤ p ∧ p < (D 73).1 4) := by rw [ew]; exact v_rc ow (by decide)
    rw [c_p] at hR
    have c_q : (0 ≤ q ∧ q ≤ (D 170).1 1 - 1) ↔ (0 ≤ q ∧ q < (D 73).1 2) := by rw [er]; exact v_rc or (by decide)
    rw [c_q] at hR
    rcases i with _ | _ | i
    · have he : y_IOB = E9 := Option.some.inj hi
      rcases hX with ⟨hX, hE⟩ | ⟨hX, hX2, hE⟩
      · rcases hR with ⟨hr, hz⟩ | ⟨hr, hr2, hz⟩ | ⟨w2, t2, s2, f2, m_p, m_q, m_x, m_y, r_p, r_q, r_x, r_y, hz, DL, hLL, hb⟩
        · exact ⟨hz, hG⟩
        · exact absurd hX hr
        · exfalso
          have a_p : 0 ≤ p ∧ p < (D 73).1 4 := by rw [r_p, ew]; exact v_rg ow (by decide) m_p
          have a_q : 0 ≤ q ∧ q < (D 73).1 2 := by rw [r_q, er]; exact v_rg or (by decide) m_q
          have a_x : 0 ≤ x ∧ x ≤ 300 := by rw [r_x]; exact v_rl (B := 300) (by omega) (by decide)
          have a_y : 0 ≤ y ∧ y ≤ 15 := by rw [r_y]; exact v_rl (B := 15) (by omega) (by decide)
          rcases hX with hX | hX
          · exact hX a_p
          · exact hX a_q
      · exact absurd (he.trans hE) (show ¬ y_IOB = y_IAE by decide)
    · have he : y_IAE = E9 := Option.some.inj hi
      rcases hX with ⟨hX, hE⟩ | ⟨hX, hX2, hE⟩
      · exact absurd (he.trans hE) (show ¬ y_IAE = y_IOB by decide)
      · rcases hR with ⟨hr, hz⟩ | ⟨hr, hr2, hz⟩ | ⟨w2, t2, s2, f2, m_p, m_q, m_x, m_y, r_p, r_q, r_x, r_y, hz, DL, hLL, hb⟩
        · exact absurd hr hX
        · exact ⟨hz, hG⟩
        · exfalso
          have a_p : 0 ≤ p ∧ p < (D 73).1 4 := by rw [r_p, ew]; exact v_rg ow (by decide) m_p
          have a_q : 0 ≤ q ∧ q < (D 73).1 2 := by rw [r_q, er]; exact v_rg or (by decide) m_q
          have a_x : 0 ≤ x ∧ x ≤ 300 := by rw [r_x]; exact v_rl (B := 300) (by omega) (by decide)
          have a_y : 0 ≤ y ∧ y ≤ 15 := by rw [r_y]; exact v_rl (B := 15) (by omega) (by decide)
          exact hX2 ⟨a_x, a_y⟩
    · exact absurd hi (by simp)
theorem z_look (G : g_G n L D) {p x : Int32} : z_Q n L D (fun v D2 => (k_same D D2 ∧ k_CI D2) ∧ ∃ t c DS, t < q_n (D 73).1 2 ∧ c ≤ 4 ∧ p = nI t ∧ x = nI c ∧ c_G (c_per D (q_n (D 74).1 2)) DS (k_rt D t) (-1) (k_rm D t) ∧ v = k_look DS (s_last (c_p (k_rt D t)) (c_a (k_rt D t)) (-1) (k_rm D t)) (k_rm D t) c) (fun E9 => (¬ (0 ≤ p ∧ p < (D 73).1 2) ∧ E9 = y_IOB) ∨ (¬ ¬ (0 ≤ p ∧ p < (D 73).1 2) ∧ ¬ (0 ≤ x ∧ x ≤ 4) ∧ E9 = y_NSE)) [y_IOB, y_NSE] (fun D0 b D3 => m_ot D0 D3 ∧ (((¬ (0 ≤ p ∧ p ≤ (D0 170).1 1 - 1)) ∧ (D3 169).1 0 = 1) ∨ (¬ (¬ (0 ≤ p ∧ p ≤ (D0 170).1 1 - 1)) ∧ ¬ (0 ≤ x ∧ x ≤ 4) ∧ (D3 169).1 0 = 2) ∨ ∃ t c, t < q_n (D0 170).1 1 ∧ c ≤ 4 ∧ p = nI t ∧ x = nI c ∧ (D3 169).1 0 = 0 ∧ ∃ DL, m_L (D0 170).1 DL t (-1) ∧ b = m_look DL (m_ls (D0 170).1 t (-1)) (m_k (D0 170).1 t) c)) (fun v b => v = b) := by
  have or : q_ok (D 170).1 1 4 := G.2.1.2.1.2.1
  have er : (D 73).1 2 = (D 170).1 1 := G.2.1.2.1.1
  have nr : q_n (D 73).1 2 = q_n (D 170).1 1 := (q_ok_e er or).2
  have br := or.2
  have hB := G.2.1
  refine ⟨fun v D1 x9 hP b D3 hR => ?_, fun i E9 n2 hi hX hn b D3 hR => ?_⟩
  · obtain ⟨⟨hs, hC⟩, t, c, DS, l_p, l_x, h_p, h_x, hS, hv⟩ := hP
    have hq := g_ask1 G (fun j hj => hs.1 j (by simp only [List.mem_cons, List.not_mem_nil, or_false]; omega)) hC (x := x9)
    dsimp only at hR
    rw [hq.1] at hR
    obtain ⟨hm, hR⟩ := hR
    have hG := hq.2 D3 hm
    have c_p : (0 ≤ p ∧ p ≤ (D 170).1 1 - 1) ↔ (0 ≤ p ∧ p < (D 73).1 2) := by rw [er]; exact v_rc or (by decide)
    rw [c_p] at hR
    have a_p : 0 ≤ p ∧ p < (D 73).1 2 := by rw [h_p, er]; exact v_rg or (by decide) (by rw [← nr]; exact l_p)
    have a_x : 0 ≤ x ∧ x ≤ 4 := by rw [h_x]; exact v_rl (B := 4) (by omega) (by decide)
    rcases hR with ⟨hr, hz⟩ | ⟨hr, hr2, hz⟩ | ⟨t2, c2, m_p, m_x, r_p, r_x, hz, DL, hLL, hb⟩
    · exact absurd a_p hr
    · exact absurd a_x hr2
    · refine ⟨?_, hz, hG.1, hG.2⟩
      have q_p : t2 = t := (nI_eq (by omega) (by omega)).mp (r_p.symm.trans h_p)
      subst q_p
      have q_x : c2 = c := (nI_eq (by omega) (by omega)).mp (r_x.symm.trans h_x)
      subst q_x
      have hA := g_q_A hB
      have hK := g_k_B hB
      have hW := g_m_W hB
      exact q_look hA hW m_p hS hLL hv hb
  · dsimp only at hR
    obtain ⟨hm, hR⟩ := hR
    have hG := g_ask2 G hn hm
    have c_p : (0 ≤ p ∧ p ≤ (D 170).1 1 - 1) ↔ (0 ≤ p ∧ p < (D 73).1 2) := by rw [er]; exact v_rc or (by decide)
    rw [c_p] at hR
    rcases i with _ | _ | i
    · have he : y_IOB = E9 := Option.some.inj hi
      rcases hX with ⟨hX, hE⟩ | ⟨hX, hX2, hE⟩
      · rcases hR with ⟨hr, hz⟩ | ⟨hr, hr2, hz⟩ | ⟨t2, c2, m_p, m_x, r_p, r_x, hz, DL, hLL, hb⟩
        · exact ⟨hz, hG⟩
        · exact absurd hX hr
        · exfalso
          have a_p : 0 ≤ p ∧ p < (D 73).1 2 := by rw [r_p, er]; exact v_rg or (by decide) m_p
          have a_x : 0 ≤ x ∧ x ≤ 4 := by rw [r_x]; exact v_rl (B := 4) (by omega) (by decide)
          exact hX a_p
      · exact absurd (he.trans hE) (show ¬ y_IOB = y_NSE by decide)
    · have he : y_NSE = E9 := Option.some.inj hi
      rcases hX with ⟨hX, hE⟩ | ⟨hX, hX2, hE⟩
      · exact absurd (he.trans hE) (show ¬ y_NSE = y_IOB by decide)
      · rcases hR with ⟨hr, hz⟩ | ⟨hr, hr2, hz⟩ | ⟨t2, c2, m_p, m_x, r_p, r_x, hz, DL, hLL, hb⟩
        · exact absurd hr hX
        · exact ⟨hz, hG⟩
        · exfalso
          have a_p : 0 ≤ p ∧ p < (D 73).1 2 := by rw [r_p, er]; exact v_rg or (by decide) m_p
          have a_x : 0 ≤ x ∧ x ≤ 4 := by rw [r_x]; exact v_rl (B := 4) (by omega) (by decide)
          exact hX2 a_x
    · exact absurd hi (by simp)
theorem z_odds (G : g_G n L D) {p : Int32} : z_Q n L D (fun v D2 => (k_sB D D2 ∧ k_CI D2) ∧ ∃ k, k < (q_n (D 84).1 2) ∧ p = nI k ∧ ∃ F, (∀ k, k < (q_n (D 84).1 2) → ∀ n, n < (q_n (D 86).1 2) → k_FAC D k n (F k n)) ∧ v = nI (o_od (fun k => q_n (D 85).1 (k * 3 + 0)) F (q_n (D 84).1 2) (q_n (D 86).1 2) k)) (fun E9 => ¬ (0 ≤ p ∧ p < (D 84).1 2) ∧ E9 = y_IOB) [y_IOB] (fun D0 b D3 => m_ot D0 D3 ∧ (((¬ (0 ≤ p ∧ p ≤ (D0 170).1 6 - 1)) ∧ (D3 169).1 0 = 1) ∨ ∃ k, k < (q_n (D0 170).1 6) ∧ p = nI k ∧ (D3 169).1 0 = 0 ∧ ∃ F, (∀ k, k < (q_n (D0 170).1 6) → ∀ n, n < (q_n (D0 170).1 7) → m_FAC (D0 170).1 k n (F k n)) ∧ b = nI (o_od (fun k => q_n (D0 170).1 (78 + 3 * k)) F (q_n (D0 170).1 6) (q_n (D0 170).1 7) k))) (fun v b => v = b) := by
  have on : q_ok (D 170).1 7 12 := G.2.1.1.2.2.2.2.2.1.2.1
  have en : (D 86).1 2 = (D 170).1 7 := G.2.1.1.2.2.2.2.2.1.1.1
  have nn : q_n (D 86).1 2 = q_n (D 170).1 7 := (q_ok_e en on).2
  have bn := on.2
  have os : q_ok (D 170).1 6 5 := G.2.1.1.2.2.2.2.1.2.1
  have es : (D 84).1 2 = (D 170).1 6 := G.2.1.1.2.2.2.2.1.1.1
  have ns : q_n (D 84).1 2 = q_n (D 170).1 6 := (q_ok_e es os).2
  have bs := os.2
  have hB := G.2.1
  refine ⟨fun v D1 x9 hP b D3 hR => ?_, fun i E9 n2 hi hX hn b D3 hR => ?_⟩
  · obtain ⟨⟨hs, hC⟩, k, l_p, h_p, F, hF, hv⟩ := hP
    have hq := g_ask1 G (fun j hj => hs j (by omega) (by omega) (by omega)) hC (x := x9)
    dsimp only at hR
    rw [hq.1] at hR
    obtain ⟨hm, hR⟩ := hR
    have hG := hq.2 D3 hm
    have c_p : (0 ≤ p ∧ p ≤ (D 170).1 6 - 1) ↔ (0 ≤ p ∧ p < (D 84).1 2) := by rw [es]; exact v_rc os (by decide)
    rw [c_p] at hR
    have a_p : 0 ≤ p ∧ p < (D 84).1 2 := by rw [h_p, es]; exact v_rg os (by decide) (by rw [← ns]; exact l_p)
    rcases hR with ⟨hr, hz⟩ | ⟨k2, m_p, r_p, hz, F2, hF2, hb⟩
    · exact absurd a_p hr
    · refine ⟨?_, hz, hG.1, hG.2⟩
      have q_p : k2 = k := (nI_eq (by omega) (by omega)).mp (r_p.symm.trans h_p)
      subst q_p
      have hA := g_q_A hB
      have hK := g_k_B hB
      have hW := g_m_W hB
      have hQ := g_q_O hB
      have hO := g_m_WO hB
      rw [hv, hb, nn]
      rw [nn] at hF
      rw [q_od hA hK hW hQ hO (Nat.le_refl _) hF hF2 _ m_p]
  · dsimp only at hR
    obtain ⟨hm, hR⟩ := hR
    have hG := g_ask2 G hn hm
    have c_p : (0 ≤ p ∧ p ≤ (D 170).1 6 - 1) ↔ (0 ≤ p ∧ p < (D 84).1 2) := by rw [es]; exact v_rc os (by decide)
    rw [c_p] at hR
    obtain ⟨hX, -⟩ := hX
    rcases i with _ | i
    · rcases hR with ⟨hr, hz⟩ | ⟨k2, m_p, r_p, hz, F2, hF2, hb⟩
      · exact ⟨hz, hG⟩
      · exfalso
        have a_p : 0 ≤ p ∧ p < (D 84).1 2 := by rw [r_p, es]; exact v_rg os (by decide) m_p
        exact hX a_p
    · exact absurd hi (by simp)
theorem z_oddsBy (G : g_G n L D) {p x : Int32} : z_Q n L D (fun v D2 => (k_sB D D2 ∧ k_CI D2) ∧ ∃ k nn, k < (q_n (D 84).1 2) ∧ nn ≤ (q_n (D 86).1 2) ∧ p = nI k ∧ x = nI nn ∧ ∃ F, (∀ k, k < (q_n (D 84).1 2) → ∀ n, n < nn → k_FAC D k n (F k n)) ∧ v = nI (o_od (fun k => q_n (D 85).1 (k * 3 + 0)) F (q_n (D 84).1 2) nn k)) (fun E9 => (¬ (0 ≤ p ∧ p < (D 84).1 2) ∧ E9 = y_IOB) ∨ (¬ ¬ (0 ≤ p ∧ p < (D 84).1 2) ∧ ¬ (0 ≤ x ∧ x ≤ (D 86).1 2) ∧ E9 = y_IAE)) [y_IOB, y_IAE] (fun D0 b D3 => m_ot D0 D3 ∧ (((¬ (0 ≤ p ∧ p ≤ (D0 170).1 6 - 1)) ∧ (D3 169).1 0 = 1) ∨ (¬ (¬ (0 ≤ p ∧ p ≤ (D0 170).1 6 - 1)) ∧ ¬ (0 ≤ x ∧ x ≤ (D0 170).1 7) ∧ (D3 169).1 0 = 2) ∨ ∃ k nn, k < (q_n (D0 170).1 6) ∧ nn ≤ (q_n (D0 170).1 7) ∧ p = nI k ∧ x = nI nn ∧ (D3 169).1 0 = 0 ∧ ∃ F, (∀ k, k < (q_n (D0 170).1 6) → ∀ n, n < nn → m_FAC (D0 170).1 k n (F k n)) ∧ b = nI (o_od (fun k => q_n (D0 170).1 (78 + 3 * k)) F (q_n (D0 170).1 6) nn k))) (fun v b => v = b) := by
  have on : q_ok (D 170).1 7 12 := G.2.1.1.2.2.2.2.2.1.2.1
  have en : (D 86).1 2 = (D 170).1 7 := G.2.1.1.2.2.2.2.2.1.1.1
  have nn : q_n (D 86).1 2 = q_n (D 170).1 7 := (q_ok_e en on).2
  have bn := on.2
  have os : q_ok (D 170).1 6 5 := G.2.1.1.2.2.2.2.1.2.1
  have es : (D 84).1 2 = (D 170).1 6 := G.2.1.1.2.2.2.2.1.1.1
  have ns : q_n (D 84).1 2 = q_n (D 170).1 6 := (q_ok_e es os).2
  have bs := os.2
  have hB := G.2.1
  refine ⟨fun v D1 x9 hP b D3 hR => ?_, fun i E9 n2 hi hX hn b D3 hR => ?_⟩
  · obtain ⟨⟨hs, hC⟩, k, m, l_p, l_x, h_p, h_x, F, hF, hv⟩ := hP
    have hq := g_ask1 G (fun j hj => hs j (by omega) (by omega) (by omega)) hC (x := x9)
    dsimp only at hR
    rw [hq.1] at hR
    obtain ⟨hm, hR⟩ := hR
    have hG := hq.2 D3 hm
    have c_p : (0 ≤ p ∧ p ≤ (D 170).1 6 - 1) ↔ (0 ≤ p ∧ p < (D 84).1 2) := by rw [es]; exact v_rc os (by decide)
    rw [c_p] at hR
    have a_p : 0 ≤ p ∧ p < (D 84).1 2 := by rw [h_p, es]; exact v_rg os (by decide) (by rw [← ns]; exact l_p)
    have a_x : 0 ≤ x ∧ x ≤ (D 170).1 7 := by rw [h_x, on.1]; exact v_rl (by rw [← nn]; exact l_x) (by omega)
    rcases hR with ⟨hr, hz⟩ | ⟨hr, hr2, hz⟩ | ⟨k2, m2, m_p, m_x, r_p, r_x, hz, F2, hF2, hb⟩
    · exact absurd a_p hr
    · exact absurd a_x hr2
    · refine ⟨?_, hz, hG.1, hG.2⟩
      have q_p : k2 = k := (nI_eq (by omega) (by omega)).mp (r_p.symm.trans h_p)
      subst q_p
      have q_x : m2 = m := (nI_eq (by omega) (by omega)).mp (r_x.symm.trans h_x)
      subst q_x
      have hA := g_q_A hB
      have hK := g_k_B hB
      have hW := g_m_W hB
      have hQ := g_q_O hB
      have hO := g_m_WO hB
      rw [hv, hb]
      rw [q_od hA hK hW hQ hO m_x hF hF2 _ m_p]
  · dsimp only at hR
    obtain ⟨hm, hR⟩ := hR
    have hG := g_ask2 G hn hm
    have c_p : (0 ≤ p ∧ p ≤ (D 170).1 6 - 1) ↔ (0 ≤ p ∧ p < (D 84).1 2) := by rw [es]; exact v_rc os (by decide)
    rw [c_p] at hR
    rcases i with _ | _ | i
    · have he : y_IOB = E9 := Option.some.inj hi
      rcases hX with ⟨hX, hE⟩ | ⟨hX, hX2, hE⟩
      · rcases hR with ⟨hr, hz⟩ | ⟨hr, hr2, hz⟩ | ⟨k2, m2, m_p, m_x, r_p, r_x, hz, F2, hF2, hb⟩
        · exact ⟨hz, hG⟩
        · exact absurd hX hr
        · exfalso
          have a_p : 0 ≤ p ∧ p < (D 84).1 2 := by rw [r_p, es]; exact v_rg os (by decide) m_p
          have a_x : 0 ≤ x ∧ x ≤ (D 86).1 2 := by rw [r_x, en, on.1]; exact v_rl m_x (by omega)
          exact hX a_p
      · exact absurd (he.trans hE) (show ¬ y_IOB = y_IAE by decide)
    · have he : y_IAE = E9 := Option.some.inj hi
      rcases hX with ⟨hX, hE⟩ | ⟨hX, hX2, hE⟩
      · exact absurd (he.trans hE) (show ¬ y_IAE = y_IOB by decide)
      · rcases hR with ⟨hr, hz⟩ | ⟨hr, hr2, hz⟩ | ⟨k2, m2, m_p, m_x, r_p, r_x, hz, F2, hF2, hb⟩
        · exact absurd hr hX
        · exact ⟨hz, hG⟩
        · exfalso
          have a_p : 0 ≤ p ∧ p < (D 84).1 2 := by rw [r_p, es]; exact v_rg os (by decide) m_p
          have a_x : 0 ≤ x ∧ x ≤ (D 86).1 2 := by rw [r_x, en, on.1]; exact v_rl m_x (by omega)
          exact hX2 a_x
    · exact absurd hi (by simp)
theorem z_factor (G : g_G n L D) {p x : Int32} : z_Q n L D (fun v D2 => (k_sB D D2 ∧ k_CI D2) ∧ ∃ k n9, k < (q_n (D 84).1 2) ∧ n9 < (q_n (D 86).1 2) ∧ p = nI k ∧ x = nI n9 ∧ ∃ f, k_FAC D k n9 f ∧ v = lN f) (fun E9 => (¬ (0 ≤ p ∧ p < (D 84).1 2) ∨ ¬ (0 ≤ x ∧ x < (D 86).1 2)) ∧ E9 = y_IOB) [y_IOB] (fun D0 b D3 => m_ot D0 D3 ∧ (((¬ (0 ≤ p ∧ p ≤ (D0 170).1 6 - 1) ∨ ¬ (0 ≤ x ∧ x ≤ (D0 170).1 7 - 1)) ∧ (D3 169).1 0 = 1) ∨ ∃ k n9, k < (q_n (D0 170).1 6) ∧ n9 < (q_n (D0 170).1 7) ∧ p = nI k ∧ x = nI n9 ∧ (D3 169).1 0 = 0 ∧ ∃ f, m_FAC (D0 170).1 k n9 f ∧ b = lN f)) (fun v b => v = b) := by
  have on : q_ok (D 170).1 7 12 := G.2.1.1.2.2.2.2.2.1.2.1
  have en : (D 86).1 2 = (D 170).1 7 := G.2.1.1.2.2.2.2.2.1.1.1
  have nn : q_n (D 86).1 2 = q_n (D 170).1 7 := (q_ok_e en on).2
  have bn := on.2
  have os : q_ok (D 170).1 6 5 := G.2.1.1.2.2.2.2.1.2.1
  have es : (D 84).1 2 = (D 170).1 6 := G.2.1.1.2.2.2.2.1.1.1
  have ns : q_n (D 84).1 2 = q_n (D 170).1 6 := (q_ok_e es os).2
  have bs := os.2
  have hB := G.2.1
  refine ⟨fun v D1 x9 hP b D3 hR => ?_, fun i E9 n2 hi hX hn b D3 hR => ?_⟩
  · obtain ⟨⟨hs, hC⟩, k, m, l_p, l_x, h_p, h_x, f, hf, hv⟩ := hP
    have hq := g_ask1 G (fun j hj => hs j (by omega) (by omega) (by omega)) hC (x := x9)
    dsimp only at hR
    rw [hq.1] at hR
    obtain ⟨hm, hR⟩ := hR
    have hG := hq.2 D3 hm
    have c_p : (0 ≤ p ∧ p ≤ (D 170).1 6 - 1) ↔ (0 ≤ p ∧ p < (D 84).1 2) := by rw [es]; exact v_rc os (by decide)
    rw [c_p] at hR
    have c_x : (0 ≤ x ∧ x ≤ (D 170).1 7 - 1) ↔ (0 ≤ x ∧ x < (D 86).1 2) := by rw [en]; exact v_rc on (by decide)
    rw [c_x] at hR
    have a_p : 0 ≤ p ∧ p < (D 84).1 2 := by rw [h_p, es]; exact v_rg os (by decide) (by rw [← ns]; exact l_p)
    have a_x : 0 ≤ x ∧ x < (D 86).1 2 := by rw [h_x, en]; exact v_rg on (by decide) (by rw [← nn]; exact l_x)
    rcases hR with ⟨hr, hz⟩ | ⟨k2, m2, m_p, m_x, r_p, r_x, hz, f2, hf2, hb⟩
    · rcases hr with hr | hr
      · exact absurd a_p hr
      · exact absurd a_x hr
    · refine ⟨?_, hz, hG.1, hG.2⟩
      have q_p : k2 = k := (nI_eq (by omega) (by omega)).mp (r_p.symm.trans h_p)
      subst q_p
      have q_x : m2 = m := (nI_eq (by omega) (by omega)).mp (r_x.symm.trans h_x)
      subst q_x
      have hA := g_q_A hB
      have hK := g_k_B hB
      have hW := g_m_W hB
      have hQ := g_q_O hB
      have hO := g_m_WO hB
      rw [hv, hb, q_FAC hA hK hW hQ hO m_p m_x hf hf2]
  · dsimp only at hR
    obtain ⟨hm, hR⟩ := hR
    have hG := g_ask2 G hn hm
    have c_p : (0 ≤ p ∧ p ≤ (D 170).1 6 - 1) ↔ (0 ≤ p ∧ p < (D 84).1 2) := by rw [es]; exact v_rc os (by decide)
    rw [c_p] at hR
    have c_x : (0 ≤ x ∧ x ≤ (D 170).1 7 - 1) ↔ (0 ≤ x ∧ x < (D 86).1 2) := by rw [en]; exact v_rc on (by decide)
    rw [c_x] at hR
    obtain ⟨hX, -⟩ := hX
    rcases i with _ | i
    · rcases hR with ⟨hr, hz⟩ | ⟨k2, m2, m_p, m_x, r_p, r_x, hz, f2, hf2, hb⟩
      · exact ⟨hz, hG⟩
      · exfalso
        have a_p : 0 ≤ p ∧ p < (D 84).1 2 := by rw [r_p, es]; exact v_rg os (by decide) m_p
        have a_x : 0 ≤ x ∧ x < (D 86).1 2 := by rw [r_x, en]; exact v_rg on (by decide) m_x
        rcases hX with hX | hX
        · exact hX a_p
        · exact hX a_x
    · exact absurd hi (by simp)
theorem z_says (G : g_G n L D) {p : Int32} : z_Q n L D (fun v D2 => (k_sB D D2 ∧ k_CI D2) ∧ ∃ t, t < (q_n (D 82).1 2) ∧ p = nI t ∧ ∃ F, (∀ k, k < (q_n (D 84).1 2) → ∀ n, n < (q_n (D 86).1 2) → k_FAC D k n (F k n)) ∧ v = o_say (o_od (fun k => q_n (D 85).1 (k * 3 + 0)) F (q_n (D 84).1 2) (q_n (D 86).1 2)) (fun k => k_spr D k t) (lN (o_sum (fun k => o_od (fun k => q_n (D 85).1 (k * 3 + 0)) F (q_n (D 84).1 2) (q_n (D 86).1 2) k * k_spr D k t) (q_n (D 84).1 2))) (q_n (D 84).1 2) / 10000) (fun E9 => ¬ (0 ≤ p ∧ p < (D 82).1 2) ∧ E9 = y_IOB) [y_IOB] (fun D0 b D3 => m_ot D0 D3 ∧ (((¬ (0 ≤ p ∧ p ≤ (D0 170).1 5 - 1)) ∧ (D3 169).1 0 = 1) ∨ ∃ t, t < (q_n (D0 170).1 5) ∧ p = nI t ∧ (D3 169).1 0 = 0 ∧ ∃ F, (∀ k, k < (q_n (D0 170).1 6) → ∀ n, n < (q_n (D0 170).1 7) → m_FAC (D0 170).1 k n (F k n)) ∧ b = o_say (o_od (fun k => q_n (D0 170).1 (78 + 3 * k)) F (q_n (D0 170).1 6) (q_n (D0 170).1 7)) (fun k => m_spr (D0 170).1 k t) (lN (o_sum (fun k => o_od (fun k => q_n (D0 170).1 (78 + 3 * k)) F (q_n (D0 170).1 6) (q_n (D0 170).1 7) k * m_spr (D0 170).1 k t) (q_n (D0 170).1 6))) (q_n (D0 170).1 6) / 10000)) (fun v b => v = b) := by
  have op : q_ok (D 170).1 5 4 := G.2.1.1.2.2.2.1.2.1
  have ep : (D 82).1 2 = (D 170).1 5 := G.2.1.1.2.2.2.1.1.1
  have np : q_n (D 82).1 2 = q_n (D 170).1 5 := (q_ok_e ep op).2
  have bp := op.2
  have hB := G.2.1
  refine ⟨fun v D1 x9 hP b D3 hR => ?_, fun i E9 n2 hi hX hn b D3 hR => ?_⟩
  · obtain ⟨⟨hs, hC⟩, t, l_p, h_p, F, hF, hv⟩ := hP
    have hq := g_ask1 G (fun j hj => hs j (by omega) (by omega) (by omega)) hC (x := x9)
    dsimp only at hR
    rw [hq.1] at hR
    obtain ⟨hm, hR⟩ := hR
    have hG := hq.2 D3 hm
    have c_p : (0 ≤ p ∧ p ≤ (D 170).1 5 - 1) ↔ (0 ≤ p ∧ p < (D 82).1 2) := by rw [ep]; exact v_rc op (by decide)
    rw [c_p] at hR
    have a_p : 0 ≤ p ∧ p < (D 82).1 2 := by rw [h_p, ep]; exact v_rg op (by decide) (by rw [← np]; exact l_p)
    rcases hR with ⟨hr, hz⟩ | ⟨t2, m_p, r_p, hz, F2, hF2, hb⟩
    · exact absurd a_p hr
    · refine ⟨?_, hz, hG.1, hG.2⟩
      have q_p : t2 = t := (nI_eq (by omega) (by omega)).mp (r_p.symm.trans h_p)
      subst q_p
      have hA := g_q_A hB
      have hK := g_k_B hB
      have hW := g_m_W hB
      have hQ := g_q_O hB
      have hO := g_m_WO hB
      exact q_says hA hK hW hQ hO m_p hF hF2 hv hb
  · dsimp only at hR
    obtain ⟨hm, hR⟩ := hR
    have hG := g_ask2 G hn hm
    have c_p : (0 ≤ p ∧ p ≤ (D 170).1 5 - 1) ↔ (0 ≤ p ∧ p < (D 82).1 2) := by rw [ep]; exact v_rc op (by decide)
    rw [c_p] at hR
    obtain ⟨hX, -⟩ := hX
    rcases i with _ | i
    · rcases hR with ⟨hr, hz⟩ | ⟨t2, m_p, r_p, hz, F2, hF2, hb⟩
      · exact ⟨hz, hG⟩
      · exfalso
        have a_p : 0 ≤ p ∧ p < (D 82).1 2 := by rw [r_p, ep]; exact v_rg op (by decide) m_p
        exact hX a_p
    · exact absurd hi (by simp)
theorem z_with (G : g_G n L D) {x y : Int32} : z_Q n L D (fun v D2 => D2 = D ∧ ∃ p c, p ≤ 7 ∧ c ≤ 3 ∧ x = nI p ∧ y = nI c ∧ v = c_wth (fun i => decide (y_bit ((D 87).1 (i * 5 + 1)) p)) (fun i => decide ((D 87).1 (i * 5 + 2) ≠ 0)) (q_n (D 86).1 2) c) (fun E9 => (¬ (0 ≤ x ∧ x < 8) ∧ E9 = y_IOB) ∨ (¬ ¬ (0 ≤ x ∧ x < 8) ∧ ¬ (0 ≤ y ∧ y ≤ 3) ∧ E9 = y_NSE)) [y_IOB, y_NSE] (fun D0 b D3 => m_ot D0 D3 ∧ (((¬ (0 ≤ x ∧ x ≤ 7)) ∧ (D3 169).1 0 = 1) ∨ (¬ (¬ (0 ≤ x ∧ x ≤ 7)) ∧ ¬ (0 ≤ y ∧ y ≤ 3) ∧ (D3 169).1 0 = 2) ∨ ∃ p c, p ≤ 7 ∧ c ≤ 3 ∧ x = nI p ∧ y = nI c ∧ (D3 169).1 0 = 0 ∧ b = c_wth (fun i => decide (y_bit ((D0 170).1 (93 + 5 * i + 1)) p)) (fun i => decide ((D0 170).1 (93 + 5 * i + 2) ≠ 0)) (q_n (D0 170).1 7) c)) (fun v b => v = b) := by
  have hB := G.2.1
  refine ⟨fun v D1 x9 hP b D3 hR => ?_, fun i E9 n2 hi hX hn b D3 hR => ?_⟩
  · obtain ⟨hs, p, c, l_x, l_y, h_x, h_y, hv⟩ := hP
    have hq := g_ask1 (D1 := D1) G (fun j hj => by rw [hs]) (by rw [hs]; exact G.2.2.1) (x := x9)
    dsimp only at hR
    rw [hq.1] at hR
    obtain ⟨hm, hR⟩ := hR
    have hG := hq.2 D3 hm
    have c_x : (0 ≤ x ∧ x ≤ 7) ↔ (0 ≤ x ∧ x < 8) := by rw [v_8]
    rw [c_x] at hR
    have a_x : 0 ≤ x ∧ x ≤ 7 := by rw [h_x]; exact v_rl (B := 7) (by omega) (by decide)
    have a_y : 0 ≤ y ∧ y ≤ 3 := by rw [h_y]; exact v_rl (B := 3) (by omega) (by decide)
    have a_x8 : 0 ≤ x ∧ x < 8 := by rw [h_x]; exact ⟨nI_pos' (by omega), nI_lt (b := 8) (by omega) (by decide)⟩
    rcases hR with ⟨hr, hz⟩ | ⟨hr, hr2, hz⟩ | ⟨p2, c2, m_x, m_y, r_x, r_y, hz, hb⟩
    · exact absurd a_x8 hr
    · exact absurd a_y hr2
    · refine ⟨?_, hz, hG.1, hG.2⟩
      have q_x : p2 = p := (nI_eq (by omega) (by omega)).mp (r_x.symm.trans h_x)
      subst q_x
      have q_y : c2 = c := (nI_eq (by omega) (by omega)).mp (r_y.symm.trans h_y)
      subst q_y
      exact q_with hB.1.2.2.2.2.2.1.1 hv hb
  · dsimp only at hR
    obtain ⟨hm, hR⟩ := hR
    have hG := g_ask2 G hn hm
    have c_x : (0 ≤ x ∧ x ≤ 7) ↔ (0 ≤ x ∧ x < 8) := by rw [v_8]
    rw [c_x] at hR
    rcases i with _ | _ | i
    · have he : y_IOB = E9 := Option.some.inj hi
      rcases hX with ⟨hX, hE⟩ | ⟨hX, hX2, hE⟩
      · rcases hR with ⟨hr, hz⟩ | ⟨hr, hr2, hz⟩ | ⟨p2, c2, m_x, m_y, r_x, r_y, hz, hb⟩
        · exact ⟨hz, hG⟩
        · exact absurd hX hr
        · exfalso
          exact hX ⟨by rw [r_x]; exact nI_pos' (by omega), by rw [r_x]; exact nI_lt (b := 8) (by omega) (by decide)⟩
      · exact absurd (he.trans hE) (show ¬ y_IOB = y_NSE by decide)
    · have he : y_NSE = E9 := Option.some.inj hi
      rcases hX with ⟨hX, hE⟩ | ⟨hX, hX2, hE⟩
      · exact absurd (he.trans hE) (show ¬ y_NSE = y_IOB by decide)
      · rcases hR with ⟨hr, hz⟩ | ⟨hr, hr2, hz⟩ | ⟨p2, c2, m_x, m_y, r_x, r_y, hz, hb⟩
        · exact absurd hr hX
        · exact ⟨hz, hG⟩
        · exfalso
          have a_x : 0 ≤ x ∧ x ≤ 7 := by rw [r_x]; exact v_rl (B := 7) (by omega) (by decide)
          have a_y : 0 ≤ y ∧ y ≤ 3 := by rw [r_y]; exact v_rl (B := 3) (by omega) (by decide)
          exact hX2 a_y
    · exact absurd hi (by simp)
theorem z_knows (G : g_G n L D) {p : Int32} : z_Q n L D (fun v D2 => y_fx [168] D D2 ∧ ∃ d, d ≤ 365 ∧ p = nI d ∧ y_s8 v (fun p => k_kn D (-1) (q_n (D 73).1 12) d p)) (fun E9 => ¬ (0 ≤ p ∧ p ≤ 365) ∧ E9 = y_IAE) [y_IAE] (fun D0 b D3 => m_ot D0 D3 ∧ (((¬ (0 ≤ p ∧ p ≤ 365)) ∧ (D3 169).1 0 = 1) ∨ ∃ d, d ≤ 365 ∧ p = nI d ∧ (D3 169).1 0 = 0 ∧ y_s8 b (fun p => m_kn (D0 170).1 (-1) (q_n (D0 170).1 11) d p))) (fun v b => v = b) := by
  have hB := G.2.1
  refine ⟨fun v D1 x9 hP b D3 hR => ?_, fun i E9 n2 hi hX hn b D3 hR => ?_⟩
  · obtain ⟨hs, d, l_p, h_p, hv⟩ := hP
    have hs2 : ∀ j, ¬ (163 ≤ j ∧ j < 169) → D1 j = D j := fun j hj => hs.1 j (by simp only [List.mem_cons, List.not_mem_nil, or_false]; omega)
    have hq := g_ask1 G (fun j hj => hs2 j (by omega)) (g_CI1 G hs2) (x := x9)
    dsimp only at hR
    rw [hq.1] at hR
    obtain ⟨hm, hR⟩ := hR
    have hG := hq.2 D3 hm
    have a_p : 0 ≤ p ∧ p ≤ 365 := by rw [h_p]; exact v_rl (B := 365) (by omega) (by decide)
    rcases hR with ⟨hr, hz⟩ | ⟨d2, m_p, r_p, hz, hb⟩
    · exact absurd a_p hr
    · refine ⟨?_, hz, hG.1, hG.2⟩
      have q_p : d2 = d := (nI_eq (by omega) (by omega)).mp (r_p.symm.trans h_p)
      subst q_p
      exact q_knows (g_q_D hB) hv hb
  · dsimp only at hR
    obtain ⟨hm, hR⟩ := hR
    have hG := g_ask2 G hn hm
    obtain ⟨hX, -⟩ := hX
    rcases i with _ | i
    · rcases hR with ⟨hr, hz⟩ | ⟨d2, m_p, r_p, hz, hb⟩
      · exact ⟨hz, hG⟩
      · exfalso
        have a_p : 0 ≤ p ∧ p ≤ 365 := by rw [r_p]; exact v_rl (B := 365) (by omega) (by decide)
        exact hX a_p
    · exact absurd hi (by simp)
theorem z_whence (G : g_G n L D) {p mu : Int32} : z_Q n L D (fun v D2 => y_fx [168] D D2 ∧ ∃ d, d ≤ 365 ∧ p = nI d ∧ y_s8 v (fun q => q < 8 ∧ 1 ≤ q ∧ k_PM D (!decide (mu = 0)) (q_n (D 73).1 12) d q)) (fun E9 => ¬ (0 ≤ p ∧ p ≤ 365) ∧ E9 = y_IAE) [y_IAE] (fun D0 b D3 => m_ot D0 D3 ∧ (((¬ (0 ≤ p ∧ p ≤ 365)) ∧ (D3 169).1 0 = 1) ∨ ∃ d, d ≤ 365 ∧ p = nI d ∧ (D3 169).1 0 = 0 ∧ y_s8 b (fun q => q < 8 ∧ 1 ≤ q ∧ m_PM (D0 170).1 mu (q_n (D0 170).1 11) d q))) (fun v b => v = b) := by
  have hB := G.2.1
  refine ⟨fun v D1 x9 hP b D3 hR => ?_, fun i E9 n2 hi hX hn b D3 hR => ?_⟩
  · obtain ⟨hs, d, l_p, h_p, hv⟩ := hP
    have hs2 : ∀ j, ¬ (163 ≤ j ∧ j < 169) → D1 j = D j := fun j hj => hs.1 j (by simp only [List.mem_cons, List.not_mem_nil, or_false]; omega)
    have hq := g_ask1 G (fun j hj => hs2 j (by omega)) (g_CI1 G hs2) (x := x9)
    dsimp only at hR
    rw [hq.1] at hR
    obtain ⟨hm, hR⟩ := hR
    have hG := hq.2 D3 hm
    have a_p : 0 ≤ p ∧ p ≤ 365 := by rw [h_p]; exact v_rl (B := 365) (by omega) (by decide)
    rcases hR with ⟨hr, hz⟩ | ⟨d2, m_p, r_p, hz, hb⟩
    · exact absurd a_p hr
    · refine ⟨?_, hz, hG.1, hG.2⟩
      have q_p : d2 = d := (nI_eq (by omega) (by omega)).mp (r_p.symm.trans h_p)
      subst q_p
      exact q_whence (g_q_D hB) hv hb
  · dsimp only at hR
    obtain ⟨hm, hR⟩ := hR
    have hG := g_ask2 G hn hm
    obtain ⟨hX, -⟩ := hX
    rcases i with _ | i
    · rcases hR with ⟨hr, hz⟩ | ⟨d2, m_p, r_p, hz, hb⟩
      · exact ⟨hz, hG⟩
      · exfalso
        have a_p : 0 ≤ p ∧ p ≤ 365 := by rw [r_p]; exact v_rl (B := 365) (by omega) (by decide)
        exact hX a_p
    · exact absurd hi (by simp)
theorem z_rout (G : g_G n L D) {u i9 : Int32} {st : Nat} (est : u &&& (nI (2 ^ q_n (D 90).1 2) - 1) = nI st) (hst : st < 2 ^ q_n (D 90).1 2) {v b : Int32} {D1 D3 : y_D} (hP : k_f2 D D1 ∧ ((i9 = 0 ∧ (∃ L9, r_L (fun x => ∃ j, r_bw (k_tn D) (k_kwt D) (q_n (D 90).1 2) (r_c0 st) j 0 x) L9 ∧ v = r_an L9)) ∨ (¬ i9 = 0 ∧ (∃ c : Nat → Nat, (∀ s, s < 2 ^ q_n (D 90).1 2 → r_L (fun x => ∃ j, r_bw (k_tn D) (k_kwt D) (q_n (D 90).1 2) r_c1 j s x) (c s)) ∧ ∃ L9, r_L (fun x => ∃ j, r_bw (k_tn D) (k_kwt D) (q_n (D 90).1 2) (r_c2 st c) j 0 x) L9 ∧ v = r_an L9)))) (hR : m_ot D1 D3 ∧ (D3 169).1 0 = 0 ∧ ∃ st, st < 2 ^ q_n (D1 170).1 9 ∧ u &&& (nI (2 ^ q_n (D1 170).1 9) - 1) = nI st ∧ ∃ L, (i9 = 0 ∧ r_L (r_to (m_tn (D1 170).1) (m_wt (D1 170).1) (q_n (D1 170).1 9) st 0) L ∧ b = r_an L) ∨ (¬ i9 = 0 ∧ r_L (r_in (m_tn (D1 170).1) (m_wt (D1 170).1) (q_n (D1 170).1 9) st) L ∧ b = r_an L)) : v = b ∧ g_G n L D3 := by
  obtain ⟨hs, hv⟩ := hP
  have hs2 : ∀ j, ¬ (163 ≤ j ∧ j < 169) → D1 j = D j := fun j hj => hs.1 j (by simp only [List.mem_cons, List.not_mem_nil, or_false]; omega)
  have o9 : q_ok (D 170).1 9 6 := G.2.1.1.2.2.2.2.2.2.2.2.1
  have e9 : (D 90).1 2 = (D 170).1 9 := G.2.1.1.2.2.2.2.2.2.2.1.1
  have n9 : q_n (D 90).1 2 = q_n (D 170).1 9 := (q_ok_e e9 o9).2
  have b9 := o9.2
  rw [hs2 170 (by decide)] at hR
  obtain ⟨hm, hz, st2, hst2, est2, hb⟩ := hR
  have h64 : 2 ^ q_n (D 170).1 9 ≤ 2 ^ 6 := Nat.pow_le_pow_right (by decide) b9
  rw [n9] at est hst
  have q9 : st2 = st := (nI_eq (by omega) (by omega)).mp (est2.symm.trans est)
  subst q9
  exact ⟨q_out (g_q_K G.2.1) (g_k_BK G.2.1) hv hb, g_ask G (Nat.le_refl _) (fun j h1 _ => hs2 j (by omega)) (g_CI1 G hs2) hm⟩
theorem z_rfirst (G : g_G n L D) {u : Int32} {st : Nat} (est : u &&& (nI (2 ^ q_n (D 90).1 2) - 1) = nI st) (hst : st < 2 ^ q_n (D 90).1 2) {v b : Int32} {D1 D3 : y_D} (hP : k_f2 D D1 ∧ ∃ c : Nat → Nat, (∀ s, s < 2 ^ q_n (D 90).1 2 → r_L (fun x => ∃ j, r_bw (k_tn D) (k_kwt D) (q_n (D 90).1 2) (r_c0 st) j s x) (c s)) ∧ ((v = -1 ∧ (c 0 = 0 ∨ c 0 = 1000000 ∨ ∀ k, k < q_n (D 90).1 2 → ¬ (q_n (D 91).1 (k * 4 + 2) ≤ k_rS D 0 ∧ q_n (D 91).1 (k * 4 + 0) + c (2 ^ k) = c 0))) ∨ ∃ k, k < q_n (D 90).1 2 ∧ v = nI k ∧ c 0 ≠ 0 ∧ c 0 ≠ 1000000 ∧ (q_n (D 91).1 (k * 4 + 2) ≤ k_rS D 0 ∧ q_n (D 91).1 (k * 4 + 0) + c (2 ^ k) = c 0) ∧ ∀ i, i < k → ¬ (q_n (D 91).1 (i * 4 + 2) ≤ k_rS D 0 ∧ q_n (D 91).1 (i * 4 + 0) + c (2 ^ i) = c 0))) (hR : m_ot D1 D3 ∧ (D3 169).1 0 = 0 ∧ ∃ st, st < 2 ^ q_n (D1 170).1 9 ∧ u &&& (nI (2 ^ q_n (D1 170).1 9) - 1) = nI st ∧ r_first (m_tn (D1 170).1) (m_wt (D1 170).1) (q_n (D1 170).1 9) st (fun k => q_n (D1 170).1 (213 + 4 * k)) b) : v = b ∧ g_G n L D3 := by
  obtain ⟨hs, hv⟩ := hP
  have hs2 : ∀ j, ¬ (163 ≤ j ∧ j < 169) → D1 j = D j := fun j hj => hs.1 j (by simp only [List.mem_cons, List.not_mem_nil, or_false]; omega)
  have o9 : q_ok (D 170).1 9 6 := G.2.1.1.2.2.2.2.2.2.2.2.1
  have e9 : (D 90).1 2 = (D 170).1 9 := G.2.1.1.2.2.2.2.2.2.2.1.1
  have n9 : q_n (D 90).1 2 = q_n (D 170).1 9 := (q_ok_e e9 o9).2
  have b9 := o9.2
  rw [hs2 170 (by decide)] at hR
  obtain ⟨hm, hz, st2, hst2, est2, hb⟩ := hR
  have h64 : 2 ^ q_n (D 170).1 9 ≤ 2 ^ 6 := Nat.pow_le_pow_right (by decide) b9
  rw [n9] at est hst
  have q9 : st2 = st := (nI_eq (by omega) (by omega)).mp (est2.symm.trans est)
  subst q9
  exact ⟨q_first (g_q_K G.2.1) (g_k_BK G.2.1) hv hb, g_ask G (Nat.le_refl _) (fun j h1 _ => hs2 j (by omega)) (g_CI1 G hs2) hm⟩
end P33

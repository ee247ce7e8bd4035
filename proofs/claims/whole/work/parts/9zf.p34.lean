/-! image and back: class and reference alike -/
section P34
variable {D D2 : y_D} {L : List Nat} {n : Nat} {W W2 : Nat → Int32}
/-- a table that is the other's -/
def g_tt (D D2 : y_D) (h N : Nat) : Prop := (D2 h).1 2 = (D h).1 2 ∧ (D2 h).1 0 = (D h).1 0 ∧ ∀ j, j < N → (D2 (h + 1)).1 j = (D (h + 1)).1 j
theorem g_B_cp (b : g_B D L W) (hw : ∀ j, j < 8747 → W2 j = W j) (hd : ∀ j, y_dh j → D2 j = D j) (h73 : ∀ k, k = 2 ∨ k = 4 ∨ k = 12 ∨ k = 13 → (D2 73).1 k = (D 73).1 k) (h76 : ∀ i, i < 4 → (D2 76).2.2.1 i = (D 76).2.2.1 i) (h77 : ∀ i, i < 6 → (D2 77).2.2.1 i = (D 77).2.2.1 i) (t74 : g_tt D D2 74 16) (t78 : g_tt D D2 78 18) (t80 : g_tt D D2 80 20) (t82 : g_tt D D2 82 12) (t84 : g_tt D D2 84 15) (t86 : g_tt D D2 86 60) (t88 : g_tt D D2 88 60) (t90 : g_tt D D2 90 24) : g_B D2 L W2 := by
  obtain ⟨⟨t0, t3, t4, t5, t6, t7, t8, t9⟩, r, w, s1, s2, s3, s4⟩ := b
  have n3 : q_n W 3 ≤ q_n W2 3 := by unfold q_n; rw [hw 3 (by decide)]; exact Nat.le_refl _
  have n1 : q_n W 1 ≤ q_n W2 1 := by unfold q_n; rw [hw 1 (by decide)]; exact Nat.le_refl _
  have f : ∀ {h9 cnt base wd mx : Nat} {R R2 : (Nat → Int32) → Prop}, g_T D W h9 cnt base wd mx R → g_tt D D2 h9 (mx * wd) → cnt < 8747 → base + mx * wd ≤ 8747 → g_cg wd R R2 → g_T D2 W2 h9 cnt base wd mx R2 := by
    intro h9 cnt base wd mx R R2 b t h1 h2 hR
    exact g_T_fr b t.1 t.2.1 t.2.2 (hw cnt h1) (fun j hj => hw _ (by omega)) hR
  refine ⟨⟨f t0 t74 (by decide) (by decide) g_cg0, f t3 t78 (by decide) (by decide) g_cg3, f t4 t80 (by decide) (by decide) (g_cg4 n3), f t5 t82 (by decide) (by decide) g_cg5, f t6 t84 (by decide) (by decide) g_cg6, f t7 t86 (by decide) (by decide) (g_cg7 n1), f t8 t88 (by decide) (by decide) g_cg8, f t9 t90 (by decide) (by decide) g_cg9⟩, ?_, ?_, ?_⟩
  · exact g_RU_fr r (h73 2 (by decide)) h76 (fun j _ hj => hd j hj) (fun _ q => q) (hw 1 (by decide)) (fun j j1 j2 => hw j (by omega))
  · exact g_WA_fr w (h73 4 (by decide)) h77 (fun j _ hj => hd j hj) (fun _ q => q) (hw 2 (by decide)) (fun j j1 j2 => hw j (by omega))
  · exact ⟨by rw [h73 12 (by decide), hw 11 (by decide)]; exact s1, (q_ok_e (hw 11 (by decide)) s2).1, by rw [h73 13 (by decide), hw 10 (by decide)]; exact s3, (q_ok_e (hw 10 (by decide)) s4).1⟩
theorem y_cp_lt {f g : Nat → Int32} {i j : Nat} (h : j < i) : y_cp f g i j = f j := if_pos h
theorem y_cpq_lt {f g : Nat → Option Nat} {i j : Nat} (h : j < i) : y_cpq f g i j = f j := if_pos h
theorem y_beci_n {j : Nat} (h : ¬ (112 ≤ j ∧ j < 131)) : y_bec_i D j = D j := by
  unfold y_bec_i y_bf_i
  rw [y_swq_ne (by omega), y_swq_ne (by omega), y_si_n (by omega), y_si_n (by omega), y_si_n (by omega), y_si_n (by omega), y_tb_ne (by omega) (by omega), y_tb_ne (by omega) (by omega), y_tb_ne (by omega) (by omega), y_tb_ne (by omega) (by omega), y_tb_ne (by omega) (by omega), y_tb_ne (by omega) (by omega), y_tb_ne (by omega) (by omega), y_tb_ne (by omega) (by omega)]
theorem y_becb_n {j : Nat} (h : ¬ (73 ≤ j ∧ j < 92)) : y_bec_b D j = D j := by
  unfold y_bec_b y_bf_b
  rw [y_swq_ne (by omega), y_swq_ne (by omega), y_si_n (by omega), y_si_n (by omega), y_si_n (by omega), y_si_n (by omega), y_tb_ne (by omega) (by omega), y_tb_ne (by omega) (by omega), y_tb_ne (by omega) (by omega), y_tb_ne (by omega) (by omega), y_tb_ne (by omega) (by omega), y_tb_ne (by omega) (by omega), y_tb_ne (by omega) (by omega), y_tb_ne (by omega) (by omega)]
theorem g_kp_t {j : Nat} (h : 73 ≤ j ∧ j < 92) : g_kp D j = D (j + 39) := if_pos h
theorem g_kp_n {j : Nat} (h : ¬ (73 ≤ j ∧ j < 92)) : g_kp D j = D j := if_neg h
theorem z_image (G : g_G n L D) : g_G n L (y_si (y_sw (y_si (y_si (y_bec_i D) 64 5 1) 169 0 0) 171 (y_cp ((y_si (y_bec_i D) 64 5 1) 170).1 ((y_si (y_bec_i D) 64 5 1) 171).1 8747)) 169 3 1) := by
  obtain ⟨T, hT⟩ : ∃ z, z = y_si (y_sw (y_si (y_si (y_bec_i D) 64 5 1) 169 0 0) 171 (y_cp ((y_si (y_bec_i D) 64 5 1) 170).1 ((y_si (y_bec_i D) 64 5 1) 171).1 8747)) 169 3 1 := ⟨_, rfl⟩
  rw [← hT]
  have tt : ∀ j, ¬ (112 ≤ j ∧ j < 131) → j ≠ 64 → j ≠ 169 → j ≠ 171 → T j = D j := by
    intro j j1 j2 j3 j4
    rw [hT, y_si_n j3, y_sw_ne j4, y_si_n j3, y_si_n j2, y_beci_n j1]
  have tb : ∀ j, 112 ≤ j ∧ j < 131 → T j = y_bec_i D j := by
    intro j j1
    rw [hT, y_si_n (by omega), y_sw_ne (by omega), y_si_n (by omega), y_si_n (by omega)]
  have t64 : (T 64).1 = upd (D 64).1 5 1 := by rw [hT]; rfl
  have t169 : (T 169).1 = upd (upd (D 169).1 0 0) 3 1 := by rw [hT]; rfl
  have t171 : (T 171).1 = y_cp (D 170).1 (D 171).1 8747 := by rw [hT]; rfl
  have dne : ∀ j, y_dh j → ¬ (112 ≤ j ∧ j < 131) ∧ j ≠ 64 ∧ j ≠ 169 ∧ j ≠ 171 := fun j hj => by unfold y_dh at hj; omega
  have td : ∀ j, y_dh j → T j = D j := fun j hj => tt j (dne j hj).1 (dne j hj).2.1 (dne j hj).2.2.1 (dne j hj).2.2.2
  have t0 : ∀ j, 65 ≤ j → j < 112 → T j = D j := fun j j1 j2 => tt j (by omega) (by omega) (by omega) (by omega)
  have hB := G.2.1
  obtain ⟨⟨b0, b3, b4, b5, b6, b7, b8, b9⟩, br, bw, -⟩ := id hB
  obtain ⟨g1, g4, g5, ⟨e, he, e1, e2⟩, g7, g8, -, g10, g11, k1, k2, k3, k4, k5, k6, k7, k8⟩ := G
  have w : ∀ {h N wd : Nat} {f : Nat → Int32}, (73 ≤ h ∧ h + 1 < 92) → (T (h + 39)).1 2 = (D h).1 2 → (T (h + 39)).1 0 = (D (h + 39)).1 0 → (D (h + 39)).1 0 = nI wd → (D h).1 0 = nI wd → (T (h + 40)).1 = y_cp (D (h + 1)).1 f N → g_tt D (g_kp T) h N := by
    intro h N wd f hh a1 a2 a3 a4 a5
    refine ⟨by rw [g_kp_t (by omega)]; exact a1, by rw [g_kp_t (by omega), a2, a3, a4], fun j hj => ?_⟩
    rw [g_kp_t (by omega), show h + 1 + 39 = h + 40 from rfl, a5, y_cp_lt hj]
  refine ⟨g1, ?_, ?_, ⟨e, he, by rw [t64, y_updn (by decide)]; exact e1, by rw [t169, y_updn (by decide), y_updn (by decide)]; exact e2⟩, ?_, ?_, Or.inr ⟨by rw [t64, y_upds], by rw [t169, y_upds], ?_⟩, ?_, ?_, ?_⟩
  · rw [tt 170 (by decide) (by decide) (by decide) (by decide)]
    refine g_B_eq hB (fun j hj => ?_)
    rcases hj with hj | hj
    · exact t0 j (by omega) (by omega)
    · exact td j hj
  · exact k_CI_fr (e := 0) (by decide) (g_k_B hB) (tt 162 (by decide) (by decide) (by decide) (by decide)) (t0 74 (by decide) (by decide)) (t0 75 (by decide) (by decide)) (fun _ _ => by rw [t0 76 (by decide) (by decide)]) (fun _ _ => by rw [t0 77 (by decide) (by decide)]) (fun j _ hj => td j hj) (by rw [t0 73 (by decide) (by decide), Nat.add_zero]) (by rw [t0 73 (by decide) (by decide)]; exact Nat.le_refl _) g5
  · rw [t0 65 (by decide) (by decide), tt 172 (by decide) (by decide) (by decide) (by decide)]
    exact g7
  · rw [t0 66 (by decide) (by decide), t169, y_updn (by decide), y_updn (by decide)]
    exact g8
  · refine g_B_cp hB (fun j hj => by rw [t171, y_cp_lt hj]) (fun j hj => ?_) (fun k hk => ?_) (fun i hi => ?_) (fun i hi => ?_) (w (by decide) ?_ ?_ k1 b0.1.2.1 (f := (D 114).1) ?_) (w (by decide) ?_ ?_ k2 b3.1.2.1 (f := (D 118).1) ?_) (w (by decide) ?_ ?_ k3 b4.1.2.1 (f := (D 120).1) ?_) (w (by decide) ?_ ?_ k4 b5.1.2.1 (f := (D 122).1) ?_) (w (by decide) ?_ ?_ k5 b6.1.2.1 (f := (D 124).1) ?_) (w (by decide) ?_ ?_ k6 b7.1.2.1 (f := (D 126).1) ?_) (w (by decide) ?_ ?_ k7 b8.1.2.1 (f := (D 128).1) ?_) (w (by decide) ?_ ?_ k8 b9.1.2.1 (f := (D 130).1) ?_)
    · rw [g_kp_n (by unfold y_dh at hj; omega)]
      exact td j hj
    · rw [g_kp_t (by decide), tb _ (by decide)]
      rcases hk with rfl | rfl | rfl | rfl <;> rfl
    · rw [g_kp_t (by decide), tb _ (by decide)]
      show y_cpq (D 76).2.2.1 (D 115).2.2.1 4 i = _
      exact y_cpq_lt hi
    · rw [g_kp_t (by decide), tb _ (by decide)]
      show y_cpq (D 77).2.2.1 (D 116).2.2.1 6 i = _
      exact y_cpq_lt hi
    all_goals (rw [tb _ (by decide)]; rfl)
  · intro i hi
    obtain ⟨a1, a2, a3, a4, -⟩ := br.2.2.2 i hi
    refine ⟨k_rh D i, ?_, a2, a3, by rw [td _ a3]; exact a4⟩
    rw [tb 115 (by decide)]
    exact (show y_cpq (D 76).2.2.1 (D 115).2.2.1 4 i = _ from y_cpq_lt hi).trans a1
  · intro i hi
    obtain ⟨a1, a2, a3, a4, -⟩ := bw.2.2.2 i hi
    refine ⟨k_wh D i, ?_, a2, a3, by rw [td _ a3]; exact a4⟩
    rw [tb 116 (by decide)]
    exact (show y_cpq (D 77).2.2.1 (D 116).2.2.1 6 i = _ from y_cpq_lt hi).trans a1
  · refine ⟨?_, ?_, ?_, ?_, ?_, ?_, ?_, ?_⟩
    · rw [tb 113 (by decide)]; exact k1
    · rw [tb 117 (by decide)]; exact k2
    · rw [tb 119 (by decide)]; exact k3
    · rw [tb 121 (by decide)]; exact k4
    · rw [tb 123 (by decide)]; exact k5
    · rw [tb 125 (by decide)]; exact k6
    · rw [tb 127 (by decide)]; exact k7
    · rw [tb 129 (by decide)]; exact k8
theorem z_back (G : g_G n L D) : (K_back D).1 = (M_back (K_back D).2).1 ∧ g_G n L (M_back (K_back D).2).2 := by
  rcases G.2.2.2.2.2.2.1 with ⟨q1, q2⟩ | ⟨q1, q2, q3⟩
  · have hK : K_back D = (0, D) := if_pos q1
    rw [hK]
    have hM : M_back D = (0, y_si D 169 0 0) := if_pos q2
    rw [hM]
    exact ⟨rfl, (g_G_0 (x := 0) G).2⟩
  · have hK : K_back D = (1, y_sw (y_bec_b D) 162 (y_cp (fun _ => 0) (D 162).1 512)) := if_neg (by rw [q1]; decide)
    rw [hK]
    obtain ⟨D0, hD0⟩ : ∃ z, z = y_sw (y_bec_b D) 162 (y_cp (fun _ => 0) (D 162).1 512) := ⟨_, rfl⟩
    rw [← hD0]
    have d169 : D0 169 = D 169 := by rw [hD0, y_sw_ne (by decide), y_becb_n (by decide)]
    have d170 : D0 170 = D 170 := by rw [hD0, y_sw_ne (by decide), y_becb_n (by decide)]
    have d171 : D0 171 = D 171 := by rw [hD0, y_sw_ne (by decide), y_becb_n (by decide)]
    have hM : M_back D0 = (1, y_sw (y_si D0 169 0 0) 170 (y_cp (D 171).1 (D 170).1 8747)) := by
      unfold M_back
      rw [d169, d170, d171]
      exact if_neg (by rw [q2]; decide)
    rw [hM]
    refine ⟨rfl, ?_⟩
    obtain ⟨T, hT⟩ : ∃ z, z = y_sw (y_si D0 169 0 0) 170 (y_cp (D 171).1 (D 170).1 8747) := ⟨_, rfl⟩
    rw [← hT]
    show g_G n L T
    have tt : ∀ j, ¬ (73 ≤ j ∧ j < 92) → j ≠ 162 → j ≠ 169 → j ≠ 170 → T j = D j := by
      intro j j1 j2 j3 j4
      rw [hT, y_sw_ne j4, y_si_n j3, hD0, y_sw_ne j2, y_becb_n j1]
    have tb : ∀ j, 73 ≤ j ∧ j < 92 → T j = y_bec_b D j := by
      intro j j1
      rw [hT, y_sw_ne (by omega), y_si_n (by omega), hD0, y_sw_ne (by omega)]
    have t169 : (T 169).1 = upd (D 169).1 0 0 := by rw [hT, ← d169]; rfl
    have t170 : (T 170).1 = y_cp (D 171).1 (D 170).1 8747 := by rw [hT]; rfl
    have t162 : (T 162).1 = y_cp (fun _ => 0) (D 162).1 512 := by rw [hT, hD0]; rfl
    have dne : ∀ j, y_dh j → ¬ (73 ≤ j ∧ j < 92) ∧ j ≠ 162 ∧ j ≠ 169 ∧ j ≠ 170 := fun j hj => by unfold y_dh at hj; omega
    have td : ∀ j, y_dh j → T j = D j := fun j hj => tt j (dne j hj).1 (dne j hj).2.1 (dne j hj).2.2.1 (dne j hj).2.2.2
    obtain ⟨⟨b0, b3, b4, b5, b6, b7, b8, b9⟩, -⟩ := G.2.1
    obtain ⟨⟨c0, c3, c4, c5, c6, c7, c8, c9⟩, -⟩ := id q3
    obtain ⟨g1, g4, g5, ⟨e, he, e1, e2⟩, g7, g8, -, g10, g11, k1, k2, k3, k4, k5, k6, k7, k8⟩ := G
    have w : ∀ {h N wd : Nat} {f : Nat → Int32}, (73 ≤ h ∧ h + 1 < 92) → (T h).1 2 = (D (h + 39)).1 2 → (T h).1 0 = (D h).1 0 → (D (h + 39)).1 0 = nI wd → (D h).1 0 = nI wd → (T (h + 1)).1 = y_cp (D (h + 40)).1 f N → g_tt (g_kp D) T h N := by
      intro h N wd f hh a1 a2 a3 a4 a5
      refine ⟨by rw [g_kp_t (by omega)]; exact a1, by rw [g_kp_t (by omega), a2, a3, a4], fun j hj => ?_⟩
      rw [g_kp_t (by omega), show h + 1 + 39 = h + 40 from rfl, a5, y_cp_lt hj]
    refine ⟨g1, ?_, k_CI_0 t162, ⟨e, he, by rw [tt 64 (by decide) (by decide) (by decide) (by decide)]; exact e1, by rw [t169, y_updn (by decide)]; exact e2⟩, ?_, ?_, Or.inr ⟨by rw [tt 64 (by decide) (by decide) (by decide) (by decide)]; exact q1, by rw [t169, y_updn (by decide)]; exact q2, ?_⟩, ?_, ?_, ?_⟩
    · refine g_B_cp q3 (fun j hj => by rw [t170, y_cp_lt hj]) (fun j hj => ?_) (fun k hk => ?_) (fun i hi => ?_) (fun i hi => ?_) (w (by decide) ?_ ?_ k1 b0.1.2.1 (f := (D 75).1) ?_) (w (by decide) ?_ ?_ k2 b3.1.2.1 (f := (D 79).1) ?_) (w (by decide) ?_ ?_ k3 b4.1.2.1 (f := (D 81).1) ?_) (w (by decide) ?_ ?_ k4 b5.1.2.1 (f := (D 83).1) ?_) (w (by decide) ?_ ?_ k5 b6.1.2.1 (f := (D 85).1) ?_) (w (by decide) ?_ ?_ k6 b7.1.2.1 (f := (D 87).1) ?_) (w (by decide) ?_ ?_ k7 b8.1.2.1 (f := (D 89).1) ?_) (w (by decide) ?_ ?_ k8 b9.1.2.1 (f := (D 91).1) ?_)
      · rw [g_kp_n (dne j hj).1]
        exact td j hj
      · rw [g_kp_t (by decide), tb _ (by decide)]
        rcases hk with rfl | rfl | rfl | rfl <;> rfl
      · rw [g_kp_t (by decide), tb _ (by decide)]
        show y_cpq (D 115).2.2.1 (D 76).2.2.1 4 i = _
        exact y_cpq_lt hi
      · rw [g_kp_t (by decide), tb _ (by decide)]
        show y_cpq (D 116).2.2.1 (D 77).2.2.1 6 i = _
        exact y_cpq_lt hi
      all_goals (rw [tb _ (by decide)]; rfl)
    · rw [tt 65 (by decide) (by decide) (by decide) (by decide), tt 172 (by decide) (by decide) (by decide) (by decide)]
      exact g7
    · rw [tt 66 (by decide) (by decide) (by decide) (by decide), t169, y_updn (by decide)]
      exact g8
    · rw [tt 171 (by decide) (by decide) (by decide) (by decide)]
      refine g_B_eq q3 (fun j hj => ?_)
      unfold g_kp
      by_cases c : 73 ≤ j ∧ j < 92
      · rw [if_pos c, if_pos c]
        exact tt _ (by omega) (by omega) (by omega) (by omega)
      · rw [if_neg c, if_neg c]
        exact td j (by rcases hj with hj | hj; (exact absurd hj c); (exact hj))
    · exact y_rq_eq g10 (tt 115 (by decide) (by decide) (by decide) (by decide)) (fun j _ hj => td j hj) (fun _ q => q)
    · exact y_rq_eq g11 (tt 116 (by decide) (by decide) (by decide) (by decide)) (fun j _ hj => td j hj) (fun _ q => q)
    · have z := fun j (h1 : ¬ (73 ≤ j ∧ j < 92)) (h2 : j ≠ 162) (h3 : j ≠ 169) (h4 : j ≠ 170) => tt j h1 h2 h3 h4
      unfold g_kw
      rw [z 113 (by decide) (by decide) (by decide) (by decide), z 117 (by decide) (by decide) (by decide) (by decide), z 119 (by decide) (by decide) (by decide) (by decide), z 121 (by decide) (by decide) (by decide) (by decide), z 123 (by decide) (by decide) (by decide) (by decide), z 125 (by decide) (by decide) (by decide) (by decide), z 127 (by decide) (by decide) (by decide) (by decide), z 129 (by decide) (by decide) (by decide) (by decide)]
      exact ⟨k1, k2, k3, k4, k5, k6, k7, k8⟩
end P34

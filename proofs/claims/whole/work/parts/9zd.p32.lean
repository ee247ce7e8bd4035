/-! feed, end, torn, count: class and reference alike -/
section P32
variable {D : y_D} {L : List Nat} {n : Nat}
theorem g_G_tape (G : g_G n L D) (T : y_D) {e : Nat} (tt : ∀ j, j ≠ 64 → j ≠ 65 → j ≠ 169 → j ≠ 172 → j ≠ 173 → T j = D j) (he : e ≤ 400) (h1 : (T 64).1 1 = nI e) (h2 : (T 64).1 5 = (D 64).1 5) (h3 : (T 169).1 5 = nI e) (h4 : (T 169).1 3 = (D 169).1 3) (h5 : (T 169).1 10 = (D 169).1 10) (h6 : (T 65).1 = (T 172).1) (h7 : t_by (T 65).1) : g_G n L T := by
  have dne : ∀ j, y_dh j → j ≠ 64 ∧ j ≠ 65 ∧ j ≠ 169 ∧ j ≠ 172 ∧ j ≠ 173 := fun j hj => by unfold y_dh at hj; omega
  have td : ∀ j, y_dh j → T j = D j := fun j hj => tt j (dne j hj).1 (dne j hj).2.1 (dne j hj).2.2.1 (dne j hj).2.2.2.1 (dne j hj).2.2.2.2
  have tb : ∀ j, 66 ≤ j → j < 169 → T j = D j := fun j j1 j2 => tt j (by omega) (by omega) (by omega) (by omega) (by omega)
  obtain ⟨g1, g4, g5, g6, g7, g8, g9, g10, g11, gk⟩ := G
  have e170 := tt 170 (by decide) (by decide) (by decide) (by decide) (by decide)
  have e171 := tt 171 (by decide) (by decide) (by decide) (by decide) (by decide)
  have e73 := tb 73 (by decide) (by decide)
  refine ⟨g1, by rw [e170]; exact g_B_eq g4 (fun j hj => by rcases hj with hj | hj; (exact tb j (by omega) (by omega)); (exact td j hj)), ?_, ⟨e, he, h1, h3⟩, ⟨h6, h7⟩, by rw [tb 66 (by decide) (by decide), h5]; exact g8, ?_, y_rq_eq g10 (tb 115 (by decide) (by decide)) (fun j _ hj => td j hj) (fun _ q => q), y_rq_eq g11 (tb 116 (by decide) (by decide)) (fun j _ hj => td j hj) (fun _ q => q), by
    unfold g_kw at gk ⊢
    rw [tb 113 (by decide) (by decide), tb 117 (by decide) (by decide), tb 119 (by decide) (by decide), tb 121 (by decide) (by decide), tb 123 (by decide) (by decide), tb 125 (by decide) (by decide), tb 127 (by decide) (by decide), tb 129 (by decide) (by decide)]
    exact gk⟩
  · exact k_CI_fr (e := 0) (by decide) (g_k_B g4) (tb 162 (by decide) (by decide)) (tb 74 (by decide) (by decide)) (tb 75 (by decide) (by decide)) (fun _ _ => by rw [tb 76 (by decide) (by decide)]) (fun _ _ => by rw [tb 77 (by decide) (by decide)]) (fun j _ hj => td j hj) (by rw [e73, Nat.add_zero]) (by rw [e73]; exact Nat.le_refl _) g5
  · rw [h2, h4, e171]
    rcases g9 with g9 | ⟨q1, q2, q3⟩
    · exact Or.inl g9
    · refine Or.inr ⟨q1, q2, g_B_eq q3 (fun j hj => ?_)⟩
      unfold g_kp
      by_cases c : 73 ≤ j ∧ j < 92
      · rw [if_pos c, if_pos c]
        exact tb _ (by omega) (by omega)
      · rw [if_neg c, if_neg c]
        exact td j (by rcases hj with hj | hj; (exact absurd hj c); (exact hj))
theorem z_end (G : g_G n L D) {p : Int32} : (K_end D p).1 = (M_end (K_end D p).2 p).1 ∧ g_G n L (M_end (K_end D p).2 p).2 := by
  obtain ⟨e, he, e1, e2⟩ := G.2.2.2.1
  have hE : (D 64).1 1 = (D 169).1 5 := e1.trans e2.symm
  by_cases c : p < 0 ∨ (D 64).1 1 < p
  · have hK : K_end D p = (0, D) := if_pos c
    rw [hK]
    have hM : M_end D p = (0, y_si D 169 0 0) := if_pos (by rw [← hE]; exact c)
    rw [hM]
    exact ⟨rfl, (g_G_0 (x := 0) G).2⟩
  · have hK : K_end D p = (1, y_si D 64 1 p) := if_neg c
    rw [hK]
    have hM : M_end (y_si D 64 1 p) p = (1, y_si (y_si (y_si D 64 1 p) 169 0 0) 169 5 p) := if_neg (by rw [hE] at c; exact c)
    rw [hM]
    refine ⟨rfl, ?_⟩
    obtain ⟨T, hT⟩ : ∃ z, z = y_si (y_si (y_si D 64 1 p) 169 0 0) 169 5 p := ⟨_, rfl⟩
    rw [← hT]
    have c1 : ¬ p < 0 := fun z => c (Or.inl z)
    have c2 : ¬ nI e < p := fun z => c (Or.inr (by rw [e1]; exact z))
    obtain ⟨a, ha, ea⟩ := nI_of (x := p) c1
    rw [ea, Int32.lt_iff_toInt_lt, nI_toInt (by omega), nI_toInt ha] at c2
    have t64 : (T 64).1 = upd (D 64).1 1 p := by rw [hT]; rfl
    have t169 : (T 169).1 = upd (upd (D 169).1 0 0) 5 p := by rw [hT]; rfl
    have t65 : T 65 = D 65 := by rw [hT]; rfl
    have t172 : T 172 = D 172 := by rw [hT]; rfl
    refine g_G_tape G T (e := a) (fun j j1 j2 j3 j4 j5 => by rw [hT, y_si_n j3, y_si_n j3, y_si_n j1]) (by omega) (by rw [t64, y_upds]; exact ea) (by rw [t64, y_updn (by decide)]) (by rw [t169, y_upds]; exact ea) (by rw [t169, y_updn (by decide), y_updn (by decide)]) (by rw [t169, y_updn (by decide), y_updn (by decide)]) (by rw [t65, t172]; exact G.2.2.2.2.1.1) (by rw [t65]; exact G.2.2.2.2.1.2)
theorem v_byte {x : Int32} : -128 ≤ (vp_nar .byte x.toInt8.toInt32).toInt ∧ (vp_nar .byte x.toInt8.toInt32).toInt ≤ 127 := by
  have key : ∀ z : Int8, -128 ≤ z.toInt32.toInt ∧ z.toInt32.toInt ≤ 127 := fun z => by
    rw [Int8.toInt_toInt32]
    have h1 := Int8.le_toInt z
    have h2 := Int8.toInt_lt z
    omega
  exact key _
theorem z_feed (G : g_G n L D) {k : Nat} {a b c d e : Int32} (hk : (D 64).1 1 = nI k) (h4 : k ≤ 400) : (K_feed D k a b c d e).1 = (M_feed (K_feed D k a b c d e).2 k a b c d e).1 ∧ g_G n L (M_feed (K_feed D k a b c d e).2 k a b c d e).2 := by
  by_cases q : k + 20 ≤ 400
  · have hK : K_feed D k a b c d e = (nI (k + 20), y_fD D k a b c d e 20) := if_pos q
    rw [hK]
    obtain ⟨D0, hD0⟩ : ∃ z, z = y_fD D k a b c d e 20 := ⟨_, rfl⟩
    rw [← hD0]
    have hM : M_feed D0 k a b c d e = (nI (k + 20), y_si (y_sw (M_fD D0 a b c d e) 172 (y_ft (D0 172).1 k a b c d e 20)) 169 5 (nI (k + 20))) := if_pos q
    rw [hM]
    refine ⟨rfl, ?_⟩
    obtain ⟨T, hT⟩ : ∃ z, z = y_si (y_sw (M_fD D0 a b c d e) 172 (y_ft (D0 172).1 k a b c d e 20)) 169 5 (nI (k + 20)) := ⟨_, rfl⟩
    rw [← hT]
    have d172 : D0 172 = D 172 := by rw [hD0]; rfl
    have d169 : D0 169 = D 169 := by rw [hD0]; rfl
    have t64 : (T 64).1 = upd (D 64).1 1 (nI (k + 20)) := by rw [hT, hD0]; rfl
    have t65 : (T 65).1 = y_ft (D 65).1 k a b c d e 20 := by rw [hT, hD0]; rfl
    have t172 : (T 172).1 = y_ft (D 172).1 k a b c d e 20 := by rw [hT, ← d172]; rfl
    have t169 : (T 169).1 = upd (upd (D 169).1 0 0) 5 (nI (k + 20)) := by rw [hT, ← d169]; rfl
    have hb : t_by (T 65).1 := by
      intro j
      rw [t65]
      unfold y_ft
      by_cases z : k ≤ j ∧ j < k + 20
      · rw [if_pos z]
        exact v_byte
      · rw [if_neg z]
        exact G.2.2.2.2.1.2 j
    refine g_G_tape G T (e := k + 20) (fun j j1 j2 j3 j4 j5 => ?_) q (by rw [t64, y_upds]) (by rw [t64, y_updn (by decide)]) (by rw [t169, y_upds]) (by rw [t169, y_updn (by decide), y_updn (by decide)]) (by rw [t169, y_updn (by decide), y_updn (by decide)]) (by rw [t65, t172, G.2.2.2.2.1.1]) hb
    rw [hT, y_si_n j3, y_sw_ne j4]
    unfold M_fD
    rw [y_si_n j5, y_si_n j5, y_si_n j5, y_si_n j5, y_si_n j5, y_si_n j3, hD0]
    unfold y_fD
    rw [y_si_n j1, y_sw_ne j2]
  · have hK : K_feed D k a b c d e = (-1, D) := if_neg q
    rw [hK]
    have hM : M_feed D k a b c d e = (-1, y_si D 169 0 0) := if_neg q
    rw [hM]
    exact ⟨rfl, (g_G_0 (x := 0) G).2⟩
theorem z_torn (G : g_G n L D) : (D 80).1 2 = ((y_si D 80 2 0) 170).1 4 ∧ g_G n L (y_si (y_si (y_si D 80 2 0) 169 0 0) 170 4 0) := by
  refine ⟨G.2.1.1.2.2.1.1.1, ?_⟩
  obtain ⟨T, hT⟩ : ∃ z, z = y_si (y_si (y_si D 80 2 0) 169 0 0) 170 4 0 := ⟨_, rfl⟩
  rw [← hT]
  have t169 : (T 169).1 = upd (D 169).1 0 0 := by rw [hT]; rfl
  have t170 : (T 170).1 = upd (D 170).1 4 0 := by rw [hT]; rfl
  have t80 : (T 80).1 = upd (D 80).1 2 0 := by rw [hT]; rfl
  have tt : ∀ j, j ≠ 80 → j ≠ 169 → j ≠ 170 → T j = D j := by
    intro j j1 j2 j3
    rw [hT, y_si_n j3, y_si_n j2, y_si_n j1]
  have dne : ∀ j, y_dh j → j ≠ 80 ∧ j ≠ 169 ∧ j ≠ 170 := fun j hj => by unfold y_dh at hj; omega
  have td : ∀ j, y_dh j → T j = D j := fun j hj => tt j (dne j hj).1 (dne j hj).2.1 (dne j hj).2.2
  have w : ∀ j, j ≠ 4 → (T 170).1 j = (D 170).1 j := fun j hj => by rw [t170, y_updn hj]
  have e73 := tt 73 (by decide) (by decide) (by decide)
  have t76 := tt 76 (by decide) (by decide) (by decide)
  have t77 := tt 77 (by decide) (by decide) (by decide)
  obtain ⟨b1, b2, b3, s1, s2, s3, s4⟩ := G.2.1
  obtain ⟨t0, t3, t4, t5, t6, t7, t8, t9⟩ := b1
  have f : ∀ {h9 cnt base wd mx : Nat} {R R2 : (Nat → Int32) → Prop}, h9 ≠ 80 → h9 + 1 ≠ 80 → h9 + 1 < 92 → cnt ≠ 4 → 12 ≤ base → g_cg wd R R2 → g_T D (D 170).1 h9 cnt base wd mx R → g_T T (T 170).1 h9 cnt base wd mx R2 := by
    intro h9 cnt base wd mx R R2 h1 h1' h2 h3 h4 hR b
    have e1 := tt h9 (by omega) (by omega) (by omega)
    have e2 := tt (h9 + 1) (by omega) (by omega) (by omega)
    exact g_T_fr b (by rw [e1]) (by rw [e1]) (fun j _ => by rw [e2]) (w cnt (by omega)) (fun j _ => w _ (by omega)) hR
  have n1 : q_n (D 170).1 1 ≤ q_n (T 170).1 1 := by unfold q_n; rw [w 1 (by omega)]; exact Nat.le_refl _
  have w4 : (T 170).1 4 = nI 0 := by rw [t170, y_upds]; rfl
  have q4 := q_mk (B := 10) w4 (by decide) (by decide)
  have hB : g_B T L (T 170).1 := by
    refine ⟨⟨f (by decide) (by decide) (by decide) (by decide) (by decide) g_cg0 t0, f (by decide) (by decide) (by decide) (by decide) (by decide) g_cg3 t3, ⟨⟨by rw [t80, t170, y_upds, y_upds], by rw [t80, y_updn (by decide)]; exact t4.1.2.1, fun k c hk _ => ?_⟩, q4.1, fun k hk => ?_⟩, f (by decide) (by decide) (by decide) (by decide) (by decide) g_cg5 t5, f (by decide) (by decide) (by decide) (by decide) (by decide) g_cg6 t6, f (by decide) (by decide) (by decide) (by decide) (by decide) (g_cg7 n1) t7, f (by decide) (by decide) (by decide) (by decide) (by decide) g_cg8 t8, f (by decide) (by decide) (by decide) (by decide) (by decide) g_cg9 t9⟩, g_RU_fr b2 (by rw [e73]) (fun _ _ => by rw [t76]) (fun j _ hj => td j hj) (fun _ q => q) (w 1 (by omega)) (fun j j1 j2 => w j (by omega)), g_WA_fr b3 (by rw [e73]) (fun _ _ => by rw [t77]) (fun j _ hj => td j hj) (fun _ q => q) (w 2 (by omega)) (fun j j1 j2 => w j (by omega)), by rw [e73, w 11 (by decide)]; exact s1, (q_ok_e (w 11 (by decide)) s2).1, by rw [e73, w 10 (by decide)]; exact s3, (q_ok_e (w 10 (by decide)) s4).1⟩
    · rw [q4.2] at hk
      omega
    · rw [q4.2] at hk
      omega
  have hC : k_CI T := k_CI_fr (e := 0) (by decide) (g_k_B G.2.1) (tt 162 (by decide) (by decide) (by decide)) (tt 74 (by decide) (by decide) (by decide)) (tt 75 (by decide) (by decide) (by decide)) (fun _ _ => by rw [t76]) (fun _ _ => by rw [t77]) (fun j _ hj => td j hj) (by rw [e73, Nat.add_zero]) (by rw [e73]; exact Nat.le_refl _) G.2.2.1
  refine g_G_put G (Nat.le_refl _) hB hC (fun j hj => ?_) (fun k9 hk9 => by rw [t169, y_updn (by omega)])
  rcases hj with hj | hj | hj | hj | hj | hj | hj
  · exact tt j (by omega) (by omega) (by omega)
  · exact tt j (by omega) (by omega) (by omega)
  · exact tt j (by omega) (by omega) (by omega)
  · exact tt j (by omega) (by omega) (by omega)
  · exact tt j (by omega) (by omega) (by omega)
  · exact tt j (by omega) (by omega) (by omega)
  · exact td j hj
theorem z_count (G : g_G n L D) {p : Int32} : K_count D p = M_count D p ∧ g_G n L (y_si D 169 0 0) := by
  refine ⟨?_, (g_G_0 (x := 0) G).2⟩
  obtain ⟨⟨t0, t3, t4, t5, t6, t7, t8, t9⟩, r, w, s⟩ := G.2.1
  unfold K_count M_count
  by_cases c : 0 ≤ p ∧ p ≤ 9
  · rw [if_pos c]
    obtain ⟨a, rfl, -, ha⟩ := v_in_of (lo := 0) (hi := 9) c.1 c.2 (by decide) (by decide)
    rw [nI_cl (by omega)]
    rcases (by omega : a = 0 ∨ a = 1 ∨ a = 2 ∨ a = 3 ∨ a = 4 ∨ a = 5 ∨ a = 6 ∨ a = 7 ∨ a = 8 ∨ a = 9) with rfl | rfl | rfl | rfl | rfl | rfl | rfl | rfl | rfl | rfl
    · exact t0.1.1
    · exact r.1
    · exact w.1
    · exact t3.1.1
    · exact t4.1.1
    · exact t5.1.1
    · exact t6.1.1
    · exact t7.1.1
    · exact t8.1.1
    · exact t9.1.1
  · rw [if_neg c]
    have hne : ∀ q : Int32, (0 ≤ q ∧ q ≤ 9) → ¬ p = q := fun q h z => c (by rw [z]; exact h)
    rw [if_neg (hne 0 (by decide)), if_neg (hne 1 (by decide)), if_neg (hne 2 (by decide)), if_neg (hne 3 (by decide)), if_neg (hne 4 (by decide)), if_neg (hne 5 (by decide)), if_neg (hne 6 (by decide)), if_neg (hne 7 (by decide)), if_neg (hne 8 (by decide)), if_neg (hne 9 (by decide))]
end P32

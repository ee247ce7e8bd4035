/-! the calls that put a row: class and reference alike -/
section P30
variable {D : y_D} {L : List Nat} {n : Nat}
theorem v_in_lt {p : Int32} {m : Nat} (h1 : 0 ≤ p) (h2 : p < nI m) (hm : m < 2 ^ 30) : ∃ t, p = nI t ∧ t < m := by
  rw [Int32.le_iff_toInt_le] at h1
  rw [Int32.lt_iff_toInt_lt, nI_toInt (by omega)] at h2
  have h0 : (0 : Int32).toInt = 0 := by decide
  obtain ⟨a, ha, ea⟩ := nI_of (x := p) (fun q => by
    rw [Int32.lt_iff_toInt_lt] at q
    omega)
  rw [ea, nI_toInt ha] at h2
  exact ⟨a, ea, by omega⟩
theorem v_tr {a b c : Int32} (h1 : a ≤ b) (h2 : b ≤ c) : a ≤ c := Int32.le_trans h1 h2
theorem v_8 {p : Int32} : p ≤ 7 ↔ p < 8 := v_lt1 (m := 8) (by decide)
theorem z_person (G : g_G n L D) {p q : Int32} {k : Nat} (hk : (D 170).1 0 = nI k) (hk8 : k ≤ 8) : z_Q n L D (fun v D2 => ((0 ≤ p ∧ p ≤ 9) ∧ (0 ≤ q ∧ q ≤ 400)) ∧ k < 8 ∧ v = nI k ∧ D2 = y_Tadd (y_sw D 162 (y_cp (fun _ => 0) (D 162).1 512)) 74 75 16 k 2 p q 0 0 0) (fun E9 => (¬ ((0 ≤ p ∧ p ≤ 9) ∧ (0 ≤ q ∧ q ≤ 400)) ∧ E9 = y_IAE) ∨ (((0 ≤ p ∧ p ≤ 9) ∧ (0 ≤ q ∧ q ≤ 400)) ∧ k = 8 ∧ E9 = y_UOE)) [y_IAE, y_UOE] (fun D0 b D3 => b = (M_person D0 k p q).1 ∧ D3 = (M_person D0 k p q).2) (fun v b => v = b) := by
  have hqk : q_n (D 170).1 0 = k := (q_mk (B := 8) hk hk8 (by omega)).2
  refine ⟨fun v D1 x hP b D3 hR => ?_, fun i E9 n2 hi hX hn b D3 hR => ?_⟩
  · obtain ⟨hc, hkm, rfl, hD1⟩ := hP
    obtain ⟨rfl, rfl⟩ := hR
    obtain ⟨D0, hD0⟩ : ∃ z, z = y_sl D1 189 0 x := ⟨_, rfl⟩
    rw [← hD0]
    have hne : ∀ j, j ≠ 74 → j ≠ 75 → j ≠ 189 → j ≠ 162 → D0 j = D j := by
      intro j j1 j2 j3 j4
      rw [hD0, y_sl_n j3, hD1, y_Tadd_n j1 j2, y_sw_ne j4]
    have hM : M_person D0 k p q = (nI k, y_si (y_si (y_si (y_si D0 169 0 0) 170 (12 + 2 * k) p) 170 (12 + 2 * k + 1) q) 170 0 (nI (k + 1))) := by
      unfold M_person
      rw [if_neg (by grind), if_neg (by omega)]
    rw [hM]
    obtain ⟨T, hT⟩ : ∃ z, z = y_si (y_si (y_si (y_si D0 169 0 0) 170 (12 + 2 * k) p) 170 (12 + 2 * k + 1) q) 170 0 (nI (k + 1)) := ⟨_, rfl⟩
    have t169 : (T 169).1 = upd (D0 169).1 0 0 := by rw [hT]; rfl
    have t189 : T 189 = D0 189 := by rw [hT]; rfl
    have t170 : (T 170).1 = upd (upd (upd ((D0 170).1) (12 + 2 * k) p) (12 + 2 * k + 1) q) 0 (nI (k + 1)) := by rw [hT]; rfl
    have tne : ∀ j, j ≠ 169 → j ≠ 170 → T j = D0 j := by
      intro j j1 j2
      rw [hT, y_si_n j2, y_si_n j2, y_si_n j2, y_si_n j1]
    rw [← hT]
    rw [hne 170 (by decide) (by decide) (by decide) (by decide)] at t170
    rw [hne 169 (by decide) (by decide) (by decide) (by decide)] at t169
    have dne : ∀ j, y_dh j → j ≠ 74 ∧ j ≠ 75 ∧ j ≠ 189 ∧ j ≠ 162 ∧ j ≠ 169 ∧ j ≠ 170 := fun j hj => by unfold y_dh at hj; omega
    have tt : ∀ j, j ≠ 169 → j ≠ 170 → j ≠ 74 → j ≠ 75 → j ≠ 189 → j ≠ 162 → T j = D j := fun j j1 j2 j3 j4 j5 j6 => (tne j j1 j2).trans (hne j j3 j4 j5 j6)
    have th : T 74 = y_Tadd (y_sw D 162 (y_cp (fun _ => 0) (D 162).1 512)) 74 75 16 k 2 p q 0 0 0 74 := by rw [tne 74 (by decide) (by decide), hD0, y_sl_n (by decide), hD1]
    have th2 : T 75 = y_Tadd (y_sw D 162 (y_cp (fun _ => 0) (D 162).1 512)) 74 75 16 k 2 p q 0 0 0 75 := by rw [tne 75 (by decide) (by decide), hD0, y_sl_n (by decide), hD1]
    have hga := g_Tadd (D := (y_sw D 162 (y_cp (fun _ => 0) (D 162).1 512))) (tb := 74) (len := 16) (k := k) (wd := 2) (a := p) (b := q) (c := 0) (d := 0) (e := 0) (by omega) (by decide)
    rw [y_sw_ne (show 74 ≠ 162 by decide), y_sw_ne (show 74 + 1 ≠ 162 by decide)] at hga
    have hRf : (g_r0) (y_5 p q 0 0 0) := ⟨v_in_of (lo := 0) hc.1.1 (v_tr hc.1.2 (by decide)) (by decide) (by decide), v_in_of (lo := 0) (hi := 400) hc.2.1 hc.2.2 (by decide) (by decide)⟩
    have hB : g_B T L (T 170).1 := by
      refine g_ad_74 (D := D) (W := (D 170).1) (k := k) (f := y_5 p q 0 0 0) ⟨fun j j1 j2 j3 => ?_, by rw [th]; exact hga.1, by rw [th]; exact hga.2.1, fun j hj => by rw [th2]; exact hga.2.2.1 j hj, fun c hc => by rw [th2]; exact hga.2.2.2 c hc, by rw [t170, y_upds], fun j j1 j2 => by rw [t170, y_updn (by omega), y_updn (by omega), y_updn (by omega)], fun c hc => ?_⟩ G.2.1 hqk hkm hRf
      · rcases j3 with j3 | hj
        · exact tt j (by omega) (by omega) j1 j2 (by omega) (by omega)
        · exact tt j (dne j hj).2.2.2.2.1 (dne j hj).2.2.2.2.2 j1 j2 (dne j hj).2.2.1 (dne j hj).2.2.2.1
      · rw [t170]
        rcases (by omega : c = 0 ∨ c = 1) with rfl | rfl
        · rw [y_updn (by omega), y_updn (by omega)]
          exact y_upds
        · rw [y_updn (by omega)]
          exact y_upds
    have hC : k_CI T := k_CI_0 (f := (D 162).1) (by rw [tne 162 (by decide) (by decide), hD0, y_sl_n (by decide), hD1, y_Tadd_n (by decide) (by decide), y_sw_1])
    refine ⟨rfl, by rw [t169, y_upds], g_G_put G (Nat.le_refl _) hB hC (fun j hj => ?_) (fun k9 hk9 => by rw [t169, y_updn (by omega)]), t189⟩
    rcases hj with hj | hj | hj | hj | hj | hj | hj
    · exact tt j (by omega) (by omega) (by omega) (by omega) (by omega) (by omega)
    · exact tt j (by omega) (by omega) (by omega) (by omega) (by omega) (by omega)
    · exact tt j (by omega) (by omega) (by omega) (by omega) (by omega) (by omega)
    · exact tt j (by omega) (by omega) (by omega) (by omega) (by omega) (by omega)
    · exact tt j (by omega) (by omega) (by omega) (by omega) (by omega) (by omega)
    · exact tt j (by omega) (by omega) (by omega) (by omega) (by omega) (by omega)
    · exact tt j (dne j hj).2.2.2.2.1 (dne j hj).2.2.2.2.2 (dne j hj).1 (dne j hj).2.1 (dne j hj).2.2.1 (dne j hj).2.2.2.1
  · obtain ⟨rfl, rfl⟩ := hR
    rcases i with _ | _ | i
    · have he : y_IAE = E9 := Option.some.inj hi
      rcases hX with hX | hX
      · have hM : M_person D k p q = (0, y_si (y_si D 169 0 0) 169 0 (nI (0 + 1))) := by
          unfold M_person
          rw [if_pos (by grind)]
          rfl
        rw [hM]
        exact g_G_th G hn
      · exact absurd (he.trans (by grind)) (show ¬ y_IAE = y_UOE by decide)
    · have he : y_UOE = E9 := Option.some.inj hi
      rcases hX with hX | hX
      · exact absurd (he.trans (by grind)) (show ¬ y_UOE = y_IAE by decide)
      · have hM : M_person D k p q = (0, y_si (y_si D 169 0 0) 169 0 (nI (1 + 1))) := by
          unfold M_person
          rw [if_neg (by grind), if_pos (by grind)]
          rfl
        rw [hM]
        exact g_G_th G hn
    · exact absurd hi (by simp)
theorem z_thing (G : g_G n L D) {p q r : Int32} {k : Nat} (hk : (D 170).1 3 = nI k) (hk8 : k ≤ 6) : z_Q n L D (fun v D2 => (((0 ≤ p ∧ p ≤ 2) ∧ (0 ≤ q ∧ q ≤ 2) ∧ (0 ≤ r ∧ r ≤ 9))) ∧ k < 6 ∧ v = nI k ∧ D2 = y_Tadd D 78 79 18 k 3 p q r 0 0) (fun E9 => (¬ ((0 ≤ p ∧ p ≤ 2) ∧ (0 ≤ q ∧ q ≤ 2) ∧ (0 ≤ r ∧ r ≤ 9)) ∧ E9 = y_IAE) ∨ (((0 ≤ p ∧ p ≤ 2) ∧ (0 ≤ q ∧ q ≤ 2) ∧ (0 ≤ r ∧ r ≤ 9)) ∧ k = 6 ∧ E9 = y_UOE)) [y_IAE, y_UOE] (fun D0 b D3 => b = (M_thing D0 k p q r).1 ∧ D3 = (M_thing D0 k p q r).2) (fun v b => v = b) := by
  have hqk : q_n (D 170).1 3 = k := (q_mk (B := 6) hk hk8 (by omega)).2
  refine ⟨fun v D1 x hP b D3 hR => ?_, fun i E9 n2 hi hX hn b D3 hR => ?_⟩
  · obtain ⟨hc, hkm, rfl, hD1⟩ := hP
    obtain ⟨rfl, rfl⟩ := hR
    obtain ⟨D0, hD0⟩ : ∃ z, z = y_sl D1 189 0 x := ⟨_, rfl⟩
    rw [← hD0]
    have hne : ∀ j, j ≠ 78 → j ≠ 79 → j ≠ 189 → D0 j = D j := by
      intro j j1 j2 j3
      rw [hD0, y_sl_n j3, hD1, y_Tadd_n j1 j2]
    have hM : M_thing D0 k p q r = (nI k, y_si (y_si (y_si (y_si (y_si D0 169 0 0) 170 (28 + 3 * k) p) 170 (28 + 3 * k + 1) q) 170 (28 + 3 * k + 2) r) 170 3 (nI (k + 1))) := by
      unfold M_thing
      rw [if_neg (by grind), if_neg (by omega)]
    rw [hM]
    obtain ⟨T, hT⟩ : ∃ z, z = y_si (y_si (y_si (y_si (y_si D0 169 0 0) 170 (28 + 3 * k) p) 170 (28 + 3 * k + 1) q) 170 (28 + 3 * k + 2) r) 170 3 (nI (k + 1)) := ⟨_, rfl⟩
    have t169 : (T 169).1 = upd (D0 169).1 0 0 := by rw [hT]; rfl
    have t189 : T 189 = D0 189 := by rw [hT]; rfl
    have t170 : (T 170).1 = upd (upd (upd (upd ((D0 170).1) (28 + 3 * k) p) (28 + 3 * k + 1) q) (28 + 3 * k + 2) r) 3 (nI (k + 1)) := by rw [hT]; rfl
    have tne : ∀ j, j ≠ 169 → j ≠ 170 → T j = D0 j := by
      intro j j1 j2
      rw [hT, y_si_n j2, y_si_n j2, y_si_n j2, y_si_n j2, y_si_n j1]
    rw [← hT]
    rw [hne 170 (by decide) (by decide) (by decide)] at t170
    rw [hne 169 (by decide) (by decide) (by decide)] at t169
    have dne : ∀ j, y_dh j → j ≠ 78 ∧ j ≠ 79 ∧ j ≠ 189 ∧ j ≠ 162 ∧ j ≠ 169 ∧ j ≠ 170 := fun j hj => by unfold y_dh at hj; omega
    have tt : ∀ j, j ≠ 169 → j ≠ 170 → j ≠ 78 → j ≠ 79 → j ≠ 189 → T j = D j := fun j j1 j2 j3 j4 j5 => (tne j j1 j2).trans (hne j j3 j4 j5)
    have th : T 78 = y_Tadd D 78 79 18 k 3 p q r 0 0 78 := by rw [tne 78 (by decide) (by decide), hD0, y_sl_n (by decide), hD1]
    have th2 : T 79 = y_Tadd D 78 79 18 k 3 p q r 0 0 79 := by rw [tne 79 (by decide) (by decide), hD0, y_sl_n (by decide), hD1]
    have hga := g_Tadd (D := D) (tb := 78) (len := 18) (k := k) (wd := 3) (a := p) (b := q) (c := r) (d := 0) (e := 0) (by omega) (by decide)
    have hRf : (g_r3) (y_5 p q r 0 0) := ⟨v_in_of (lo := 0) (hi := 2) hc.1.1 hc.1.2 (by decide) (by decide), v_in_of (lo := 0) (hi := 2) hc.2.1.1 hc.2.1.2 (by decide) (by decide)⟩
    have hB : g_B T L (T 170).1 := by
      refine g_ad_78 (D := D) (W := (D 170).1) (k := k) (f := y_5 p q r 0 0) ⟨fun j j1 j2 j3 => ?_, by rw [th]; exact hga.1, by rw [th]; exact hga.2.1, fun j hj => by rw [th2]; exact hga.2.2.1 j hj, fun c hc => by rw [th2]; exact hga.2.2.2 c hc, by rw [t170, y_upds], fun j j1 j2 => by rw [t170, y_updn (by omega), y_updn (by omega), y_updn (by omega), y_updn (by omega)], fun c hc => ?_⟩ G.2.1 hqk hkm hRf
      · rcases j3 with j3 | hj
        · exact tt j (by omega) (by omega) j1 j2 (by omega)
        · exact tt j (dne j hj).2.2.2.2.1 (dne j hj).2.2.2.2.2 j1 j2 (dne j hj).2.2.1
      · rw [t170]
        rcases (by omega : c = 0 ∨ c = 1 ∨ c = 2) with rfl | rfl | rfl
        · rw [y_updn (by omega), y_updn (by omega), y_updn (by omega)]
          exact y_upds
        · rw [y_updn (by omega), y_updn (by omega)]
          exact y_upds
        · rw [y_updn (by omega)]
          exact y_upds
    have t73 := tt 73 (by decide) (by decide) (by decide) (by decide) (by decide)
    have t76 := tt 76 (by decide) (by decide) (by decide) (by decide) (by decide)
    have t77 := tt 77 (by decide) (by decide) (by decide) (by decide) (by decide)
    have hC : k_CI T := k_CI_fr (e := 0) (by decide) (g_k_B G.2.1) (tt 162 (by decide) (by decide) (by decide) (by decide) (by decide)) (tt 74 (by decide) (by decide) (by decide) (by decide) (by decide)) (tt 75 (by decide) (by decide) (by decide) (by decide) (by decide)) (fun _ _ => by rw [t76]) (fun _ _ => by rw [t77]) (fun j _ hj => tt j (dne j hj).2.2.2.2.1 (dne j hj).2.2.2.2.2 (dne j hj).1 (dne j hj).2.1 (dne j hj).2.2.1) (by rw [t73, Nat.add_zero]) (by rw [t73]; exact Nat.le_refl _) G.2.2.1
    refine ⟨rfl, by rw [t169, y_upds], g_G_put G (Nat.le_refl _) hB hC (fun j hj => ?_) (fun k9 hk9 => by rw [t169, y_updn (by omega)]), t189⟩
    rcases hj with hj | hj | hj | hj | hj | hj | hj
    · exact tt j (by omega) (by omega) (by omega) (by omega) (by omega)
    · exact tt j (by omega) (by omega) (by omega) (by omega) (by omega)
    · exact tt j (by omega) (by omega) (by omega) (by omega) (by omega)
    · exact tt j (by omega) (by omega) (by omega) (by omega) (by omega)
    · exact tt j (by omega) (by omega) (by omega) (by omega) (by omega)
    · exact tt j (by omega) (by omega) (by omega) (by omega) (by omega)
    · exact tt j (dne j hj).2.2.2.2.1 (dne j hj).2.2.2.2.2 (dne j hj).1 (dne j hj).2.1 (dne j hj).2.2.1
  · obtain ⟨rfl, rfl⟩ := hR
    rcases i with _ | _ | i
    · have he : y_IAE = E9 := Option.some.inj hi
      rcases hX with hX | hX
      · have hM : M_thing D k p q r = (0, y_si (y_si D 169 0 0) 169 0 (nI (0 + 1))) := by
          unfold M_thing
          rw [if_pos (by grind)]
          rfl
        rw [hM]
        exact g_G_th G hn
      · exact absurd (he.trans (by grind)) (show ¬ y_IAE = y_UOE by decide)
    · have he : y_UOE = E9 := Option.some.inj hi
      rcases hX with hX | hX
      · exact absurd (he.trans (by grind)) (show ¬ y_UOE = y_IAE by decide)
      · have hM : M_thing D k p q r = (0, y_si (y_si D 169 0 0) 169 0 (nI (1 + 1))) := by
          unfold M_thing
          rw [if_neg (by grind), if_pos (by grind)]
          rfl
        rw [hM]
        exact g_G_th G hn
    · exact absurd hi (by simp)
theorem z_note (G : g_G n L D) {p q : Int32} {k : Nat} (hk : (D 170).1 4 = nI k) (hk8 : k ≤ 10) : z_Q n L D (fun v D2 => ((0 ≤ p ∧ p < (D 78).1 2) ∧ (0 ≤ q ∧ q ≤ 300)) ∧ k < 10 ∧ v = nI k ∧ D2 = y_Tadd D 80 81 20 k 2 p q 0 0 0) (fun E9 => (¬ (0 ≤ p ∧ p < (D 78).1 2) ∧ E9 = y_IOB) ∨ ((0 ≤ p ∧ p < (D 78).1 2) ∧ ¬ (0 ≤ q ∧ q ≤ 300) ∧ E9 = y_IAE) ∨ ((0 ≤ p ∧ p < (D 78).1 2) ∧ (0 ≤ q ∧ q ≤ 300) ∧ k = 10 ∧ E9 = y_UOE)) [y_IOB, y_IAE, y_UOE] (fun D0 b D3 => b = (M_note D0 k p q).1 ∧ D3 = (M_note D0 k p q).2) (fun v b => v = b) := by
  obtain ⟨m9, hm9, e9⟩ : ∃ m9, m9 ≤ 6 ∧ (D 170).1 3 = nI m9 := ⟨_, G.2.1.1.2.1.2.1.2, G.2.1.1.2.1.2.1.1⟩
  have e3 : (D 78).1 2 = nI m9 := G.2.1.1.2.1.1.1.trans e9
  have n3 : q_n (D 170).1 3 = m9 := (q_mk (B := 6) e9 hm9 (by omega)).2
  have hq : p ≤ (D 170).1 3 - 1 ↔ p < (D 78).1 2 := by
    rw [e9, e3]
    exact v_lt1 (by omega)
  have hqk : q_n (D 170).1 4 = k := (q_mk (B := 10) hk hk8 (by omega)).2
  refine ⟨fun v D1 x hP b D3 hR => ?_, fun i E9 n2 hi hX hn b D3 hR => ?_⟩
  · obtain ⟨hc, hkm, rfl, hD1⟩ := hP
    obtain ⟨rfl, rfl⟩ := hR
    obtain ⟨D0, hD0⟩ : ∃ z, z = y_sl D1 189 0 x := ⟨_, rfl⟩
    rw [← hD0]
    have hne : ∀ j, j ≠ 80 → j ≠ 81 → j ≠ 189 → D0 j = D j := by
      intro j j1 j2 j3
      rw [hD0, y_sl_n j3, hD1, y_Tadd_n j1 j2]
    have hM : M_note D0 k p q = (nI k, y_si (y_si (y_si (y_si D0 169 0 0) 170 (46 + 2 * k) p) 170 (46 + 2 * k + 1) q) 170 4 (nI (k + 1))) := by
      unfold M_note
      rw [hne 170 (by decide) (by decide) (by decide)]
      rw [if_neg (by grind), if_neg (by grind), if_neg (by omega)]
    rw [hM]
    obtain ⟨T, hT⟩ : ∃ z, z = y_si (y_si (y_si (y_si D0 169 0 0) 170 (46 + 2 * k) p) 170 (46 + 2 * k + 1) q) 170 4 (nI (k + 1)) := ⟨_, rfl⟩
    have t169 : (T 169).1 = upd (D0 169).1 0 0 := by rw [hT]; rfl
    have t189 : T 189 = D0 189 := by rw [hT]; rfl
    have t170 : (T 170).1 = upd (upd (upd ((D0 170).1) (46 + 2 * k) p) (46 + 2 * k + 1) q) 4 (nI (k + 1)) := by rw [hT]; rfl
    have tne : ∀ j, j ≠ 169 → j ≠ 170 → T j = D0 j := by
      intro j j1 j2
      rw [hT, y_si_n j2, y_si_n j2, y_si_n j2, y_si_n j1]
    rw [← hT]
    rw [hne 170 (by decide) (by decide) (by decide)] at t170
    rw [hne 169 (by decide) (by decide) (by decide)] at t169
    have dne : ∀ j, y_dh j → j ≠ 80 ∧ j ≠ 81 ∧ j ≠ 189 ∧ j ≠ 162 ∧ j ≠ 169 ∧ j ≠ 170 := fun j hj => by unfold y_dh at hj; omega
    have tt : ∀ j, j ≠ 169 → j ≠ 170 → j ≠ 80 → j ≠ 81 → j ≠ 189 → T j = D j := fun j j1 j2 j3 j4 j5 => (tne j j1 j2).trans (hne j j3 j4 j5)
    have th : T 80 = y_Tadd D 80 81 20 k 2 p q 0 0 0 80 := by rw [tne 80 (by decide) (by decide), hD0, y_sl_n (by decide), hD1]
    have th2 : T 81 = y_Tadd D 80 81 20 k 2 p q 0 0 0 81 := by rw [tne 81 (by decide) (by decide), hD0, y_sl_n (by decide), hD1]
    have hga := g_Tadd (D := D) (tb := 80) (len := 20) (k := k) (wd := 2) (a := p) (b := q) (c := 0) (d := 0) (e := 0) (by omega) (by decide)
    have hw3 : q_n (T 170).1 3 = m9 := by
      rw [← n3]
      unfold q_n
      rw [t170, y_updn (by omega), y_updn (by omega), y_updn (by omega)]
    have hRf : (g_r4 (q_n (T 170).1 3)) (y_5 p q 0 0 0) := (by
      obtain ⟨t, t1, t2⟩ := v_in_lt hc.1.1 (by rw [← e3]; exact hc.1.2) (by omega)
      exact ⟨⟨t, t1, by omega, by rw [hw3]; exact t2⟩, v_in_of (lo := 0) (hi := 300) hc.2.1 hc.2.2 (by decide) (by decide)⟩)
    have hB : g_B T L (T 170).1 := by
      refine g_ad_80 (D := D) (W := (D 170).1) (k := k) (f := y_5 p q 0 0 0) ⟨fun j j1 j2 j3 => ?_, by rw [th]; exact hga.1, by rw [th]; exact hga.2.1, fun j hj => by rw [th2]; exact hga.2.2.1 j hj, fun c hc => by rw [th2]; exact hga.2.2.2 c hc, by rw [t170, y_upds], fun j j1 j2 => by rw [t170, y_updn (by omega), y_updn (by omega), y_updn (by omega)], fun c hc => ?_⟩ G.2.1 hqk hkm hRf
      · rcases j3 with j3 | hj
        · exact tt j (by omega) (by omega) j1 j2 (by omega)
        · exact tt j (dne j hj).2.2.2.2.1 (dne j hj).2.2.2.2.2 j1 j2 (dne j hj).2.2.1
      · rw [t170]
        rcases (by omega : c = 0 ∨ c = 1) with rfl | rfl
        · rw [y_updn (by omega), y_updn (by omega)]
          exact y_upds
        · rw [y_updn (by omega)]
          exact y_upds
    have t73 := tt 73 (by decide) (by decide) (by decide) (by decide) (by decide)
    have t76 := tt 76 (by decide) (by decide) (by decide) (by decide) (by decide)
    have t77 := tt 77 (by decide) (by decide) (by decide) (by decide) (by decide)
    have hC : k_CI T := k_CI_fr (e := 0) (by decide) (g_k_B G.2.1) (tt 162 (by decide) (by decide) (by decide) (by decide) (by decide)) (tt 74 (by decide) (by decide) (by decide) (by decide) (by decide)) (tt 75 (by decide) (by decide) (by decide) (by decide) (by decide)) (fun _ _ => by rw [t76]) (fun _ _ => by rw [t77]) (fun j _ hj => tt j (dne j hj).2.2.2.2.1 (dne j hj).2.2.2.2.2 (dne j hj).1 (dne j hj).2.1 (dne j hj).2.2.1) (by rw [t73, Nat.add_zero]) (by rw [t73]; exact Nat.le_refl _) G.2.2.1
    refine ⟨rfl, by rw [t169, y_upds], g_G_put G (Nat.le_refl _) hB hC (fun j hj => ?_) (fun k9 hk9 => by rw [t169, y_updn (by omega)]), t189⟩
    rcases hj with hj | hj | hj | hj | hj | hj | hj
    · exact tt j (by omega) (by omega) (by omega) (by omega) (by omega)
    · exact tt j (by omega) (by omega) (by omega) (by omega) (by omega)
    · exact tt j (by omega) (by omega) (by omega) (by omega) (by omega)
    · exact tt j (by omega) (by omega) (by omega) (by omega) (by omega)
    · exact tt j (by omega) (by omega) (by omega) (by omega) (by omega)
    · exact tt j (by omega) (by omega) (by omega) (by omega) (by omega)
    · exact tt j (dne j hj).2.2.2.2.1 (dne j hj).2.2.2.2.2 (dne j hj).1 (dne j hj).2.1 (dne j hj).2.2.1
  · obtain ⟨rfl, rfl⟩ := hR
    rcases i with _ | _ | _ | i
    · have he : y_IOB = E9 := Option.some.inj hi
      rcases hX with hX | hX | hX
      · have hM : M_note D k p q = (0, y_si (y_si D 169 0 0) 169 0 (nI (0 + 1))) := by
          unfold M_note
          rw [if_pos (by grind)]
          rfl
        rw [hM]
        exact g_G_th G hn
      · exact absurd (he.trans (by grind)) (show ¬ y_IOB = y_IAE by decide)
      · exact absurd (he.trans (by grind)) (show ¬ y_IOB = y_UOE by decide)
    · have he : y_IAE = E9 := Option.some.inj hi
      rcases hX with hX | hX | hX
      · exact absurd (he.trans (by grind)) (show ¬ y_IAE = y_IOB by decide)
      · have hM : M_note D k p q = (0, y_si (y_si D 169 0 0) 169 0 (nI (1 + 1))) := by
          unfold M_note
          rw [if_neg (by grind), if_pos (by grind)]
          rfl
        rw [hM]
        exact g_G_th G hn
      · exact absurd (he.trans (by grind)) (show ¬ y_IAE = y_UOE by decide)
    · have he : y_UOE = E9 := Option.some.inj hi
      rcases hX with hX | hX | hX
      · exact absurd (he.trans (by grind)) (show ¬ y_UOE = y_IOB by decide)
      · exact absurd (he.trans (by grind)) (show ¬ y_UOE = y_IAE by decide)
      · have hM : M_note D k p q = (0, y_si (y_si D 169 0 0) 169 0 (nI (2 + 1))) := by
          unfold M_note
          rw [if_neg (by grind), if_neg (by grind), if_pos (by grind)]
          rfl
        rw [hM]
        exact g_G_th G hn
    · exact absurd hi (by simp)
theorem z_trap (G : g_G n L D) {p q r : Int32} {k : Nat} (hk : (D 170).1 5 = nI k) (hk8 : k ≤ 4) : z_Q n L D (fun v D2 => ((0 ≤ p ∧ p < (D 73).1 4) ∧ ((1 ≤ q ∧ q ≤ 9) ∧ (1 ≤ r ∧ r ≤ 9))) ∧ k < 4 ∧ v = nI k ∧ D2 = y_Tadd D 82 83 12 k 3 p q r 0 0) (fun E9 => (¬ (0 ≤ p ∧ p < (D 73).1 4) ∧ E9 = y_IOB) ∨ ((0 ≤ p ∧ p < (D 73).1 4) ∧ ¬ ((1 ≤ q ∧ q ≤ 9) ∧ (1 ≤ r ∧ r ≤ 9)) ∧ E9 = y_IAE) ∨ ((0 ≤ p ∧ p < (D 73).1 4) ∧ ((1 ≤ q ∧ q ≤ 9) ∧ (1 ≤ r ∧ r ≤ 9)) ∧ k = 4 ∧ E9 = y_UOE)) [y_IOB, y_IAE, y_UOE] (fun D0 b D3 => b = (M_trap D0 k p q r).1 ∧ D3 = (M_trap D0 k p q r).2) (fun v b => v = b) := by
  obtain ⟨m9, hm9, e9⟩ : ∃ m9, m9 ≤ 6 ∧ (D 170).1 2 = nI m9 := ⟨_, G.2.1.2.2.1.2.1.2, G.2.1.2.2.1.2.1.1⟩
  have e3 : (D 73).1 4 = nI m9 := G.2.1.2.2.1.1.trans e9
  have hq : p ≤ (D 170).1 2 - 1 ↔ p < (D 73).1 4 := by
    rw [e9, e3]
    exact v_lt1 (by omega)
  have hqk : q_n (D 170).1 5 = k := (q_mk (B := 4) hk hk8 (by omega)).2
  refine ⟨fun v D1 x hP b D3 hR => ?_, fun i E9 n2 hi hX hn b D3 hR => ?_⟩
  · obtain ⟨hc, hkm, rfl, hD1⟩ := hP
    obtain ⟨rfl, rfl⟩ := hR
    obtain ⟨D0, hD0⟩ : ∃ z, z = y_sl D1 189 0 x := ⟨_, rfl⟩
    rw [← hD0]
    have hne : ∀ j, j ≠ 82 → j ≠ 83 → j ≠ 189 → D0 j = D j := by
      intro j j1 j2 j3
      rw [hD0, y_sl_n j3, hD1, y_Tadd_n j1 j2]
    have hM : M_trap D0 k p q r = (nI k, y_si (y_si (y_si (y_si (y_si D0 169 0 0) 170 (66 + 3 * k) p) 170 (66 + 3 * k + 1) q) 170 (66 + 3 * k + 2) r) 170 5 (nI (k + 1))) := by
      unfold M_trap
      rw [hne 170 (by decide) (by decide) (by decide)]
      rw [if_neg (by grind), if_neg (by grind), if_neg (by omega)]
    rw [hM]
    obtain ⟨T, hT⟩ : ∃ z, z = y_si (y_si (y_si (y_si (y_si D0 169 0 0) 170 (66 + 3 * k) p) 170 (66 + 3 * k + 1) q) 170 (66 + 3 * k + 2) r) 170 5 (nI (k + 1)) := ⟨_, rfl⟩
    have t169 : (T 169).1 = upd (D0 169).1 0 0 := by rw [hT]; rfl
    have t189 : T 189 = D0 189 := by rw [hT]; rfl
    have t170 : (T 170).1 = upd (upd (upd (upd ((D0 170).1) (66 + 3 * k) p) (66 + 3 * k + 1) q) (66 + 3 * k + 2) r) 5 (nI (k + 1)) := by rw [hT]; rfl
    have tne : ∀ j, j ≠ 169 → j ≠ 170 → T j = D0 j := by
      intro j j1 j2
      rw [hT, y_si_n j2, y_si_n j2, y_si_n j2, y_si_n j2, y_si_n j1]
    rw [← hT]
    rw [hne 170 (by decide) (by decide) (by decide)] at t170
    rw [hne 169 (by decide) (by decide) (by decide)] at t169
    have dne : ∀ j, y_dh j → j ≠ 82 ∧ j ≠ 83 ∧ j ≠ 189 ∧ j ≠ 162 ∧ j ≠ 169 ∧ j ≠ 170 := fun j hj => by unfold y_dh at hj; omega
    have tt : ∀ j, j ≠ 169 → j ≠ 170 → j ≠ 82 → j ≠ 83 → j ≠ 189 → T j = D j := fun j j1 j2 j3 j4 j5 => (tne j j1 j2).trans (hne j j3 j4 j5)
    have th : T 82 = y_Tadd D 82 83 12 k 3 p q r 0 0 82 := by rw [tne 82 (by decide) (by decide), hD0, y_sl_n (by decide), hD1]
    have th2 : T 83 = y_Tadd D 82 83 12 k 3 p q r 0 0 83 := by rw [tne 83 (by decide) (by decide), hD0, y_sl_n (by decide), hD1]
    have hga := g_Tadd (D := D) (tb := 82) (len := 12) (k := k) (wd := 3) (a := p) (b := q) (c := r) (d := 0) (e := 0) (by omega) (by decide)
    have hRf : (g_r5) (y_5 p q r 0 0) := (by
      obtain ⟨t, t1, t2⟩ := v_in_lt hc.1.1 (by rw [← e3]; exact hc.1.2) (by omega)
      exact ⟨⟨t, t1, by omega, by omega⟩, v_in_of (lo := 1) (hi := 9) hc.2.1.1 hc.2.1.2 (by decide) (by decide), v_in_of (lo := 1) (hi := 9) hc.2.2.1 hc.2.2.2 (by decide) (by decide)⟩)
    have hB : g_B T L (T 170).1 := by
      refine g_ad_82 (D := D) (W := (D 170).1) (k := k) (f := y_5 p q r 0 0) ⟨fun j j1 j2 j3 => ?_, by rw [th]; exact hga.1, by rw [th]; exact hga.2.1, fun j hj => by rw [th2]; exact hga.2.2.1 j hj, fun c hc => by rw [th2]; exact hga.2.2.2 c hc, by rw [t170, y_upds], fun j j1 j2 => by rw [t170, y_updn (by omega), y_updn (by omega), y_updn (by omega), y_updn (by omega)], fun c hc => ?_⟩ G.2.1 hqk hkm hRf
      · rcases j3 with j3 | hj
        · exact tt j (by omega) (by omega) j1 j2 (by omega)
        · exact tt j (dne j hj).2.2.2.2.1 (dne j hj).2.2.2.2.2 j1 j2 (dne j hj).2.2.1
      · rw [t170]
        rcases (by omega : c = 0 ∨ c = 1 ∨ c = 2) with rfl | rfl | rfl
        · rw [y_updn (by omega), y_updn (by omega), y_updn (by omega)]
          exact y_upds
        · rw [y_updn (by omega), y_updn (by omega)]
          exact y_upds
        · rw [y_updn (by omega)]
          exact y_upds
    have t73 := tt 73 (by decide) (by decide) (by decide) (by decide) (by decide)
    have t76 := tt 76 (by decide) (by decide) (by decide) (by decide) (by decide)
    have t77 := tt 77 (by decide) (by decide) (by decide) (by decide) (by decide)
    have hC : k_CI T := k_CI_fr (e := 0) (by decide) (g_k_B G.2.1) (tt 162 (by decide) (by decide) (by decide) (by decide) (by decide)) (tt 74 (by decide) (by decide) (by decide) (by decide) (by decide)) (tt 75 (by decide) (by decide) (by decide) (by decide) (by decide)) (fun _ _ => by rw [t76]) (fun _ _ => by rw [t77]) (fun j _ hj => tt j (dne j hj).2.2.2.2.1 (dne j hj).2.2.2.2.2 (dne j hj).1 (dne j hj).2.1 (dne j hj).2.2.1) (by rw [t73, Nat.add_zero]) (by rw [t73]; exact Nat.le_refl _) G.2.2.1
    refine ⟨rfl, by rw [t169, y_upds], g_G_put G (Nat.le_refl _) hB hC (fun j hj => ?_) (fun k9 hk9 => by rw [t169, y_updn (by omega)]), t189⟩
    rcases hj with hj | hj | hj | hj | hj | hj | hj
    · exact tt j (by omega) (by omega) (by omega) (by omega) (by omega)
    · exact tt j (by omega) (by omega) (by omega) (by omega) (by omega)
    · exact tt j (by omega) (by omega) (by omega) (by omega) (by omega)
    · exact tt j (by omega) (by omega) (by omega) (by omega) (by omega)
    · exact tt j (by omega) (by omega) (by omega) (by omega) (by omega)
    · exact tt j (by omega) (by omega) (by omega) (by omega) (by omega)
    · exact tt j (dne j hj).2.2.2.2.1 (dne j hj).2.2.2.2.2 (dne j hj).1 (dne j hj).2.1 (dne j hj).2.2.1
  · obtain ⟨rfl, rfl⟩ := hR
    rcases i with _ | _ | _ | i
    · have he : y_IOB = E9 := Option.some.inj hi
      rcases hX with hX | hX | hX
      · have hM : M_trap D k p q r = (0, y_si (y_si D 169 0 0) 169 0 (nI (0 + 1))) := by
          unfold M_trap
          rw [if_pos (by grind)]
          rfl
        rw [hM]
        exact g_G_th G hn
      · exact absurd (he.trans (by grind)) (show ¬ y_IOB = y_IAE by decide)
      · exact absurd (he.trans (by grind)) (show ¬ y_IOB = y_UOE by decide)
    · have he : y_IAE = E9 := Option.some.inj hi
      rcases hX with hX | hX | hX
      · exact absurd (he.trans (by grind)) (show ¬ y_IAE = y_IOB by decide)
      · have hM : M_trap D k p q r = (0, y_si (y_si D 169 0 0) 169 0 (nI (1 + 1))) := by
          unfold M_trap
          rw [if_neg (by grind), if_pos (by grind)]
          rfl
        rw [hM]
        exact g_G_th G hn
      · exact absurd (he.trans (by grind)) (show ¬ y_IAE = y_UOE by decide)
    · have he : y_UOE = E9 := Option.some.inj hi
      rcases hX with hX | hX | hX
      · exact absurd (he.trans (by grind)) (show ¬ y_UOE = y_IOB by decide)
      · exact absurd (he.trans (by grind)) (show ¬ y_UOE = y_IAE by decide)
      · have hM : M_trap D k p q r = (0, y_si (y_si D 169 0 0) 169 0 (nI (2 + 1))) := by
          unfold M_trap
          rw [if_neg (by grind), if_neg (by grind), if_pos (by grind)]
          rfl
        rw [hM]
        exact g_G_th G hn
    · exact absurd hi (by simp)
theorem z_story (G : g_G n L D) {p q r : Int32} {k : Nat} (hk : (D 170).1 6 = nI k) (hk8 : k ≤ 5) : z_Q n L D (fun v D2 => (((1 ≤ p ∧ p ≤ 99) ∧ (r = -1 ∨ (1 ≤ r ∧ r ≤ 7)))) ∧ k < 5 ∧ v = nI k ∧ D2 = y_Tadd D 84 85 15 k 3 p q r 0 0) (fun E9 => (¬ ((1 ≤ p ∧ p ≤ 99) ∧ (r = -1 ∨ (1 ≤ r ∧ r ≤ 7))) ∧ E9 = y_IAE) ∨ (((1 ≤ p ∧ p ≤ 99) ∧ (r = -1 ∨ (1 ≤ r ∧ r ≤ 7))) ∧ k = 5 ∧ E9 = y_UOE)) [y_IAE, y_UOE] (fun D0 b D3 => b = (M_story D0 k p q r).1 ∧ D3 = (M_story D0 k p q r).2) (fun v b => v = b) := by
  have hqk : q_n (D 170).1 6 = k := (q_mk (B := 5) hk hk8 (by omega)).2
  refine ⟨fun v D1 x hP b D3 hR => ?_, fun i E9 n2 hi hX hn b D3 hR => ?_⟩
  · obtain ⟨hc, hkm, rfl, hD1⟩ := hP
    obtain ⟨rfl, rfl⟩ := hR
    obtain ⟨D0, hD0⟩ : ∃ z, z = y_sl D1 189 0 x := ⟨_, rfl⟩
    rw [← hD0]
    have hne : ∀ j, j ≠ 84 → j ≠ 85 → j ≠ 189 → D0 j = D j := by
      intro j j1 j2 j3
      rw [hD0, y_sl_n j3, hD1, y_Tadd_n j1 j2]
    have hM : M_story D0 k p q r = (nI k, y_si (y_si (y_si (y_si (y_si D0 169 0 0) 170 (78 + 3 * k) p) 170 (78 + 3 * k + 1) q) 170 (78 + 3 * k + 2) r) 170 6 (nI (k + 1))) := by
      unfold M_story
      rw [if_neg (by grind), if_neg (by omega)]
    rw [hM]
    obtain ⟨T, hT⟩ : ∃ z, z = y_si (y_si (y_si (y_si (y_si D0 169 0 0) 170 (78 + 3 * k) p) 170 (78 + 3 * k + 1) q) 170 (78 + 3 * k + 2) r) 170 6 (nI (k + 1)) := ⟨_, rfl⟩
    have t169 : (T 169).1 = upd (D0 169).1 0 0 := by rw [hT]; rfl
    have t189 : T 189 = D0 189 := by rw [hT]; rfl
    have t170 : (T 170).1 = upd (upd (upd (upd ((D0 170).1) (78 + 3 * k) p) (78 + 3 * k + 1) q) (78 + 3 * k + 2) r) 6 (nI (k + 1)) := by rw [hT]; rfl
    have tne : ∀ j, j ≠ 169 → j ≠ 170 → T j = D0 j := by
      intro j j1 j2
      rw [hT, y_si_n j2, y_si_n j2, y_si_n j2, y_si_n j2, y_si_n j1]
    rw [← hT]
    rw [hne 170 (by decide) (by decide) (by decide)] at t170
    rw [hne 169 (by decide) (by decide) (by decide)] at t169
    have dne : ∀ j, y_dh j → j ≠ 84 ∧ j ≠ 85 ∧ j ≠ 189 ∧ j ≠ 162 ∧ j ≠ 169 ∧ j ≠ 170 := fun j hj => by unfold y_dh at hj; omega
    have tt : ∀ j, j ≠ 169 → j ≠ 170 → j ≠ 84 → j ≠ 85 → j ≠ 189 → T j = D j := fun j j1 j2 j3 j4 j5 => (tne j j1 j2).trans (hne j j3 j4 j5)
    have th : T 84 = y_Tadd D 84 85 15 k 3 p q r 0 0 84 := by rw [tne 84 (by decide) (by decide), hD0, y_sl_n (by decide), hD1]
    have th2 : T 85 = y_Tadd D 84 85 15 k 3 p q r 0 0 85 := by rw [tne 85 (by decide) (by decide), hD0, y_sl_n (by decide), hD1]
    have hga := g_Tadd (D := D) (tb := 84) (len := 15) (k := k) (wd := 3) (a := p) (b := q) (c := r) (d := 0) (e := 0) (by omega) (by decide)
    have hRf : (g_r6) (y_5 p q r 0 0) := ⟨v_in_of (lo := 1) (hi := 99) hc.1.1 hc.1.2 (by decide) (by decide), hc.2.elim Or.inl (fun z => Or.inr (v_in_of (lo := 0) (hi := 7) (v_tr (by decide) z.1) z.2 (by decide) (by decide)))⟩
    have hB : g_B T L (T 170).1 := by
      refine g_ad_84 (D := D) (W := (D 170).1) (k := k) (f := y_5 p q r 0 0) ⟨fun j j1 j2 j3 => ?_, by rw [th]; exact hga.1, by rw [th]; exact hga.2.1, fun j hj => by rw [th2]; exact hga.2.2.1 j hj, fun c hc => by rw [th2]; exact hga.2.2.2 c hc, by rw [t170, y_upds], fun j j1 j2 => by rw [t170, y_updn (by omega), y_updn (by omega), y_updn (by omega), y_updn (by omega)], fun c hc => ?_⟩ G.2.1 hqk hkm hRf
      · rcases j3 with j3 | hj
        · exact tt j (by omega) (by omega) j1 j2 (by omega)
        · exact tt j (dne j hj).2.2.2.2.1 (dne j hj).2.2.2.2.2 j1 j2 (dne j hj).2.2.1
      · rw [t170]
        rcases (by omega : c = 0 ∨ c = 1 ∨ c = 2) with rfl | rfl | rfl
        · rw [y_updn (by omega), y_updn (by omega), y_updn (by omega)]
          exact y_upds
        · rw [y_updn (by omega), y_updn (by omega)]
          exact y_upds
        · rw [y_updn (by omega)]
          exact y_upds
    have t73 := tt 73 (by decide) (by decide) (by decide) (by decide) (by decide)
    have t76 := tt 76 (by decide) (by decide) (by decide) (by decide) (by decide)
    have t77 := tt 77 (by decide) (by decide) (by decide) (by decide) (by decide)
    have hC : k_CI T := k_CI_fr (e := 0) (by decide) (g_k_B G.2.1) (tt 162 (by decide) (by decide) (by decide) (by decide) (by decide)) (tt 74 (by decide) (by decide) (by decide) (by decide) (by decide)) (tt 75 (by decide) (by decide) (by decide) (by decide) (by decide)) (fun _ _ => by rw [t76]) (fun _ _ => by rw [t77]) (fun j _ hj => tt j (dne j hj).2.2.2.2.1 (dne j hj).2.2.2.2.2 (dne j hj).1 (dne j hj).2.1 (dne j hj).2.2.1) (by rw [t73, Nat.add_zero]) (by rw [t73]; exact Nat.le_refl _) G.2.2.1
    refine ⟨rfl, by rw [t169, y_upds], g_G_put G (Nat.le_refl _) hB hC (fun j hj => ?_) (fun k9 hk9 => by rw [t169, y_updn (by omega)]), t189⟩
    rcases hj with hj | hj | hj | hj | hj | hj | hj
    · exact tt j (by omega) (by omega) (by omega) (by omega) (by omega)
    · exact tt j (by omega) (by omega) (by omega) (by omega) (by omega)
    · exact tt j (by omega) (by omega) (by omega) (by omega) (by omega)
    · exact tt j (by omega) (by omega) (by omega) (by omega) (by omega)
    · exact tt j (by omega) (by omega) (by omega) (by omega) (by omega)
    · exact tt j (by omega) (by omega) (by omega) (by omega) (by omega)
    · exact tt j (dne j hj).2.2.2.2.1 (dne j hj).2.2.2.2.2 (dne j hj).1 (dne j hj).2.1 (dne j hj).2.2.1
  · obtain ⟨rfl, rfl⟩ := hR
    rcases i with _ | _ | i
    · have he : y_IAE = E9 := Option.some.inj hi
      rcases hX with hX | hX
      · have hM : M_story D k p q r = (0, y_si (y_si D 169 0 0) 169 0 (nI (0 + 1))) := by
          unfold M_story
          rw [if_pos (by grind)]
          rfl
        rw [hM]
        exact g_G_th G hn
      · exact absurd (he.trans (by grind)) (show ¬ y_IAE = y_UOE by decide)
    · have he : y_UOE = E9 := Option.some.inj hi
      rcases hX with hX | hX
      · exact absurd (he.trans (by grind)) (show ¬ y_UOE = y_IAE by decide)
      · have hM : M_story D k p q r = (0, y_si (y_si D 169 0 0) 169 0 (nI (1 + 1))) := by
          unfold M_story
          rw [if_neg (by grind), if_pos (by grind)]
          rfl
        rw [hM]
        exact g_G_th G hn
    · exact absurd hi (by simp)
theorem z_told (G : g_G n L D) {p q r : Int32} {k : Nat} (hk : (D 170).1 8 = nI k) (hk8 : k ≤ 20) : z_Q n L D (fun v D2 => ((0 ≤ p ∧ p < 8) ∧ (0 ≤ q ∧ q < 8) ∧ (¬ p = q ∧ (0 ≤ r ∧ r ≤ 365))) ∧ k < 20 ∧ v = nI k ∧ D2 = y_Tadd D 88 89 60 k 3 p q r 0 0) (fun E9 => (¬ (0 ≤ p ∧ p < 8) ∧ E9 = y_IOB) ∨ ((0 ≤ p ∧ p < 8) ∧ ¬ (0 ≤ q ∧ q < 8) ∧ E9 = y_IOB) ∨ ((0 ≤ p ∧ p < 8) ∧ (0 ≤ q ∧ q < 8) ∧ ¬ (¬ p = q ∧ (0 ≤ r ∧ r ≤ 365)) ∧ E9 = y_IAE) ∨ ((0 ≤ p ∧ p < 8) ∧ (0 ≤ q ∧ q < 8) ∧ (¬ p = q ∧ (0 ≤ r ∧ r ≤ 365)) ∧ k = 20 ∧ E9 = y_UOE)) [y_IOB, y_IAE, y_UOE] (fun D0 b D3 => b = (M_told D0 k p q r).1 ∧ D3 = (M_told D0 k p q r).2) (fun v b => v = b) := by
  have hq : p ≤ 7 ↔ p < 8 := v_8
  have hq2 : q ≤ 7 ↔ q < 8 := v_8
  have hqk : q_n (D 170).1 8 = k := (q_mk (B := 20) hk hk8 (by omega)).2
  refine ⟨fun v D1 x hP b D3 hR => ?_, fun i E9 n2 hi hX hn b D3 hR => ?_⟩
  · obtain ⟨hc, hkm, rfl, hD1⟩ := hP
    obtain ⟨rfl, rfl⟩ := hR
    obtain ⟨D0, hD0⟩ : ∃ z, z = y_sl D1 189 0 x := ⟨_, rfl⟩
    rw [← hD0]
    have hne : ∀ j, j ≠ 88 → j ≠ 89 → j ≠ 189 → D0 j = D j := by
      intro j j1 j2 j3
      rw [hD0, y_sl_n j3, hD1, y_Tadd_n j1 j2]
    have hM : M_told D0 k p q r = (nI k, y_si (y_si (y_si (y_si (y_si D0 169 0 0) 170 (153 + 3 * k) p) 170 (153 + 3 * k + 1) q) 170 (153 + 3 * k + 2) r) 170 8 (nI (k + 1))) := by
      unfold M_told
      rw [if_neg (by grind), if_neg (by grind), if_neg (by omega)]
    rw [hM]
    obtain ⟨T, hT⟩ : ∃ z, z = y_si (y_si (y_si (y_si (y_si D0 169 0 0) 170 (153 + 3 * k) p) 170 (153 + 3 * k + 1) q) 170 (153 + 3 * k + 2) r) 170 8 (nI (k + 1)) := ⟨_, rfl⟩
    have t169 : (T 169).1 = upd (D0 169).1 0 0 := by rw [hT]; rfl
    have t189 : T 189 = D0 189 := by rw [hT]; rfl
    have t170 : (T 170).1 = upd (upd (upd (upd ((D0 170).1) (153 + 3 * k) p) (153 + 3 * k + 1) q) (153 + 3 * k + 2) r) 8 (nI (k + 1)) := by rw [hT]; rfl
    have tne : ∀ j, j ≠ 169 → j ≠ 170 → T j = D0 j := by
      intro j j1 j2
      rw [hT, y_si_n j2, y_si_n j2, y_si_n j2, y_si_n j2, y_si_n j1]
    rw [← hT]
    rw [hne 170 (by decide) (by decide) (by decide)] at t170
    rw [hne 169 (by decide) (by decide) (by decide)] at t169
    have dne : ∀ j, y_dh j → j ≠ 88 ∧ j ≠ 89 ∧ j ≠ 189 ∧ j ≠ 162 ∧ j ≠ 169 ∧ j ≠ 170 := fun j hj => by unfold y_dh at hj; omega
    have tt : ∀ j, j ≠ 169 → j ≠ 170 → j ≠ 88 → j ≠ 89 → j ≠ 189 → T j = D j := fun j j1 j2 j3 j4 j5 => (tne j j1 j2).trans (hne j j3 j4 j5)
    have th : T 88 = y_Tadd D 88 89 60 k 3 p q r 0 0 88 := by rw [tne 88 (by decide) (by decide), hD0, y_sl_n (by decide), hD1]
    have th2 : T 89 = y_Tadd D 88 89 60 k 3 p q r 0 0 89 := by rw [tne 89 (by decide) (by decide), hD0, y_sl_n (by decide), hD1]
    have hga := g_Tadd (D := D) (tb := 88) (len := 60) (k := k) (wd := 3) (a := p) (b := q) (c := r) (d := 0) (e := 0) (by omega) (by decide)
    have hRf : (g_r8) (y_5 p q r 0 0) := ⟨v_in_of (lo := 0) (hi := 7) hc.1.1 (v_8.mpr hc.1.2) (by decide) (by decide), v_in_of (lo := 0) (hi := 7) hc.2.1.1 (v_8.mpr hc.2.1.2) (by decide) (by decide), v_in_of (lo := 0) (hi := 365) hc.2.2.2.1 hc.2.2.2.2 (by decide) (by decide)⟩
    have hB : g_B T L (T 170).1 := by
      refine g_ad_88 (D := D) (W := (D 170).1) (k := k) (f := y_5 p q r 0 0) ⟨fun j j1 j2 j3 => ?_, by rw [th]; exact hga.1, by rw [th]; exact hga.2.1, fun j hj => by rw [th2]; exact hga.2.2.1 j hj, fun c hc => by rw [th2]; exact hga.2.2.2 c hc, by rw [t170, y_upds], fun j j1 j2 => by rw [t170, y_updn (by omega), y_updn (by omega), y_updn (by omega), y_updn (by omega)], fun c hc => ?_⟩ G.2.1 hqk hkm hRf
      · rcases j3 with j3 | hj
        · exact tt j (by omega) (by omega) j1 j2 (by omega)
        · exact tt j (dne j hj).2.2.2.2.1 (dne j hj).2.2.2.2.2 j1 j2 (dne j hj).2.2.1
      · rw [t170]
        rcases (by omega : c = 0 ∨ c = 1 ∨ c = 2) with rfl | rfl | rfl
        · rw [y_updn (by omega), y_updn (by omega), y_updn (by omega)]
          exact y_upds
        · rw [y_updn (by omega), y_updn (by omega)]
          exact y_upds
        · rw [y_updn (by omega)]
          exact y_upds
    have t73 := tt 73 (by decide) (by decide) (by decide) (by decide) (by decide)
    have t76 := tt 76 (by decide) (by decide) (by decide) (by decide) (by decide)
    have t77 := tt 77 (by decide) (by decide) (by decide) (by decide) (by decide)
    have hC : k_CI T := k_CI_fr (e := 0) (by decide) (g_k_B G.2.1) (tt 162 (by decide) (by decide) (by decide) (by decide) (by decide)) (tt 74 (by decide) (by decide) (by decide) (by decide) (by decide)) (tt 75 (by decide) (by decide) (by decide) (by decide) (by decide)) (fun _ _ => by rw [t76]) (fun _ _ => by rw [t77]) (fun j _ hj => tt j (dne j hj).2.2.2.2.1 (dne j hj).2.2.2.2.2 (dne j hj).1 (dne j hj).2.1 (dne j hj).2.2.1) (by rw [t73, Nat.add_zero]) (by rw [t73]; exact Nat.le_refl _) G.2.2.1
    refine ⟨rfl, by rw [t169, y_upds], g_G_put G (Nat.le_refl _) hB hC (fun j hj => ?_) (fun k9 hk9 => by rw [t169, y_updn (by omega)]), t189⟩
    rcases hj with hj | hj | hj | hj | hj | hj | hj
    · exact tt j (by omega) (by omega) (by omega) (by omega) (by omega)
    · exact tt j (by omega) (by omega) (by omega) (by omega) (by omega)
    · exact tt j (by omega) (by omega) (by omega) (by omega) (by omega)
    · exact tt j (by omega) (by omega) (by omega) (by omega) (by omega)
    · exact tt j (by omega) (by omega) (by omega) (by omega) (by omega)
    · exact tt j (by omega) (by omega) (by omega) (by omega) (by omega)
    · exact tt j (dne j hj).2.2.2.2.1 (dne j hj).2.2.2.2.2 (dne j hj).1 (dne j hj).2.1 (dne j hj).2.2.1
  · obtain ⟨rfl, rfl⟩ := hR
    rcases i with _ | _ | _ | i
    · have he : y_IOB = E9 := Option.some.inj hi
      rcases hX with hX | hX | hX | hX
      · have hM : M_told D k p q r = (0, y_si (y_si D 169 0 0) 169 0 (nI (0 + 1))) := by
          unfold M_told
          rw [if_pos (by grind)]
          rfl
        rw [hM]
        exact g_G_th G hn
      · have hM : M_told D k p q r = (0, y_si (y_si D 169 0 0) 169 0 (nI (0 + 1))) := by
          unfold M_told
          rw [if_pos (by grind)]
          rfl
        rw [hM]
        exact g_G_th G hn
      · exact absurd (he.trans (by grind)) (show ¬ y_IOB = y_IAE by decide)
      · exact absurd (he.trans (by grind)) (show ¬ y_IOB = y_UOE by decide)
    · have he : y_IAE = E9 := Option.some.inj hi
      rcases hX with hX | hX | hX | hX
      · exact absurd (he.trans (by grind)) (show ¬ y_IAE = y_IOB by decide)
      · exact absurd (he.trans (by grind)) (show ¬ y_IAE = y_IOB by decide)
      · have hM : M_told D k p q r = (0, y_si (y_si D 169 0 0) 169 0 (nI (1 + 1))) := by
          unfold M_told
          rw [if_neg (by grind), if_pos (by grind)]
          rfl
        rw [hM]
        exact g_G_th G hn
      · exact absurd (he.trans (by grind)) (show ¬ y_IAE = y_UOE by decide)
    · have he : y_UOE = E9 := Option.some.inj hi
      rcases hX with hX | hX | hX | hX
      · exact absurd (he.trans (by grind)) (show ¬ y_UOE = y_IOB by decide)
      · exact absurd (he.trans (by grind)) (show ¬ y_UOE = y_IOB by decide)
      · exact absurd (he.trans (by grind)) (show ¬ y_UOE = y_IAE by decide)
      · have hM : M_told D k p q r = (0, y_si (y_si D 169 0 0) 169 0 (nI (2 + 1))) := by
          unfold M_told
          rw [if_neg (by grind), if_neg (by grind), if_pos (by grind)]
          rfl
        rw [hM]
        exact g_G_th G hn
    · exact absurd hi (by simp)
theorem z_knot (G : g_G n L D) {p q r s : Int32} {k : Nat} (hk : (D 170).1 9 = nI k) (hk8 : k ≤ 6) : z_Q n L D (fun v D2 => (((1 ≤ p ∧ p ≤ 99) ∧ (1 ≤ q ∧ q ≤ 99)) ∧ ((0 ≤ r ∧ r ≤ 50) ∧ (0 ≤ s ∧ s ≤ 50))) ∧ k < 6 ∧ v = nI k ∧ D2 = y_Tadd D 90 91 24 k 4 p q r s 0) (fun E9 => (¬ ((1 ≤ p ∧ p ≤ 99) ∧ (1 ≤ q ∧ q ≤ 99)) ∧ E9 = y_IAE) ∨ (((1 ≤ p ∧ p ≤ 99) ∧ (1 ≤ q ∧ q ≤ 99)) ∧ ¬ ((0 ≤ r ∧ r ≤ 50) ∧ (0 ≤ s ∧ s ≤ 50)) ∧ E9 = y_IAE) ∨ (((1 ≤ p ∧ p ≤ 99) ∧ (1 ≤ q ∧ q ≤ 99)) ∧ ((0 ≤ r ∧ r ≤ 50) ∧ (0 ≤ s ∧ s ≤ 50)) ∧ k = 6 ∧ E9 = y_UOE)) [y_IAE, y_UOE] (fun D0 b D3 => b = (M_knot D0 k p q r s).1 ∧ D3 = (M_knot D0 k p q r s).2) (fun v b => v = b) := by
  have hqk : q_n (D 170).1 9 = k := (q_mk (B := 6) hk hk8 (by omega)).2
  refine ⟨fun v D1 x hP b D3 hR => ?_, fun i E9 n2 hi hX hn b D3 hR => ?_⟩
  · obtain ⟨hc, hkm, rfl, hD1⟩ := hP
    obtain ⟨rfl, rfl⟩ := hR
    obtain ⟨D0, hD0⟩ : ∃ z, z = y_sl D1 189 0 x := ⟨_, rfl⟩
    rw [← hD0]
    have hne : ∀ j, j ≠ 90 → j ≠ 91 → j ≠ 189 → D0 j = D j := by
      intro j j1 j2 j3
      rw [hD0, y_sl_n j3, hD1, y_Tadd_n j1 j2]
    have hM : M_knot D0 k p q r s = (nI k, y_si (y_si (y_si (y_si (y_si (y_si D0 169 0 0) 170 (213 + 4 * k) p) 170 (213 + 4 * k + 1) q) 170 (213 + 4 * k + 2) r) 170 (213 + 4 * k + 3) s) 170 9 (nI (k + 1))) := by
      unfold M_knot
      rw [if_neg (by grind), if_neg (by omega)]
    rw [hM]
    obtain ⟨T, hT⟩ : ∃ z, z = y_si (y_si (y_si (y_si (y_si (y_si D0 169 0 0) 170 (213 + 4 * k) p) 170 (213 + 4 * k + 1) q) 170 (213 + 4 * k + 2) r) 170 (213 + 4 * k + 3) s) 170 9 (nI (k + 1)) := ⟨_, rfl⟩
    have t169 : (T 169).1 = upd (D0 169).1 0 0 := by rw [hT]; rfl
    have t189 : T 189 = D0 189 := by rw [hT]; rfl
    have t170 : (T 170).1 = upd (upd (upd (upd (upd ((D0 170).1) (213 + 4 * k) p) (213 + 4 * k + 1) q) (213 + 4 * k + 2) r) (213 + 4 * k + 3) s) 9 (nI (k + 1)) := by rw [hT]; rfl
    have tne : ∀ j, j ≠ 169 → j ≠ 170 → T j = D0 j := by
      intro j j1 j2
      rw [hT, y_si_n j2, y_si_n j2, y_si_n j2, y_si_n j2, y_si_n j2, y_si_n j1]
    rw [← hT]
    rw [hne 170 (by decide) (by decide) (by decide)] at t170
    rw [hne 169 (by decide) (by decide) (by decide)] at t169
    have dne : ∀ j, y_dh j → j ≠ 90 ∧ j ≠ 91 ∧ j ≠ 189 ∧ j ≠ 162 ∧ j ≠ 169 ∧ j ≠ 170 := fun j hj => by unfold y_dh at hj; omega
    have tt : ∀ j, j ≠ 169 → j ≠ 170 → j ≠ 90 → j ≠ 91 → j ≠ 189 → T j = D j := fun j j1 j2 j3 j4 j5 => (tne j j1 j2).trans (hne j j3 j4 j5)
    have th : T 90 = y_Tadd D 90 91 24 k 4 p q r s 0 90 := by rw [tne 90 (by decide) (by decide), hD0, y_sl_n (by decide), hD1]
    have th2 : T 91 = y_Tadd D 90 91 24 k 4 p q r s 0 91 := by rw [tne 91 (by decide) (by decide), hD0, y_sl_n (by decide), hD1]
    have hga := g_Tadd (D := D) (tb := 90) (len := 24) (k := k) (wd := 4) (a := p) (b := q) (c := r) (d := s) (e := 0) (by omega) (by decide)
    have hRf : (g_r9) (y_5 p q r s 0) := ⟨v_in_of (lo := 1) (hi := 99) hc.1.1.1 hc.1.1.2 (by decide) (by decide), v_in_of (lo := 1) (hi := 99) hc.1.2.1 hc.1.2.2 (by decide) (by decide), v_in_of (lo := 0) (hi := 50) hc.2.1.1 hc.2.1.2 (by decide) (by decide), v_in_of (lo := 0) (hi := 50) hc.2.2.1 hc.2.2.2 (by decide) (by decide)⟩
    have hB : g_B T L (T 170).1 := by
      refine g_ad_90 (D := D) (W := (D 170).1) (k := k) (f := y_5 p q r s 0) ⟨fun j j1 j2 j3 => ?_, by rw [th]; exact hga.1, by rw [th]; exact hga.2.1, fun j hj => by rw [th2]; exact hga.2.2.1 j hj, fun c hc => by rw [th2]; exact hga.2.2.2 c hc, by rw [t170, y_upds], fun j j1 j2 => by rw [t170, y_updn (by omega), y_updn (by omega), y_updn (by omega), y_updn (by omega), y_updn (by omega)], fun c hc => ?_⟩ G.2.1 hqk hkm hRf
      · rcases j3 with j3 | hj
        · exact tt j (by omega) (by omega) j1 j2 (by omega)
        · exact tt j (dne j hj).2.2.2.2.1 (dne j hj).2.2.2.2.2 j1 j2 (dne j hj).2.2.1
      · rw [t170]
        rcases (by omega : c = 0 ∨ c = 1 ∨ c = 2 ∨ c = 3) with rfl | rfl | rfl | rfl
        · rw [y_updn (by omega), y_updn (by omega), y_updn (by omega), y_updn (by omega)]
          exact y_upds
        · rw [y_updn (by omega), y_updn (by omega), y_updn (by omega)]
          exact y_upds
        · rw [y_updn (by omega), y_updn (by omega)]
          exact y_upds
        · rw [y_updn (by omega)]
          exact y_upds
    have t73 := tt 73 (by decide) (by decide) (by decide) (by decide) (by decide)
    have t76 := tt 76 (by decide) (by decide) (by decide) (by decide) (by decide)
    have t77 := tt 77 (by decide) (by decide) (by decide) (by decide) (by decide)
    have hC : k_CI T := k_CI_fr (e := 0) (by decide) (g_k_B G.2.1) (tt 162 (by decide) (by decide) (by decide) (by decide) (by decide)) (tt 74 (by decide) (by decide) (by decide) (by decide) (by decide)) (tt 75 (by decide) (by decide) (by decide) (by decide) (by decide)) (fun _ _ => by rw [t76]) (fun _ _ => by rw [t77]) (fun j _ hj => tt j (dne j hj).2.2.2.2.1 (dne j hj).2.2.2.2.2 (dne j hj).1 (dne j hj).2.1 (dne j hj).2.2.1) (by rw [t73, Nat.add_zero]) (by rw [t73]; exact Nat.le_refl _) G.2.2.1
    refine ⟨rfl, by rw [t169, y_upds], g_G_put G (Nat.le_refl _) hB hC (fun j hj => ?_) (fun k9 hk9 => by rw [t169, y_updn (by omega)]), t189⟩
    rcases hj with hj | hj | hj | hj | hj | hj | hj
    · exact tt j (by omega) (by omega) (by omega) (by omega) (by omega)
    · exact tt j (by omega) (by omega) (by omega) (by omega) (by omega)
    · exact tt j (by omega) (by omega) (by omega) (by omega) (by omega)
    · exact tt j (by omega) (by omega) (by omega) (by omega) (by omega)
    · exact tt j (by omega) (by omega) (by omega) (by omega) (by omega)
    · exact tt j (by omega) (by omega) (by omega) (by omega) (by omega)
    · exact tt j (dne j hj).2.2.2.2.1 (dne j hj).2.2.2.2.2 (dne j hj).1 (dne j hj).2.1 (dne j hj).2.2.1
  · obtain ⟨rfl, rfl⟩ := hR
    rcases i with _ | _ | i
    · have he : y_IAE = E9 := Option.some.inj hi
      rcases hX with hX | hX | hX
      · have hM : M_knot D k p q r s = (0, y_si (y_si D 169 0 0) 169 0 (nI (0 + 1))) := by
          unfold M_knot
          rw [if_pos (by grind)]
          rfl
        rw [hM]
        exact g_G_th G hn
      · have hM : M_knot D k p q r s = (0, y_si (y_si D 169 0 0) 169 0 (nI (0 + 1))) := by
          unfold M_knot
          rw [if_pos (by grind)]
          rfl
        rw [hM]
        exact g_G_th G hn
      · exact absurd (he.trans (by grind)) (show ¬ y_IAE = y_UOE by decide)
    · have he : y_UOE = E9 := Option.some.inj hi
      rcases hX with hX | hX | hX
      · exact absurd (he.trans (by grind)) (show ¬ y_UOE = y_IAE by decide)
      · exact absurd (he.trans (by grind)) (show ¬ y_UOE = y_IAE by decide)
      · have hM : M_knot D k p q r s = (0, y_si (y_si D 169 0 0) 169 0 (nI (1 + 1))) := by
          unfold M_knot
          rw [if_neg (by grind), if_pos (by grind)]
          rfl
        rw [hM]
        exact g_G_th G hn
    · exact absurd hi (by simp)
theorem z_night (G : g_G n L D) {p q r s t : Int32} {k kt kp : Nat} (hk : (D 170).1 7 = nI k) (hk8 : k ≤ 12) : z_Q n L D (fun v D2 => ((0 ≤ p ∧ p < (D 73).1 2) ∧ ((q &&& ((nI (2 ^ 8) - 1) ^^^ (-1)) = 0) ∧ (r &&& ((nI (2 ^ kt) - 1) ^^^ (-1)) = 0)) ∧ ((s &&& ((nI (2 ^ kp) - 1) ^^^ (-1)) = 0) ∧ t &&& (s ^^^ (-1)) = 0)) ∧ k < 12 ∧ v = nI k ∧ D2 = y_Tadd D 86 87 60 k 5 p q r s t) (fun E9 => (¬ (0 ≤ p ∧ p < (D 73).1 2) ∧ E9 = y_IOB) ∨ ((0 ≤ p ∧ p < (D 73).1 2) ∧ ¬ ((q &&& ((nI (2 ^ 8) - 1) ^^^ (-1)) = 0) ∧ (r &&& ((nI (2 ^ kt) - 1) ^^^ (-1)) = 0)) ∧ E9 = y_IAE) ∨ ((0 ≤ p ∧ p < (D 73).1 2) ∧ ((q &&& ((nI (2 ^ 8) - 1) ^^^ (-1)) = 0) ∧ (r &&& ((nI (2 ^ kt) - 1) ^^^ (-1)) = 0)) ∧ ¬ ((s &&& ((nI (2 ^ kp) - 1) ^^^ (-1)) = 0) ∧ t &&& (s ^^^ (-1)) = 0) ∧ E9 = y_IAE) ∨ ((0 ≤ p ∧ p < (D 73).1 2) ∧ ((q &&& ((nI (2 ^ 8) - 1) ^^^ (-1)) = 0) ∧ (r &&& ((nI (2 ^ kt) - 1) ^^^ (-1)) = 0)) ∧ ((s &&& ((nI (2 ^ kp) - 1) ^^^ (-1)) = 0) ∧ t &&& (s ^^^ (-1)) = 0) ∧ k = 12 ∧ E9 = y_UOE)) [y_IOB, y_IAE, y_UOE] (fun D0 b D3 => b = (M_night D0 k kt kp p q r s t).1 ∧ D3 = (M_night D0 k kt kp p q r s t).2) (fun v b => v = b) := by
  obtain ⟨m9, hm9, e9⟩ : ∃ m9, m9 ≤ 4 ∧ (D 170).1 1 = nI m9 := ⟨_, G.2.1.2.1.2.1.2, G.2.1.2.1.2.1.1⟩
  have e3 : (D 73).1 2 = nI m9 := G.2.1.2.1.1.trans e9
  have n1 : q_n (D 170).1 1 = m9 := (q_mk (B := 4) e9 hm9 (by omega)).2
  have hq : p ≤ (D 170).1 1 - 1 ↔ p < (D 73).1 2 := by
    rw [e9, e3]
    exact v_lt1 (by omega)
  have hqk : q_n (D 170).1 7 = k := (q_mk (B := 12) hk hk8 (by omega)).2
  refine ⟨fun v D1 x hP b D3 hR => ?_, fun i E9 n2 hi hX hn b D3 hR => ?_⟩
  · obtain ⟨hc, hkm, rfl, hD1⟩ := hP
    obtain ⟨rfl, rfl⟩ := hR
    obtain ⟨D0, hD0⟩ : ∃ z, z = y_sl D1 189 0 x := ⟨_, rfl⟩
    rw [← hD0]
    have hne : ∀ j, j ≠ 86 → j ≠ 87 → j ≠ 189 → D0 j = D j := by
      intro j j1 j2 j3
      rw [hD0, y_sl_n j3, hD1, y_Tadd_n j1 j2]
    have hM : M_night D0 k kt kp p q r s t = (nI k, y_si (y_si (y_si (y_si (y_si (y_si (y_si D0 169 0 0) 170 (93 + 5 * k) p) 170 (93 + 5 * k + 1) q) 170 (93 + 5 * k + 2) r) 170 (93 + 5 * k + 3) s) 170 (93 + 5 * k + 4) t) 170 7 (nI (k + 1))) := by
      unfold M_night
      rw [hne 170 (by decide) (by decide) (by decide)]
      rw [if_neg (by grind), if_neg (by grind), if_neg (by omega)]
    rw [hM]
    obtain ⟨T, hT⟩ : ∃ z, z = y_si (y_si (y_si (y_si (y_si (y_si (y_si D0 169 0 0) 170 (93 + 5 * k) p) 170 (93 + 5 * k + 1) q) 170 (93 + 5 * k + 2) r) 170 (93 + 5 * k + 3) s) 170 (93 + 5 * k + 4) t) 170 7 (nI (k + 1)) := ⟨_, rfl⟩
    have t169 : (T 169).1 = upd (D0 169).1 0 0 := by rw [hT]; rfl
    have t189 : T 189 = D0 189 := by rw [hT]; rfl
    have t170 : (T 170).1 = upd (upd (upd (upd (upd (upd ((D0 170).1) (93 + 5 * k) p) (93 + 5 * k + 1) q) (93 + 5 * k + 2) r) (93 + 5 * k + 3) s) (93 + 5 * k + 4) t) 7 (nI (k + 1)) := by rw [hT]; rfl
    have tne : ∀ j, j ≠ 169 → j ≠ 170 → T j = D0 j := by
      intro j j1 j2
      rw [hT, y_si_n j2, y_si_n j2, y_si_n j2, y_si_n j2, y_si_n j2, y_si_n j2, y_si_n j1]
    rw [← hT]
    rw [hne 170 (by decide) (by decide) (by decide)] at t170
    rw [hne 169 (by decide) (by decide) (by decide)] at t169
    have dne : ∀ j, y_dh j → j ≠ 86 ∧ j ≠ 87 ∧ j ≠ 189 ∧ j ≠ 162 ∧ j ≠ 169 ∧ j ≠ 170 := fun j hj => by unfold y_dh at hj; omega
    have tt : ∀ j, j ≠ 169 → j ≠ 170 → j ≠ 86 → j ≠ 87 → j ≠ 189 → T j = D j := fun j j1 j2 j3 j4 j5 => (tne j j1 j2).trans (hne j j3 j4 j5)
    have th : T 86 = y_Tadd D 86 87 60 k 5 p q r s t 86 := by rw [tne 86 (by decide) (by decide), hD0, y_sl_n (by decide), hD1]
    have th2 : T 87 = y_Tadd D 86 87 60 k 5 p q r s t 87 := by rw [tne 87 (by decide) (by decide), hD0, y_sl_n (by decide), hD1]
    have hga := g_Tadd (D := D) (tb := 86) (len := 60) (k := k) (wd := 5) (a := p) (b := q) (c := r) (d := s) (e := t) (by omega) (by decide)
    have hw1 : q_n (T 170).1 1 = m9 := by
      rw [← n1]
      unfold q_n
      rw [t170, y_updn (by omega), y_updn (by omega), y_updn (by omega), y_updn (by omega), y_updn (by omega), y_updn (by omega)]
    have hRf : (g_r7 (q_n (T 170).1 1)) (y_5 p q r s t) := (by
      obtain ⟨t9, t1, t2⟩ := v_in_lt hc.1.1 (by rw [← e3]; exact hc.1.2) (by omega)
      exact ⟨t9, t1, by omega, by rw [hw1]; exact t2⟩)
    have hB : g_B T L (T 170).1 := by
      refine g_ad_86 (D := D) (W := (D 170).1) (k := k) (f := y_5 p q r s t) ⟨fun j j1 j2 j3 => ?_, by rw [th]; exact hga.1, by rw [th]; exact hga.2.1, fun j hj => by rw [th2]; exact hga.2.2.1 j hj, fun c hc => by rw [th2]; exact hga.2.2.2 c hc, by rw [t170, y_upds], fun j j1 j2 => by rw [t170, y_updn (by omega), y_updn (by omega), y_updn (by omega), y_updn (by omega), y_updn (by omega), y_updn (by omega)], fun c hc => ?_⟩ G.2.1 hqk hkm hRf
      · rcases j3 with j3 | hj
        · exact tt j (by omega) (by omega) j1 j2 (by omega)
        · exact tt j (dne j hj).2.2.2.2.1 (dne j hj).2.2.2.2.2 j1 j2 (dne j hj).2.2.1
      · rw [t170]
        rcases (by omega : c = 0 ∨ c = 1 ∨ c = 2 ∨ c = 3 ∨ c = 4) with rfl | rfl | rfl | rfl | rfl
        · rw [y_updn (by omega), y_updn (by omega), y_updn (by omega), y_updn (by omega), y_updn (by omega)]
          exact y_upds
        · rw [y_updn (by omega), y_updn (by omega), y_updn (by omega), y_updn (by omega)]
          exact y_upds
        · rw [y_updn (by omega), y_updn (by omega), y_updn (by omega)]
          exact y_upds
        · rw [y_updn (by omega), y_updn (by omega)]
          exact y_upds
        · rw [y_updn (by omega)]
          exact y_upds
    have t73 := tt 73 (by decide) (by decide) (by decide) (by decide) (by decide)
    have t76 := tt 76 (by decide) (by decide) (by decide) (by decide) (by decide)
    have t77 := tt 77 (by decide) (by decide) (by decide) (by decide) (by decide)
    have hC : k_CI T := k_CI_fr (e := 0) (by decide) (g_k_B G.2.1) (tt 162 (by decide) (by decide) (by decide) (by decide) (by decide)) (tt 74 (by decide) (by decide) (by decide) (by decide) (by decide)) (tt 75 (by decide) (by decide) (by decide) (by decide) (by decide)) (fun _ _ => by rw [t76]) (fun _ _ => by rw [t77]) (fun j _ hj => tt j (dne j hj).2.2.2.2.1 (dne j hj).2.2.2.2.2 (dne j hj).1 (dne j hj).2.1 (dne j hj).2.2.1) (by rw [t73, Nat.add_zero]) (by rw [t73]; exact Nat.le_refl _) G.2.2.1
    refine ⟨rfl, by rw [t169, y_upds], g_G_put G (Nat.le_refl _) hB hC (fun j hj => ?_) (fun k9 hk9 => by rw [t169, y_updn (by omega)]), t189⟩
    rcases hj with hj | hj | hj | hj | hj | hj | hj
    · exact tt j (by omega) (by omega) (by omega) (by omega) (by omega)
    · exact tt j (by omega) (by omega) (by omega) (by omega) (by omega)
    · exact tt j (by omega) (by omega) (by omega) (by omega) (by omega)
    · exact tt j (by omega) (by omega) (by omega) (by omega) (by omega)
    · exact tt j (by omega) (by omega) (by omega) (by omega) (by omega)
    · exact tt j (by omega) (by omega) (by omega) (by omega) (by omega)
    · exact tt j (dne j hj).2.2.2.2.1 (dne j hj).2.2.2.2.2 (dne j hj).1 (dne j hj).2.1 (dne j hj).2.2.1
  · obtain ⟨rfl, rfl⟩ := hR
    rcases i with _ | _ | _ | i
    · have he : y_IOB = E9 := Option.some.inj hi
      rcases hX with hX | hX | hX | hX
      · have hM : M_night D k kt kp p q r s t = (0, y_si (y_si D 169 0 0) 169 0 (nI (0 + 1))) := by
          unfold M_night
          rw [if_pos (by grind)]
          rfl
        rw [hM]
        exact g_G_th G hn
      · exact absurd (he.trans (by grind)) (show ¬ y_IOB = y_IAE by decide)
      · exact absurd (he.trans (by grind)) (show ¬ y_IOB = y_IAE by decide)
      · exact absurd (he.trans (by grind)) (show ¬ y_IOB = y_UOE by decide)
    · have he : y_IAE = E9 := Option.some.inj hi
      rcases hX with hX | hX | hX | hX
      · exact absurd (he.trans (by grind)) (show ¬ y_IAE = y_IOB by decide)
      · have hM : M_night D k kt kp p q r s t = (0, y_si (y_si D 169 0 0) 169 0 (nI (1 + 1))) := by
          unfold M_night
          rw [if_neg (by grind), if_pos (by grind)]
          rfl
        rw [hM]
        exact g_G_th G hn
      · have hM : M_night D k kt kp p q r s t = (0, y_si (y_si D 169 0 0) 169 0 (nI (1 + 1))) := by
          unfold M_night
          rw [if_neg (by grind), if_pos (by grind)]
          rfl
        rw [hM]
        exact g_G_th G hn
      · exact absurd (he.trans (by grind)) (show ¬ y_IAE = y_UOE by decide)
    · have he : y_UOE = E9 := Option.some.inj hi
      rcases hX with hX | hX | hX | hX
      · exact absurd (he.trans (by grind)) (show ¬ y_UOE = y_IOB by decide)
      · exact absurd (he.trans (by grind)) (show ¬ y_UOE = y_IAE by decide)
      · exact absurd (he.trans (by grind)) (show ¬ y_UOE = y_IAE by decide)
      · have hM : M_night D k kt kp p q r s t = (0, y_si (y_si D 169 0 0) 169 0 (nI (2 + 1))) := by
          unfold M_night
          rw [if_neg (by grind), if_neg (by grind), if_pos (by grind)]
          rfl
        rw [hM]
        exact g_G_th G hn
    · exact absurd hi (by simp)
end P30

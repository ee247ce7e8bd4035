/-! small calls: class and reference alike -/
section P31
variable {D : y_D} {L : List Nat} {n : Nat}
theorem v_b8 : ∀ i, i < 32 → bt ((nI (2 ^ 8) - 1) ^^^ (-1)) i = decide (8 ≤ i) := by decide +kernel
theorem v_b255 : ∀ i, i < 32 → bt (nI 255) i = decide (i < 8) := by decide +kernel
theorem v_bm255 : ∀ i, i < 32 → bt (-255) i = decide (8 ≤ i ∨ i = 0) := by decide +kernel
theorem v_and0 {x m : Int32} : x &&& m = 0 ↔ ∀ i, i < 32 → bt m i = true → bt x i = false := by
  constructor
  · intro h i hi hm
    have e : bt (x &&& m) i = bt 0 i := by rw [h]
    rw [b_and, b_0, hm, Bool.and_true] at e
    exact e
  · intro h
    apply b_ext
    intro i hi
    rw [b_and, b_0]
    cases q : bt m i with
    | false => rw [Bool.and_false]
    | true => rw [h i hi q]; rfl
theorem v_dec8 : ∀ m, m < 256 → nI m &&& ((nI (2 ^ 8) - 1) ^^^ (-1)) = 0 := by decide +kernel
theorem v_of8 {p : Int32} : p &&& ((nI (2 ^ 8) - 1) ^^^ (-1)) = 0 ↔ v_in p 0 255 := by
  constructor
  · intro h
    rw [v_and0] at h
    have e : p &&& nI 255 = p := by
      apply b_ext
      intro i hi
      rw [b_and, v_b255 i hi]
      by_cases q : i < 8
      · rw [decide_eq_true q, Bool.and_true]
      · rw [h i hi (by rw [v_b8 i hi]; exact decide_eq_true (by omega))]
        rfl
    obtain ⟨a, ha⟩ := nI_surj p
    have e2 : nI a &&& nI 255 = nI (a &&& 255) := by
      apply Int32.toBitVec_inj.1
      show BitVec.ofNat 32 a &&& BitVec.ofNat 32 255 = BitVec.ofNat 32 (a &&& 255)
      apply BitVec.eq_of_getLsbD_eq
      intro i hi
      simp [hi]
    refine ⟨a &&& 255, by rw [← e2, ← ha]; exact e.symm, Nat.zero_le _, Nat.and_le_right⟩
  · rintro ⟨m, rfl, -, h2⟩
    exact v_dec8 m (by omega)
theorem v_in_iff {p : Int32} {lo hi : Nat} (hl : lo < 2 ^ 30) (hh : hi < 2 ^ 30) : v_in p lo hi ↔ nI lo ≤ p ∧ p ≤ nI hi := by
  constructor
  · rintro ⟨m, rfl, h1, h2⟩
    rw [Int32.le_iff_toInt_le, Int32.le_iff_toInt_le, nI_toInt (by omega), nI_toInt (by omega), nI_toInt (by omega)]
    omega
  · rintro ⟨h1, h2⟩
    exact v_in_of h1 h2 hh hl
theorem v_knew {p : Int32} : p &&& (-255) = 0 ↔ (p &&& ((nI (2 ^ 8) - 1) ^^^ (-1)) = 0) ∧ ¬ y_bit p 0 := by
  rw [v_and0, v_and0, y_bit_bt (by decide)]
  constructor
  · intro h
    refine ⟨fun i hi hm => h i hi ?_, ?_⟩
    · rw [v_b8 i hi] at hm
      rw [v_bm255 i hi]
      exact decide_eq_true (Or.inl (of_decide_eq_true hm))
    · rw [h 0 (by decide) (by decide)]
      decide
  · rintro ⟨h1, h2⟩ i hi hm
    rw [v_bm255 i hi] at hm
    rcases of_decide_eq_true hm with q | q
    · exact h1 i hi (by rw [v_b8 i hi]; exact decide_eq_true q)
    · rw [q]
      exact Bool.eq_false_iff.mpr h2
/-- a call of the law through a wrapper that answers nothing -/
def z_V (n : Nat) (L : List Nat) (D : y_D) (P : y_D → Prop) (X : String → Prop) (es : List String) (R : y_D → y_D → Prop) : Prop :=
  (∀ (D1 : y_D), P D1 → ∀ D3, R D1 D3 → (D3 169).1 0 = 0 ∧ g_G n L D3 ∧ D3 189 = D1 189) ∧
  ∀ (i : Nat) (E9 : String) (n2 : Nat), es[i]? = some E9 → X E9 → n ≤ n2 → ∀ D3, R D D3 → (D3 169).1 0 = nI (i + 1) ∧ g_G n2 L D3
/-- scalars of the book -/
theorem g_G_sc {c cw : Nat} {p : Int32} (G : g_G n L D) (T : y_D) (hT : T = y_si (y_si (y_si D 73 c p) 169 0 0) 170 cw p) (hc : (c = 12 ∧ cw = 11 ∧ v_in p 0 255) ∨ (c = 13 ∧ cw = 10 ∧ v_in p 0 50)) : (T 169).1 0 = 0 ∧ g_G n L T := by
  have t169 : (T 169).1 = upd (D 169).1 0 0 := by rw [hT]; rfl
  have t170 : (T 170).1 = upd (D 170).1 cw p := by rw [hT]; rfl
  have t73 : (T 73).1 = upd (D 73).1 c p := by rw [hT]; rfl
  have tt : ∀ j, j ≠ 73 → j ≠ 169 → j ≠ 170 → T j = D j := by
    intro j j1 j2 j3
    rw [hT, y_si_n j3, y_si_n j2, y_si_n j1]
  have dne : ∀ j, y_dh j → j ≠ 73 ∧ j ≠ 169 ∧ j ≠ 170 := fun j hj => by unfold y_dh at hj; omega
  have td : ∀ j, y_dh j → T j = D j := fun j hj => tt j (dne j hj).1 (dne j hj).2.1 (dne j hj).2.2
  have w : ∀ j, j ≠ cw → (T 170).1 j = (D 170).1 j := fun j hj => by rw [t170, y_updn hj]
  have u : ∀ j, j ≠ c → (T 73).1 j = (D 73).1 j := fun j hj => by rw [t73, y_updn hj]
  have t76 := tt 76 (by decide) (by decide) (by decide)
  have t77 := tt 77 (by decide) (by decide) (by decide)
  obtain ⟨b1, b2, b3, s1, s2, s3, s4⟩ := G.2.1
  obtain ⟨t0, t3, t4, t5, t6, t7, t8, t9⟩ := b1
  have f : ∀ {h9 cnt base wd mx : Nat} {R R2 : (Nat → Int32) → Prop}, 73 < h9 → h9 + 1 < 92 → cnt < 10 → 12 ≤ base → g_cg wd R R2 → g_T D (D 170).1 h9 cnt base wd mx R → g_T T (T 170).1 h9 cnt base wd mx R2 := by
    intro h9 cnt base wd mx R R2 h1 h2 h3 h4 hR b
    have e1 := tt h9 (by omega) (by omega) (by omega)
    have e2 := tt (h9 + 1) (by omega) (by omega) (by omega)
    exact g_T_fr b (by rw [e1]) (by rw [e1]) (fun j _ => by rw [e2]) (w cnt (by omega)) (fun j _ => w _ (by omega)) hR
  have n3 : q_n (D 170).1 3 ≤ q_n (T 170).1 3 := by unfold q_n; rw [w 3 (by omega)]; exact Nat.le_refl _
  have n1 : q_n (D 170).1 1 ≤ q_n (T 170).1 1 := by unfold q_n; rw [w 1 (by omega)]; exact Nat.le_refl _
  have hB : g_B T L (T 170).1 := by
    refine ⟨⟨f (by decide) (by decide) (by decide) (by decide) g_cg0 t0, f (by decide) (by decide) (by decide) (by decide) g_cg3 t3, f (by decide) (by decide) (by decide) (by decide) (g_cg4 n3) t4, f (by decide) (by decide) (by decide) (by decide) g_cg5 t5, f (by decide) (by decide) (by decide) (by decide) g_cg6 t6, f (by decide) (by decide) (by decide) (by decide) (g_cg7 n1) t7, f (by decide) (by decide) (by decide) (by decide) g_cg8 t8, f (by decide) (by decide) (by decide) (by decide) g_cg9 t9⟩, g_RU_fr b2 (u 2 (by omega)) (fun _ _ => by rw [t76]) (fun j _ hj => td j hj) (fun _ q => q) (w 1 (by omega)) (fun j j1 j2 => w j (by omega)), g_WA_fr b3 (u 4 (by omega)) (fun _ _ => by rw [t77]) (fun j _ hj => td j hj) (fun _ q => q) (w 2 (by omega)) (fun j j1 j2 => w j (by omega)), ?_⟩
    rcases hc with ⟨rfl, rfl, hv⟩ | ⟨rfl, rfl, hv⟩
    · refine ⟨by rw [t73, t170, y_upds, y_upds], (v_in_ok (lo := 0) (by rw [t170, y_upds]; exact hv) (by decide)).1, by rw [u 13 (by decide), w 10 (by decide)]; exact s3, (q_ok_e (w 10 (by decide)) s4).1⟩
    · refine ⟨by rw [u 12 (by decide), w 11 (by decide)]; exact s1, (q_ok_e (w 11 (by decide)) s2).1, by rw [t73, t170, y_upds, y_upds], (v_in_ok (lo := 0) (by rw [t170, y_upds]; exact hv) (by decide)).1⟩
  have k2 : q_n (T 73).1 2 = q_n (D 73).1 2 := by unfold q_n; rw [u 2 (by omega)]
  have k4 : q_n (T 73).1 4 = q_n (D 73).1 4 := by unfold q_n; rw [u 4 (by omega)]
  have hC : k_CI T := k_CI_fr (e := 0) (by decide) (g_k_B G.2.1) (tt 162 (by decide) (by decide) (by decide)) (tt 74 (by decide) (by decide) (by decide)) (tt 75 (by decide) (by decide) (by decide)) (fun _ _ => by rw [t76]) (fun _ _ => by rw [t77]) (fun j _ hj => td j hj) (by rw [k4, Nat.add_zero]) (by rw [k2]; exact Nat.le_refl _) G.2.2.1
  refine ⟨by rw [t169, y_upds], g_G_put G (Nat.le_refl _) hB hC (fun j hj => ?_) (fun k9 hk9 => by rw [t169, y_updn (by omega)])⟩
  rcases hj with hj | hj | hj | hj | hj | hj | hj
  · exact tt j (by omega) (by omega) (by omega)
  · exact tt j (by omega) (by omega) (by omega)
  · exact tt j (by omega) (by omega) (by omega)
  · exact tt j (by omega) (by omega) (by omega)
  · exact tt j (by omega) (by omega) (by omega)
  · exact tt j (by omega) (by omega) (by omega)
  · exact td j hj
theorem z_knew (G : g_G n L D) {p : Int32} : z_V n L D (fun D2 => ((p &&& ((nI (2 ^ 8) - 1) ^^^ (-1)) = 0) ∧ ¬ y_bit p 0) ∧ D2 = y_si D 73 12 p) (fun E9 => ¬ ((p &&& ((nI (2 ^ 8) - 1) ^^^ (-1)) = 0) ∧ ¬ y_bit p 0) ∧ E9 = y_IAE) [y_IAE] (fun D0 D3 => D3 = M_knew D0 p) := by
  refine ⟨fun D1 hP D3 hR => ?_, fun i E9 n2 hi hX hn D3 hR => ?_⟩
  · obtain ⟨hc, rfl⟩ := hP
    unfold M_knew at hR
    rw [if_neg (fun z => z (v_knew.mpr hc))] at hR
    have := g_G_sc G D3 hR (Or.inl ⟨rfl, rfl, v_of8.mp hc.1⟩)
    exact ⟨this.1, this.2, by rw [hR]; rfl⟩
  · replace hR : D3 = M_knew D p := hR
    unfold M_knew at hR
    rw [if_pos (show ¬ p &&& (-255) = 0 from fun z => hX.1 (v_knew.mp z))] at hR
    rcases i with _ | i
    · rw [hR]
      exact g_G_th G hn
    · exact absurd hi (by simp)
theorem z_rope (G : g_G n L D) {p : Int32} : z_V n L D (fun D2 => (0 ≤ p ∧ p ≤ 50) ∧ D2 = y_si D 73 13 p) (fun E9 => ¬ (0 ≤ p ∧ p ≤ 50) ∧ E9 = y_IAE) [y_IAE] (fun D0 D3 => D3 = M_rope D0 p) := by
  refine ⟨fun D1 hP D3 hR => ?_, fun i E9 n2 hi hX hn D3 hR => ?_⟩
  · obtain ⟨hc, rfl⟩ := hP
    unfold M_rope at hR
    rw [if_neg (fun z => z hc)] at hR
    have := g_G_sc G D3 hR (Or.inr ⟨rfl, rfl, v_in_of (lo := 0) (hi := 50) hc.1 hc.2 (by decide) (by decide)⟩)
    exact ⟨this.1, this.2, by rw [hR]; rfl⟩
  · replace hR : D3 = M_rope D p := hR
    unfold M_rope at hR
    rw [if_pos (show ¬ (0 ≤ p ∧ p ≤ 50) from hX.1)] at hR
    rcases i with _ | i
    · rw [hR]
      exact g_G_th G hn
    · exact absurd hi (by simp)
/-- nothing but what was thrown and the law's row changes -/
theorem g_G_0 (G : g_G n L D) {x : Int64} : g_G n L (y_si (y_sl D 189 0 x) 169 0 0) ∧ g_G n L (y_si D 169 0 0) := by
  have key : ∀ T : y_D, (∀ j, j ≠ 169 → j ≠ 189 → T j = D j) → (T 169).1 = upd (D 169).1 0 0 → g_G n L T := by
    intro T tt t169
    have dne : ∀ j, y_dh j → j ∈ L → T j = D j ∨ True := fun _ _ _ => Or.inr trivial
    by_cases q : ∀ j, y_dh j → j ≠ 189 ∧ j ≠ 169
    · refine g_G_fr G (Nat.le_refl _) (fun j h1 h2 => tt j (by omega) (by omega)) (fun k hk => by rw [t169, y_updn (by omega)]) ?_
      have e := fun j (h1 : j ≠ 169) (h2 : j ≠ 189) => tt j h1 h2
      exact k_CI_fr (e := 0) (by decide) (g_k_B G.2.1) (e 162 (by decide) (by decide)) (e 74 (by decide) (by decide)) (e 75 (by decide) (by decide)) (fun _ _ => by rw [e 76 (by decide) (by decide)]) (fun _ _ => by rw [e 77 (by decide) (by decide)]) (fun j _ hj => e j (q j hj).2 (q j hj).1) (by rw [e 73 (by decide) (by decide), Nat.add_zero]) (by rw [e 73 (by decide) (by decide)]; exact Nat.le_refl _) G.2.2.1
    · exact absurd (fun j hj => by unfold y_dh at hj; omega) q
  refine ⟨key _ (fun j h1 h2 => by rw [y_si_n h1, y_sl_n h2]) rfl, key _ (fun j h1 _ => by rw [y_si_n h1]) rfl⟩
theorem z_tale (G : g_G n L D) {p q r : Int32} : z_Q n L D (fun v D2 => ((0 ≤ p ∧ p ≤ 9999) ∧ (0 ≤ q ∧ q ≤ 100) ∧ (0 ≤ r ∧ r ≤ 20)) ∧ v = (y_tale q.toInt64 r.toNatClampNeg p.toInt64).toInt32 ∧ D2 = D) (fun E9 => ¬ ((0 ≤ p ∧ p ≤ 9999) ∧ (0 ≤ q ∧ q ≤ 100) ∧ (0 ≤ r ∧ r ≤ 20)) ∧ E9 = y_IAE) [y_IAE] (fun D0 b D3 => b = (M_tale D0 p q r).1 ∧ D3 = (M_tale D0 p q r).2) (fun v b => v = b) := by
  refine ⟨fun v D1 x hP b D3 hR => ?_, fun i E9 n2 hi hX hn b D3 hR => ?_⟩
  · obtain ⟨hc, hv, hD⟩ := hP
    rw [hD] at hR ⊢
    obtain ⟨h1, h2⟩ := hR
    have hM : M_tale (y_sl D 189 0 x) p q r = ((y_tale q.toInt64 r.toNatClampNeg p.toInt64).toInt32, y_si (y_sl D 189 0 x) 169 0 0) := by
      unfold M_tale
      rw [if_neg (show ¬ ¬ ((0 ≤ p ∧ p ≤ 9999) ∧ (0 ≤ q ∧ q ≤ 100) ∧ (0 ≤ r ∧ r ≤ 20)) from fun z => z hc)]
    rw [hM] at h1 h2
    exact ⟨hv.trans h1.symm, by rw [h2]; rfl, by rw [h2]; exact (g_G_0 G).1, by rw [h2]; rfl⟩
  · obtain ⟨h1, h2⟩ := hR
    have hM : M_tale D p q r = (0, y_si (y_si D 169 0 0) 169 0 1) := by
      unfold M_tale
      rw [if_pos (show ¬ ((0 ≤ p ∧ p ≤ 9999) ∧ (0 ≤ q ∧ q ≤ 100) ∧ (0 ≤ r ∧ r ≤ 20)) from hX.1)]
    rw [hM] at h2
    rcases i with _ | i
    · rw [h2]
      exact g_G_th G hn
    · exact absurd hi (by simp)
theorem z_cold (G : g_G n L D) {p q r : Int32} : z_Q n L D (fun v D2 => ((p &&& ((nI (2 ^ 8) - 1) ^^^ (-1)) = 0) ∧ (0 ≤ q ∧ q ≤ 99) ∧ (0 ≤ r ∧ r ≤ 7)) ∧ v = y_cold p q r 8 ∧ D2 = D) (fun E9 => ¬ ((p &&& ((nI (2 ^ 8) - 1) ^^^ (-1)) = 0) ∧ (0 ≤ q ∧ q ≤ 99) ∧ (0 ≤ r ∧ r ≤ 7)) ∧ E9 = y_IAE) [y_IAE] (fun D0 b D3 => b = (M_cold D0 p q r).1 ∧ D3 = (M_cold D0 p q r).2) (fun v b => v = b) := by
  have e8 : (p &&& ((nI (2 ^ 8) - 1) ^^^ (-1)) = 0) ↔ (0 ≤ p ∧ p ≤ 255) := v_of8.trans (v_in_iff (by decide) (by decide))
  rw [e8]
  refine ⟨fun v D1 x hP b D3 hR => ?_, fun i E9 n2 hi hX hn b D3 hR => ?_⟩
  · obtain ⟨hc, hv, hD⟩ := hP
    rw [hD] at hR ⊢
    obtain ⟨h1, h2⟩ := hR
    have hM : M_cold (y_sl D 189 0 x) p q r = (y_cold p q r 8, y_si (y_sl D 189 0 x) 169 0 0) := by
      unfold M_cold
      rw [if_neg (show ¬ ¬ ((0 ≤ p ∧ p ≤ 255) ∧ (0 ≤ q ∧ q ≤ 99) ∧ (0 ≤ r ∧ r ≤ 7)) from fun z => z hc)]
    rw [hM] at h1 h2
    exact ⟨hv.trans h1.symm, by rw [h2]; rfl, by rw [h2]; exact (g_G_0 G).1, by rw [h2]; rfl⟩
  · obtain ⟨h1, h2⟩ := hR
    have hM : M_cold D p q r = (0, y_si (y_si D 169 0 0) 169 0 1) := by
      unfold M_cold
      rw [if_pos (show ¬ ((0 ≤ p ∧ p ≤ 255) ∧ (0 ≤ q ∧ q ≤ 99) ∧ (0 ≤ r ∧ r ≤ 7)) from hX.1)]
    rw [hM] at h2
    rcases i with _ | i
    · rw [h2]
      exact g_G_th G hn
    · exact absurd hi (by simp)
theorem z_fault (G : g_G n L D) : (D 66).1 2 = (D 169).1 10 ∧ g_G n L (y_si D 169 0 0) := ⟨G.2.2.2.2.2.1, (g_G_0 (x := 0) G).2⟩
end P31

/-! the meaning of steps: tags and comparisons -/
theorem v_65 {P : Prop} [Decidable P] {f : Nat} (hf : f < 16) : y_bit (if P then 65535 else 0) f ↔ P := by
  by_cases h : P
  · rw [if_pos h]
    exact ⟨fun _ => h, fun _ => y_bit_all hf⟩
  · rw [if_neg h]
    exact ⟨fun q => absurd q (y_bit_0 (by omega)), fun q => absurd q h⟩
theorem v_t23 {DS : y_D} {n x : Nat} : K_tag DS (nI 23) n x = if (DS 153).1 x = 0 then 65535 else 0 := by
  unfold K_tag
  rw [if_neg (show ¬ nI 23 = 25 by decide), if_pos (show nI 23 = 23 by decide)]
theorem v_t25 {DS : y_D} {n x : Nat} : K_tag DS (nI 25) n x = y_swl n := by
  unfold K_tag
  rw [if_pos (show nI 25 = 25 by decide)]
theorem v_t26 {DS : y_D} {n x : Nat} : K_tag DS (nI 26) n x = if y_bit ((DS 152).1 1) n then 65535 else 0 := by
  unfold K_tag
  rw [if_neg (show ¬ nI 26 = 25 by decide), if_neg (show ¬ nI 26 = 23 by decide), if_pos (show nI 26 = 26 by decide)]
theorem v_t27 {DS : y_D} {n x : Nat} : K_tag DS (nI 27) n x = if y_bit ((DS 152).1 2) n then 65535 else 0 := by
  unfold K_tag
  rw [if_neg (show ¬ nI 27 = 25 by decide), if_neg (show ¬ nI 27 = 23 by decide), if_neg (show ¬ nI 27 = 26 by decide), if_pos (show nI 27 = 27 by decide)]
theorem v_t28 {DS : y_D} {n x : Nat} : K_tag DS (nI 28) n x = if y_bit ((DS 152).1 1) n ∧ (DS 155).1 n ≤ nI x then 65535 else 0 := by
  unfold K_tag
  rw [if_neg (show ¬ nI 28 = 25 by decide), if_neg (show ¬ nI 28 = 23 by decide), if_neg (show ¬ nI 28 = 26 by decide), if_neg (show ¬ nI 28 = 27 by decide)]
theorem v_m4 {DL : y_D} {n x f : Nat} {hl : Int32} : m_ask DL 4 n x f hl = y_b ((DL 174).1 x = 0) := rfl
theorem v_m5 {DL : y_D} {n x f : Nat} {hl : Int32} : m_ask DL 5 n x f hl = y_b (hl ≠ 0) := rfl
theorem v_m6 {DL : y_D} {n x f : Nat} {hl : Int32} : m_ask DL 6 n x f hl = y_b (y_bit (nI f) n) := rfl
theorem v_m7 {DL : y_D} {n x f : Nat} {hl : Int32} : m_ask DL 7 n x f hl = y_b (0 ≤ (DL 175).1 n) := rfl
theorem v_m8 {DL : y_D} {n x f : Nat} {hl : Int32} : m_ask DL 8 n x f hl = y_b (0 ≤ (DL 176).1 n) := rfl
theorem v_m9 {DL : y_D} {n x f : Nat} {hl : Int32} : m_ask DL 9 n x f hl = y_b (0 ≤ (DL 175).1 n ∧ m_per (DL 170).1 ((DL 175).1 n) 1 ≤ nI x) := rfl
theorem v_tagc {DS : y_D} {x t n z : Nat} {hl : Int32} {st : List Int32} (z1 : z / 1024 = t) (z2 : z % 1024 = n) (h1 : 23 ≤ t) (h2 : t ≤ 28) (h3 : t ≠ 24) : v_c DS x hl [z] (0, 0, st) = (0, 0, K_tag DS (nI t) n x :: st) := by
  rw [v_c_1]
  unfold c_1
  rw [z1, z2, if_neg (by omega), if_neg (by omega), if_neg (by omega), if_neg (by omega), if_neg (by omega), if_neg (by omega), if_neg h3, if_pos ⟨h1, h2⟩]
theorem v_tagh {DS : y_D} {x z : Nat} {hl : Int32} {st : List Int32} (z1 : z / 1024 = 24) : v_c DS x hl [z] (0, 0, st) = (0, 0, (if hl = 0 then 0 else 65535) :: st) := by
  rw [v_c_1]
  unfold c_1
  rw [z1, if_neg (by omega), if_neg (by omega), if_neg (by omega), if_neg (by omega), if_neg (by omega), if_neg (by omega), if_pos rfl]
theorem v_tage {DL : y_D} {x f r n : Nat} {hl : Int32} {l : List Int32} (hr : r ≤ 10) : v_e DL x f hl [(r, n)] l = m_ask DL r n x f hl :: l := by
  rw [v_e_1]
  unfold e_1
  exact if_pos hr
theorem v_tags {t n r z : Nat} (z1 : z / 1024 = t) (h1 : 23 ≤ t) (h2 : t ≤ 28) (hr : r ≤ 10) : (∀ h, h + 1 ≤ 24 → c_h [z] h = some (h + 1)) ∧ ∀ h, h + 1 + 2 ≤ 400 → e_h [(r, n)] h = some (h + 1) := by
  refine ⟨fun h hh => ?_, fun h hh => ?_⟩
  · rw [v_ch_1]
    unfold c_h1
    rw [z1, if_pos (by omega), if_pos (by omega)]
  · rw [v_eh_1]
    unfold e_h1
    rw [if_pos hr, if_pos (by omega)]
theorem q_tag23 {n : Nat} (hn : n < 4) : q_cf 1 [23 * 1024 + n] [(4, n)] := by
  obtain ⟨z, hz⟩ : ∃ z, z = 23 * 1024 + n := ⟨_, rfl⟩
  have z1 : z / 1024 = 23 := by omega
  have z2 : z % 1024 = n := by omega
  rw [← hz]
  refine ⟨fun DS DL x hl hE hx => ⟨_, fun st => v_tagc z1 z2 (by decide) (by decide) (by decide), fun f hf l => ?_⟩, v_tags z1 (by decide) (by decide) (by decide)⟩
  rw [v_tage (by decide), v_m4, v_t23, v_yc (v_65 hf), hE.1 x hx]
theorem q_tag24 {n : Nat} (hn : n < 4) : q_cf 1 [24 * 1024 + n] [(5, n)] := by
  obtain ⟨z, hz⟩ : ∃ z, z = 24 * 1024 + n := ⟨_, rfl⟩
  have z1 : z / 1024 = 24 := by omega
  rw [← hz]
  refine ⟨fun DS DL x hl hE hx => ⟨_, fun st => v_tagh z1, fun f hf l => ?_⟩, v_tags z1 (by decide) (by decide) (by decide)⟩
  rw [v_tage (by decide), v_m5]
  congr 1
  refine v_yc ?_
  by_cases c : hl = 0
  · rw [if_pos c]
    exact ⟨fun q => absurd c q, fun q => absurd q (y_bit_0 (by omega))⟩
  · rw [if_neg c]
    exact ⟨fun _ => y_bit_all hf, fun _ => c⟩
theorem q_tag25 {n : Nat} (hn : n < 4) : q_cf 1 [25 * 1024 + n] [(6, n)] := by
  obtain ⟨z, hz⟩ : ∃ z, z = 25 * 1024 + n := ⟨_, rfl⟩
  have z1 : z / 1024 = 25 := by omega
  have z2 : z % 1024 = n := by omega
  rw [← hz]
  refine ⟨fun DS DL x hl hE hx => ⟨_, fun st => v_tagc z1 z2 (by decide) (by decide) (by decide), fun f hf l => ?_⟩, v_tags z1 (by decide) (by decide) (by decide)⟩
  rw [v_tage (by decide), v_m6, v_t25]
  congr 1
  refine v_yc ?_
  rw [y_bit_tb (by omega), y_bit_swl n hn f (by omega)]
  exact ⟨fun q => ⟨hf, q⟩, fun q => q.2⟩
theorem q_tag26 {n : Nat} (hn : n < 4) : q_cf 1 [26 * 1024 + n] [(7, n)] := by
  obtain ⟨z, hz⟩ : ∃ z, z = 26 * 1024 + n := ⟨_, rfl⟩
  have z1 : z / 1024 = 26 := by omega
  have z2 : z % 1024 = n := by omega
  rw [← hz]
  refine ⟨fun DS DL x hl hE hx => ⟨_, fun st => v_tagc z1 z2 (by decide) (by decide) (by decide), fun f hf l => ?_⟩, v_tags z1 (by decide) (by decide) (by decide)⟩
  obtain ⟨g1, g2, g3, g4, g5, -⟩ := hE.2 n hn
  rw [v_tage (by decide), v_m7, v_t26]
  congr 1
  exact v_yc (Int32.not_lt.symm.trans (g1.symm.trans (v_65 hf).symm))
theorem q_tag27 {n : Nat} (hn : n < 4) : q_cf 1 [27 * 1024 + n] [(8, n)] := by
  obtain ⟨z, hz⟩ : ∃ z, z = 27 * 1024 + n := ⟨_, rfl⟩
  have z1 : z / 1024 = 27 := by omega
  have z2 : z % 1024 = n := by omega
  rw [← hz]
  refine ⟨fun DS DL x hl hE hx => ⟨_, fun st => v_tagc z1 z2 (by decide) (by decide) (by decide), fun f hf l => ?_⟩, v_tags z1 (by decide) (by decide) (by decide)⟩
  obtain ⟨g1, g2, g3, g4, g5, -⟩ := hE.2 n hn
  rw [v_tage (by decide), v_m8, v_t27]
  congr 1
  exact v_yc (Int32.not_lt.symm.trans (g2.symm.trans (v_65 hf).symm))
theorem q_tag28 {n : Nat} (hn : n < 4) : q_cf 1 [28 * 1024 + n] [(9, n)] := by
  obtain ⟨z, hz⟩ : ∃ z, z = 28 * 1024 + n := ⟨_, rfl⟩
  have z1 : z / 1024 = 28 := by omega
  have z2 : z % 1024 = n := by omega
  rw [← hz]
  refine ⟨fun DS DL x hl hE hx => ⟨_, fun st => v_tagc z1 z2 (by decide) (by decide) (by decide), fun f hf l => ?_⟩, v_tags z1 (by decide) (by decide) (by decide)⟩
  obtain ⟨g1, g2, g3, g4, g5, -⟩ := hE.2 n hn
  rw [v_tage (by decide), v_m9, v_t28]
  congr 1
  refine v_yc (Iff.trans ?_ (v_65 hf).symm)
  rw [g4]
  exact and_congr (Int32.not_lt.symm.trans g1.symm) Iff.rfl
theorem y_sos_b : ∀ i, i < 5 → ∀ f, f < 16 → (y_bit (y_sos i) f ↔ y_pop f = i) := by decide +kernel
theorem y_pop_4 : ∀ f, f < 16 → y_pop f < 5 := by decide +kernel
theorem y_cm_b {t s l : Int32} {f : Nat} (hf : f < 16) : ∀ n, n ≤ 5 → (y_bit (y_cm t s l n) f ↔ y_pop f < n ∧ ((t = 8 ∧ 0 < s + l * nI (y_pop f)) ∨ (t ≠ 8 ∧ s + l * nI (y_pop f) < 0)))
  | 0, _ => ⟨fun q => absurd q (y_bit_0 (by omega)), fun q => absurd q.1 (by omega)⟩
  | n + 1, hn => by
    have ih := y_cm_b (t := t) (s := s) (l := l) hf n (by omega)
    show y_bit (y_cm1 t s l n (y_cm t s l n)) f ↔ _
    unfold y_cm1
    rw [y_bit_or (by omega), ih]
    have hs := y_sos_b n (by omega) f hf
    by_cases c : (t = 8 ∧ 0 < s + l * nI n) ∨ (t ≠ 8 ∧ s + l * nI n < 0)
    · rw [if_pos c, hs]
      constructor
      · rintro (q | q)
        · exact ⟨by omega, q.2⟩
        · rw [q]
          exact ⟨by omega, c⟩
      · rintro ⟨q1, q2⟩
        by_cases z : y_pop f = n
        · exact Or.inr z
        · exact Or.inl ⟨by omega, q2⟩
    · rw [if_neg c]
      constructor
      · rintro (q | q)
        · exact ⟨by omega, q.2⟩
        · exact absurd q (y_bit_0 (by omega))
      · rintro ⟨q1, q2⟩
        by_cases z : y_pop f = n
        · rw [z] at q2
          exact absurd q2 c
        · exact Or.inl ⟨by omega, q2⟩
theorem v_mul (a b : Nat) : nI a * nI b = nI (a * b) := by
  apply Int32.toBitVec_inj.1
  show BitVec.ofNat 32 a * BitVec.ofNat 32 b = BitVec.ofNat 32 (a * b)
  exact (BitVec.ofNat_mul a b).symm
theorem v_diff {a b c d i : Nat} : 0 + nI a = nI a ∧ (-(0 + nI a) + nI c) + (-(0 + nI b) + nI d) * nI i = nI (c + d * i) - nI (a + b * i) := by
  refine ⟨by grind, ?_⟩
  rw [← v_add c, ← v_add a, ← v_mul, ← v_mul]
  grind
theorem v_sub {A B : Nat} (hA : A < 2 ^ 30) (hB : B < 2 ^ 30) : (nI B - nI A).toInt = (B : Int) - A := by
  rw [Int32.toInt_sub, nI_toInt (by omega), nI_toInt (by omega)]
  apply Int.bmod_eq_of_le <;> omega
theorem v_lt {A B : Nat} (hA : A < 2 ^ 30) (hB : B < 2 ^ 30) : nI A < nI B ↔ A < B := by
  rw [Int32.lt_iff_toInt_lt, nI_toInt (by omega), nI_toInt (by omega)]
  omega
theorem v_pos {A B : Nat} (hA : A < 2 ^ 30) (hB : B < 2 ^ 30) : (0 < nI B - nI A ↔ A < B) ∧ (nI B - nI A < 0 ↔ B < A) := by
  have h0 : (0 : Int32).toInt = 0 := by decide
  rw [Int32.lt_iff_toInt_lt, Int32.lt_iff_toInt_lt, v_sub hA hB, h0]
  omega
theorem q_cmp {N M t r : Nat} {cs cs2 : List Nat} {rs rs2 : List (Nat × Nat)} (h1 : q_sm N cs rs) (h2 : q_sm M cs2 rs2) (hN : N ≤ 400) (hM : M ≤ 400) (ht : (t = 8 ∧ r = 12) ∨ (t = 9 ∧ r = 13)) : q_cf 1 (cs ++ [3 * 1024 + 0] ++ cs2 ++ [t * 1024 + 0]) (rs ++ rs2 ++ [(r, 0)]) := by
  obtain ⟨z, hz⟩ : ∃ z, z = t * 1024 + 0 := ⟨_, rfl⟩
  have z1 : z / 1024 = t := by omega
  rw [← hz]
  refine ⟨fun DS DL x hl hE hx => ?_, fun h hh => ?_, fun h hh => ?_⟩
  · obtain ⟨a, b, a1, a2, a3, a4⟩ := h1.1 DS DL x hl hE hx
    obtain ⟨c, d, c1, c2, c3, c4⟩ := h2.1 DS DL x hl hE hx
    refine ⟨y_cm (nI t) (-(0 + nI a) + nI c) (-(0 + nI b) + nI d) 5, fun st => ?_, fun f hf l => ?_⟩
    · rw [v_c_ap, v_c_ap, v_c_ap, a3, v_c_1]
      show v_c DS x hl [z] (v_c DS x hl cs2 (-(0 + nI a), -(0 + nI b), st)) = _
      rw [c3, v_c_1]
      unfold c_1
      rw [z1, if_pos (by omega)]
    · rw [v_e_ap, v_e_ap, a4 f hf, c4 f hf, v_e_1]
      have p4 := y_pop_4 f hf
      have hbi : b * y_pop f ≤ 400 * 4 := Nat.mul_le_mul (by omega) (by omega)
      have hdi : d * y_pop f ≤ 400 * 4 := Nat.mul_le_mul (by omega) (by omega)
      have hA : a + b * y_pop f < 2 ^ 30 := by omega
      have hB : c + d * y_pop f < 2 ^ 30 := by omega
      have hp := v_pos hA hB
      have key := y_cm_b (t := nI t) (s := -(0 + nI a) + nI c) (l := -(0 + nI b) + nI d) hf 5 (Nat.le_refl _)
      rw [v_diff.2, hp.1, hp.2] at key
      rcases ht with ⟨rfl, rfl⟩ | ⟨rfl, rfl⟩
      · show y_b (nI (a + b * y_pop f) < nI (c + d * y_pop f)) :: l = _
        congr 1
        refine v_yc ?_
        rw [v_lt hA hB, key]
        exact ⟨fun q => ⟨p4, Or.inl ⟨rfl, q⟩⟩, fun q => q.2.elim (fun w => w.2) (fun w => absurd rfl w.1)⟩
      · show y_b (nI (c + d * y_pop f) < nI (a + b * y_pop f)) :: l = _
        congr 1
        refine v_yc ?_
        rw [v_lt hB hA, key]
        exact ⟨fun q => ⟨p4, Or.inr ⟨by decide, q⟩⟩, fun q => q.2.elim (fun w => absurd w.1 (by decide)) (fun w => w.2)⟩
  · have e1 : c_h (cs ++ [3 * 1024 + 0] ++ cs2 ++ [z]) h = c_h [z] h := by
      rw [List.append_assoc, List.append_assoc, v_ch_ap (h1.2.1 h), v_ch_ap (a := [3 * 1024 + 0]) (h2 := h) (by rw [v_ch_1]; rfl), v_ch_ap (h2.2.1 h)]
    rw [e1, v_ch_1]
    unfold c_h1
    rw [z1, if_pos (by omega), if_pos (by omega)]
  · rw [List.append_assoc, v_eh_ap (h1.2.2 h (by omega)), v_eh_ap (h2.2.2 (h + 1) (by omega)), v_eh_1]
    unfold e_h1
    rw [if_neg (show ¬ r ≤ 10 by omega), if_neg (show ¬ r = 14 by omega), if_pos (by omega)]
    rfl

/-! bits (the family bt of the kit's laws, pasted) -/
def bt (x : Int32) (i : Nat) : Bool := x.toBitVec.getLsbD i
theorem b_ext {x y : Int32} (h : ∀ i, i < 32 → bt x i = bt y i) : x = y := Int32.toBitVec_inj.mp (BitVec.eq_of_getLsbD_eq (fun i hi => h i hi))
theorem b_or (x y : Int32) (i : Nat) : bt (x ||| y) i = (bt x i || bt y i) := by unfold bt; rw [Int32.toBitVec_or, BitVec.getLsbD_or]
theorem b_and (x y : Int32) (i : Nat) : bt (x &&& y) i = (bt x i && bt y i) := by unfold bt; rw [Int32.toBitVec_and, BitVec.getLsbD_and]
theorem b_xor (x y : Int32) (i : Nat) : bt (x ^^^ y) i = (bt x i ^^ bt y i) := by unfold bt; rw [Int32.toBitVec_xor, BitVec.getLsbD_xor]
theorem b_big {x : Int32} {i : Nat} (h : 32 ≤ i) : bt x i = false := BitVec.getLsbD_of_ge _ _ h
theorem b_65535 (i : Nat) : bt 65535 i = decide (i < 16) := by
  rcases Nat.lt_or_ge i 32 with h | h
  · exact (by decide +kernel : ∀ i, i < 32 → bt 65535 i = decide (i < 16)) i h
  · rw [b_big h, decide_eq_false (by omega)]
theorem b_m1 : ∀ i, i < 32 → bt (-1) i = true := by decide +kernel
theorem b_0 (i : Nat) : bt 0 i = false := BitVec.getLsbD_zero
theorem s_l : ∀ n, n < 32 → ((nI n &&& 31).toBitVec.smod 32).toNat = n := by decide +kernel
theorem b_shl (n : Nat) (hn : n < 32) (x : Int32) {i : Nat} (hi : i < 32) : bt (x <<< (nI n &&& 31)) i = (decide (n ≤ i) && bt x (i - n)) := by
  unfold bt
  rw [Int32.toBitVec_shiftLeft]
  show (x.toBitVec <<< ((nI n &&& 31).toBitVec.smod 32).toNat).getLsbD i = _
  rw [s_l n hn, BitVec.getLsbD_shiftLeft]
  rcases Nat.lt_or_ge i n with h | h
  · simp [h, Nat.not_le.mpr h]
  · simp [hi, h, Nat.not_lt.mpr h]
theorem b_sshr (n : Nat) (hn : n < 32) (x : Int32) {i : Nat} (hi : i < 32) : bt (x >>> (nI n &&& 31)) i = if n + i < 32 then bt x (n + i) else bt x 31 := by
  unfold bt
  rw [Int32.toBitVec_shiftRight]
  show (x.toBitVec.sshiftRight ((nI n &&& 31).toBitVec.smod 32).toNat).getLsbD i = _
  rw [s_l n hn, BitVec.getLsbD_sshiftRight, BitVec.msb_eq_getLsbD_last]
  simp [hi]
theorem y_bit_bt {x : Int32} {c : Nat} (hc : c < 32) : y_bit x c ↔ bt x c = true := by
  have h0 : bt ((x >>> (nI c &&& 31)) &&& 1) 0 = bt x c := by
    rw [b_and, b_sshr c hc x (by decide), if_pos (by omega), show bt 1 0 = true from rfl, Bool.and_true, Nat.add_zero]
  refine ⟨fun h => ?_, fun h => ?_⟩
  · rw [← h0, show (x >>> (nI c &&& 31)) &&& 1 = 1 from h]; rfl
  · rcases y_and1 (x >>> (nI c &&& 31)) with q | q
    · rw [q, h] at h0; exact absurd h0 (by decide)
    · exact q
theorem y_bit_or {x y : Int32} {c : Nat} (hc : c < 32) : y_bit (x ||| y) c ↔ y_bit x c ∨ y_bit y c := by
  rw [y_bit_bt hc, y_bit_bt hc, y_bit_bt hc, b_or, Bool.or_eq_true]
theorem y_bit_and {x y : Int32} {c : Nat} (hc : c < 32) : y_bit (x &&& y) c ↔ y_bit x c ∧ y_bit y c := by
  rw [y_bit_bt hc, y_bit_bt hc, y_bit_bt hc, b_and, Bool.and_eq_true]
theorem y_bit_0 {c : Nat} (hc : c < 32) : ¬ y_bit 0 c := by rw [y_bit_bt hc, b_0]; decide
theorem y_bit_all {c : Nat} (hc : c < 16) : y_bit 65535 c := by rw [y_bit_bt (by omega), b_65535, decide_eq_true hc]
theorem y_bit_1 {c : Nat} (hc : c < 16) : y_bit 1 c ↔ c = 0 := by
  revert hc; revert c; decide +kernel
/-! ===== a RULE settled in the class ===== -/
def c_p (T : Nat → Int32) (i : Nat) : Nat := if T (i * 3) = 10 then 0 else if T (i * 3) = 12 then 1 else if T (i * 3) = 13 then 2 else 3
def c_a (T : Nat → Int32) (i : Nat) : Nat := (T (i * 3 + 1)).toNatClampNeg
def c_b (T : Nat → Int32) (i : Nat) : Nat := (T (i * 3 + 2)).toNatClampNeg
def c_per (D : y_D) (kp : Nat) (h : Int32) (c : Nat) : Int32 := if h < 0 then 0 else y_pg D kp h.toNatClampNeg c
/-- X is D with the first i LINES settled -/
def c_F (D X : y_D) (T : Nat → Int32) (wo : Int32) (kp i : Nat) : Prop := (∀ j, ¬ (152 ≤ j ∧ j < 157) → X j = D j) ∧ (∀ j, (X j).2 = (D j).2) ∧ (X 152).1 0 = nI (s_last (c_p T) (c_a T) wo i) ∧ (∀ s, s < 301 → (X 153).1 s = s_lit (c_p T) (c_a T) (c_b T) wo s i) ∧ (X 152).1 1 = m_bys (fun l => s_by 0 (c_p T) (c_a T) (c_b T) wo l i) 4 ∧ (X 152).1 2 = m_bys (fun l => s_by 1 (c_p T) (c_a T) (c_b T) wo l i) 4 ∧ (∀ l, l < 4 → (X 154).1 l = c_per D kp (s_by 0 (c_p T) (c_a T) (c_b T) wo l i) 0) ∧ (∀ l, l < 4 → (X 155).1 l = c_per D kp (s_by 0 (c_p T) (c_a T) (c_b T) wo l i) 1) ∧ ∀ l, l < 4 → (X 156).1 l = if s_by 1 (c_p T) (c_a T) (c_b T) wo l i < 0 then 99 else s_by 1 (c_p T) (c_a T) (c_b T) wo l i
theorem m_bys_up {F : Nat → Int32} {q : Nat} {v : Int32} (hq : q < 4) (hv : ¬ v < 0) : m_bys (fun l => if q = l then v else F l) 4 = m_bys F 4 ||| nI (2 ^ q) := by
  have e : ∀ a b c d : Int32, (a = 0 ∨ a = 1) → (b = 0 ∨ b = 2) → (c = 0 ∨ c = 4) → (d = 0 ∨ d = 8) → (0 ||| 1 ||| b ||| c ||| d = 0 ||| a ||| b ||| c ||| d ||| 1) ∧ (0 ||| a ||| 2 ||| c ||| d = 0 ||| a ||| b ||| c ||| d ||| 2) ∧ (0 ||| a ||| b ||| 4 ||| d = 0 ||| a ||| b ||| c ||| d ||| 4) ∧ (0 ||| a ||| b ||| c ||| 8 = 0 ||| a ||| b ||| c ||| d ||| 8) := by
    intro a b c d ha hb hc hd
    rcases ha with rfl | rfl <;> rcases hb with rfl | rfl <;> rcases hc with rfl | rfl <;> rcases hd with rfl | rfl <;> decide
  have z : ∀ (j : Nat) (w : Int32), w = nI (2 ^ j) → ((if F j < 0 then (0 : Int32) else nI (2 ^ j)) = 0 ∨ (if F j < 0 then (0 : Int32) else nI (2 ^ j)) = w) := by
    intro j w hw
    split
    · exact Or.inl rfl
    · exact Or.inr hw.symm
  obtain ⟨e0, e1, e2, e3⟩ := e _ _ _ _ (z 0 1 rfl) (z 1 2 rfl) (z 2 4 rfl) (z 3 8 rfl)
  rcases (show q = 0 ∨ q = 1 ∨ q = 2 ∨ q = 3 by omega) with rfl | rfl | rfl | rfl
  · simp only [m_bys, ↓reduceIte, if_neg hv, Nat.reduceEqDiff]; exact e0
  · simp only [m_bys, ↓reduceIte, if_neg hv, Nat.reduceEqDiff]; exact e1
  · simp only [m_bys, ↓reduceIte, if_neg hv, Nat.reduceEqDiff]; exact e2
  · simp only [m_bys, ↓reduceIte, if_neg hv, Nat.reduceEqDiff]; exact e3
theorem m_bys_c {F G : Nat → Int32} (h : ∀ l, l < 4 → F l = G l) : m_bys F 4 = m_bys G 4 := by
  simp only [m_bys]
  rw [h 0 (by decide), h 1 (by decide), h 2 (by decide), h 3 (by decide)]
theorem m_bys_bit {F : Nat → Int32} {l : Nat} (hl : l < 4) : y_bit (m_bys F 4) l ↔ ¬ F l < 0 := by
  have z : ∀ (j : Nat), j < 4 → (y_bit (if F j < 0 then (0 : Int32) else nI (2 ^ j)) l ↔ j = l ∧ ¬ F l < 0) := by
    intro j hj
    by_cases c : F j < 0
    · rw [if_pos c]
      refine ⟨fun q => absurd q (y_bit_0 (by omega)), fun q => ?_⟩
      rw [q.1] at c
      exact absurd c q.2
    · rw [if_neg c]
      have e : y_bit (nI (2 ^ j)) l ↔ j = l := (by decide +kernel : ∀ j, j < 4 → ∀ l, l < 4 → (y_bit (nI (2 ^ j)) l ↔ j = l)) j hj l hl
      rw [e]
      refine ⟨fun q => ⟨q, by rw [← q]; exact c⟩, fun q => q.1⟩
  have e0 : ¬ y_bit 0 l := y_bit_0 (by omega)
  simp only [m_bys]
  rw [y_bit_or (by omega), y_bit_or (by omega), y_bit_or (by omega), y_bit_or (by omega), z 0 (by decide), z 1 (by decide), z 2 (by decide), z 3 (by decide)]
  refine ⟨fun q => ?_, fun q => ?_⟩
  · rcases q with (((q | q) | q) | q) | q
    · exact absurd q e0
    · exact q.2
    · exact q.2
    · exact q.2
    · exact q.2
  · rcases (show l = 0 ∨ l = 1 ∨ l = 2 ∨ l = 3 by omega) with h | h | h | h
    · exact Or.inl (Or.inl (Or.inl (Or.inr ⟨h.symm, q⟩)))
    · exact Or.inl (Or.inl (Or.inr ⟨h.symm, q⟩))
    · exact Or.inl (Or.inr ⟨h.symm, q⟩)
    · exact Or.inr ⟨h.symm, q⟩
theorem s_by_skip {c : Nat} {p a b : Nat → Nat} {wo : Int32} {l i : Nat} (h : ¬ (nI i ≠ wo ∧ p i = c)) : s_by c p a b wo l (i + 1) = s_by c p a b wo l i := by
  rw [s_by, if_neg (fun q => h ⟨q.1, q.2.1⟩)]
theorem s_by_up {c : Nat} {p a b : Nat → Nat} {wo : Int32} {l i : Nat} (h : nI i ≠ wo) (hp : p i = c) : s_by c p a b wo l (i + 1) = if a i = l then nI (b i) else s_by c p a b wo l i := by
  rw [s_by]
  by_cases q : a i = l
  · rw [if_pos q, if_pos ⟨h, hp, q⟩]
  · rw [if_neg q, if_neg (fun z => q z.2.2)]
/-- kinds and numbers of the LINES of a RULE -/
def c_wl (T : Nat → Int32) (m : Nat) : Prop := ∀ i, i < m → T (i * 3 + 1) = nI (c_a T i) ∧ T (i * 3 + 2) = nI (c_b T i) ∧ c_a T i ≤ 999 ∧ c_b T i ≤ 999 ∧ (c_p T i ≤ 1 → c_a T i < 4) ∧ (c_p T i = 0 → c_b T i < 8) ∧ (c_p T i = 2 → c_b T i ≤ 300) ∧ (c_p T i = 3 → 1 ≤ c_a T i ∧ c_a T i ≤ 300) ∧ (T (i * 3) = 10 ∨ T (i * 3) = 12 ∨ T (i * 3) = 13 ∨ T (i * 3) = 15)
theorem c_wl_wf {T : Nat → Int32} {m : Nat} (h : c_wl T m) : y_wf T m := by
  intro i hi
  obtain ⟨h1, h2, h3, h4, h5, h6, h7, h8, h9⟩ := h i hi
  refine ⟨c_a T i, c_b T i, h1, h2, fun q => h5 ?_, fun q => ?_, by omega, by omega⟩
  · unfold c_p; grind
  · have : c_p T i = 2 := by unfold c_p; grind
    have := h7 this
    omega
theorem c_F_z {D : y_D} {T : Nat → Int32} {wo : Int32} {kp : Nat} : c_F D (y_st0 D) T wo kp 0 := by
  refine ⟨fun j hj => y_st0_ne hj, fun j => ?_, rfl, fun s hs => ?_, (by show (0 : Int32) = m_bys (fun _ => -1) 4; decide), (by show (0 : Int32) = m_bys (fun _ => -1) 4; decide), fun l hl => ?_, fun l hl => ?_, fun l hl => ?_⟩
  · by_cases c : 152 ≤ j ∧ j < 157
    · rcases (show j = 152 ∨ j = 153 ∨ j = 154 ∨ j = 155 ∨ j = 156 by omega) with rfl | rfl | rfl | rfl | rfl <;> rfl
    · rw [y_st0_ne c]
  · show y_cp (fun _ => (0 : Int32)) _ 301 s = 0
    unfold y_cp; rw [if_pos hs]
  · show y_cp (fun _ => (0 : Int32)) _ 4 l = 0
    unfold y_cp; rw [if_pos hl]
  · show y_cp (fun _ => (0 : Int32)) _ 4 l = 0
    unfold y_cp; rw [if_pos hl]
  · show y_cp (fun _ => (99 : Int32)) _ 4 l = 99
    unfold y_cp; rw [if_pos hl]
theorem c_F_s {D X : y_D} {T : Nat → Int32} {wo : Int32} {kp i m : Nat} (h : c_F D X T wo kp i) (hT : c_wl T m) (hi : i < m) : c_F D (if nI i = wo then X else y_sln X kp (T (i * 3)) (c_a T i) (c_b T i)) T wo kp (i + 1) := by
  obtain ⟨h1, h2, h3, h4, h5, h6, h7, h8, h9⟩ := h
  obtain ⟨t1, t2, t3, t4, t5, t6, t7, t8, t9⟩ := hT i hi
  by_cases cw : nI i = wo
  · rw [if_pos cw]
    have sk : ∀ c l, s_by c (c_p T) (c_a T) (c_b T) wo l (i + 1) = s_by c (c_p T) (c_a T) (c_b T) wo l i := fun c l => s_by_skip (fun q => q.1 cw)
    refine ⟨h1, h2, ?_, fun s hs => ?_, ?_, ?_, fun l hl => ?_, fun l hl => ?_, fun l hl => ?_⟩
    · rw [h3, s_last, if_neg (fun q => q.1 cw)]
    · rw [h4 s hs, s_lit, if_neg (fun q => q.1 cw)]
    · rw [h5]; simp only [sk]
    · rw [h6]; simp only [sk]
    · rw [h7 l hl, sk]
    · rw [h8 l hl, sk]
    · rw [h9 l hl, sk]
  · rw [if_neg cw]
    have hpg : ∀ o c, y_pg X kp o c = y_pg D kp o c := fun o c => by unfold y_pg; rw [h1 75 (by omega)]
    have hb0 : ¬ nI (c_b T i) < 0 := nI_pos (by omega)
    have sn : ∀ c, c_p T i ≠ c → ∀ l, s_by c (c_p T) (c_a T) (c_b T) wo l (i + 1) = s_by c (c_p T) (c_a T) (c_b T) wo l i := fun c hc l => s_by_skip (fun q => hc q.2)
    unfold y_sln
    by_cases k0 : T (i * 3) = 10
    · have hp : c_p T i = 0 := by unfold c_p; rw [if_pos k0]
      rw [if_pos k0]
      have su : ∀ l, s_by 0 (c_p T) (c_a T) (c_b T) wo l (i + 1) = if c_a T i = l then nI (c_b T i) else s_by 0 (c_p T) (c_a T) (c_b T) wo l i := fun l => s_by_up cw hp
      have s1 := sn 1 (by omega)
      refine ⟨fun j hj => by rw [y_si_ne (by omega), y_si_ne (by omega), y_si_ne (by omega)]; exact h1 j hj, fun j => ?_, ?_, fun s hs => ?_, ?_, ?_, fun l hl => ?_, fun l hl => ?_, fun l hl => ?_⟩
      · by_cases c5 : j = 155
        · rw [c5, y_si_2, y_si_ne (by decide), y_si_ne (by decide), h2]
        · rw [y_si_ne c5]
          by_cases c4 : j = 154
          · rw [c4, y_si_2, y_si_ne (by decide), h2]
          · rw [y_si_ne c4]
            by_cases c2 : j = 152
            · rw [c2, y_si_2, h2]
            · rw [y_si_ne c2, h2]
      · rw [y_si_ne (by decide), y_si_ne (by decide), y_si_1, if_neg (by decide), h3, s_last, if_neg (by omega)]
      · rw [y_si_ne (by decide), y_si_ne (by decide), y_si_ne (by decide), h4 s hs, s_lit, if_neg (by omega)]
      · rw [y_si_ne (by decide), y_si_ne (by decide), y_si_1, if_pos rfl, h5]
        simp only [su]
        rw [m_bys_up (t5 (by omega)) hb0]
      · rw [y_si_ne (by decide), y_si_ne (by decide), y_si_1, if_neg (by decide), h6]
        simp only [s1]
      · rw [y_si_ne (by decide), y_si_1, y_si_ne (by decide), h7 l hl, su]
        by_cases q : l = c_a T i
        · rw [if_pos q, if_pos q.symm]; unfold c_per; rw [if_neg hb0, nI_clamp (by omega)]; exact hpg _ _
        · rw [if_neg q, if_neg (fun z => q z.symm)]
      · rw [y_si_1, y_si_ne (by decide), y_si_ne (by decide), h8 l hl, su]
        by_cases q : l = c_a T i
        · rw [if_pos q, if_pos q.symm]; unfold c_per; rw [if_neg hb0, nI_clamp (by omega)]; exact hpg _ _
        · rw [if_neg q, if_neg (fun z => q z.symm)]
      · rw [y_si_ne (by decide), y_si_ne (by decide), y_si_ne (by decide), h9 l hl, s1]
    · rw [if_neg k0]
      by_cases k1 : T (i * 3) = 12
      · have hp : c_p T i = 1 := by unfold c_p; rw [if_neg k0, if_pos k1]
        rw [if_pos k1]
        have su : ∀ l, s_by 1 (c_p T) (c_a T) (c_b T) wo l (i + 1) = if c_a T i = l then nI (c_b T i) else s_by 1 (c_p T) (c_a T) (c_b T) wo l i := fun l => s_by_up cw hp
        have s1 := sn 0 (by omega)
        refine ⟨fun j hj => by rw [y_si_ne (by omega), y_si_ne (by omega)]; exact h1 j hj, fun j => ?_, ?_, fun s hs => ?_, ?_, ?_, fun l hl => ?_, fun l hl => ?_, fun l hl => ?_⟩
        · by_cases c5 : j = 156
          · rw [c5, y_si_2, y_si_ne (by decide), h2]
          · rw [y_si_ne c5]
            by_cases c2 : j = 152
            · rw [c2, y_si_2, h2]
            · rw [y_si_ne c2, h2]
        · rw [y_si_ne (by decide), y_si_1, if_neg (by decide), h3, s_last, if_neg (by omega)]
        · rw [y_si_ne (by decide), y_si_ne (by decide), h4 s hs, s_lit, if_neg (by omega)]
        · rw [y_si_ne (by decide), y_si_1, if_neg (by decide), h5]
          simp only [s1]
        · rw [y_si_ne (by decide), y_si_1, if_pos rfl, h6]
          simp only [su]
          rw [m_bys_up (t5 (by omega)) hb0]
        · rw [y_si_ne (by decide), y_si_ne (by decide), h7 l hl, s1]
        · rw [y_si_ne (by decide), y_si_ne (by decide), h8 l hl, s1]
        · rw [y_si_1, y_si_ne (by decide), h9 l hl, su]
          by_cases q : l = c_a T i
          · rw [if_pos q, if_pos q.symm, if_neg hb0]
          · rw [if_neg q]
            simp only [if_neg (show ¬ c_a T i = l from fun z => q z.symm)]
      · rw [if_neg k1]
        by_cases k2 : T (i * 3) = 13
        · have hp : c_p T i = 2 := by unfold c_p; rw [if_neg k0, if_neg k1, if_pos k2]
          rw [if_pos k2]
          have s0 := sn 0 (by omega)
          have s1 := sn 1 (by omega)
          refine ⟨fun j hj => by rw [y_sw_ne (by omega)]; exact h1 j hj, fun j => ?_, ?_, fun s hs => ?_, ?_, ?_, fun l hl => ?_, fun l hl => ?_, fun l hl => ?_⟩
          · by_cases c5 : j = 153
            · rw [c5, y_sw_2, h2]
            · rw [y_sw_ne c5, h2]
          · rw [y_sw_ne (by decide), h3, s_last, if_neg (by omega)]
          · rw [y_sw_1]
            unfold y_lit
            rw [s_lit]
            by_cases q : c_a T i ≤ s ∧ s < c_b T i
            · rw [if_pos q, if_pos ⟨cw, hp, q⟩]
            · rw [if_neg q, if_neg (fun z => q z.2.2), h4 s hs]
          · rw [y_sw_ne (by decide), h5]; simp only [s0]
          · rw [y_sw_ne (by decide), h6]; simp only [s1]
          · rw [y_sw_ne (by decide), h7 l hl, s0]
          · rw [y_sw_ne (by decide), h8 l hl, s0]
          · rw [y_sw_ne (by decide), h9 l hl, s1]
        · have hp : c_p T i = 3 := by unfold c_p; rw [if_neg k0, if_neg k1, if_neg k2]
          rw [if_neg k2]
          have s0 := sn 0 (by omega)
          have s1 := sn 1 (by omega)
          refine ⟨fun j hj => by rw [y_si_ne (by omega)]; exact h1 j hj, fun j => ?_, ?_, fun s hs => ?_, ?_, ?_, fun l hl => ?_, fun l hl => ?_, fun l hl => ?_⟩
          · by_cases c5 : j = 152
            · rw [c5, y_si_2, h2]
            · rw [y_si_ne c5, h2]
          · rw [y_si_1, if_pos rfl, s_last, if_pos ⟨cw, hp⟩]
          · rw [y_si_ne (by decide), h4 s hs, s_lit, if_neg (by omega)]
          · rw [y_si_1, if_neg (by decide), h5]; simp only [s0]
          · rw [y_si_1, if_neg (by decide), h6]; simp only [s1]
          · rw [y_si_ne (by decide), h7 l hl, s0]
          · rw [y_si_ne (by decide), h8 l hl, s0]
          · rw [y_si_ne (by decide), h9 l hl, s1]
theorem c_F_stl {D : y_D} {T : Nat → Int32} {wo : Int32} {kp m : Nat} (hT : c_wl T m) : ∀ i, i ≤ m → c_F D (y_stl (y_st0 D) T wo kp i) T wo kp i
  | 0, _ => c_F_z
  | i + 1, hi => c_F_s (c_F_stl hT i (by omega)) hT (by omega)

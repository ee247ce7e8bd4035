/-! courses: the sets of the class are what the reference reaches -/
theorem y_bit_swl : ∀ l, l < 4 → ∀ f, f < 32 → (y_bit (y_swl l) f ↔ f < 16 ∧ f.testBit l = true) := by decide +kernel
theorem y_pt1_b {l f : Nat} {t : Int32} (hl : l < 4) (hf : f < 16) (ht : ∀ c, 16 ≤ c → c < 32 → ¬ y_bit t c) : y_bit (y_pt1 l t) f ↔ y_bit t f ∨ (f.testBit l = false ∧ y_bit t (f ||| 2 ^ l)) := by
  have h2 : 2 ^ l ≤ 8 := by
    have : l = 0 ∨ l = 1 ∨ l = 2 ∨ l = 3 := by omega
    rcases this with rfl | rfl | rfl | rfl <;> decide
  unfold y_pt1
  rw [y_bit_or (by omega)]
  refine or_congr Iff.rfl ?_
  have e1 : y_bit ((t &&& y_swl l) >>> (nI (2 ^ l) &&& 31)) f ↔ y_bit (t &&& y_swl l) (2 ^ l + f) := by
    rw [y_bit_bt (by omega), b_sshr (2 ^ l) (by omega) _ (by omega), if_pos (by omega), ← y_bit_bt (by omega)]
  rw [e1, y_bit_and (by omega), y_bit_swl l hl _ (by omega)]
  have key : ∀ l, l < 4 → ∀ f, f < 16 → ((2 ^ l + f < 16 ∧ (2 ^ l + f).testBit l = true) ↔ f.testBit l = false) := by decide +kernel
  have key2 : ∀ l, l < 4 → ∀ f, f < 16 → f.testBit l = false → 2 ^ l + f = f ||| 2 ^ l := by decide +kernel
  rw [key l hl f hf]
  constructor
  · rintro ⟨a, b⟩
    exact ⟨b, by rw [← key2 l hl f hf b]; exact a⟩
  · rintro ⟨b, a⟩
    exact ⟨by rw [key2 l hl f hf b]; exact a, b⟩
theorem y_pt_hi {s : Int32} (hs : ∀ c, 16 ≤ c → c < 32 → ¬ y_bit s c) : ∀ l, l ≤ 4 → ∀ c, 16 ≤ c → c < 32 → ¬ y_bit (y_pt s l) c
  | 0, _, c, h1, h2 => hs c h1 h2
  | l + 1, hl, c, h1, h2 => by
    have ih := y_pt_hi hs l (by omega)
    have h9 := Nat.two_pow_pos l
    have h3 : 2 ^ l ≤ 8 := by
      have : l = 0 ∨ l = 1 ∨ l = 2 ∨ l = 3 := by omega
      rcases this with rfl | rfl | rfl | rfl <;> decide
    show ¬ y_bit (y_pt1 l (y_pt s l)) c
    unfold y_pt1
    rw [y_bit_or h2]
    rintro (h | h)
    · exact ih c h1 h2 h
    · rw [y_bit_bt h2, b_sshr (2 ^ l) (by omega) _ h2] at h
      split at h
      · rw [← y_bit_bt (by omega), y_bit_and (by omega)] at h
        exact ih _ (by omega) (by omega) h.1
      · rw [← y_bit_bt (by omega), y_bit_and (by omega)] at h
        exact ih _ (by omega) (by omega) h.1
theorem y_pt_b {s : Int32} (hs : ∀ c, 16 ≤ c → c < 32 → ¬ y_bit s c) : ∀ l, l ≤ 4 → ∀ f, f < 16 → (y_bit (y_pt s l) f ↔ ∃ g, g < 16 ∧ y_bit s g ∧ g ||| f = g ∧ g / 2 ^ l = f / 2 ^ l)
  | 0, _, f, hf => by
    constructor
    · intro h
      exact ⟨f, hf, h, Nat.or_self f, rfl⟩
    · rintro ⟨g, h1, h2, h3, h4⟩
      rw [Nat.pow_zero, Nat.div_one, Nat.div_one] at h4
      rw [← h4]
      exact h2
  | l + 1, hl, f, hf => by
    have ih := y_pt_b hs l (by omega)
    show y_bit (y_pt1 l (y_pt s l)) f ↔ _
    have k0 : ∀ l, l < 4 → ∀ f, f < 16 → f ||| 2 ^ l < 16 := by decide +kernel
    rw [y_pt1_b (by omega) hf (y_pt_hi hs l (by omega)), ih f hf, ih (f ||| 2 ^ l) (k0 l (by omega) f hf)]
    have k1 : ∀ l, l < 4 → ∀ f, f < 16 → ∀ g, g < 16 → (g ||| f = g ∧ g / 2 ^ (l + 1) = f / 2 ^ (l + 1) ↔ (g ||| f = g ∧ g / 2 ^ l = f / 2 ^ l) ∨ (f.testBit l = false ∧ g ||| (f ||| 2 ^ l) = g ∧ g / 2 ^ l = (f ||| 2 ^ l) / 2 ^ l)) := by decide +kernel
    constructor
    · rintro (⟨g, a, b, c, d⟩ | ⟨e, g, a, b, c, d⟩)
      · exact ⟨g, a, b, (k1 l (by omega) f hf g a).mpr (Or.inl ⟨c, d⟩)⟩
      · exact ⟨g, a, b, (k1 l (by omega) f hf g a).mpr (Or.inr ⟨e, c, d⟩)⟩
    · rintro ⟨g, a, b, c⟩
      rcases (k1 l (by omega) f hf g a).mp c with ⟨c, d⟩ | ⟨e, c, d⟩
      · exact Or.inl ⟨g, a, b, c, d⟩
      · exact Or.inr ⟨e, g, a, b, c, d⟩
theorem y_pt_4 {s : Int32} (hs : ∀ c, 16 ≤ c → c < 32 → ¬ y_bit s c) {f : Nat} (hf : f < 16) : y_bit (y_pt s 4) f ↔ ∃ g, g < 16 ∧ y_bit s g ∧ g ||| f = g := by
  rw [y_pt_b hs 4 (Nat.le_refl _) f hf]
  constructor
  · rintro ⟨g, a, b, c, -⟩
    exact ⟨g, a, b, c⟩
  · rintro ⟨g, a, b, c⟩
    exact ⟨g, a, b, c, by omega⟩
theorem y_fr1_b {l f : Nat} {t fr : Int32} (hl : l < 4) (hf : f < 16) : y_bit (y_fr1 fr l t) f ↔ (y_bit fr l ∧ ((y_bit t f ∧ f.testBit l = true) ∨ (2 ^ l ≤ f ∧ y_bit t (f - 2 ^ l) ∧ (f - 2 ^ l).testBit l = false))) ∨ (¬ y_bit fr l ∧ y_bit t f) := by
  have h2 : 2 ^ l ≤ 8 := by
    have : l = 0 ∨ l = 1 ∨ l = 2 ∨ l = 3 := by omega
    rcases this with rfl | rfl | rfl | rfl <;> decide
  have hsub : f - 2 ^ l < 16 := Nat.lt_of_le_of_lt (Nat.sub_le _ _) hf
  unfold y_fr1
  by_cases b : y_bit fr l
  · rw [if_pos b, y_bit_or (by omega), y_bit_and (by omega), y_bit_swl l hl f (by omega)]
    have e1 : y_bit ((t &&& (y_swl l ^^^ (-1))) <<< (nI (2 ^ l) &&& 31)) f ↔ 2 ^ l ≤ f ∧ y_bit t (f - 2 ^ l) ∧ (f - 2 ^ l).testBit l = false := by
      rw [y_bit_bt (by omega), b_shl (2 ^ l) (by omega) _ (by omega), Bool.and_eq_true, decide_eq_true_eq, b_and, Bool.and_eq_true, ← y_bit_bt (by omega), b_xor, b_m1 _ (by omega), Bool.xor_true, Bool.not_eq_true']
      refine and_congr Iff.rfl (and_congr Iff.rfl ?_)
      have e2 := y_bit_swl l hl (f - 2 ^ l) (by omega)
      rw [y_bit_bt (by omega)] at e2
      constructor
      · intro h
        cases q : (f - 2 ^ l).testBit l with
        | false => rfl
        | true =>
          rw [e2.mpr ⟨by omega, q⟩] at h
          cases h
      · intro h
        cases q : bt (y_swl l) (f - 2 ^ l) with
        | false => rfl
        | true =>
          rw [(e2.mp q).2] at h
          cases h
    rw [e1]
    constructor
    · rintro (⟨a, c⟩ | h)
      · exact Or.inl ⟨b, Or.inl ⟨a, c.2⟩⟩
      · exact Or.inl ⟨b, Or.inr h⟩
    · rintro (⟨-, ⟨a, c⟩ | h⟩ | ⟨q, _⟩)
      · exact Or.inl ⟨a, hf, c⟩
      · exact Or.inr h
      · exact absurd b q
  · rw [if_neg b]
    constructor
    · exact fun h => Or.inr ⟨b, h⟩
    · rintro (⟨q, _⟩ | ⟨_, h⟩)
      · exact absurd q b
      · exact h
def p6_chk (l f m g : Nat) : Bool := !(m.testBit l) || decide (f = g ||| (m % 2 ^ (l + 1)) ↔ (f = g ||| (m % 2 ^ l) ∧ f.testBit l = true) ∨ (2 ^ l ≤ f ∧ f - 2 ^ l = g ||| (m % 2 ^ l) ∧ (f - 2 ^ l).testBit l = false))
theorem p6_ok : ∀ l, l < 4 → ∀ f, f < 16 → ∀ m, m < 16 → ∀ g, g < 16 → p6_chk l f m g = true := by decide +kernel
theorem y_fr_b {s : Int32} {m : Nat} (hm : m < 16) : ∀ l, l ≤ 4 → ∀ f, f < 16 → (y_bit (y_fr (nI m) s l) f ↔ ∃ g, g < 16 ∧ y_bit s g ∧ f = g ||| (m % 2 ^ l))
  | 0, _, f, hf => by
    constructor
    · intro h
      exact ⟨f, hf, h, by rw [Nat.pow_zero, Nat.mod_one, Nat.or_zero]⟩
    · rintro ⟨g, a, b, c⟩
      rw [Nat.pow_zero, Nat.mod_one, Nat.or_zero] at c
      rw [c]
      exact b
  | l + 1, hl, f, hf => by
    have ih := y_fr_b (s := s) hm l (by omega)
    have hsub : f - 2 ^ l < 16 := Nat.lt_of_le_of_lt (Nat.sub_le _ _) hf
    show y_bit (y_fr1 (nI m) l (y_fr (nI m) s l)) f ↔ _
    rw [y_fr1_b (by omega) hf, y_bit_tb (by omega), ih f hf]
    have k1 : ∀ l, l < 4 → ∀ f, f < 16 → ∀ m, m < 16 → ∀ g, g < 16 → m.testBit l = true → (f = g ||| (m % 2 ^ (l + 1)) ↔ (f = g ||| (m % 2 ^ l) ∧ f.testBit l = true) ∨ (2 ^ l ≤ f ∧ f - 2 ^ l = g ||| (m % 2 ^ l) ∧ (f - 2 ^ l).testBit l = false)) := by
      intro l h1 f h2 m h3 g h4 b
      have := p6_ok l h1 f h2 m h3 g h4
      unfold p6_chk at this
      rw [b, Bool.not_true, Bool.false_or, decide_eq_true_eq] at this
      exact this
    have k2 : ∀ l, l < 4 → ∀ m, m < 16 → ¬ m.testBit l = true → m % 2 ^ (l + 1) = m % 2 ^ l := by decide +kernel
    by_cases b : m.testBit l = true
    · constructor
      · rintro (⟨-, ⟨⟨g, a1, a2, a3⟩, a4⟩ | ⟨a1, a2, a3⟩⟩ | ⟨q, _⟩)
        · exact ⟨g, a1, a2, (k1 l (by omega) f hf m hm g a1 b).mpr (Or.inl ⟨a3, a4⟩)⟩
        · obtain ⟨g, c1, c2, c3⟩ := (ih (f - 2 ^ l) hsub).mp a2
          exact ⟨g, c1, c2, (k1 l (by omega) f hf m hm g c1 b).mpr (Or.inr ⟨a1, c3, a3⟩)⟩
        · exact absurd b q
      · rintro ⟨g, a1, a2, a3⟩
        refine Or.inl ⟨b, ?_⟩
        rcases (k1 l (by omega) f hf m hm g a1 b).mp a3 with ⟨c1, c2⟩ | ⟨c1, c2, c3⟩
        · exact Or.inl ⟨⟨g, a1, a2, c1⟩, c2⟩
        · exact Or.inr ⟨c1, (ih (f - 2 ^ l) hsub).mpr ⟨g, a1, a2, c2⟩, c3⟩
    · rw [k2 l (by omega) m hm b]
      constructor
      · rintro (⟨q, _⟩ | ⟨_, h⟩)
        · exact absurd q b
        · exact h
      · exact fun h => Or.inr ⟨b, h⟩
theorem y_fr_4 {s : Int32} {m f : Nat} (hm : m < 16) (hf : f < 16) : y_bit (y_fr (nI m) s 4) f ↔ ∃ g, g < 16 ∧ y_bit s g ∧ f = g ||| m := by
  rw [y_fr_b hm 4 (Nat.le_refl _) f hf, show m % 2 ^ 4 = m from Nat.mod_eq_of_lt hm]
theorem y_thf_b {g : Nat → Int32} {f : Nat} (hf : f < 16) : ∀ {c i : Nat} {t : Int32}, y_bit (y_thf g t i c) f ↔ y_bit t f ∧ ∀ j, i ≤ j → j < i + c → y_bit (g j) f
  | 0, i, t => ⟨fun h => ⟨h, fun j h1 h2 => absurd h2 (by omega)⟩, fun h => h.1⟩
  | c + 1, i, t => by
    show y_bit (y_thf g (t &&& g i) (i + 1) c) f ↔ _
    rw [y_thf_b hf, y_bit_and (by omega)]
    constructor
    · rintro ⟨⟨a, b⟩, h⟩
      refine ⟨a, fun j h1 h2 => ?_⟩
      by_cases q : j = i
      · rw [q]
        exact b
      · exact h j (by omega) (by omega)
    · rintro ⟨a, h⟩
      exact ⟨⟨a, h i (Nat.le_refl _) (by omega)⟩, fun j h1 h2 => h j (by omega) (by omega)⟩
section P6
variable {A : Nat → Int32} {Z : Nat → Nat → Int32} {fr : Nat → Int32} {tk : Nat → Nat} {u : Int32} {kw k : Nat} {W : Nat → Int32} {G : Nat → Prop} {Q : Nat → Nat → Nat → Prop}
theorem c_th_b {S : Nat → Int32} {x f : Nat} {fn : Nat → Nat} (hS : ∀ c, 16 ≤ c → c < 32 → ¬ y_bit (S x) c) (hf : f < 16) (h1 : ∀ i, i < kw → 1 ≤ tk i) (hfr : ∀ i, i < kw → fr i = nI (fn i) ∧ fn i < 16) : ∀ i, i ≤ kw → (y_bit (c_th S Z fr tk u x i) f ↔ (∃ g, g < 16 ∧ y_bit (S x) g ∧ g ||| f = g) ∨ ∃ v, v < i ∧ y_bit u v ∧ tk v ≤ x + 1 ∧ ∃ g, g < 16 ∧ f = g ||| fn v ∧ ∀ j, x + 1 - tk v ≤ j → j ≤ x → y_bit (S j) g ∧ y_bit (Z v j) g)
  | 0, _ => by
    show y_bit (y_pt (S x) 4) f ↔ _
    rw [y_pt_4 hS hf]
    exact ⟨Or.inl, fun h => h.resolve_right (fun ⟨v, hv, _⟩ => absurd hv (by omega))⟩
  | i + 1, hi => by
    have ih := c_th_b hS hf h1 hfr i (by omega)
    have hi1 := h1 i (by omega)
    unfold c_th
    by_cases b : y_bit u i
    · rw [if_pos b, y_bit_or (by omega), ih]
      have e : y_bit (if tk i ≤ x + 1 then y_fr (fr i) (y_thf (fun j => S j &&& Z i j) (S x &&& Z i x) (x + 1 - tk i) (x - (x + 1 - tk i))) 4 else 0) f ↔ tk i ≤ x + 1 ∧ ∃ g, g < 16 ∧ f = g ||| fn i ∧ ∀ j, x + 1 - tk i ≤ j → j ≤ x → y_bit (S j) g ∧ y_bit (Z i j) g := by
        by_cases q : tk i ≤ x + 1
        · rw [if_pos q, (hfr i (by omega)).1, y_fr_4 (hfr i (by omega)).2 hf]
          constructor
          · rintro ⟨g, a, b, c⟩
            rw [y_thf_b a, y_bit_and (by omega)] at b
            refine ⟨q, g, a, c, fun j h1 h2 => ?_⟩
            by_cases z : j = x
            · rw [z]
              exact b.1
            · have := b.2 j h1 (by omega)
              rw [y_bit_and (by omega)] at this
              exact this
          · rintro ⟨-, g, a, c, h⟩
            refine ⟨g, a, ?_, c⟩
            rw [y_thf_b a, y_bit_and (by omega)]
            refine ⟨h x (by omega) (Nat.le_refl _), fun j h1 h2 => ?_⟩
            show y_bit (S j &&& Z i j) g
            rw [y_bit_and (by omega)]
            exact h j h1 (by omega)
        · rw [if_neg q]
          exact ⟨fun h => absurd h (y_bit_0 (by omega)), fun h => absurd h.1 q⟩
      rw [e]
      constructor
      · rintro ((h | ⟨v, a, h⟩) | h)
        · exact Or.inl h
        · exact Or.inr ⟨v, by omega, h⟩
        · exact Or.inr ⟨i, by omega, b, h⟩
      · rintro (h | ⟨v, a, h⟩)
        · exact Or.inl (Or.inl h)
        · by_cases z : v = i
          · subst z
            exact Or.inr h.2
          · exact Or.inl (Or.inr ⟨v, by omega, h⟩)
    · rw [if_neg b, ih]
      constructor
      · rintro (h | ⟨v, a, h⟩)
        · exact Or.inl h
        · exact Or.inr ⟨v, by omega, h⟩
      · rintro (h | ⟨v, a, h⟩)
        · exact Or.inl h
        · by_cases z : v = i
          · rw [z] at h
            exact absurd h.1 b
          · exact Or.inr ⟨v, by omega, h⟩
theorem c_S_hi (hA : ∀ x c, 16 ≤ c → c < 32 → ¬ y_bit (A x) c) : ∀ n, ∀ c, 16 ≤ c → c < 32 → ¬ y_bit (c_S A Z fr tk u kw n n) c
  | 0, c, h1, h2 => by
    show ¬ y_bit (1 &&& A 0) c
    rw [y_bit_and h2]
    exact fun h => hA 0 c h1 h2 h.2
  | n + 1, c, h1, h2 => by
    unfold c_S
    rw [if_neg (by omega), y_bit_and h2]
    exact fun h => hA _ c h1 h2 h.2
theorem c_S_A : ∀ n c, c < 32 → y_bit (c_S A Z fr tk u kw n n) c → y_bit (A n) c
  | 0, c, h2, h => by
    have h9 : y_bit (1 &&& A 0) c := h
    rw [y_bit_and h2] at h9
    exact h9.2
  | n + 1, c, h2, h => by
    unfold c_S at h
    rw [if_neg (by omega), y_bit_and h2] at h
    exact h.2
/-- a place behind the first second is reached from an earlier one -/
theorem m_on_from {C : Nat → Nat → Nat → Prop} : ∀ {s m : Nat}, m_on C W kw G s m → (m = 0 ∧ G 0) ∨ ∃ x f, x < s ∧ f < 16 ∧ m_on C W kw G x (16 * x + f) ∧ (m_T1 G x f (f + 1) m ∨ m_T2 C W x f kw m)
  | 0, m, h => Or.inl h
  | s + 1, m, h => by
    rcases h with h | ⟨f, a, b, c⟩
    · rcases m_on_from h with h | ⟨x, f, a, b⟩
      · exact Or.inl h
      · exact Or.inr ⟨x, f, by omega, b⟩
    · exact Or.inr ⟨s, f, by omega, a, b, c⟩
theorem c_on (hA0 : ∀ x c, 16 ≤ c → c < 32 → ¬ y_bit (A x) c) (hA : ∀ x, x ≤ k → ∀ f, f < 16 → (y_bit (A x) f ↔ (x = k → f = 0) ∧ G (16 * x + f)))
    (hZ : ∀ i, i < kw → y_bit u i → ∀ y, y < k → ∀ f, f < 16 → G (16 * y + f) → (y_bit (Z i y) f ↔ f ||| m_frees W i ≠ f ∧ Q i f y))
    (hfr : ∀ i, i < kw → fr i = nI (m_frees W i) ∧ m_frees W i < 16) (htk : ∀ i, i < kw → tk i = m_take W i) (h1 : ∀ i, i < kw → 1 ≤ m_take W i) :
    ∀ x, x ≤ k → ∀ f, f < 16 → (y_bit (c_S A Z fr tk u kw x x) f ↔ (x = k → f = 0) ∧ m_on (m_CG W u k G Q) W kw G k (16 * x + f)) := by
  have h1' : ∀ i, i < kw → 1 ≤ tk i := fun i hi => by rw [htk i hi]; exact h1 i hi
  intro x
  induction x using Nat.strongRecOn with
  | _ x ih =>
    intro hx f hf
    rcases x with _ | x
    · show y_bit (1 &&& A 0) f ↔ _
      rw [y_bit_and (by omega), y_bit_1 hf, hA 0 hx f hf]
      constructor
      · rintro ⟨e, a, b⟩
        subst e
        refine ⟨fun _ => rfl, ?_⟩
        have := m_on_mono (C := m_CG W u k G Q) (W := W) (kw := kw) (G := G) (s := 0) (m := 0) (d := k) ⟨rfl, b⟩
        rw [Nat.zero_add] at this
        exact this
      · rintro ⟨a, b⟩
        rw [show k = 0 + k by omega] at b
        have b2 : m_on (m_CG W u (0 + k) G Q) W kw G 0 (16 * 0 + f) := m_on_stab h1 (by omega) b
        have e : 16 * 0 + f = 0 := b2.1
        exact ⟨by omega, a, by rw [e]; exact b2.2⟩
    · have hlt : ∀ y, y < x + 1 → ∀ g, g < 16 → (y_bit (c_S A Z fr tk u kw y y) g ↔ m_on (m_CG W u k G Q) W kw G k (16 * y + g)) := by
        intro y hy g hg
        rw [ih y hy (by omega) g hg]
        exact ⟨fun h => h.2, fun h => ⟨fun e => absurd e (by omega), h⟩⟩
      have hSG : ∀ y, y < x + 1 → ∀ g, g < 16 → y_bit (c_S A Z fr tk u kw y y) g → G (16 * y + g) := fun y hy g hg h => ((hA y (by omega) g hg).mp (c_S_A y g (by omega) h)).2
      have hle : ∀ y, y ≤ x → c_S A Z fr tk u kw x y = c_S A Z fr tk u kw y y := fun y hy => c_S_le hy
      unfold c_S
      rw [if_neg (by omega), y_bit_and (by omega), hA (x + 1) hx f hf, c_th_b (fn := m_frees W) (c_S_hi hA0 x) hf h1' hfr kw (Nat.le_refl _)]
      constructor
      · rintro ⟨h, a, b⟩
        refine ⟨a, ?_⟩
        rcases h with ⟨g, g1, g2, g3⟩ | ⟨v, v1, v2, v3, g, g1, g2, g3⟩
        · have n1 := (hlt x (by omega) g g1).mp g2
          have n2 : m_on (m_CG W u k G Q) W kw G x (16 * x + g) := by
            rw [show k = x + (k - x) by omega] at n1 ⊢
            exact m_on_stab h1 (by omega) n1
          have n3 : m_on (m_CG W u k G Q) W kw G (x + 1) (16 * (x + 1) + f) := Or.inr ⟨g, g1, n2, Or.inl ⟨f, by have := Nat.right_le_or (n := g) (m := f); omega, g3, b, rfl⟩⟩
          have n4 := m_on_mono (d := k - (x + 1)) n3
          rw [show x + 1 + (k - (x + 1)) = k by omega] at n4
          exact n4
        · rw [htk v v1] at v3 g3
          have hv1 := h1 v v1
          have hs : ∀ y, x + 1 - m_take W v ≤ y → y ≤ x → y_bit (c_S A Z fr tk u kw y y) g ∧ y_bit (Z v y) g := fun y q1 q2 => by
            have := g3 y q1 q2
            rw [hle y q2] at this
            exact this
          have hg0 : ∀ y, x + 1 - m_take W v ≤ y → y ≤ x → g ||| m_frees W v ≠ g ∧ Q v g y ∧ G (16 * y + g) := fun y q1 q2 => by
            have e := hSG y (by omega) g g1 (hs y q1 q2).1
            have e2 := (hZ v v1 v2 y (by omega) g g1 e).mp (hs y q1 q2).2
            exact ⟨e2.1, e2.2, e⟩
          have n1 := (hlt (x + 1 - m_take W v) (by omega) g g1).mp (hs _ (Nat.le_refl _) (by omega)).1
          have n2 : m_on (m_CG W u k G Q) W kw G (x + 1 - m_take W v) (16 * (x + 1 - m_take W v) + g) := by
            rw [show k = (x + 1 - m_take W v) + (k - (x + 1 - m_take W v)) by omega] at n1 ⊢
            exact m_on_stab h1 (by omega) n1
          have eq1 : x + 1 - m_take W v + m_take W v = x + 1 := by omega
          have n3 : m_on (m_CG W u k G Q) W kw G (x + 1 - m_take W v + 1) (16 * (x + 1) + f) := by
            refine Or.inr ⟨g, g1, n2, Or.inr ⟨v, v1, ⟨v2, (hg0 x (by omega) (Nat.le_refl _)).1, by omega, fun y q1 q2 => (hg0 y q1 (by omega)).2, ?_⟩, ?_⟩⟩
            · rw [eq1, ← g2]
              exact b
            · rw [eq1, ← g2]
          have n4 := m_on_mono (d := k - (x + 1 - m_take W v + 1)) n3
          rw [show x + 1 - m_take W v + 1 + (k - (x + 1 - m_take W v + 1)) = k by omega] at n4
          exact n4
      · rintro ⟨a, h⟩
        rcases m_on_from h with ⟨e, _⟩ | ⟨s, g, s1, g1, n1, n2⟩
        · omega
        · have n3 : m_on (m_CG W u k G Q) W kw G k (16 * s + g) := by
            have := m_on_mono (d := k - s) n1
            rw [show s + (k - s) = k by omega] at this
            exact this
          rcases n2 with ⟨g2, q1, q2, q3, q4⟩ | ⟨v, v1, ⟨c1, c2, c3, c4, c5⟩, v3⟩
          · have e1 : s = x := by omega
            subst e1
            have e2 : g2 = f := by omega
            subst e2
            exact ⟨Or.inl ⟨g, g1, (hlt s (by omega) g g1).mpr n3, q2⟩, a, q3⟩
          · have hfv := (hfr v v1).2
            have hgf : g ||| m_frees W v < 16 := by
              have : ∀ a, a < 16 → ∀ b, b < 16 → a ||| b < 16 := by decide +kernel
              exact this g g1 _ hfv
            have e1 : x + 1 = s + m_take W v := by omega
            have e2 : f = g ||| m_frees W v := by omega
            have hv1 := h1 v v1
            refine ⟨Or.inr ⟨v, v1, c1, by rw [htk v v1]; omega, g, g1, e2, fun j j1 j2 => ?_⟩, a, by rw [e1, e2]; exact c5⟩
            rw [htk v v1] at j1
            have hj : m_on (m_CG W u k G Q) W kw G k (16 * j + g) := by
              have := m_on_stay h1 g1 n3 (d := j - s) (by omega) (fun y y1 y2 => (c4 y y1 (by omega)).2)
              rw [show s + (j - s) = j by omega] at this
              exact this
            refine ⟨?_, ?_⟩
            · rw [hle j j2]
              exact (hlt j (by omega) g g1).mpr hj
            · have c6 := c4 j (by omega) (by omega)
              exact (hZ v v1 c1 j (by omega) g g1 c6.2).mpr ⟨c2, c6.1⟩
end P6

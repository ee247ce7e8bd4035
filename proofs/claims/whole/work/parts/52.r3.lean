/-! ===== what walk leaves ===== -/
def y_thf (g : Nat → Int32) : Int32 → Nat → Nat → Int32
  | t, _, 0 => t
  | t, i, c + 1 => y_thf g (t &&& g i) (i + 1) c
/-- n + 1 places from lo on -/
def y_an (g : Nat → Int32) (lo : Nat) : Nat → Int32
  | 0 => g lo
  | n + 1 => y_an g lo n &&& g (lo + n + 1)
theorem y_an_c {g g2 : Nat → Int32} {lo lo2 : Nat} : ∀ {n : Nat}, (∀ k, k ≤ n → g (lo + k) = g2 (lo2 + k)) → y_an g lo n = y_an g2 lo2 n
  | 0, h => h 0 (Nat.le_refl _)
  | n + 1, h => by
    show y_an g lo n &&& g (lo + n + 1) = y_an g2 lo2 n &&& g2 (lo2 + n + 1)
    rw [y_an_c (fun k hk => h k (by omega)), Nat.add_assoc lo n 1, h (n + 1) (Nat.le_refl _), Nat.add_assoc lo2 n 1]
theorem y_an_a {g : Nat → Int32} {lo a : Nat} : ∀ {b : Nat}, y_an g lo (a + 1 + b) = y_an g lo a &&& y_an g (lo + a + 1) b
  | 0 => rfl
  | b + 1 => by
    show y_an g lo (a + 1 + b) &&& g (lo + (a + 1 + b) + 1) = y_an g lo a &&& (y_an g (lo + a + 1) b &&& g (lo + a + 1 + b + 1))
    rw [y_an_a, Int32.and_assoc, show lo + (a + 1 + b) + 1 = lo + a + 1 + b + 1 by omega]
theorem y_an_p {g : Nat → Int32} {lo n : Nat} : y_an g lo (n + 1) = g lo &&& y_an g (lo + 1) n := by
  have h := y_an_a (g := g) (lo := lo) (a := 0) (b := n)
  rw [show 0 + 1 + n = n + 1 by omega] at h
  exact h
theorem y_thf_an {g : Nat → Int32} : ∀ {c i : Nat} {t : Int32}, y_thf g t i (c + 1) = t &&& y_an g i c
  | 0, i, t => rfl
  | c + 1, i, t => by
    show y_thf g (t &&& g i) (i + 1) (c + 1) = _
    rw [y_thf_an, y_an_p, Int32.and_assoc]
theorem y_thf_all {g : Nat → Int32} {x tk : Nat} (h1 : 1 ≤ tk) (h2 : tk ≤ x + 1) : y_thf g (g x) (x + 1 - tk) (x - (x + 1 - tk)) = y_an g (x + 1 - tk) (tk - 1) := by
  rcases (show tk = 1 ∨ ∃ c, tk = c + 2 from by
    by_cases q : tk = 1
    · exact Or.inl q
    · exact Or.inr ⟨tk - 2, by omega⟩) with rfl | ⟨c, rfl⟩
  · rw [show x + 1 - 1 = x by omega, Nat.sub_self]; rfl
  · rw [show x - (x + 1 - (c + 2)) = c + 1 by omega, y_thf_an, show c + 2 - 1 = c + 1 by omega]
    show _ = y_an g (x + 1 - (c + 2)) c &&& g (x + 1 - (c + 2) + c + 1)
    rw [show x + 1 - (c + 2) + c + 1 = x by omega, Int32.and_comm]
theorem y_sfx_v {f : Nat → Int32} {e : Nat} : ∀ c, c ≤ e → (∀ k, e - c ≤ k → k ≤ e → y_sfx f e c k = y_an f k (e - k)) ∧ ∀ k, k < e - c ∨ e < k → y_sfx f e c k = f k
  | 0, _ => ⟨fun k h1 h2 => by rw [show k = e by omega, Nat.sub_self]; rfl, fun k _ => rfl⟩
  | c + 1, hc => by
    obtain ⟨h1, h2⟩ := y_sfx_v (f := f) (e := e) c (by omega)
    have hv : ∀ k, y_sfx f e (c + 1) k = if k = e - (c + 1) then y_sfx f e c (e - (c + 1)) &&& y_sfx f e c (e - c) else y_sfx f e c k := fun k => rfl
    refine ⟨fun k q1 q2 => ?_, fun k q => ?_⟩
    · rw [hv]
      by_cases c1 : k = e - (c + 1)
      · rw [if_pos c1, h2 _ (Or.inl (by omega)), h1 (e - c) (Nat.le_refl _) (by omega), c1, show e - (e - (c + 1)) = c + 1 by omega, y_an_p, show e - (e - c) = c by omega, show e - (c + 1) + 1 = e - c by omega]
      · rw [if_neg c1, h1 k (by omega) q2]
    · rw [hv, if_neg (by omega), h2 k (by omega)]
/-- what the class knows of a WAY behind n seconds: G n is with what it could go at n -/
def c_BI (G f : Nat → Int32) (tb : Int32) (tk n : Nat) : Prop := (∀ j, n - n % tk ≤ j → j < n → f j = G j) ∧ (n % tk ≠ 0 → tb = y_an G (n - n % tk) (n % tk - 1)) ∧ ∀ j, n - n % tk ≤ j + tk → j < n - n % tk → f j = y_an G j (n - n % tk - 1 - j)
theorem c_BI_c {G G2 f f2 : Nat → Int32} {tb tb2 : Int32} {tk n : Nat} (hG : ∀ j, j < n → G j = G2 j) (hf : ∀ j, j < n → f j = f2 j) (ht : tb = tb2) (h : c_BI G f tb tk n) : c_BI G2 f2 tb2 tk n := by
  obtain ⟨h1, h2, h3⟩ := h
  have hm : n % tk ≤ n := Nat.mod_le _ _
  refine ⟨fun j a b => by rw [← hf j b, h1 j a b, hG j b], fun a => ?_, fun j a b => ?_⟩
  · rw [← ht, h2 a]
    exact y_an_c (fun k hk => hG _ (by omega))
  · rw [← hf j (by omega), h3 j a b]
    exact y_an_c (fun k hk => hG _ (by omega))
theorem c_md {n tk : Nat} (h1 : 1 ≤ tk) : (n % tk < tk - 1 → (n + 1) % tk = n % tk + 1) ∧ (¬ n % tk < tk - 1 → (n + 1) % tk = 0 ∧ n % tk + 1 = tk) := by
  have h := Nat.div_add_mod n tk
  have hl := Nat.mod_lt n (show 0 < tk by omega)
  refine ⟨fun a => ?_, fun a => ⟨?_, by omega⟩⟩
  · rw [show n + 1 = (n % tk + 1) + tk * (n / tk) by omega, Nat.add_mul_mod_self_left, Nat.mod_eq_of_lt (by omega)]
  · have e : n + 1 = tk * (n / tk + 1) := by rw [Nat.mul_add, Nat.mul_one]; omega
    rw [e, Nat.mul_mod_right]
theorem c_step {Y : y_D} {G : Nat → Int32} {i n tk : Nat} (h : c_BI G (fun j => (Y 159).1 (i * 301 + j)) ((Y 190).1 i) tk n) (hg : y_g5 Y i n = G n) (ht : 1 ≤ tk) (hn : n < 301) : y_thv Y i n tk = (if tk ≤ n + 1 then y_thf G (G n) (n + 1 - tk) (n - (n + 1 - tk)) else 0) ∧ c_BI G (fun j => ((y_gs Y i n tk) 159).1 (i * 301 + j)) (((y_gs Y i n tk) 190).1 i) tk (n + 1) ∧ ∀ i2, i2 ≠ i → (∀ j, j < 301 → ((y_gs Y i n tk) 159).1 (i2 * 301 + j) = (Y 159).1 (i2 * 301 + j)) ∧ ((y_gs Y i n tk) 190).1 i2 = (Y 190).1 i2 := by
  obtain ⟨h1, h2, h3⟩ := h
  have hm : n % tk ≤ n := Nat.mod_le _ _
  have hl := Nat.mod_lt n (show 0 < tk by omega)
  obtain ⟨m1, m2⟩ := c_md (n := n) ht
  have e6 : y_g6 Y i n tk = y_an G (n - n % tk) (n % tk) := by
    unfold y_g6
    rw [hg]
    by_cases c : n % tk = 0
    · rw [if_pos c, c, Nat.sub_zero]; rfl
    · rw [if_neg c, h2 c]
      obtain ⟨p, hp⟩ : ∃ p, n % tk = p + 1 := ⟨n % tk - 1, by omega⟩
      rw [hp, show p + 1 - 1 = p by omega]
      show _ = y_an G (n - (p + 1)) p &&& G (n - (p + 1) + p + 1)
      rw [show n - (p + 1) + p + 1 = n by omega]
  have a159 : ∀ k, (y_gA Y i n tk 159).1 k = if k = i * 301 + n then G n else (Y 159).1 k := by
    intro k
    unfold y_gA
    rw [y_si_1, y_si_ne (by decide), hg]
  have a190 : ∀ k, (y_gA Y i n tk 190).1 k = if k = i then y_g6 Y i n tk else (Y 190).1 k := by
    intro k
    unfold y_gA
    rw [y_si_ne (by decide), y_si_1]
  by_cases c : n % tk < tk - 1
  · have m := m1 c
    have gs : y_gs Y i n tk = y_gA Y i n tk := if_pos c
    rw [gs]
    refine ⟨?_, ⟨fun j q1 q2 => ?_, fun _ => ?_, fun j q1 q2 => ?_⟩, fun i2 hi => ⟨fun j hj => ?_, ?_⟩⟩
    · unfold y_thv
      rw [if_pos c]
      by_cases c2 : n < tk
      · have : n % tk = n := Nat.mod_eq_of_lt c2
        rw [if_pos c2, if_neg (by omega)]
      · rw [if_neg c2, if_pos (by omega), y_thf_all ht (by omega), e6, a159, if_neg (by omega), show i * 301 + n - tk + 1 = i * 301 + (n + 1 - tk) by omega]
        have := h3 (n + 1 - tk) (by omega) (by omega)
        dsimp only at this
        rw [this, Int32.and_comm]
        have e := y_an_a (g := G) (lo := n + 1 - tk) (a := n - n % tk - 1 - (n + 1 - tk)) (b := n % tk)
        rw [show n + 1 - tk + (n - n % tk - 1 - (n + 1 - tk)) + 1 = n - n % tk by omega, show n - n % tk - 1 - (n + 1 - tk) + 1 + n % tk = tk - 1 by omega] at e
        exact e.symm
    · dsimp only
      rw [a159]
      by_cases q : j = n
      · rw [q, if_pos rfl]
      · rw [if_neg (by omega)]; exact h1 j (by omega) (by omega)
    · rw [a190, if_pos rfl, e6, m, show n + 1 - (n % tk + 1) = n - n % tk by omega, Nat.add_sub_cancel]
    · dsimp only
      rw [a159, if_neg (by omega), m, show n + 1 - (n % tk + 1) = n - n % tk by omega]
      exact h3 j (by omega) (by omega)
    · rw [a159, if_neg (by omega)]
    · rw [a190, if_neg hi]
  · obtain ⟨m, mt⟩ := m2 c
    have gs : y_gs Y i n tk = y_sw (y_gA Y i n tk) 159 (y_sfx (y_gA Y i n tk 159).1 (i * 301 + n) (tk - 1)) := if_neg c
    obtain ⟨s1, s2⟩ := y_sfx_v (f := (y_gA Y i n tk 159).1) (e := i * 301 + n) (tk - 1) (by omega)
    rw [gs]
    refine ⟨?_, ⟨fun j q1 q2 => ?_, fun q => absurd m q, fun j q1 q2 => ?_⟩, fun i2 hi => ⟨fun j hj => ?_, ?_⟩⟩
    · unfold y_thv
      rw [if_neg c, if_pos (by omega), y_thf_all ht (by omega), e6, show n + 1 - tk = n - n % tk by omega, show tk - 1 = n % tk by omega]
    · rw [m] at q1; omega
    · rw [m] at q1 q2 ⊢
      dsimp only
      rw [y_sw_1, s1 _ (by omega) (by omega), show n + 1 - 0 - 1 - j = n - j by omega, show i * 301 + n - (i * 301 + j) = n - j by omega]
      refine y_an_c (fun k hk => ?_)
      rw [a159]
      by_cases q : j + k = n
      · rw [if_pos (by omega), q]
      · rw [if_neg (by omega), Nat.add_assoc]
        exact h1 (j + k) (by omega) (by omega)
    · rw [y_sw_1, s2 _ (by omega), a159, if_neg (by omega)]
    · rw [y_sw_ne (by decide), a190, if_neg hi]
theorem y_fr_0 {f : Int32} : ∀ i, i ≤ 4 → y_fr f 0 i = 0
  | 0, _ => rfl
  | i + 1, hi => by
    show y_fr1 f i (y_fr f 0 i) = 0
    rw [y_fr_0 i (by omega)]
    unfold y_fr1
    split
    · exact (by decide +kernel : ∀ i, i < 4 → ((0 : Int32) &&& y_swl i) ||| (((0 : Int32) &&& (y_swl i ^^^ (-1))) <<< (nI (2 ^ i) &&& 31)) = 0) i (by omega)
    · rfl
def c_th (S : Nat → Int32) (Z : Nat → Nat → Int32) (fr : Nat → Int32) (tk : Nat → Nat) (u : Int32) (x : Nat) : Nat → Int32
  | 0 => y_pt (S x) 4
  | i + 1 => if y_bit u i then c_th S Z fr tk u x i ||| (if tk i ≤ x + 1 then y_fr (fr i) (y_thf (fun j => S j &&& Z i j) (S x &&& Z i x) (x + 1 - tk i) (x - (x + 1 - tk i))) 4 else 0) else c_th S Z fr tk u x i
/-- the sets at a second, when the first n seconds are gone -/
def c_S (A : Nat → Int32) (Z : Nat → Nat → Int32) (fr : Nat → Int32) (tk : Nat → Nat) (u : Int32) (kw : Nat) : Nat → Nat → Int32
  | 0, _ => 1 &&& A 0
  | x + 1, j => if j ≤ x then c_S A Z fr tk u kw x j else c_th (c_S A Z fr tk u kw x) Z fr tk u x kw &&& A (x + 1)
theorem y_thf_c {g g2 : Nat → Int32} : ∀ {c i : Nat} {t : Int32}, (∀ j, i ≤ j → j < i + c → g j = g2 j) → y_thf g t i c = y_thf g2 t i c
  | 0, _, _, _ => rfl
  | c + 1, i, t, h => by
    show y_thf g (t &&& g i) (i + 1) c = y_thf g2 (t &&& g2 i) (i + 1) c
    rw [h i (by omega) (by omega)]
    exact y_thf_c (fun j h1 h2 => h j (by omega) (by omega))
theorem c_th_c {S S2 : Nat → Int32} {Z Z2 : Nat → Nat → Int32} {fr fr2 : Nat → Int32} {tk tk2 : Nat → Nat} {u : Int32} {x kw : Nat} (hS : ∀ j, j ≤ x → S j = S2 j) (hZ : ∀ i, i < kw → y_bit u i → ∀ j, j ≤ x → Z i j = Z2 i j) (hf : ∀ i, i < kw → fr i = fr2 i) (ht : ∀ i, i < kw → tk i = tk2 i) (h1 : ∀ i, i < kw → 1 ≤ tk i) : ∀ i, i ≤ kw → c_th S Z fr tk u x i = c_th S2 Z2 fr2 tk2 u x i
  | 0, _ => by show y_pt (S x) 4 = y_pt (S2 x) 4; rw [hS x (Nat.le_refl _)]
  | i + 1, hi => by
    have ih := c_th_c hS hZ hf ht h1 i (by omega)
    unfold c_th
    rw [ih]
    by_cases b : y_bit u i
    · rw [if_pos b, if_pos b, ← hf i (by omega), ← ht i (by omega)]
      by_cases q : tk i ≤ x + 1
      · rw [if_pos q, if_pos q, hS x (Nat.le_refl _), hZ i (by omega) b x (Nat.le_refl _)]
        have h1i := h1 i (by omega)
        rw [y_thf_c (g2 := fun j => S2 j &&& Z2 i j) (fun j a b2 => by rw [hS j (by omega), hZ i (by omega) b j (by omega)])]
      · rw [if_neg q, if_neg q]
    · rw [if_neg b, if_neg b]
theorem c_S_le {A : Nat → Int32} {Z : Nat → Nat → Int32} {fr : Nat → Int32} {tk : Nat → Nat} {u : Int32} {kw n j : Nat} (h : j ≤ n) : c_S A Z fr tk u kw n j = c_S A Z fr tk u kw j j := by
  induction n with
  | zero => rw [show j = 0 by omega]
  | succ n ih =>
    by_cases c : j ≤ n
    · rw [c_S, if_pos c]; exact ih c
    · rw [show j = n + 1 by omega]
theorem c_S_c {A A2 : Nat → Int32} {Z Z2 : Nat → Nat → Int32} {fr fr2 : Nat → Int32} {tk tk2 : Nat → Nat} {u : Int32} {kw : Nat} (hf : ∀ i, i < kw → fr i = fr2 i) (ht : ∀ i, i < kw → tk i = tk2 i) (h1 : ∀ i, i < kw → 1 ≤ tk i) : ∀ n, (∀ x, x ≤ n → A x = A2 x) → (∀ i, i < kw → y_bit u i → ∀ j, j < n → Z i j = Z2 i j) → ∀ j, c_S A Z fr tk u kw n j = c_S A2 Z2 fr2 tk2 u kw n j
  | 0, hA, _, j => by show 1 &&& A 0 = 1 &&& A2 0; rw [hA 0 (Nat.le_refl _)]
  | n + 1, hA, hZ, j => by
    have ih := c_S_c hf ht h1 n (fun x hx => hA x (by omega)) (fun i hi b j hj => hZ i hi b j (by omega))
    unfold c_S
    rw [ih j, hA (n + 1) (Nat.le_refl _), c_th_c (S2 := c_S A2 Z2 fr2 tk2 u kw n) (Z2 := Z2) (fr2 := fr2) (tk2 := tk2) (fun j _ => ih j) (fun i hi b j hj => hZ i hi b j (by omega)) hf ht h1 kw (Nat.le_refl _)]
/-- what the walk knows behind n seconds -/
def c_WI (D X : y_D) (u : Int32) (kw n : Nat) : Prop := y_ag D X ∧ (∀ j, j ≤ n → (X 161).1 j = c_S (D 160).1 (fun i x => (D 158).1 (i * 301 + x)) (fun i => y_w D i 0) (fun i => (y_w D i 1).toNatClampNeg) u kw n j) ∧ ∀ i, i < kw → y_bit u i → c_BI (fun j => c_S (D 160).1 (fun i x => (D 158).1 (i * 301 + x)) (fun i => y_w D i 0) (fun i => (y_w D i 1).toNatClampNeg) u kw n j &&& (D 158).1 (i * 301 + j)) (fun j => (X 159).1 (i * 301 + j)) ((X 190).1 i) (y_w D i 1).toNatClampNeg n
theorem c_wi {D X : y_D} {L : List Nat} {u : Int32} {kw n : Nat} (hR : y_rq D L 77 6 2) (hkw : kw ≤ 6) (hn : n < 301) (h : c_WI D X u kw n) (h1 : ∀ i, i < kw → 1 ≤ (y_w D i 1).toNatClampNeg) : ∀ i, i ≤ kw → (y_wi X n u i).1 = c_th (c_S (D 160).1 (fun i x => (D 158).1 (i * 301 + x)) (fun i => y_w D i 0) (fun i => (y_w D i 1).toNatClampNeg) u kw n) (fun i x => (D 158).1 (i * 301 + x)) (fun i => y_w D i 0) (fun i => (y_w D i 1).toNatClampNeg) u n i ∧ y_ag D (y_wi X n u i).2 ∧ (y_wi X n u i).2 161 = X 161 ∧ (∀ i2, i2 < kw → y_bit u i2 → c_BI (fun j => c_S (D 160).1 (fun i x => (D 158).1 (i * 301 + x)) (fun i => y_w D i 0) (fun i => (y_w D i 1).toNatClampNeg) u kw n j &&& (D 158).1 (i2 * 301 + j)) (fun j => ((y_wi X n u i).2 159).1 (i2 * 301 + j)) (((y_wi X n u i).2 190).1 i2) (y_w D i2 1).toNatClampNeg (if i2 < i then n + 1 else n)) := by
  intro i
  induction i with
  | zero =>
    intro _
    refine ⟨?_, h.1, rfl, fun i2 hi2 b => by rw [if_neg (by omega)]; exact h.2.2 i2 hi2 b⟩
    show y_pt ((X 161).1 n) 4 = y_pt (c_S _ _ _ _ _ _ n n) 4
    rw [h.2.1 n (Nat.le_refl _)]
  | succ i ih =>
    intro hi
    obtain ⟨i1, i2, i3, i4⟩ := ih (by omega)
    have ew : ∀ c, y_w (y_wi X n u i).2 i c = y_w D i c := fun c => y_ag_w i2 hR (by omega)
    have ew2 : y_w X i 1 = y_w D i 1 := y_ag_w h.1 hR (by omega)
    unfold y_wi c_th
    by_cases b : y_bit u i
    · rw [if_pos b, if_pos b]
      have e161 : ((y_wi X n u i).2 161).1 n = c_S (D 160).1 (fun i x => (D 158).1 (i * 301 + x)) (fun i => y_w D i 0) (fun i => (y_w D i 1).toNatClampNeg) u kw n n := by rw [i3]; exact h.2.1 n (Nat.le_refl _)
      have e158 : (y_wi X n u i).2 158 = D 158 := i2 158 (by decide) (by decide) (by decide)
      have hb := i4 i (by omega) b
      rw [if_neg (Nat.lt_irrefl i)] at hb
      obtain ⟨s1, s2, s3⟩ := c_step hb (by unfold y_g5; rw [e161, e158]) (h1 i (by omega)) hn
      rw [ew2]
      refine ⟨?_, y_ag_gs i2, ?_, fun a ha b2 => ?_⟩
      · rw [i1]
        congr 1
        unfold K_freed
        rw [ew 0, s1]
        by_cases q : (y_w D i 1).toNatClampNeg ≤ n + 1
        · rw [if_pos q, if_pos q]
          split
          · next z => rw [z, y_fr_0 4 (Nat.le_refl _)]
          · rfl
        · rw [if_neg q, if_neg q, if_pos rfl]
      · show y_gs (y_wi X n u i).2 i n _ 161 = X 161
        rw [y_gs_ne (by decide) (by decide)]
        exact i3
      · by_cases q : a = i
        · rw [q, if_pos (Nat.lt_succ_self i)]
          exact s2
        · obtain ⟨t1, t2⟩ := s3 a q
          have z := i4 a ha b2
          rw [show (if a < i + 1 then n + 1 else n) = if a < i then n + 1 else n by
            by_cases c : a < i
            · rw [if_pos c, if_pos (by omega)]
            · rw [if_neg c, if_neg (by omega)]]
          refine c_BI_c (fun _ _ => rfl) (fun j hj => ?_) t2.symm z
          refine (t1 j ?_).symm
          split at hj <;> omega
    · rw [if_neg b, if_neg b]
      refine ⟨i1, i2, i3, fun a ha b2 => ?_⟩
      have q : a ≠ i := fun q => by rw [q] at b2; exact absurd b2 b
      have z := i4 a ha b2
      rw [show (if a < i + 1 then n + 1 else n) = if a < i then n + 1 else n by
        by_cases c : a < i
        · rw [if_pos c, if_pos (by omega)]
        · rw [if_neg c, if_neg (by omega)]]
      exact z
theorem c_wo {D : y_D} {L : List Nat} {u : Int32} {kw : Nat} (hR : y_rq D L 77 6 2) (hkw : kw ≤ 6) (h1 : ∀ i, i < kw → 1 ≤ (y_w D i 1).toNatClampNeg) : ∀ n, n < 301 → c_WI D (y_wo D u kw n) u kw n
  | 0, _ => by
    refine ⟨y_wo_ag, fun j hj => ?_, fun i hi b => ⟨fun j _ hj => absurd hj (by omega), fun q => absurd (Nat.zero_mod _) q, fun j _ hj => absurd hj (by omega)⟩⟩
    show (y_si D 161 0 (1 &&& (D 160).1 0) 161).1 j = 1 &&& (D 160).1 0
    rw [y_si_1, if_pos (by omega)]
  | n + 1, hn => by
    have h := c_wo (u := u) hR hkw h1 n (by omega)
    obtain ⟨i1, i2, i3, i4⟩ := c_wi hR hkw (by omega) h h1 kw (Nat.le_refl _)
    refine ⟨y_wo_ag, fun j hj => ?_, fun i hi b => ?_⟩
    · show (y_si (y_wi (y_wo D u kw n) n u kw).2 161 (n + 1) _ 161).1 j = _
      rw [y_si_1, c_S]
      by_cases q : j = n + 1
      · rw [if_pos q, if_neg (by omega), i1, i2 160 (by decide) (by decide) (by decide)]
      · rw [if_neg q, if_pos (by omega), i3]; exact h.2.1 j (by omega)
    · have z := i4 i hi b
      rw [if_pos hi] at z
      refine c_BI_c (fun j hj => ?_) (fun j hj => ?_) ?_ z
      · rw [c_S, if_pos (by omega)]
      · show _ = (y_si (y_wi (y_wo D u kw n) n u kw).2 161 (n + 1) _ 159).1 (i * 301 + j)
        rw [y_si_ne (by decide)]
      · show _ = (y_si (y_wi (y_wo D u kw n) n u kw).2 161 (n + 1) _ 190).1 i
        rw [y_si_ne (by decide)]
/-! ===== canEver ===== -/
def c_or (S : Nat → Int32) : Nat → Int32
  | 0 => 0
  | x + 1 => c_or S x ||| S x
/-- X is as the LINES say, as far as they are told there -/
def c_G (pg : Int32 → Nat → Int32) (X : y_D) (T : Nat → Int32) (wo : Int32) (i : Nat) : Prop := (X 152).1 0 = nI (s_last (c_p T) (c_a T) wo i) ∧ (∀ s, s < 301 → (X 153).1 s = s_lit (c_p T) (c_a T) (c_b T) wo s i) ∧ (X 152).1 1 = m_bys (fun l => s_by 0 (c_p T) (c_a T) (c_b T) wo l i) 4 ∧ (X 152).1 2 = m_bys (fun l => s_by 1 (c_p T) (c_a T) (c_b T) wo l i) 4 ∧ (∀ l, l < 4 → (X 154).1 l = pg (s_by 0 (c_p T) (c_a T) (c_b T) wo l i) 0) ∧ (∀ l, l < 4 → (X 155).1 l = pg (s_by 0 (c_p T) (c_a T) (c_b T) wo l i) 1) ∧ ∀ l, l < 4 → (X 156).1 l = if s_by 1 (c_p T) (c_a T) (c_b T) wo l i < 0 then 99 else s_by 1 (c_p T) (c_a T) (c_b T) wo l i
theorem c_F_G {D X : y_D} {T : Nat → Int32} {wo : Int32} {kp i : Nat} (h : c_F D X T wo kp i) : c_G (c_per D kp) X T wo i := h.2.2
/-- the sets at the seconds, by a RULE settled and WAYS -/
abbrev k_SS (D DS : y_D) (t : Nat) (wo u hl : Int32) (A : Nat → Int32) (n : Nat) : Nat → Int32 := c_S A (k_Z D DS hl) (fun i => (D (k_wh D i)).1 0) (fun i => q_n (D (k_wh D i)).1 1) u (q_n (D 73).1 4) n
/-- all sets that can be free at some second -/
def k_Ev (D : y_D) (t : Nat) (u hl v : Int32) : Prop := ∃ DS, c_G (c_per D (q_n (D 74).1 2)) DS (k_rt D t) (-1) (k_rm D t) ∧ v = c_or (k_SS D DS t (-1) u hl (y_al DS (k_last D t (-1))) (k_last D t (-1))) (k_last D t (-1) + 1)
/-- what is remembered is so -/
def k_CI (D : y_D) : Prop := ∀ t, t < 4 → ∀ us, us < 64 → ∀ h, h < 2 → (D 162).1 ((t * 64 + us) * 2 + h) = 0 ∨ (t < q_n (D 73).1 2 ∧ us < 2 ^ q_n (D 73).1 4 ∧ k_Ev D t (nI us) (nI h) ((D 162).1 ((t * 64 + us) * 2 + h)))
/-- the rows that the Course writes are others -/
def k_same (D D2 : y_D) : Prop := (∀ j, j ∉ [152, 153, 154, 155, 156, 157, 158, 159, 160, 161, 162, 190] → D2 j = D j) ∧ True
theorem k_same_r {D : y_D} : k_same D D := ⟨fun _ _ => rfl, trivial⟩
theorem k_same_t {D D2 D3 : y_D} (a : k_same D D2) (b : k_same D2 D3) : k_same D D3 := ⟨fun j hj => by rw [b.1 j hj, a.1 j hj], trivial⟩
theorem k_same_s {D D2 : y_D} {h k : Nat} {v : Int32} (a : k_same D D2) (hh : h ∈ [152, 153, 154, 155, 156, 157, 158, 159, 160, 161, 162, 190]) : k_same D (y_si D2 h k v) := ⟨fun j hj => by rw [y_si_ne (fun q => hj (by rw [q]; exact hh)), a.1 j hj], trivial⟩
theorem k_same_dh {D D2 : y_D} (h : k_same D D2) {r : Nat} (hr : y_dh r) : D2 r = D r := h.1 r (y_dh_ne hr).2.2
theorem k_RU_same {D D2 : y_D} {L : List Nat} {t : Nat} (h : k_same D D2) (hR : k_RU D L t) : k_rh D2 t = k_rh D t ∧ k_rr D2 t = k_rr D t ∧ D2 (k_rh D t) = D (k_rh D t) ∧ D2 (k_rr D t) = D (k_rr D t) := by
  have e0 : k_rh D2 t = k_rh D t := by unfold k_rh; rw [h.1 76 (by decide)]
  have e1 := k_same_dh h hR.2.2.1
  have e2 : k_rr D2 t = k_rr D t := by unfold k_rr; rw [e0, e1]
  exact ⟨e0, e2, e1, k_same_dh h hR.2.2.2.2.2.2.1⟩
theorem k_WA_same {D D2 : y_D} {L : List Nat} {t : Nat} (h : k_same D D2) (hR : k_WA D L t) : k_wh D2 t = k_wh D t ∧ k_wr D2 t = k_wr D t ∧ D2 (k_wh D t) = D (k_wh D t) ∧ D2 (k_wr D t) = D (k_wr D t) := by
  have e0 : k_wh D2 t = k_wh D t := by unfold k_wh; rw [h.1 77 (by decide)]
  have e1 := k_same_dh h hR.2.2.1
  have e2 : k_wr D2 t = k_wr D t := by unfold k_wr; rw [e0, e1]
  exact ⟨e0, e2, e1, k_same_dh h hR.2.2.2.2.2.2.1⟩
theorem k_B_same {D D2 : y_D} {L : List Nat} (h : k_same D D2) (hB : k_B D L) : k_B D2 L := by
  obtain ⟨b1, b2, b3, b4, b5, b6, b7, b8, b9, b10⟩ := hB
  refine ⟨?_, ?_, ?_, ?_, ?_, fun i hi => ?_, fun i hi => ?_, ?_, ?_, ?_⟩
  · rw [h.1 73 (by decide)]; exact b1
  · rw [h.1 73 (by decide)]; exact b2
  · rw [h.1 74 (by decide)]; exact b3
  · rw [h.1 78 (by decide)]; exact b4
  · rw [h.1 80 (by decide)]; exact b5
  · obtain ⟨e1, e2, e3, e4⟩ := k_RU_same h (b6 i hi)
    have := b6 i hi
    unfold k_RU k_rt k_rm at this ⊢
    rw [e1, e2, e3, e4, h.1 76 (by decide)]
    exact this
  · obtain ⟨e1, e2, e3, e4⟩ := k_WA_same h (b7 i hi)
    have := b7 i hi
    unfold k_WA k_wt k_wl at this ⊢
    rw [e1, e2, e3, e4, h.1 77 (by decide)]
    exact this
  · rw [h.1 80 (by decide), h.1 81 (by decide)]; exact b8
  · rw [h.1 74 (by decide), h.1 75 (by decide)]; exact b9
  · rw [h.1 78 (by decide), h.1 79 (by decide)]; exact b10
theorem k_th2 {D D2 : y_D} {L : List Nat} (h : k_same D D2) (hB : k_B D L) : ∀ th c, c < 2 → ∃ a, a ≤ 2 ∧ y_tg D2 (q_n (D 78).1 2) th c = nI a := by
  have z := k_th (k_B_same h hB)
  rw [h.1 78 (by decide)] at z
  exact z
theorem k_last_same {D D2 : y_D} {L : List Nat} {t : Nat} {wo : Int32} (h : k_same D D2) (hR : k_RU D L t) : k_last D2 t wo = k_last D t wo := by
  obtain ⟨e1, e2, e3, e4⟩ := k_RU_same h hR
  unfold k_last k_rt k_rm
  rw [e2, e4]
theorem k_Z_same {D D2 DS : y_D} {L : List Nat} {i : Nat} (h : k_same D D2) (hR : k_WA D L i) : ∀ hl x, k_Z D2 DS hl i x = k_Z D DS hl i x := by
  intro hl x
  obtain ⟨e1, e2, e3, e4⟩ := k_WA_same h hR
  unfold k_Z k_chg k_wt k_wl
  rw [e1, e2, e3, e4]
theorem k_SS_same {D D2 DS : y_D} {L : List Nat} {t n : Nat} {wo u hl : Int32} {A : Nat → Int32} (h : k_same D D2) (hB : k_B D L) : ∀ j, k_SS D2 DS t wo u hl A n j = k_SS D DS t wo u hl A n j := by
  intro j
  unfold k_SS
  rw [h.1 73 (by decide)]
  have hk := hB.2.1.2
  have hw : ∀ i, i < q_n (D 73).1 4 → k_WA D L i := fun i hi => hB.2.2.2.2.2.2.1 i (by omega)
  refine c_S_c (fun i hi => ?_) (fun i hi => ?_) (fun i hi => ?_) n (fun x _ => rfl) (fun i hi b j hj => ?_) j
  · obtain ⟨e1, e2, e3, e4⟩ := k_WA_same h (hw i hi); rw [e1, e3]
  · obtain ⟨e1, e2, e3, e4⟩ := k_WA_same h (hw i hi); rw [e1, e3]
  · obtain ⟨e1, e2, e3, e4⟩ := k_WA_same h (hw i hi); rw [e1, e3]; exact (hw i hi).2.2.2.2.2.2.2.2.2.2.2.2.2.1
  · exact k_Z_same h (hw i hi) hl j
theorem c_or_c {S S2 : Nat → Int32} : ∀ {n}, (∀ x, x < n → S x = S2 x) → c_or S n = c_or S2 n
  | 0, _ => rfl
  | n + 1, h => by unfold c_or; rw [h n (by omega), c_or_c (fun x hx => h x (by omega))]
theorem c_per_same {D D2 : y_D} (h : k_same D D2) : c_per D2 (q_n (D2 74).1 2) = c_per D (q_n (D 74).1 2) := by
  funext x c
  unfold c_per y_pg
  rw [h.1 74 (by decide), h.1 75 (by decide)]
theorem k_Ev_same {D D2 : y_D} {L : List Nat} {t : Nat} {u hl v : Int32} (h : k_same D D2) (hB : k_B D L) (ht : t < 4) (a : k_Ev D t u hl v) : k_Ev D2 t u hl v := by
  obtain ⟨DS, h1, h2⟩ := a
  have hR := hB.2.2.2.2.2.1 t ht
  obtain ⟨e1, e2, e3, e4⟩ := k_RU_same h hR
  have el := k_last_same (wo := -1) h hR
  refine ⟨DS, ?_, ?_⟩
  · rw [c_per_same h]
    unfold k_rt k_rm at h1 ⊢
    rw [e2, e4]
    exact h1
  · rw [h2, el]
    exact c_or_c (fun x hx => (k_SS_same (t := t) (wo := -1) h hB x).symm)
theorem k_CI_same {D D2 : y_D} {L : List Nat} (h : k_same D D2) (h2 : D2 162 = D 162) (hB : k_B D L) (a : k_CI D) : k_CI D2 := by
  unfold k_CI at a ⊢
  rw [h2, h.1 73 (by decide)]
  intro t ht us hus hh hh2
  have := hB.1.2
  rcases a t ht us hus hh hh2 with q | ⟨q1, q2, q⟩
  · exact Or.inl q
  · exact Or.inr ⟨q1, q2, k_Ev_same h hB (by omega) q⟩
theorem k_same_ag {D D2 D3 : y_D} (a : k_same D D2) (b : y_ag D2 D3) : k_same D D3 := by
  refine ⟨fun j hj => ?_, trivial⟩
  rw [b j (fun q => hj (by rw [q]; decide)) (fun q => hj (by rw [q]; decide)) (fun q => hj (by rw [q]; decide)), a.1 j hj]
theorem y_gs_2 {D : y_D} {m x tk j : Nat} : ((y_gs D m x tk) j).2 = (D j).2 := by
  have hA : ∀ j, (y_gA D m x tk j).2 = (D j).2 := by
    intro j
    unfold y_gA
    by_cases c : j = 159
    · rw [c, y_si_2, y_si_ne (by decide)]
    · rw [y_si_ne c]
      by_cases c2 : j = 190
      · rw [c2, y_si_2]
      · rw [y_si_ne c2]
  unfold y_gs
  split
  · exact hA j
  · by_cases c : j = 159
    · rw [c, y_sw_2, hA]
    · rw [y_sw_ne c, hA]
theorem y_wi_2 {D8 : y_D} {x : Nat} {u : Int32} : ∀ {i : Nat} (j : Nat), ((y_wi D8 x u i).2 j).2 = (D8 j).2
  | 0, _ => rfl
  | i + 1, j => by
    unfold y_wi
    split
    · show (y_gs _ i x _ j).2 = _
      rw [y_gs_2, y_wi_2]
    · exact y_wi_2 j
theorem y_wo_2 {D : y_D} {u : Int32} {kw : Nat} : ∀ {n : Nat} (j : Nat), ((y_wo D u kw n) j).2 = (D j).2
  | 0, j => by
    show (y_si D 161 0 _ j).2 = _
    by_cases c : j = 161
    · rw [c, y_si_2]
    · rw [y_si_ne c]
  | n + 1, j => by
    show (y_si (y_wi _ n u kw).2 161 _ _ j).2 = _
    by_cases c : j = 161
    · rw [c, y_si_2, y_wi_2, y_wo_2]
    · rw [y_si_ne c, y_wi_2, y_wo_2]
/-- behind prepare -/
theorem k_PR_same {D DS D2 : y_D} {t : Nat} {wo u hl : Int32} (h : k_PR D DS D2 t wo u hl) : k_same D D2 := by
  obtain ⟨hF, fx, -⟩ := h
  refine ⟨fun j hj => ?_, trivial⟩
  simp only [List.mem_cons, List.not_mem_nil, or_false, not_or] at hj
  rw [fx.1 j (by simp only [List.mem_cons, List.not_mem_nil, or_false]; omega), hF.1 j (by omega)]
theorem k_PR_162 {D DS D2 : y_D} {t : Nat} {wo u hl : Int32} (h : k_PR D DS D2 t wo u hl) : D2 162 = D 162 := by rw [h.2.1.1 162 (by decide), h.1.1 162 (by decide)]
/-- behind prepare and walk -/
theorem k_PR_walk {D DS D2 : y_D} {L : List Nat} {t : Nat} {wo u hl : Int32} {A : Nat → Int32} (hB : k_B D L) (ht : t < 4) (h : k_PR D DS D2 t wo u hl) (D3 : y_D) (h3 : ∀ j, j ≠ 160 → D3 j = D2 j) (hA : ∀ x, x ≤ k_last D t wo → (D3 160).1 x = A x) (u2 : Int32) (hu : ∀ i, i < q_n (D 73).1 4 → y_bit u2 i → y_bit u i) : k_same D (y_wo D3 u2 (q_n (D 73).1 4) (k_last D t wo)) ∧ ∀ x, x ≤ k_last D t wo → ((y_wo D3 u2 (q_n (D 73).1 4) (k_last D t wo)) 161).1 x = k_SS D DS t wo u2 hl A (k_last D t wo) x := by
  have sm := k_PR_same h
  have sm3 : k_same D D3 := by
    refine ⟨fun j hj => ?_, trivial⟩
    rw [h3 j (fun q => hj (by rw [q]; decide)), sm.1 j hj]
  have hB3 := k_B_same sm3 hB
  have hk := hB.2.1.2
  have hw : ∀ i, i < q_n (D 73).1 4 → k_WA D L i := fun i hi => hB.2.2.2.2.2.2.1 i (by omega)
  have hyw : ∀ i, i < q_n (D 73).1 4 → ∀ c, y_w D3 i c = (D (k_wh D i)).1 c := fun i hi c => by
    rw [k_w_eq (hB3.2.2.2.2.2.2.1 i (by omega))]
    obtain ⟨e1, e2, e3, e4⟩ := k_WA_same sm3 (hw i hi)
    rw [e1, e3]
  have ht1 : ∀ i, i < q_n (D 73).1 4 → 1 ≤ (y_w D3 i 1).toNatClampNeg := fun i hi => by rw [hyw i hi]; exact (hw i hi).2.2.2.2.2.2.2.2.2.2.2.2.2.1
  have hl3 : k_last D t wo ≤ 300 := k_last_b (hB.2.2.2.2.2.1 t ht)
  have hc := c_wo (u := u2) (k_B_rq hB3) hk ht1 (k_last D t wo) (by omega)
  refine ⟨k_same_ag sm3 hc.1, fun x hx => ?_⟩
  rw [hc.2.1 x hx]
  refine c_S_c (fun i hi => hyw i hi 0) (fun i hi => by rw [hyw i hi]; rfl) ht1 _ hA (fun i hi b j hj => ?_) x
  show (D3 158).1 (i * 301 + j) = _
  rw [h3 158 (by decide)]
  exact h.2.2.2 i hi (hu i hi b) j hj
theorem k_sf_same {D D2 : y_D} {L : List Nat} {kt th : Nat} {u : Int32} (h : k_same D D2) (hB : k_B D L) : K_setsFor D2 kt th (q_n (D 73).1 4) u = K_setsFor D kt th (q_n (D 73).1 4) u := by
  have hk := hB.2.1.2
  have e : ∀ i, i ≤ q_n (D 73).1 4 → y_gr D2 u i = y_gr D u i := by
    intro i
    induction i with
    | zero => intro _; rfl
    | succ i ih =>
      intro hi
      have hw := hB.2.2.2.2.2.2.1 i (by omega)
      have ew : y_w D2 i 2 = y_w D i 2 := by
        rw [k_w_eq ((k_B_same h hB).2.2.2.2.2.2.1 i (by omega)), k_w_eq hw]
        obtain ⟨e1, e2, e3, e4⟩ := k_WA_same h hw
        rw [e1, e3]
      show y_gr1 D2 u i (y_gr D2 u i) = y_gr1 D u i (y_gr D u i)
      unfold y_gr1
      rw [ew, ih (by omega)]
  unfold K_setsFor y_tg
  rw [e _ (Nat.le_refl _), h.1 79 (by decide)]
theorem y_mask {k : Nat} (hk : k ≤ 6) (u : Int32) : ∃ us, us < 2 ^ k ∧ u &&& (nI (2 ^ k) - 1) = nI us := by
  refine pk_andE u k ?_
  rcases (show k = 0 ∨ k = 1 ∨ k = 2 ∨ k = 3 ∨ k = 4 ∨ k = 5 ∨ k = 6 by omega) with rfl | rfl | rfl | rfl | rfl | rfl | rfl <;> rfl
theorem k_canEver0 {V : x_E} {n : Nat} {L : List Nat} {D : y_D} (hV : y_V V) {t th : Nat} {u : Int32} (hL : y_ok L) (hB : k_B D L) (hCI : k_CI D) (ht : t < q_n (D 73).1 2) (hth : th < 2 ^ 31) : y_Ri V yX1_canEver cX1_canEver 8 (some .boolean) 4 [.ref 151, .int (nI t), .int u, .int 0, .int (nI th)] n L D (fun r D2 => (k_same D D2 ∧ k_CI D2) ∧ ∃ v, k_Ev D t (u &&& (nI (2 ^ q_n (D 73).1 4) - 1)) (nI 0) v ∧ y_is r (v &&& K_setsFor D (q_n (D 78).1 2) th (q_n (D 73).1 4) (u &&& (nI (2 ^ q_n (D 73).1 4) - 1)) ≠ 0)) := by
  refine y_ri (by decide) (Nat.le_of_ble_eq_true rfl) (fun E hE => ?_)
  change E 0 0 0 [(0, .ref 151), (1, .int (nI t)), (2, .int u), (3, .int 0), (4, .int (nI th))] [] (y_mk n L D)
  have hr4 : q_n (D 73).1 2 ≤ 4 := hB.1.2
  have hkw6 : q_n (D 73).1 4 ≤ 6 := hB.2.1.2
  have hp6 : 2 ^ q_n (D 73).1 4 ≤ 2 ^ 6 := Nat.pow_le_pow_right (by decide) hkw6
  have hp7 : (2 : Nat) ^ 6 = 64 := rfl
  have hk3 : k_last D t (-1) ≤ 300 := k_last_b (hB.2.2.2.2.2.1 t (by omega))
  obtain ⟨us, hus, eus⟩ := y_mask hkw6 u
  rw [eus] at hE
  refine r_iload_n hE dX1_canEver_0 rfl ?_
  refine r_aload_n hE dX1_canEver_1 rfl ?_
  refine t_getr hE f_X1_37 y_R_151_0 dX1_canEver_2 (hL 151 (by decide)) ?_
  refine t_invv (r := (some (.int (nI (2 ^ q_n (D 73).1 4) - 1)))) (S2 := (y_mk n L D)) hE [] (k_allWays hV hL hB.2.1.1 hB.2.1.2) v_yX0_allWays m_X1_140 dX1_canEver_5 rfl (hL 73 (by decide)) (y_l_73 (D 73)) rfl (by decide) ⟨Nat.le_refl _, Nat.le_refl _⟩ (Nat.le_of_ble_eq_true rfl) ?_
  show E 0 0 8 [(0, .ref 151), (1, .int (nI t)), (2, .int u), (3, .int 0), (4, .int (nI th))] [.int (nI (2 ^ q_n (D 73).1 4) - 1), .int u] (y_mk n L D)
  refine r_iand hE dX1_canEver_8 ?_
  refine r_top (y := (nI us)) eus ?_
  refine r_istore (ls2 := [(0, .ref 151), (1, .int (nI t)), (2, .int u), (3, .int 0), (4, .int (nI th)), (5, .int (nI us))]) hE dX1_canEver_9 (by decide) rfl ?_
  refine r_iload_n hE dX1_canEver_11 rfl ?_
  refine r_bipush (v := 64) hE dX1_canEver_12 (by decide) ?_
  refine r_imulN (a := t) (b := 64) hE dX1_canEver_14 ?_
  refine r_iload hE dX1_canEver_15 rfl ?_
  refine r_iaddN (a := t * 64) (b := us) hE dX1_canEver_17 ?_
  refine r_iconst (v := 2) hE dX1_canEver_18 (by decide) ?_
  refine r_imulN (a := (t * 64) + us) (b := 2) hE dX1_canEver_19 ?_
  refine r_iload_n hE dX1_canEver_20 rfl ?_
  refine r_if_eq (tgt := 28) hE dX1_canEver_21 (by decide) (fun _ => ?_) (fun c21 => by first | exact absurd c21 (by decide) | exact absurd (by decide) c21)
  refine r_iconst (v := 0) hE dX1_canEver_28 (by decide) ?_
  refine r_iaddN (a := ((t * 64) + us) * 2) (b := 0) hE dX1_canEver_29 ?_
  refine r_istore (ls2 := [(0, .ref 151), (1, .int (nI t)), (2, .int u), (3, .int 0), (4, .int (nI th)), (5, .int (nI us)), (6, .int (nI ((((t * 64) + us) * 2) + 0)))]) hE dX1_canEver_30 (by decide) rfl ?_
  refine r_aload_n hE dX1_canEver_32 rfl ?_
  refine t_getr hE f_X1_34 y_R_151_7 dX1_canEver_33 (hL 151 (by decide)) ?_
  refine r_iload hE dX1_canEver_36 rfl ?_
  refine t_ialdN (e := (((t * 64) + us) * 2) + 0) hE y_A_162 dX1_canEver_38 (hL 162 (by decide)) (by omega) (by decide) ?_
  refine r_if_ne (tgt := 95) hE dX1_canEver_39 (by decide) (fun c39 => ?_) (fun c39 => ?_)
  · refine r_aload_n hE dX1_canEver_95 rfl ?_
    refine t_getr hE f_X1_34 y_R_151_7 dX1_canEver_96 (hL 151 (by decide)) ?_
    refine r_iload hE dX1_canEver_99 rfl ?_
    refine t_ialdN (e := (((t * 64) + us) * 2) + 0) hE y_A_162 dX1_canEver_101 (hL 162 (by decide)) (by omega) (by decide) ?_
    refine r_aload_n hE dX1_canEver_102 rfl ?_
    refine t_getr hE f_X1_37 y_R_151_0 dX1_canEver_103 (hL 151 (by decide)) ?_
    refine r_iload hE dX1_canEver_106 rfl ?_
    refine r_iload hE dX1_canEver_108 rfl ?_
    refine t_invv (r := (some (.int (K_setsFor D (q_n (D 78).1 2) th (q_n (D 73).1 4) (nI us))))) (S2 := (y_mk n L D)) hE [.int (nI th), .int (nI us)] (k_setsFor (D := D) (u := nI us) (th := th) (k := q_n (D 73).1 4) (kt := q_n (D 78).1 2) hV hL hB.2.1.1 hB.2.1.2 (k_B_rq hB) hB.2.2.2.1.1.1 hB.2.2.2.1.2 hB.2.2.2.1.1.2 (by omega) (k_th hB th 0 (by decide)) (k_th hB th 1 (by decide))) v_yX0_setsFor m_X1_104 dX1_canEver_110 rfl (hL 73 (by decide)) (y_l_73 (D 73)) rfl (by decide) ⟨Nat.le_refl _, Nat.le_refl _⟩ (Nat.le_of_ble_eq_true rfl) ?_
    show E 0 0 113 [(0, .ref 151), (1, .int (nI t)), (2, .int u), (3, .int 0), (4, .int (nI th)), (5, .int (nI us)), (6, .int (nI ((((t * 64) + us) * 2) + 0)))] [.int (K_setsFor D (q_n (D 78).1 2) th (q_n (D 73).1 4) (nI us)), .int ((D 162).1 ((((t * 64) + us) * 2) + 0))] (y_mk n L D)
    refine r_iand hE dX1_canEver_113 ?_
    refine r_if_eq (tgt := 121) hE dX1_canEver_114 (by decide) (fun c114 => ?_) (fun c114 => ?_)
    · refine r_iconst (v := 0) hE dX1_canEver_121 (by decide) ?_
      refine r_ireturn hE dX1_canEver_122 rfl (by decide) (Nat.zero_le _) (Nat.zero_le _) ?_
      have v0 : ¬ (D 162).1 ((t * 64 + us) * 2 + 0) = 0 := c39
      have hev : k_Ev D t (nI us) (nI 0) ((D 162).1 ((t * 64 + us) * 2 + 0)) := ((hCI t (by omega) us (by omega) 0 (by decide)).resolve_left v0).2.2
      refine ⟨_, _, rfl, rfl, ⟨k_same_r, hCI⟩, _, hev, ?_⟩
      first
      | exact Or.inl ⟨rfl, c114⟩
      | exact Or.inr ⟨rfl, fun q => q c114⟩
    · refine r_iconst (v := 1) hE dX1_canEver_117 (by decide) ?_
      refine r_goto (tgt := 122) hE dX1_canEver_118 (by decide) ?_
      refine r_ireturn hE dX1_canEver_122 rfl (by decide) (Nat.zero_le _) (Nat.zero_le _) ?_
      have v0 : ¬ (D 162).1 ((t * 64 + us) * 2 + 0) = 0 := c39
      have hev : k_Ev D t (nI us) (nI 0) ((D 162).1 ((t * 64 + us) * 2 + 0)) := ((hCI t (by omega) us (by omega) 0 (by decide)).resolve_left v0).2.2
      refine ⟨_, _, rfl, rfl, ⟨k_same_r, hCI⟩, _, hev, ?_⟩
      first
      | exact Or.inl ⟨rfl, c114⟩
      | exact Or.inr ⟨rfl, fun q => q c114⟩
  · refine r_aload_n hE dX1_canEver_42 rfl ?_
    refine r_iload_n hE dX1_canEver_43 rfl ?_
    refine r_iconst (v := (-1)) hE dX1_canEver_44 (by decide) ?_
    refine r_iload hE dX1_canEver_45 rfl ?_
    refine r_iload_n hE dX1_canEver_47 rfl ?_
    refine t_invvRv hE [.int (nI t), .int (-1), .int (nI us), .int 0] (k_prepare (t := t) (wo := (-1)) (u := nI us) (hl := 0) hV hL hB (by omega)) v_yX1_prepare m_X1_143 dX1_canEver_48 rfl (hL 151 (by decide)) (y_l_151 (D 151)) rfl (by decide) ⟨Nat.le_refl _, Nat.le_refl _⟩ (Nat.le_of_ble_eq_true rfl) (fun D1 q1 => ?_)
    obtain ⟨DS, q1⟩ := q1
    have sm1 := k_PR_same q1
    have hB1 := k_B_same sm1 hB
    show E 0 0 51 [(0, .ref 151), (1, .int (nI t)), (2, .int u), (3, .int 0), (4, .int (nI th)), (5, .int (nI us)), (6, .int (nI ((((t * 64) + us) * 2) + 0)))] [] (y_mk n L D1)
    refine r_aload_n hE dX1_canEver_51 rfl ?_
    refine r_iload hE dX1_canEver_52 rfl ?_
    refine t_invv (r := none) (S2 := (y_mk n L (y_wo D1 (nI us) (q_n (D 73).1 4) (k_last D t (-1))))) hE [.int (nI us)] (k_walk (D := D1) (u := nI us) (k := k_last D t (-1)) (kw := q_n (D 73).1 4) hV hL (by rw [q1.2.1.1 152 (by decide)]; exact q1.1.2.2.1) hk3 (by rw [sm1.1 73 (by decide)]; exact hB.2.1.1) hB.2.1.2 (k_B_rq hB1) (fun i hi => ⟨_, by rw [k_w_eq (hB1.2.2.2.2.2.2.1 i (by omega))]; exact (hB1.2.2.2.2.2.2.1 i (by omega)).2.2.2.2.2.2.2.2.2.2.2.2.1.1, (hB1.2.2.2.2.2.2.1 i (by omega)).2.2.2.2.2.2.2.2.2.2.2.2.2.1, Nat.lt_of_le_of_lt (hB1.2.2.2.2.2.2.1 i (by omega)).2.2.2.2.2.2.2.2.2.2.2.2.1.2 (by decide)⟩)) v_yX1_walk m_X1_107 dX1_canEver_54 rfl (hL 151 (by decide)) (y_l_151 (D1 151)) rfl (by decide) ⟨Nat.le_refl _, Nat.le_refl _⟩ (Nat.le_of_ble_eq_true rfl) ?_
    show E 0 0 57 [(0, .ref 151), (1, .int (nI t)), (2, .int u), (3, .int 0), (4, .int (nI th)), (5, .int (nI us)), (6, .int (nI ((((t * 64) + us) * 2) + 0)))] [] (y_mk n L (y_wo D1 (nI us) (q_n (D 73).1 4) (k_last D t (-1))))
    obtain ⟨D2, hD2⟩ : ∃ z, z = y_wo D1 (nI us) (q_n (D 73).1 4) (k_last D t (-1)) := ⟨_, rfl⟩
    rw [← hD2]
    obtain ⟨sm2, hS⟩ := k_PR_walk (A := y_al DS (k_last D t (-1))) hB (by omega) q1 D1 (fun j _ => rfl) q1.2.2.1 (nI us) (fun i _ b => b)
    rw [← hD2] at sm2 hS
    have e162 : D2 162 = D 162 := by rw [hD2, y_wo_ag 162 (by decide) (by decide) (by decide), k_PR_162 q1]
    have e152 : (D2 152).1 0 = nI (k_last D t (-1)) := by rw [hD2, y_wo_ag 152 (by decide) (by decide) (by decide), q1.2.1.1 152 (by decide)]; exact q1.1.2.2.1
    have q8 := c_F_G q1.1
    refine r_iconst (v := 0) hE dX1_canEver_57 (by decide) ?_
    refine r_istore (ls2 := [(0, .ref 151), (1, .int (nI t)), (2, .int u), (3, .int 0), (4, .int (nI th)), (5, .int (nI us)), (6, .int (nI ((((t * 64) + us) * 2) + 0))), (7, .int 0)]) hE dX1_canEver_58 (by decide) rfl ?_
    have lp : ∀ (x : Nat) (D8 : y_D), x ≤ k_last D t (-1) + 1 → k_same D D8 → D8 152 = D2 152 → D8 161 = D2 161 → (D8 162).1 ((t * 64 + us) * 2 + 0) = c_or (k_SS D DS t (-1) (nI us) 0 (y_al DS (k_last D t (-1))) (k_last D t (-1))) x → (∀ k, k ≠ (t * 64 + us) * 2 + 0 → (D8 162).1 k = (D 162).1 k) → E 0 0 60 [(0, .ref 151), (1, .int (nI t)), (2, .int u), (3, .int 0), (4, .int (nI th)), (5, .int (nI us)), (6, .int (nI ((t * 64 + us) * 2 + 0))), (7, .int (nI x))] [] (y_mk n L D8) := by
      intro x D8
      induction hm9 : (k_last D t (-1) + 1 - x) using Nat.strongRecOn generalizing x D8 with
      | _ m9 ih =>
        intro hx sm8 h52 h61 hv ho
        subst hm9
        refine r_iload hE dX1_canEver_60 rfl ?_
        refine r_aload_n hE dX1_canEver_62 rfl ?_
        refine t_getr hE f_X1_12 y_R_151_1 dX1_canEver_63 (hL 151 (by decide)) ?_
        refine t_geti hE f_X1_82 y_I_152_0 dX1_canEver_66 (hL 152 (by decide)) ?_
        refine r_top (y := (nI (k_last D t (-1)))) (by rw [h52]; exact e152) ?_
        refine r_icmp_gtN (a := x) (b := k_last D t (-1)) (tgt := 95) hE dX1_canEver_69 (by decide) (by omega) (by omega) (fun c69 => ?_) (fun c69 => ?_)
        · refine r_aload_n hE dX1_canEver_95 rfl ?_
          refine t_getr hE f_X1_34 y_R_151_7 dX1_canEver_96 (hL 151 (by decide)) ?_
          refine r_iload hE dX1_canEver_99 rfl ?_
          refine t_ialdN (e := (t * 64 + us) * 2 + 0) hE y_A_162 dX1_canEver_101 (hL 162 (by decide)) (by omega) (by decide) ?_
          refine r_aload_n hE dX1_canEver_102 rfl ?_
          refine t_getr hE f_X1_37 y_R_151_0 dX1_canEver_103 (hL 151 (by decide)) ?_
          refine r_iload hE dX1_canEver_106 rfl ?_
          refine r_iload hE dX1_canEver_108 rfl ?_
          refine t_invv (r := (some (.int (K_setsFor D8 (q_n (D 78).1 2) th (q_n (D 73).1 4) (nI us))))) (S2 := (y_mk n L D8)) hE [.int (nI th), .int (nI us)] (k_setsFor (D := D8) (u := nI us) (th := th) (k := q_n (D 73).1 4) (kt := q_n (D 78).1 2) hV hL (by rw [sm8.1 73 (by decide)]; exact hB.2.1.1) hB.2.1.2 (k_B_rq (k_B_same sm8 hB)) (by rw [sm8.1 78 (by decide)]; exact hB.2.2.2.1.1.1) (by rw [sm8.1 78 (by decide)]; exact hB.2.2.2.1.2) hB.2.2.2.1.1.2 (by omega) (k_th2 sm8 hB th 0 (by decide)) (k_th2 sm8 hB th 1 (by decide))) v_yX0_setsFor m_X1_104 dX1_canEver_110 rfl (hL 73 (by decide)) (y_l_73 (D8 73)) rfl (by decide) ⟨Nat.le_refl _, Nat.le_refl _⟩ (Nat.le_of_ble_eq_true rfl) ?_
          show E 0 0 113 [(0, .ref 151), (1, .int (nI t)), (2, .int u), (3, .int 0), (4, .int (nI th)), (5, .int (nI us)), (6, .int (nI ((t * 64 + us) * 2 + 0))), (7, .int (nI x))] [.int (K_setsFor D8 (q_n (D 78).1 2) th (q_n (D 73).1 4) (nI us)), .int ((D8 162).1 ((t * 64 + us) * 2 + 0))] (y_mk n L D8)
          refine r_iand hE dX1_canEver_113 ?_
          refine r_if_eq (tgt := 121) hE dX1_canEver_114 (by decide) (fun c114 => ?_) (fun c114 => ?_)
          · refine r_iconst (v := 0) hE dX1_canEver_121 (by decide) ?_
            refine r_ireturn hE dX1_canEver_122 rfl (by decide) (Nat.zero_le _) (Nat.zero_le _) ?_
            rw [show x = k_last D t (-1) + 1 by omega] at hv
            have hev : k_Ev D t (nI us) (nI 0) ((D8 162).1 ((t * 64 + us) * 2 + 0)) := ⟨DS, q8, hv⟩
            refine ⟨_, _, rfl, rfl, ⟨sm8, ?_⟩, _, hev, ?_⟩
            · unfold k_CI
              rw [sm8.1 73 (by decide)]
              intro t2 ht2 us2 hus2 h2 hh2
              by_cases ck : (t2 * 64 + us2) * 2 + h2 = (t * 64 + us) * 2 + 0
              · have c1 : t2 = t := by omega
                have c2 : us2 = us := by omega
                have c3 : h2 = 0 := by omega
                rw [c1, c2, c3]
                exact Or.inr ⟨ht, hus, k_Ev_same sm8 hB (by omega) hev⟩
              · rw [ho _ ck]
                rcases hCI t2 ht2 us2 hus2 h2 hh2 with q | ⟨q1, q2, q⟩
                · exact Or.inl q
                · exact Or.inr ⟨q1, q2, k_Ev_same sm8 hB (by omega) q⟩
            · rw [k_sf_same sm8 hB] at c114
              first
              | exact Or.inl ⟨rfl, c114⟩
              | exact Or.inr ⟨rfl, fun q => q c114⟩
          · refine r_iconst (v := 1) hE dX1_canEver_117 (by decide) ?_
            refine r_goto (tgt := 122) hE dX1_canEver_118 (by decide) ?_
            refine r_ireturn hE dX1_canEver_122 rfl (by decide) (Nat.zero_le _) (Nat.zero_le _) ?_
            rw [show x = k_last D t (-1) + 1 by omega] at hv
            have hev : k_Ev D t (nI us) (nI 0) ((D8 162).1 ((t * 64 + us) * 2 + 0)) := ⟨DS, q8, hv⟩
            refine ⟨_, _, rfl, rfl, ⟨sm8, ?_⟩, _, hev, ?_⟩
            · unfold k_CI
              rw [sm8.1 73 (by decide)]
              intro t2 ht2 us2 hus2 h2 hh2
              by_cases ck : (t2 * 64 + us2) * 2 + h2 = (t * 64 + us) * 2 + 0
              · have c1 : t2 = t := by omega
                have c2 : us2 = us := by omega
                have c3 : h2 = 0 := by omega
                rw [c1, c2, c3]
                exact Or.inr ⟨ht, hus, k_Ev_same sm8 hB (by omega) hev⟩
              · rw [ho _ ck]
                rcases hCI t2 ht2 us2 hus2 h2 hh2 with q | ⟨q1, q2, q⟩
                · exact Or.inl q
                · exact Or.inr ⟨q1, q2, k_Ev_same sm8 hB (by omega) q⟩
            · rw [k_sf_same sm8 hB] at c114
              first
              | exact Or.inl ⟨rfl, c114⟩
              | exact Or.inr ⟨rfl, fun q => q c114⟩
        · refine r_aload_n hE dX1_canEver_72 rfl ?_
          refine t_getr hE f_X1_34 y_R_151_7 dX1_canEver_73 (hL 151 (by decide)) ?_
          refine r_iload hE dX1_canEver_76 rfl ?_
          refine r_dup2 hE dX1_canEver_78 rfl rfl ?_
          refine t_ialdN (e := (t * 64 + us) * 2 + 0) hE y_A_162 dX1_canEver_79 (hL 162 (by decide)) (by omega) (by decide) ?_
          refine r_top (y := (c_or (k_SS D DS t (-1) (nI us) 0 (y_al DS (k_last D t (-1))) (k_last D t (-1))) x)) hv ?_
          refine r_aload_n hE dX1_canEver_80 rfl ?_
          refine t_getr hE f_X1_31 y_R_151_6 dX1_canEver_81 (hL 151 (by decide)) ?_
          refine r_iload hE dX1_canEver_84 rfl ?_
          refine t_ialdN (e := x) hE y_A_161 dX1_canEver_86 (hL 161 (by decide)) (by omega) (by decide) ?_
          refine r_top (y := ((k_SS D DS t (-1) (nI us) 0 (y_al DS (k_last D t (-1))) (k_last D t (-1))) x)) (by rw [h61]; exact hS x (by omega)) ?_
          refine r_ior hE dX1_canEver_87 ?_
          refine t_iastN (e := (t * 64 + us) * 2 + 0) hE y_A_162 dX1_canEver_88 (hL 162 (by decide)) (by omega) (by decide) ?_
          refine r_iincN (a := x) (b := 1) (ls2 := [(0, .ref 151), (1, .int (nI t)), (2, .int u), (3, .int 0), (4, .int (nI th)), (5, .int (nI us)), (6, .int (nI ((t * 64 + us) * 2 + 0))), (7, .int (nI (x + 1)))]) hE dX1_canEver_89 rfl rfl (by decide) rfl ?_
          refine r_goto (tgt := 60) hE dX1_canEver_92 (by decide) ?_
          refine r_locs hE (ls2 := [(0, .ref 151), (1, .int (nI t)), (2, .int u), (3, .int 0), (4, .int (nI th)), (5, .int (nI us)), (6, .int (nI ((t * 64 + us) * 2 + 0))), (7, .int (nI (x + 1)))]) ?_ (ih (k_last D t (-1) + 1 - (x + 1)) (by omega) (x + 1) _ rfl (by omega) (k_same_s sm8 (by decide)) (by rw [y_si_ne (by decide)]; exact h52) (by rw [y_si_ne (by decide)]; exact h61) (by rw [y_si_1, if_pos rfl]; rfl) (fun k hk => by rw [y_si_1, if_neg hk]; exact ho k hk))
          simp [x_lk]
    exact lp 0 _ (by omega) sm2 rfl rfl (by rw [e162]; exact c39) (fun k hk => by rw [e162])
theorem k_canEver1 {V : x_E} {n : Nat} {L : List Nat} {D : y_D} (hV : y_V V) {t th : Nat} {u : Int32} (hL : y_ok L) (hB : k_B D L) (hCI : k_CI D) (ht : t < q_n (D 73).1 2) (hth : th < 2 ^ 31) : y_Ri V yX1_canEver cX1_canEver 8 (some .boolean) 4 [.ref 151, .int (nI t), .int u, .int 1, .int (nI th)] n L D (fun r D2 => (k_same D D2 ∧ k_CI D2) ∧ ∃ v, k_Ev D t (u &&& (nI (2 ^ q_n (D 73).1 4) - 1)) (nI 1) v ∧ y_is r (v &&& K_setsFor D (q_n (D 78).1 2) th (q_n (D 73).1 4) (u &&& (nI (2 ^ q_n (D 73).1 4) - 1)) ≠ 0)) := by
  refine y_ri (by decide) (Nat.le_of_ble_eq_true rfl) (fun E hE => ?_)
  change E 0 0 0 [(0, .ref 151), (1, .int (nI t)), (2, .int u), (3, .int 1), (4, .int (nI th))] [] (y_mk n L D)
  have hr4 : q_n (D 73).1 2 ≤ 4 := hB.1.2
  have hkw6 : q_n (D 73).1 4 ≤ 6 := hB.2.1.2
  have hp6 : 2 ^ q_n (D 73).1 4 ≤ 2 ^ 6 := Nat.pow_le_pow_right (by decide) hkw6
  have hp7 : (2 : Nat) ^ 6 = 64 := rfl
  have hk3 : k_last D t (-1) ≤ 300 := k_last_b (hB.2.2.2.2.2.1 t (by omega))
  obtain ⟨us, hus, eus⟩ := y_mask hkw6 u
  rw [eus] at hE
  refine r_iload_n hE dX1_canEver_0 rfl ?_
  refine r_aload_n hE dX1_canEver_1 rfl ?_
  refine t_getr hE f_X1_37 y_R_151_0 dX1_canEver_2 (hL 151 (by decide)) ?_
  refine t_invv (r := (some (.int (nI (2 ^ q_n (D 73).1 4) - 1)))) (S2 := (y_mk n L D)) hE [] (k_allWays hV hL hB.2.1.1 hB.2.1.2) v_yX0_allWays m_X1_140 dX1_canEver_5 rfl (hL 73 (by decide)) (y_l_73 (D 73)) rfl (by decide) ⟨Nat.le_refl _, Nat.le_refl _⟩ (Nat.le_of_ble_eq_true rfl) ?_
  show E 0 0 8 [(0, .ref 151), (1, .int (nI t)), (2, .int u), (3, .int 1), (4, .int (nI th))] [.int (nI (2 ^ q_n (D 73).1 4) - 1), .int u] (y_mk n L D)
  refine r_iand hE dX1_canEver_8 ?_
  refine r_top (y := (nI us)) eus ?_
  refine r_istore (ls2 := [(0, .ref 151), (1, .int (nI t)), (2, .int u), (3, .int 1), (4, .int (nI th)), (5, .int (nI us))]) hE dX1_canEver_9 (by decide) rfl ?_
  refine r_iload_n hE dX1_canEver_11 rfl ?_
  refine r_bipush (v := 64) hE dX1_canEver_12 (by decide) ?_
  refine r_imulN (a := t) (b := 64) hE dX1_canEver_14 ?_
  refine r_iload hE dX1_canEver_15 rfl ?_
  refine r_iaddN (a := t * 64) (b := us) hE dX1_canEver_17 ?_
  refine r_iconst (v := 2) hE dX1_canEver_18 (by decide) ?_
  refine r_imulN (a := (t * 64) + us) (b := 2) hE dX1_canEver_19 ?_
  refine r_iload_n hE dX1_canEver_20 rfl ?_
  refine r_if_eq (tgt := 28) hE dX1_canEver_21 (by decide) (fun c21 => by first | exact absurd c21 (by decide) | exact absurd (by decide) c21) (fun _ => ?_)
  refine r_iconst (v := 1) hE dX1_canEver_24 (by decide) ?_
  refine r_goto (tgt := 29) hE dX1_canEver_25 (by decide) ?_
  refine r_iaddN (a := ((t * 64) + us) * 2) (b := 1) hE dX1_canEver_29 ?_
  refine r_istore (ls2 := [(0, .ref 151), (1, .int (nI t)), (2, .int u), (3, .int 1), (4, .int (nI th)), (5, .int (nI us)), (6, .int (nI ((((t * 64) + us) * 2) + 1)))]) hE dX1_canEver_30 (by decide) rfl ?_
  refine r_aload_n hE dX1_canEver_32 rfl ?_
  refine t_getr hE f_X1_34 y_R_151_7 dX1_canEver_33 (hL 151 (by decide)) ?_
  refine r_iload hE dX1_canEver_36 rfl ?_
  refine t_ialdN (e := (((t * 64) + us) * 2) + 1) hE y_A_162 dX1_canEver_38 (hL 162 (by decide)) (by omega) (by decide) ?_
  refine r_if_ne (tgt := 95) hE dX1_canEver_39 (by decide) (fun c39 => ?_) (fun c39 => ?_)
  · refine r_aload_n hE dX1_canEver_95 rfl ?_
    refine t_getr hE f_X1_34 y_R_151_7 dX1_canEver_96 (hL 151 (by decide)) ?_
    refine r_iload hE dX1_canEver_99 rfl ?_
    refine t_ialdN (e := (((t * 64) + us) * 2) + 1) hE y_A_162 dX1_canEver_101 (hL 162 (by decide)) (by omega) (by decide) ?_
    refine r_aload_n hE dX1_canEver_102 rfl ?_
    refine t_getr hE f_X1_37 y_R_151_0 dX1_canEver_103 (hL 151 (by decide)) ?_
    refine r_iload hE dX1_canEver_106 rfl ?_
    refine r_iload hE dX1_canEver_108 rfl ?_
    refine t_invv (r := (some (.int (K_setsFor D (q_n (D 78).1 2) th (q_n (D 73).1 4) (nI us))))) (S2 := (y_mk n L D)) hE [.int (nI th), .int (nI us)] (k_setsFor (D := D) (u := nI us) (th := th) (k := q_n (D 73).1 4) (kt := q_n (D 78).1 2) hV hL hB.2.1.1 hB.2.1.2 (k_B_rq hB) hB.2.2.2.1.1.1 hB.2.2.2.1.2 hB.2.2.2.1.1.2 (by omega) (k_th hB th 0 (by decide)) (k_th hB th 1 (by decide))) v_yX0_setsFor m_X1_104 dX1_canEver_110 rfl (hL 73 (by decide)) (y_l_73 (D 73)) rfl (by decide) ⟨Nat.le_refl _, Nat.le_refl _⟩ (Nat.le_of_ble_eq_true rfl) ?_
    show E 0 0 113 [(0, .ref 151), (1, .int (nI t)), (2, .int u), (3, .int 1), (4, .int (nI th)), (5, .int (nI us)), (6, .int (nI ((((t * 64) + us) * 2) + 1)))] [.int (K_setsFor D (q_n (D 78).1 2) th (q_n (D 73).1 4) (nI us)), .int ((D 162).1 ((((t * 64) + us) * 2) + 1))] (y_mk n L D)
    refine r_iand hE dX1_canEver_113 ?_
    refine r_if_eq (tgt := 121) hE dX1_canEver_114 (by decide) (fun c114 => ?_) (fun c114 => ?_)
    · refine r_iconst (v := 0) hE dX1_canEver_121 (by decide) ?_
      refine r_ireturn hE dX1_canEver_122 rfl (by decide) (Nat.zero_le _) (Nat.zero_le _) ?_
      have v0 : ¬ (D 162).1 ((t * 64 + us) * 2 + 1) = 0 := c39
      have hev : k_Ev D t (nI us) (nI 1) ((D 162).1 ((t * 64 + us) * 2 + 1)) := ((hCI t (by omega) us (by omega) 1 (by decide)).resolve_left v0).2.2
      refine ⟨_, _, rfl, rfl, ⟨k_same_r, hCI⟩, _, hev, ?_⟩
      first
      | exact Or.inl ⟨rfl, c114⟩
      | exact Or.inr ⟨rfl, fun q => q c114⟩
    · refine r_iconst (v := 1) hE dX1_canEver_117 (by decide) ?_
      refine r_goto (tgt := 122) hE dX1_canEver_118 (by decide) ?_
      refine r_ireturn hE dX1_canEver_122 rfl (by decide) (Nat.zero_le _) (Nat.zero_le _) ?_
      have v0 : ¬ (D 162).1 ((t * 64 + us) * 2 + 1) = 0 := c39
      have hev : k_Ev D t (nI us) (nI 1) ((D 162).1 ((t * 64 + us) * 2 + 1)) := ((hCI t (by omega) us (by omega) 1 (by decide)).resolve_left v0).2.2
      refine ⟨_, _, rfl, rfl, ⟨k_same_r, hCI⟩, _, hev, ?_⟩
      first
      | exact Or.inl ⟨rfl, c114⟩
      | exact Or.inr ⟨rfl, fun q => q c114⟩
  · refine r_aload_n hE dX1_canEver_42 rfl ?_
    refine r_iload_n hE dX1_canEver_43 rfl ?_
    refine r_iconst (v := (-1)) hE dX1_canEver_44 (by decide) ?_
    refine r_iload hE dX1_canEver_45 rfl ?_
    refine r_iload_n hE dX1_canEver_47 rfl ?_
    refine t_invvRv hE [.int (nI t), .int (-1), .int (nI us), .int 1] (k_prepare (t := t) (wo := (-1)) (u := nI us) (hl := 1) hV hL hB (by omega)) v_yX1_prepare m_X1_143 dX1_canEver_48 rfl (hL 151 (by decide)) (y_l_151 (D 151)) rfl (by decide) ⟨Nat.le_refl _, Nat.le_refl _⟩ (Nat.le_of_ble_eq_true rfl) (fun D1 q1 => ?_)
    obtain ⟨DS, q1⟩ := q1
    have sm1 := k_PR_same q1
    have hB1 := k_B_same sm1 hB
    show E 0 0 51 [(0, .ref 151), (1, .int (nI t)), (2, .int u), (3, .int 1), (4, .int (nI th)), (5, .int (nI us)), (6, .int (nI ((((t * 64) + us) * 2) + 1)))] [] (y_mk n L D1)
    refine r_aload_n hE dX1_canEver_51 rfl ?_
    refine r_iload hE dX1_canEver_52 rfl ?_
    refine t_invv (r := none) (S2 := (y_mk n L (y_wo D1 (nI us) (q_n (D 73).1 4) (k_last D t (-1))))) hE [.int (nI us)] (k_walk (D := D1) (u := nI us) (k := k_last D t (-1)) (kw := q_n (D 73).1 4) hV hL (by rw [q1.2.1.1 152 (by decide)]; exact q1.1.2.2.1) hk3 (by rw [sm1.1 73 (by decide)]; exact hB.2.1.1) hB.2.1.2 (k_B_rq hB1) (fun i hi => ⟨_, by rw [k_w_eq (hB1.2.2.2.2.2.2.1 i (by omega))]; exact (hB1.2.2.2.2.2.2.1 i (by omega)).2.2.2.2.2.2.2.2.2.2.2.2.1.1, (hB1.2.2.2.2.2.2.1 i (by omega)).2.2.2.2.2.2.2.2.2.2.2.2.2.1, Nat.lt_of_le_of_lt (hB1.2.2.2.2.2.2.1 i (by omega)).2.2.2.2.2.2.2.2.2.2.2.2.1.2 (by decide)⟩)) v_yX1_walk m_X1_107 dX1_canEver_54 rfl (hL 151 (by decide)) (y_l_151 (D1 151)) rfl (by decide) ⟨Nat.le_refl _, Nat.le_refl _⟩ (Nat.le_of_ble_eq_true rfl) ?_
    show E 0 0 57 [(0, .ref 151), (1, .int (nI t)), (2, .int u), (3, .int 1), (4, .int (nI th)), (5, .int (nI us)), (6, .int (nI ((((t * 64) + us) * 2) + 1)))] [] (y_mk n L (y_wo D1 (nI us) (q_n (D 73).1 4) (k_last D t (-1))))
    obtain ⟨D2, hD2⟩ : ∃ z, z = y_wo D1 (nI us) (q_n (D 73).1 4) (k_last D t (-1)) := ⟨_, rfl⟩
    rw [← hD2]
    obtain ⟨sm2, hS⟩ := k_PR_walk (A := y_al DS (k_last D t (-1))) hB (by omega) q1 D1 (fun j _ => rfl) q1.2.2.1 (nI us) (fun i _ b => b)
    rw [← hD2] at sm2 hS
    have e162 : D2 162 = D 162 := by rw [hD2, y_wo_ag 162 (by decide) (by decide) (by decide), k_PR_162 q1]
    have e152 : (D2 152).1 0 = nI (k_last D t (-1)) := by rw [hD2, y_wo_ag 152 (by decide) (by decide) (by decide), q1.2.1.1 152 (by decide)]; exact q1.1.2.2.1
    have q8 := c_F_G q1.1
    refine r_iconst (v := 0) hE dX1_canEver_57 (by decide) ?_
    refine r_istore (ls2 := [(0, .ref 151), (1, .int (nI t)), (2, .int u), (3, .int 1), (4, .int (nI th)), (5, .int (nI us)), (6, .int (nI ((((t * 64) + us) * 2) + 1))), (7, .int 0)]) hE dX1_canEver_58 (by decide) rfl ?_
    have lp : ∀ (x : Nat) (D8 : y_D), x ≤ k_last D t (-1) + 1 → k_same D D8 → D8 152 = D2 152 → D8 161 = D2 161 → (D8 162).1 ((t * 64 + us) * 2 + 1) = c_or (k_SS D DS t (-1) (nI us) 1 (y_al DS (k_last D t (-1))) (k_last D t (-1))) x → (∀ k, k ≠ (t * 64 + us) * 2 + 1 → (D8 162).1 k = (D 162).1 k) → E 0 0 60 [(0, .ref 151), (1, .int (nI t)), (2, .int u), (3, .int 1), (4, .int (nI th)), (5, .int (nI us)), (6, .int (nI ((t * 64 + us) * 2 + 1))), (7, .int (nI x))] [] (y_mk n L D8) := by
      intro x D8
      induction hm9 : (k_last D t (-1) + 1 - x) using Nat.strongRecOn generalizing x D8 with
      | _ m9 ih =>
        intro hx sm8 h52 h61 hv ho
        subst hm9
        refine r_iload hE dX1_canEver_60 rfl ?_
        refine r_aload_n hE dX1_canEver_62 rfl ?_
        refine t_getr hE f_X1_12 y_R_151_1 dX1_canEver_63 (hL 151 (by decide)) ?_
        refine t_geti hE f_X1_82 y_I_152_0 dX1_canEver_66 (hL 152 (by decide)) ?_
        refine r_top (y := (nI (k_last D t (-1)))) (by rw [h52]; exact e152) ?_
        refine r_icmp_gtN (a := x) (b := k_last D t (-1)) (tgt := 95) hE dX1_canEver_69 (by decide) (by omega) (by omega) (fun c69 => ?_) (fun c69 => ?_)
        · refine r_aload_n hE dX1_canEver_95 rfl ?_
          refine t_getr hE f_X1_34 y_R_151_7 dX1_canEver_96 (hL 151 (by decide)) ?_
          refine r_iload hE dX1_canEver_99 rfl ?_
          refine t_ialdN (e := (t * 64 + us) * 2 + 1) hE y_A_162 dX1_canEver_101 (hL 162 (by decide)) (by omega) (by decide) ?_
          refine r_aload_n hE dX1_canEver_102 rfl ?_
          refine t_getr hE f_X1_37 y_R_151_0 dX1_canEver_103 (hL 151 (by decide)) ?_
          refine r_iload hE dX1_canEver_106 rfl ?_
          refine r_iload hE dX1_canEver_108 rfl ?_
          refine t_invv (r := (some (.int (K_setsFor D8 (q_n (D 78).1 2) th (q_n (D 73).1 4) (nI us))))) (S2 := (y_mk n L D8)) hE [.int (nI th), .int (nI us)] (k_setsFor (D := D8) (u := nI us) (th := th) (k := q_n (D 73).1 4) (kt := q_n (D 78).1 2) hV hL (by rw [sm8.1 73 (by decide)]; exact hB.2.1.1) hB.2.1.2 (k_B_rq (k_B_same sm8 hB)) (by rw [sm8.1 78 (by decide)]; exact hB.2.2.2.1.1.1) (by rw [sm8.1 78 (by decide)]; exact hB.2.2.2.1.2) hB.2.2.2.1.1.2 (by omega) (k_th2 sm8 hB th 0 (by decide)) (k_th2 sm8 hB th 1 (by decide))) v_yX0_setsFor m_X1_104 dX1_canEver_110 rfl (hL 73 (by decide)) (y_l_73 (D8 73)) rfl (by decide) ⟨Nat.le_refl _, Nat.le_refl _⟩ (Nat.le_of_ble_eq_true rfl) ?_
          show E 0 0 113 [(0, .ref 151), (1, .int (nI t)), (2, .int u), (3, .int 1), (4, .int (nI th)), (5, .int (nI us)), (6, .int (nI ((t * 64 + us) * 2 + 1))), (7, .int (nI x))] [.int (K_setsFor D8 (q_n (D 78).1 2) th (q_n (D 73).1 4) (nI us)), .int ((D8 162).1 ((t * 64 + us) * 2 + 1))] (y_mk n L D8)
          refine r_iand hE dX1_canEver_113 ?_
          refine r_if_eq (tgt := 121) hE dX1_canEver_114 (by decide) (fun c114 => ?_) (fun c114 => ?_)
          · refine r_iconst (v := 0) hE dX1_canEver_121 (by decide) ?_
            refine r_ireturn hE dX1_canEver_122 rfl (by decide) (Nat.zero_le _) (Nat.zero_le _) ?_
            rw [show x = k_last D t (-1) + 1 by omega] at hv
            have hev : k_Ev D t (nI us) (nI 1) ((D8 162).1 ((t * 64 + us) * 2 + 1)) := ⟨DS, q8, hv⟩
            refine ⟨_, _, rfl, rfl, ⟨sm8, ?_⟩, _, hev, ?_⟩
            · unfold k_CI
              rw [sm8.1 73 (by decide)]
              intro t2 ht2 us2 hus2 h2 hh2
              by_cases ck : (t2 * 64 + us2) * 2 + h2 = (t * 64 + us) * 2 + 1
              · have c1 : t2 = t := by omega
                have c2 : us2 = us := by omega
                have c3 : h2 = 1 := by omega
                rw [c1, c2, c3]
                exact Or.inr ⟨ht, hus, k_Ev_same sm8 hB (by omega) hev⟩
              · rw [ho _ ck]
                rcases hCI t2 ht2 us2 hus2 h2 hh2 with q | ⟨q1, q2, q⟩
                · exact Or.inl q
                · exact Or.inr ⟨q1, q2, k_Ev_same sm8 hB (by omega) q⟩
            · rw [k_sf_same sm8 hB] at c114
              first
              | exact Or.inl ⟨rfl, c114⟩
              | exact Or.inr ⟨rfl, fun q => q c114⟩
          · refine r_iconst (v := 1) hE dX1_canEver_117 (by decide) ?_
            refine r_goto (tgt := 122) hE dX1_canEver_118 (by decide) ?_
            refine r_ireturn hE dX1_canEver_122 rfl (by decide) (Nat.zero_le _) (Nat.zero_le _) ?_
            rw [show x = k_last D t (-1) + 1 by omega] at hv
            have hev : k_Ev D t (nI us) (nI 1) ((D8 162).1 ((t * 64 + us) * 2 + 1)) := ⟨DS, q8, hv⟩
            refine ⟨_, _, rfl, rfl, ⟨sm8, ?_⟩, _, hev, ?_⟩
            · unfold k_CI
              rw [sm8.1 73 (by decide)]
              intro t2 ht2 us2 hus2 h2 hh2
              by_cases ck : (t2 * 64 + us2) * 2 + h2 = (t * 64 + us) * 2 + 1
              · have c1 : t2 = t := by omega
                have c2 : us2 = us := by omega
                have c3 : h2 = 1 := by omega
                rw [c1, c2, c3]
                exact Or.inr ⟨ht, hus, k_Ev_same sm8 hB (by omega) hev⟩
              · rw [ho _ ck]
                rcases hCI t2 ht2 us2 hus2 h2 hh2 with q | ⟨q1, q2, q⟩
                · exact Or.inl q
                · exact Or.inr ⟨q1, q2, k_Ev_same sm8 hB (by omega) q⟩
            · rw [k_sf_same sm8 hB] at c114
              first
              | exact Or.inl ⟨rfl, c114⟩
              | exact Or.inr ⟨rfl, fun q => q c114⟩
        · refine r_aload_n hE dX1_canEver_72 rfl ?_
          refine t_getr hE f_X1_34 y_R_151_7 dX1_canEver_73 (hL 151 (by decide)) ?_
          refine r_iload hE dX1_canEver_76 rfl ?_
          refine r_dup2 hE dX1_canEver_78 rfl rfl ?_
          refine t_ialdN (e := (t * 64 + us) * 2 + 1) hE y_A_162 dX1_canEver_79 (hL 162 (by decide)) (by omega) (by decide) ?_
          refine r_top (y := (c_or (k_SS D DS t (-1) (nI us) 1 (y_al DS (k_last D t (-1))) (k_last D t (-1))) x)) hv ?_
          refine r_aload_n hE dX1_canEver_80 rfl ?_
          refine t_getr hE f_X1_31 y_R_151_6 dX1_canEver_81 (hL 151 (by decide)) ?_
          refine r_iload hE dX1_canEver_84 rfl ?_
          refine t_ialdN (e := x) hE y_A_161 dX1_canEver_86 (hL 161 (by decide)) (by omega) (by decide) ?_
          refine r_top (y := ((k_SS D DS t (-1) (nI us) 1 (y_al DS (k_last D t (-1))) (k_last D t (-1))) x)) (by rw [h61]; exact hS x (by omega)) ?_
          refine r_ior hE dX1_canEver_87 ?_
          refine t_iastN (e := (t * 64 + us) * 2 + 1) hE y_A_162 dX1_canEver_88 (hL 162 (by decide)) (by omega) (by decide) ?_
          refine r_iincN (a := x) (b := 1) (ls2 := [(0, .ref 151), (1, .int (nI t)), (2, .int u), (3, .int 1), (4, .int (nI th)), (5, .int (nI us)), (6, .int (nI ((t * 64 + us) * 2 + 1))), (7, .int (nI (x + 1)))]) hE dX1_canEver_89 rfl rfl (by decide) rfl ?_
          refine r_goto (tgt := 60) hE dX1_canEver_92 (by decide) ?_
          refine r_locs hE (ls2 := [(0, .ref 151), (1, .int (nI t)), (2, .int u), (3, .int 1), (4, .int (nI th)), (5, .int (nI us)), (6, .int (nI ((t * 64 + us) * 2 + 1))), (7, .int (nI (x + 1)))]) ?_ (ih (k_last D t (-1) + 1 - (x + 1)) (by omega) (x + 1) _ rfl (by omega) (k_same_s sm8 (by decide)) (by rw [y_si_ne (by decide)]; exact h52) (by rw [y_si_ne (by decide)]; exact h61) (by rw [y_si_1, if_pos rfl]; rfl) (fun k hk => by rw [y_si_1, if_neg hk]; exact ho k hk))
          simp [x_lk]
    exact lp 0 _ (by omega) sm2 rfl rfl (by rw [e162]; exact c39) (fun k hk => by rw [e162])

/-! the weighing answers alike -/
def q_O (D : y_D) (W : Nat → Int32) : Prop := q_tb D W 82 5 66 3 ∧ q_tb D W 84 6 78 3 ∧ q_tb D W 86 7 93 5
theorem y_mm2 {x m : Int32} : (x &&& m) &&& m = x &&& m := by
  apply b_ext
  intro i hi
  rw [b_and, b_and, Bool.and_assoc, Bool.and_self]
theorem o_tr_c {set set2 spr spr2 : Nat → Bool} {often often2 : Nat → Nat} {b : Nat} : ∀ n, (∀ i, i < n → set i = set2 i ∧ spr i = spr2 i ∧ often i = often2 i) → o_tr set spr often b n = o_tr set2 spr2 often2 b n
  | 0, _ => rfl
  | n + 1, h => by
    unfold o_tr
    rw [o_tr_c n (fun i hi => h i (by omega)), (h n (by omega)).1, (h n (by omega)).2.1, (h n (by omega)).2.2]
theorem o_th_c2 {c c2 came came2 : Nat → Bool} : ∀ n, (∀ i, i < n → c i = c2 i ∧ came i = came2 i) → o_th c came n = o_th c2 came2 n
  | 0, _ => rfl
  | n + 1, h => by
    unfold o_th
    rw [o_th_c2 n (fun i hi => h i (by omega)), (h n (by omega)).1, (h n (by omega)).2]
theorem q_hp {D : y_D} {W : Nat → Int32} {k n : Nat} (hQ : q_O D W) (hO : m_WO W) (hk : k < q_n W 6) (hn : n < q_n W 7) : k_hp D k n ↔ m_hp W k n := by
  have e1 : (D 85).1 (k * 3 + 2) = W (78 + 3 * k + 2) := hQ.2.1.2.2 k 2 hk (by decide)
  have e2 : (D 87).1 (n * 5 + 1) = W (93 + 5 * n + 1) := hQ.2.2.2.2 n 1 hn (by decide)
  have e3 : q_n (D 85).1 (k * 3 + 2) = q_n W (78 + 3 * k + 2) := q_tb_c hQ.2.1 hk (by decide)
  unfold k_hp m_hp
  rw [e1, e2, e3]
  refine and_congr ?_ Iff.rfl
  rcases (hO.2.2.2.2.1 k hk).2 with h | h
  · rw [h]
    decide
  · have h7 := h.2
    rw [h.1]
    exact ⟨fun _ => nI_pos (by omega), fun _ q => by
      have := nI_pos (n := q_n W (78 + 3 * k + 2)) (by omega)
      rw [q] at this
      exact this (by decide)⟩
theorem q_spr {D : y_D} {W : Nat → Int32} {k t : Nat} (hQ : q_O D W) (hk : k < q_n W 6) (ht : t < q_n W 5) : k_spr D k t = m_spr W k t := by
  have e1 : (D 85).1 (k * 3 + 1) = W (78 + 3 * k + 1) := hQ.2.1.2.2 k 1 hk (by decide)
  have e2 : q_n (D 83).1 (t * 3 + 0) = q_n W (66 + 3 * t) := q_tb_c hQ.1 ht (by decide)
  have e3 : q_n (D 83).1 (t * 3 + 1) = q_n W (66 + 3 * t + 1) := q_tb_c hQ.1 ht (by decide)
  have e4 : q_n (D 83).1 (t * 3 + 2) = q_n W (66 + 3 * t + 2) := q_tb_c hQ.1 ht (by decide)
  unfold k_spr m_spr
  rw [e1, e2, e3, e4]
theorem q_FAC {D : y_D} {W : Nat → Int32} {L : List Nat} {k n f g : Nat} (hA : q_A D W) (hB : k_B D L) (hW : m_W W) (hQ : q_O D W) (hO : m_WO W) (hk : k < q_n W 6) (hn : n < q_n W 7) (h1 : k_FAC D k n f) (h2 : m_FAC W k n g) : f = g := by
  obtain ⟨h, c, a1, a2, rfl⟩ := h1
  obtain ⟨us, h', v, b1, b2, b3, b4, rfl⟩ := h2
  have hh : h = h' := by
    have e := q_hp hQ hO hk hn
    rcases a1 with ⟨x1, x2⟩ | ⟨x1, x2⟩ <;> rcases b3 with ⟨y1, y2⟩ | ⟨y1, y2⟩
    · omega
    · exact absurd (e.mp x2) y2
    · exact absurd (e.mpr y2) x2
    · omega
  subst hh
  have hww := q_A_w hA
  have hn3 := q_tb_n hA.2.1
  have hn5 := q_tb_n hQ.1
  obtain ⟨DL, hL, m, m1, rfl, m2⟩ := b4
  have ht : q_n W (93 + 5 * n) < q_n W 1 := (hO.2.2.2.2.2 n hn).2
  obtain ⟨t, ht0⟩ : ∃ z, z = q_n W (93 + 5 * n) := ⟨_, rfl⟩
  have et : q_n (D 87).1 (n * 5 + 0) = t := by
    rw [ht0]
    exact q_tb_c hQ.2.2 hn (by decide)
  rw [← ht0] at ht hL m2
  have hR := hA.2.2.2.1.2 t ht
  have hwr := hW.2.2.2.2.2.1 t ht
  have hk3 := m_ls_b (wo := -1) hwr
  have eu : k_us D k = nI us := by
    have e1 : (D 85).1 (k * 3 + 1) = W (78 + 3 * k + 1) := hQ.2.1.2.2 k 1 hk (by decide)
    unfold k_us
    rw [hww, e1, b2]
  have eum : nI us &&& (nI (2 ^ q_n W 2) - 1) = nI us := by
    rw [← b2]
    exact y_mm2
  rw [hn3] at a2
  have hc : ∀ th, th < q_n W 3 → c th = decide (y_bit (nI m) th) := by
    intro th hth
    have h6 : q_n W 3 ≤ 6 := hW.2.2.2.1.2
    obtain ⟨v9, ⟨DS, hS, ev⟩, hv⟩ := a2 th hth
    rw [et] at hS ev
    rw [eu] at ev hv
    have hE := q_E_ok hA.1 hW.1 hwr hR hS hL
    rw [ev, q_ev, q_last hR] at hv
    have key := fun {x : Nat} (hx : x ≤ m_ls W t (-1)) => q_nz (t := t) (wo := -1) (u := nI us) (hl := nI h) hA hB hW hE hL.1 hk3 hth hx
    rw [eum, hn3] at key
    have e2 : (∃ x, x ≤ m_ls W t (-1) ∧ k_SS D DS t (-1) (nI us) (nI h) (y_al DS (m_ls W t (-1))) (m_ls W t (-1)) x &&& K_setsFor D (q_n W 3) th (q_n (D 73).1 4) (nI us) ≠ 0) ↔ m_cth W DL t us h th := by
      unfold m_cth
      constructor
      · rintro ⟨x, hx, q⟩
        obtain ⟨f, hf, p1, p2⟩ := (key hx).mp q
        exact ⟨x, f, hx, hf, p1, p2⟩
      · rintro ⟨x, f, hx, hf, p1, p2⟩
        exact ⟨x, hx, (key hx).mpr ⟨f, hf, p1, p2⟩⟩
    have e3 := m2 th (by omega)
    have e4 : c th = true ↔ y_bit (nI m) th := by
      rw [hv, e2, y_bit_tb (by omega), e3]
      exact ⟨fun q => ⟨hth, q⟩, fun q => q.2⟩
    cases q : c th with
    | true => exact (decide_eq_true (e4.mp q)).symm
    | false => exact (decide_eq_false (fun z => by rw [e4.mpr z] at q; cases q)).symm
  have e5 : (D 87).1 (n * 5 + 2) = W (93 + 5 * n + 2) := hQ.2.2.2.2 n 2 hn (by decide)
  have e6 : (D 87).1 (n * 5 + 3) = W (93 + 5 * n + 3) := hQ.2.2.2.2 n 3 hn (by decide)
  have e7 : (D 87).1 (n * 5 + 4) = W (93 + 5 * n + 4) := hQ.2.2.2.2 n 4 hn (by decide)
  rw [hn3, hn5, e5, e6, e7, o_tr_1 (b := o_th _ _ _)]
  congr 1
  · exact o_th_c2 _ (fun i hi => ⟨hc i hi, rfl⟩)
  · exact o_tr_c _ (fun i hi => ⟨rfl, rfl, q_spr hQ hk hi⟩)
theorem q_od {D : y_D} {W : Nat → Int32} {L : List Nat} {F G : Nat → Nat → Nat} {nn : Nat} (hA : q_A D W) (hB : k_B D L) (hW : m_W W) (hQ : q_O D W) (hO : m_WO W) (hnn : nn ≤ q_n W 7) (h1 : ∀ k, k < q_n (D 84).1 2 → ∀ n, n < nn → k_FAC D k n (F k n)) (h2 : ∀ k, k < q_n W 6 → ∀ n, n < nn → m_FAC W k n (G k n)) :
    ∀ k, k < q_n W 6 → o_od (fun k => q_n (D 85).1 (k * 3 + 0)) F (q_n (D 84).1 2) nn k = o_od (fun k => q_n W (78 + 3 * k)) G (q_n W 6) nn k := by
  rw [q_tb_n hQ.2.1] at h1 ⊢
  exact o_od_c (fun k hk => q_tb_c hQ.2.1 hk (by decide)) nn (fun k hk n hn => q_FAC hA hB hW hQ hO hk (by omega) (h1 k hk n hn) (h2 k hk n hn))
theorem o_say_c {od od2 sp sp2 : Nat → Nat} {m : Int64} : ∀ n, (∀ i, i < n → od i = od2 i ∧ sp i = sp2 i) → o_say od sp m n = o_say od2 sp2 m n
  | 0, _ => rfl
  | n + 1, h => by
    unfold o_say
    rw [o_say_c n (fun i hi => h i (by omega)), (h n (by omega)).1, (h n (by omega)).2]
theorem q_says {D : y_D} {W : Nat → Int32} {L : List Nat} {F G : Nat → Nat → Nat} {t : Nat} {v w : Int64} (hA : q_A D W) (hB : k_B D L) (hW : m_W W) (hQ : q_O D W) (hO : m_WO W) (ht : t < q_n W 5) (h1 : ∀ k, k < q_n (D 84).1 2 → ∀ n, n < q_n (D 86).1 2 → k_FAC D k n (F k n)) (h2 : ∀ k, k < q_n W 6 → ∀ n, n < q_n W 7 → m_FAC W k n (G k n))
    (h3 : v = o_say (o_od (fun k => q_n (D 85).1 (k * 3 + 0)) F (q_n (D 84).1 2) (q_n (D 86).1 2)) (fun k => k_spr D k t) (lN (o_sum (fun k => o_od (fun k => q_n (D 85).1 (k * 3 + 0)) F (q_n (D 84).1 2) (q_n (D 86).1 2) k * k_spr D k t) (q_n (D 84).1 2))) (q_n (D 84).1 2) / 10000)
    (h4 : w = o_say (o_od (fun k => q_n W (78 + 3 * k)) G (q_n W 6) (q_n W 7)) (fun k => m_spr W k t) (lN (o_sum (fun k => o_od (fun k => q_n W (78 + 3 * k)) G (q_n W 6) (q_n W 7) k * m_spr W k t) (q_n W 6))) (q_n W 6) / 10000) : v = w := by
  have hn7 := q_tb_n hQ.2.2
  have hn6 := q_tb_n hQ.2.1
  rw [hn7] at h1 h3
  have e := q_od hA hB hW hQ hO (Nat.le_refl _) h1 h2
  rw [hn6] at e h3
  have es : o_sum (fun k => o_od (fun k => q_n (D 85).1 (k * 3 + 0)) F (q_n W 6) (q_n W 7) k * k_spr D k t) (q_n W 6) = o_sum (fun k => o_od (fun k => q_n W (78 + 3 * k)) G (q_n W 6) (q_n W 7) k * m_spr W k t) (q_n W 6) := o_sum_c (fun k hk => by rw [e k hk, q_spr hQ hk ht])
  rw [h3, h4, es, o_say_c (q_n W 6) (fun i hi => ⟨e i hi, q_spr hQ hi ht⟩)]
/-- knows, whence: one answer -/
theorem y_s8_v {v w : Int32} {P Q : Nat → Prop} (h1 : y_s8 v P) (h2 : y_s8 w Q) (h : ∀ p, p < 8 → (P p ↔ Q p)) : v = w := by
  obtain ⟨m, a1, a2, a3⟩ := h1
  obtain ⟨n, b1, b2, b3⟩ := h2
  have e : m = n := by
    apply Nat.eq_of_testBit_eq
    intro i
    by_cases q : i < 8
    · have e1 := (a3 i q).trans ((h i q).trans (b3 i q).symm)
      cases x : m.testBit i with
      | true => exact (e1.mp x).symm
      | false =>
        cases y : n.testBit i with
        | true => rw [e1.mpr y] at x; cases x
        | false => rfl
    · have h9 : 2 ^ 8 ≤ 2 ^ i := Nat.pow_le_pow_right (by decide) (by omega)
      rw [Nat.testBit_lt_two_pow (by omega), Nat.testBit_lt_two_pow (by omega)]
  rw [a2, b2, e]
def q_D (D : y_D) (W : Nat → Int32) : Prop := q_tb D W 88 8 153 3 ∧ (D 73).1 12 = W 11
theorem q_knB {D : y_D} {W : Nat → Int32} {B : Nat} (h : q_tb D W 88 8 B 3) {wo : Int32} {b : Nat} : ∀ j p x, (k_knj D wo b j p x ↔ kn (fun k => q_n W (B + 3 * k)) (fun k => q_n W (B + 3 * k + 1)) (fun k => q_n W (B + 3 * k + 2)) (q_n W 8) (fun k => W (B + 3 * k) ≠ wo) (fun p => b.testBit p = true) j p x) := by
  have hn := q_tb_n h
  have edge : ∀ u v y, (∃ k, k < q_n (D 88).1 2 ∧ (D 89).1 (k * 3 + 0) ≠ wo ∧ q_n (D 89).1 (k * 3 + 0) = u ∧ q_n (D 89).1 (k * 3 + 1) = v ∧ q_n (D 89).1 (k * 3 + 2) = y) ↔ (∃ k, k < q_n W 8 ∧ W (B + 3 * k) ≠ wo ∧ q_n W (B + 3 * k) = u ∧ q_n W (B + 3 * k + 1) = v ∧ q_n W (B + 3 * k + 2) = y) := by
    intro u v y
    rw [hn]
    have c0 : ∀ k, k < q_n W 8 → (D 89).1 (k * 3 + 0) = W (B + 3 * k) := fun k hk => h.2.2 k 0 hk (by decide)
    have q0 : ∀ k, k < q_n W 8 → q_n (D 89).1 (k * 3 + 0) = q_n W (B + 3 * k) := fun k hk => q_tb_c h hk (by decide)
    have q1 : ∀ k, k < q_n W 8 → q_n (D 89).1 (k * 3 + 1) = q_n W (B + 3 * k + 1) := fun k hk => q_tb_c h hk (by decide)
    have q2 : ∀ k, k < q_n W 8 → q_n (D 89).1 (k * 3 + 2) = q_n W (B + 3 * k + 2) := fun k hk => q_tb_c h hk (by decide)
    constructor
    · rintro ⟨k, a, b1, b2, b3, b4⟩
      rw [c0 k a] at b1
      rw [q0 k a] at b2
      rw [q1 k a] at b3
      rw [q2 k a] at b4
      exact ⟨k, a, b1, b2, b3, b4⟩
    · rintro ⟨k, a, b1, b2, b3, b4⟩
      exact ⟨k, a, by rw [c0 k a]; exact b1, by rw [q0 k a]; exact b2, by rw [q1 k a]; exact b3, by rw [q2 k a]; exact b4⟩
  intro j
  induction j with
  | zero =>
    intro p x
    show b.testBit p = true ↔ b.testBit p = true
    exact Iff.rfl
  | succ j ih =>
    intro p x
    constructor
    · rintro (q | ⟨u, y, a1, a2, a3⟩)
      · exact Or.inl ((ih p x).mp q)
      · exact Or.inr ⟨u, y, a1, (edge u p y).mp a2, (ih u y).mp a3⟩
    · rintro (q | ⟨u, y, a1, a2, a3⟩)
      · exact Or.inl ((ih p x).mpr q)
      · exact Or.inr ⟨u, y, a1, (edge u p y).mpr a2, (ih u y).mpr a3⟩
theorem q_kn {D : y_D} {W : Nat → Int32} (h : q_D D W) {wo : Int32} {b d : Nat} (p : Nat) : k_kn D wo b d p ↔ m_kn W wo b d p := q_knB h.1 7 p d
theorem q_D_11 {D : y_D} {W : Nat → Int32} (h : q_D D W) : q_n (D 73).1 12 = q_n W 11 := by
  unfold q_n
  rw [h.2]
theorem q_knows {D : y_D} {W : Nat → Int32} (h : q_D D W) {d : Nat} {v w : Int32} (h1 : y_s8 v (fun p => k_kn D (-1) (q_n (D 73).1 12) d p)) (h2 : y_s8 w (fun p => m_kn W (-1) (q_n W 11) d p)) : v = w := by
  rw [q_D_11 h] at h1
  exact y_s8_v h1 h2 (fun p _ => q_kn h p)
theorem q_whence {D : y_D} {W : Nat → Int32} (h : q_D D W) {d : Nat} {mu v w : Int32} (h1 : y_s8 v (fun q => q < 8 ∧ 1 ≤ q ∧ k_PM D (!decide (mu = 0)) (q_n (D 73).1 12) d q)) (h2 : y_s8 w (fun q => q < 8 ∧ 1 ≤ q ∧ m_PM W mu (q_n W 11) d q)) : v = w := by
  rw [q_D_11 h] at h1
  refine y_s8_v h1 h2 (fun p _ => and_congr Iff.rfl (and_congr Iff.rfl ?_))
  unfold k_PM m_PM
  by_cases c : mu = 0
  · rw [if_pos (by rw [decide_eq_true c]; rfl), if_pos c]
    exact and_congr Iff.rfl (q_kn h 0)
  · rw [if_neg (by rw [decide_eq_false c]; decide), if_neg c]
    exact and_congr (q_kn h 0) (not_congr (q_kn h 0))
theorem q_with {D : y_D} {W : Nat → Int32} {p c : Nat} {v w : Int32} (h : q_tb D W 86 7 93 5)
    (h1 : v = c_wth (fun i => decide (y_bit ((D 87).1 (i * 5 + 1)) p)) (fun i => decide ((D 87).1 (i * 5 + 2) ≠ 0)) (q_n (D 86).1 2) c)
    (h2 : w = c_wth (fun i => decide (y_bit (W (93 + 5 * i + 1)) p)) (fun i => decide (W (93 + 5 * i + 2) ≠ 0)) (q_n W 7) c) : v = w := by
  have hn := q_tb_n h
  have cc : ∀ (a b : Nat → Bool) n, (∀ i, i < n → a i = b i) → c_cn a n = c_cn b n := by
    intro a b n
    induction n with
    | zero => intro _; rfl
    | succ n ih =>
      intro hab
      unfold c_cn
      rw [ih (fun i hi => hab i (by omega)), hab n (by omega)]
  have e1 : ∀ i, i < q_n W 7 → decide (y_bit ((D 87).1 (i * 5 + 1)) p) = decide (y_bit (W (93 + 5 * i + 1)) p) := fun i hi => by rw [h.2.2 i 1 hi (by decide)]
  have e2 : ∀ i, i < q_n W 7 → decide ((D 87).1 (i * 5 + 2) ≠ 0) = decide (W (93 + 5 * i + 2) ≠ 0) := fun i hi => by rw [h.2.2 i 2 hi (by decide)]
  rw [h1, h2, hn]
  unfold c_wth
  rw [cc _ _ _ e1, cc _ _ _ e2, cc (fun i => decide (y_bit ((D 87).1 (i * 5 + 1)) p) && decide ((D 87).1 (i * 5 + 2) ≠ 0)) (fun i => decide (y_bit (W (93 + 5 * i + 1)) p) && decide (W (93 + 5 * i + 2) ≠ 0)) _ (fun i hi => by rw [e1 i hi, e2 i hi])]

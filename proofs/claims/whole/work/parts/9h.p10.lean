/-! fewest, shut, opens, look answer alike -/
theorem m_rc_up {W : Nat → Int32} {u u2 : Int32} : ∀ k, (∀ i, i < k → y_bit u i → y_bit u2 i) → m_rc W u k ≤ m_rc W u2 k
  | 0, _ => Nat.le_refl _
  | k + 1, h => by
    have ih := m_rc_up (W := W) k (fun i hi => h i (by omega))
    unfold m_rc
    by_cases b : y_bit u k
    · rw [if_pos b, if_pos (h k (by omega) b)]
      omega
    · rw [if_neg b]
      split <;> omega
theorem m_cd_up {W : Nat → Int32} {th f a b : Nat} (hb : b ≤ 9) (hab : a ≤ b) (h : m_cd W th f a) : m_cd W th f b := by
  have kk : ∀ b, b ≤ 9 → ∀ a, a ≤ b → nI a ≤ nI b := by
    have k2 : ∀ b, b < 10 → ∀ a, a < 10 → a ≤ b → nI a ≤ nI b := by decide +kernel
    intro b hb a ha
    exact k2 b (by omega) a (by omega) ha
  exact ⟨h.1, h.2.1, Int32.le_trans h.2.2 (kk b hb a hab)⟩
/-- more WAYS never take a COURSE away -/
theorem m_can_up {DL : y_D} {W : Nat → Int32} {u u2 hl : Int32} {k kn : Nat} (hW : m_W W) (hDL : (DL 170).1 = W) (hu : ∀ i, i < q_n W 2 → y_bit u i → y_bit u2 i) (h : m_can DL u hl k (q_n W 2) kn) : m_can DL u2 hl k (q_n W 2) kn := by
  have h9 : m_rc W u2 (q_n W 2) ≤ 9 := m_rc_9 (fun w hw => m_reach_9 (hW.2.2.2.2.2.2.1 w hw))
  have hup := m_rc_up (W := W) (q_n W 2) hu
  unfold m_can at h ⊢
  rw [hDL] at h ⊢
  have hG : ∀ m, (m_G0 DL m ∧ m_nt W (m_rc W u (q_n W 2)) kn m) → (m_G0 DL m ∧ m_nt W (m_rc W u2 (q_n W 2)) kn m) := fun m a => ⟨a.1, fun j hj e => m_cd_up h9 hup (a.2 j hj e)⟩
  refine ⟨h.1, m_on_c (fun w s f hw a => ?_) hG h.2⟩
  exact ⟨hu w hw a.1, a.2.1, a.2.2.1, fun y y1 y2 => ⟨(a.2.2.2.1 y y1 y2).1, hG _ (a.2.2.2.1 y y1 y2).2⟩, hG _ a.2.2.2.2⟩
theorem y_pop_full : ∀ k, k ≤ 6 → y_pop (2 ^ k - 1) = k := by
  have h : ∀ k, k < 7 → y_pop (2 ^ k - 1) = k := by decide +kernel
  intro k hk
  exact h k (by omega)
theorem q_few {C P : Nat → Prop} {kw : Nat} {v w : Int32} (hk : kw ≤ 6) (h : ∀ s, s < 2 ^ kw → (C s ↔ P s)) (hup : ∀ s, s < 2 ^ kw → P s → P (2 ^ kw - 1)) (h1 : k_few C (2 ^ kw - 1) v) (h2 : m_few P (2 ^ kw) w) : v = w := by
  have hp := Nat.two_pow_pos kw
  obtain ⟨N, hN⟩ : ∃ z, z = 2 ^ kw := ⟨_, rfl⟩
  have hfull := y_pop_full kw hk
  have hall := y_pop_all kw hk
  rw [← hN] at h hup h1 h2 hp hfull hall
  rcases h1 with ⟨e1, a⟩ | ⟨a, b, hb, e1, c, d⟩
  · rcases h2 with ⟨e2, _⟩ | ⟨b2, hb2, e2, c2, d2⟩
    · rw [e1, e2]
    · exact absurd ((h _ (by omega)).mpr (hup b2 hb2 c2)) a
  · rcases h2 with ⟨e2, c2⟩ | ⟨b2, hb2, e2, c2, d2⟩
    · exact absurd ((h _ (by omega)).mp a) (c2 _ (by omega))
    · have q1 := d2 b (by omega) ((h b (by omega)).mp c)
      have e : b = b2 := by
        by_cases z : b2 < N - 1
        · have q2 := d b2 z ((h b2 hb2).mpr c2)
          omega
        · have z2 : b2 = N - 1 := by omega
          rw [z2, hfull] at q1
          by_cases z3 : b < N - 1
          · have := hall b z3
            omega
          · omega
      rw [e1, e2, e]
theorem y_bit_nIm {s k i : Nat} (hs : s < 2 ^ k) (hk : k ≤ 6) (hi : i < k) : (y_bit (nI s) i → y_bit (nI (2 ^ k - 1)) i) := by
  intro _
  rw [y_bit_tb (by omega), Nat.testBit_two_pow_sub_one]
  exact decide_eq_true hi
theorem q_fewest {D DS DL : y_D} {W : Nat → Int32} {L : List Nat} {t : Nat} {hl v w : Int32} (hA : q_A D W) (hB : k_B D L) (hW : m_W W) (hN : q_N W) (ht : t < q_n W 1) (hS : c_G (c_per D (q_n (D 74).1 2)) DS (k_rt D t) (-1) (k_rm D t)) (hL : m_L W DL t (-1))
    (h1 : k_few (fun s => k_can D DS t (nI s) hl) (2 ^ q_n (D 73).1 4 - 1) v) (h2 : m_few (fun i => m_can DL (nI i &&& (nI (2 ^ (q_n W 2)) - 1)) hl (m_ls W t (-1)) (q_n W 2) (q_n W 4)) (2 ^ (q_n W 2)) w) : v = w := by
  have h6 : q_n W 2 ≤ 6 := hW.2.2.1.2
  rw [q_A_w hA] at h1
  refine q_few h6 (fun s hs => q_can hA hB hW hN ht hS hL) (fun s hs p => ?_) h1 h2
  exact m_can_up hW hL.1 (fun i hi b => (y_maskb hi h6).mpr (y_bit_nIm hs h6 hi ((y_maskb hi h6).mp b))) p
theorem y_am1 {x : Int32} : (-1) &&& x = x := by
  apply b_ext
  intro i hi
  rw [b_and, b_m1 i hi, Bool.true_and]
theorem y_mm {x : Int32} : x &&& x = x := by
  apply b_ext
  intro i hi
  rw [b_and, Bool.and_self]
theorem c_or_b {S : Nat → Int32} {c : Nat} (hc : c < 32) : ∀ n, (y_bit (c_or S n) c ↔ ∃ x, x < n ∧ y_bit (S x) c)
  | 0 => ⟨fun h => absurd h (y_bit_0 hc), fun ⟨x, hx, _⟩ => absurd hx (by omega)⟩
  | n + 1 => by
    have ih := c_or_b (S := S) hc n
    unfold c_or
    rw [y_bit_or hc, ih]
    constructor
    · rintro (⟨x, a, b⟩ | h)
      · exact ⟨x, by omega, b⟩
      · exact ⟨n, by omega, h⟩
    · rintro ⟨x, a, b⟩
      by_cases q : x = n
      · rw [q] at b
        exact Or.inr b
      · exact Or.inl ⟨x, by omega, b⟩
theorem q_ev {S : Nat → Int32} {K : Int32} {k : Nat} : (c_or S (k + 1) &&& K ≠ 0) ↔ ∃ x, x ≤ k ∧ S x &&& K ≠ 0 := by
  rw [y_nz]
  constructor
  · rintro ⟨c, hc, h⟩
    rw [y_bit_and hc, c_or_b hc] at h
    obtain ⟨⟨x, a, b⟩, d⟩ := h
    exact ⟨x, by omega, y_nz.mpr ⟨c, hc, (y_bit_and hc).mpr ⟨b, d⟩⟩⟩
  · rintro ⟨x, a, b⟩
    obtain ⟨c, hc, h⟩ := y_nz.mp b
    rw [y_bit_and hc] at h
    exact ⟨c, hc, (y_bit_and hc).mpr ⟨(c_or_b hc _).mpr ⟨x, by omega, h.1⟩, h.2⟩⟩
theorem m_ea_neg {P : Nat → Nat → Prop} {k : Nat} {v : Int32} (hk : k ≤ 300) (h : m_ea P k v) : ¬ v < 0 ↔ ∃ s, s ≤ k ∧ ∃ f, f < 16 ∧ P s f := by
  rcases h with ⟨e, a⟩ | ⟨s, hs, e, a, b⟩
  · rw [e]
    exact ⟨fun q => absurd (by decide) q, fun ⟨s, hs, f, hf, p⟩ => absurd p (a s hs f hf)⟩
  · rw [e]
    exact ⟨fun _ => ⟨s, hs, a⟩, fun _ => nI_pos (by omega)⟩
/-- whether a THING can ever be done, by the class's memory -/
theorem q_ever {D DL : y_D} {W : Nat → Int32} {L : List Nat} {t th : Nat} {yes : Bool} {v2 : Int32} (hA : q_A D W) (hB : k_B D L) (hW : m_W W) (ht : t < q_n W 1) (hth : th < q_n W 3) (hL : m_L W DL t (-1)) (h1 : k_ever D t th yes)
    (h2 : m_ea (fun s f => m_me DL ((-1) &&& (nI (2 ^ (q_n W 2)) - 1)) 0 (m_ls W t (-1)) (q_n W 2) (16 * s + f) ∧ m_cd W th f (m_rc W ((-1) &&& (nI (2 ^ (q_n W 2)) - 1)) (q_n W 2))) (m_ls W t (-1)) v2) : yes = true ↔ ¬ v2 < 0 := by
  have hR := hA.2.2.2.1.2 t ht
  have hwr := hW.2.2.2.2.2.1 t ht
  have hk := m_ls_b (wo := -1) hwr
  obtain ⟨v, ⟨DS, hS, e⟩, h3⟩ := h1
  have hE := q_E_ok hA.1 hW.1 hwr hR hS hL
  rw [← h3, e, q_ev, m_ea_neg hk h2, q_last hR, q_A_w hA, y_am1]
  have key := fun {x : Nat} (hx : x ≤ m_ls W t (-1)) => q_nz (t := t) (wo := -1) (u := nI (2 ^ q_n W 2) - 1) (hl := 0) hA hB hW hE hL.1 hk hth hx
  simp only [y_mm] at key
  have e0 : nI 0 = 0 := rfl
  rw [q_A_w hA] at key
  constructor
  · rintro ⟨x, a, b⟩
    exact ⟨x, a, (key a).mp b⟩
  · rintro ⟨x, a, b⟩
    exact ⟨x, a, (key a).mpr b⟩
theorem q_shb {S N S2 N2 : Nat → Prop} {y n : Nat → Int32} : ∀ {k : Nat} {v w : Int32}, (∀ i, i < k → S i → N2 i → False) → (∀ i, i < k → N i → S2 i → False) → m_shb S N y n k v → m_shb S2 N2 y n k w → v = w
  | 0, v, w, _, _, h1, h2 => by
    have a : v = 0 := h1
    have b : w = 0 := h2
    rw [a, b]
  | k + 1, v, w, ha, hb, h1, h2 => by
    obtain ⟨z1, a1, a2⟩ := h1
    obtain ⟨z2, b1, b2⟩ := h2
    have e := q_shb (fun i hi => ha i (by omega)) (fun i hi => hb i (by omega)) a1 b1
    rcases a2 with ⟨a2, a3⟩ | ⟨a2, a3⟩ <;> rcases b2 with ⟨b2, b3⟩ | ⟨b2, b3⟩
    · rw [a3, b3, e]
    · exact (ha k (by omega) a2 b2).elim
    · exact (hb k (by omega) a2 b2).elim
    · rw [a3, b3, e]
theorem q_ev_sh {D : y_D} {W : Nat → Int32} {L : List Nat} {t th : Nat} (hA : q_A D W) (hB : k_B D L) (hW : m_W W) (ht : t < q_n W 1) (hth : th < q_n W 3) : (k_ever D t th false → m_ns W t th (-1) → False) ∧ (k_ever D t th true → m_sh W t th (-1) → False) := by
  refine ⟨fun h1 h2 => ?_, fun h1 h2 => ?_⟩
  · obtain ⟨v2, DL, hL, a, b⟩ := h2
    have := (q_ever hA hB hW ht hth hL h1 a).mpr b
    cases this
  · obtain ⟨v2, DL, hL, a, b⟩ := h2
    exact (q_ever hA hB hW ht hth hL h1 a).mp rfl b
theorem q_shut {D : y_D} {W : Nat → Int32} {L : List Nat} {th : Nat} {v w : Int32} (hA : q_A D W) (hB : k_B D L) (hW : m_W W) (hth : th < q_n W 3)
    (h1 : m_shb (fun t => k_ever D t th false) (fun t => k_ever D t th true) (fun t => nI (2 ^ t)) (fun _ => 0) (q_n (D 73).1 2) v) (h2 : m_shb (fun t => m_sh W t th (-1)) (fun t => m_ns W t th (-1)) (fun t => nI (2 ^ t)) (fun _ => 0) (q_n W 1) w) : v = w := by
  rw [q_A_r hA] at h1
  exact q_shb (fun i hi a b => (q_ev_sh hA hB hW hi hth).1 a b) (fun i hi a b => (q_ev_sh hA hB hW hi hth).2 a b) h1 h2
theorem q_opens {D : y_D} {W : Nat → Int32} {L : List Nat} {t th : Nat} {v w : Int32} (hA : q_A D W) (hB : k_B D L) (hW : m_W W) (ht : t < q_n W 1) (hth : th < q_n W 3)
    (h1 : (k_ever D t th false ∧ m_shb (fun i => ∃ DS, c_G (c_per D (q_n (D 74).1 2)) DS (k_rt D t) (nI i) (k_rm D t) ∧ k_fs (k_SS D DS t (nI i) (nI (2 ^ q_n (D 73).1 4) - 1) 0 (y_al DS (k_last D t (nI i))) (k_last D t (nI i))) (K_setsFor D (q_n (D 78).1 2) th (q_n (D 73).1 4) (nI (2 ^ q_n (D 73).1 4) - 1)) (k_last D t (nI i)) (-1)) (fun i => ∃ DS w, c_G (c_per D (q_n (D 74).1 2)) DS (k_rt D t) (nI i) (k_rm D t) ∧ k_fs (k_SS D DS t (nI i) (nI (2 ^ q_n (D 73).1 4) - 1) 0 (y_al DS (k_last D t (nI i))) (k_last D t (nI i))) (K_setsFor D (q_n (D 78).1 2) th (q_n (D 73).1 4) (nI (2 ^ q_n (D 73).1 4) - 1)) (k_last D t (nI i)) w ∧ w ≠ -1) (fun _ => 0) (fun i => nI (2 ^ i)) (k_rm D t) v) ∨ (k_ever D t th true ∧ v = -1))
    (h2 : (m_sh W t th (-1) ∧ m_shb (fun i => m_sh W t th (nI i)) (fun i => m_ns W t th (nI i)) (fun _ => 0) (fun i => nI (2 ^ i)) (m_k W t) w) ∨ (m_ns W t th (-1) ∧ w = -1)) : v = w := by
  have hR := hA.2.2.2.1.2 t ht
  have he := q_ev_sh hA hB hW ht hth
  have em : (nI (2 ^ q_n W 2) - 1) &&& (nI (2 ^ q_n W 2) - 1) = (-1) &&& (nI (2 ^ q_n W 2) - 1) := by rw [y_mm, y_am1]
  have key : ∀ (i : Nat) (DS DL : y_D) (a b : Int32), c_G (c_per D (q_n (D 74).1 2)) DS (k_rt D t) (nI i) (k_rm D t) → m_L W DL t (nI i) → k_fs (k_SS D DS t (nI i) (nI (2 ^ q_n (D 73).1 4) - 1) 0 (y_al DS (k_last D t (nI i))) (k_last D t (nI i))) (K_setsFor D (q_n (D 78).1 2) th (q_n (D 73).1 4) (nI (2 ^ q_n (D 73).1 4) - 1)) (k_last D t (nI i)) a → m_ea (fun s f => m_me DL ((-1) &&& (nI (2 ^ (q_n W 2)) - 1)) 0 (m_ls W t (nI i)) (q_n W 2) (16 * s + f) ∧ m_cd W th f (m_rc W ((-1) &&& (nI (2 ^ (q_n W 2)) - 1)) (q_n W 2))) (m_ls W t (nI i)) b → a = b := by
    intro i DS DL a b hS hL g1 g2
    rw [← em] at g2
    have hww := q_A_w hA
    have g3 := q_earliest (w := b) (u := nI (2 ^ q_n (D 73).1 4) - 1) hA hB hW ht hth hS hL g1
    rw [hww] at g3
    exact g3 g2
  rcases h1 with ⟨a1, a2⟩ | ⟨a1, a2⟩
  · rcases h2 with ⟨b1, b2⟩ | ⟨b1, b2⟩
    · rw [← hR.1] at b2
      refine q_shb (fun i hi p q => ?_) (fun i hi p q => ?_) a2 b2
      · obtain ⟨DS, hS, g1⟩ := p
        obtain ⟨v2, DL, hL, g2, g3⟩ := q
        have e := key i DS DL _ _ hS hL g1 g2
        rw [← e] at g3
        exact g3 (by decide)
      · obtain ⟨DS, w9, hS, g1, g0⟩ := p
        obtain ⟨v2, DL, hL, g2, g3⟩ := q
        have e := key i DS DL _ _ hS hL g1 g2
        rcases g2 with ⟨e2, _⟩ | ⟨s, hs, e2, _, _⟩
        · exact g0 (by rw [e, e2])
        · rw [e2] at g3
          have := m_ls_b (wo := nI i) (hW.2.2.2.2.2.1 t ht)
          exact nI_pos (by omega) g3
    · exact (he.1 a1 b1).elim
  · rcases h2 with ⟨b1, b2⟩ | ⟨b1, b2⟩
    · exact (he.2 a1 b1).elim
    · rw [a2, b2]
theorem s_lit_01 {p a b : Nat → Nat} {wo : Int32} {s : Nat} : ∀ k, s_lit p a b wo s k = 0 ∨ s_lit p a b wo s k = 1
  | 0 => Or.inl rfl
  | k + 1 => by
    unfold s_lit
    split
    · exact Or.inr rfl
    · exact s_lit_01 k
theorem q_look {D DS DL : y_D} {W : Nat → Int32} {t c : Nat} {v w : Int32} (hA : q_A D W) (hW : m_W W) (ht : t < q_n W 1) (hS : c_G (c_per D (q_n (D 74).1 2)) DS (k_rt D t) (-1) (k_rm D t)) (hL : m_L W DL t (-1))
    (h1 : v = k_look DS (k_last D t (-1)) (k_rm D t) c) (h2 : w = m_look DL (m_ls W t (-1)) (m_k W t) c) : v = w := by
  have hR := hA.2.2.2.1.2 t ht
  have hwr := hW.2.2.2.2.2.1 t ht
  have hE := q_E_ok hA.1 hW.1 hwr hR hS hL
  have hk := m_ls_b (wo := -1) hwr
  have el : ∀ n, n ≤ 301 → y_ls DS n = m_lits (DL 174).1 n := by
    intro n
    induction n with
    | zero => intro _; rfl
    | succ n ih =>
      intro hn
      show y_ls DS n + (DS 153).1 n = m_lits (DL 174).1 n + _
      rw [ih (by omega), hE.1 n (by omega)]
      have h01 := hL.2.2.1 n (by omega)
      rcases s_lit_01 (p := fun i => m_o W t i 0) (a := fun i => m_o W t i 1) (b := fun i => m_o W t i 2) (wo := -1) (s := n) (m_k W t) with e | e
      · rw [e] at h01
        rw [h01, if_pos rfl]
      · rw [e] at h01
        rw [h01, if_neg (by decide)]
  have eb : ∀ c, m_bys (fun l => s_by c (c_p (k_rt D t)) (c_a (k_rt D t)) (c_b (k_rt D t)) (-1) l (k_rm D t)) 4 = m_bys (fun l => s_by c (fun i => m_o W t i 0) (fun i => m_o W t i 1) (fun i => m_o W t i 2) (-1) l (m_k W t)) 4 := by
    intro c
    rw [hR.1]
    exact m_bys_c (fun l hl => s_by_c (fun i hi => hR.2 i hi))
  rw [h1, h2, q_last hR, hR.1]
  unfold k_look m_look
  by_cases c0 : c = 0
  · rw [if_pos c0, if_pos c0]
  · rw [if_neg c0, if_neg c0]
    by_cases c1 : c = 1
    · rw [if_pos c1, if_neg (by omega), if_pos c1, el _ (by omega)]
    · rw [if_neg c1]
      by_cases c2 : c = 2
      · rw [if_pos c2, if_pos c2]
      · rw [if_neg c2, if_neg c2, if_neg c1]
        by_cases c3 : c = 3
        · rw [if_pos c3, if_pos c3, hS.2.2.1, eb 0]
          exact m_bys_c (fun l hl => (hL.2.2.2.1 l hl).symm)
        · rw [if_neg c3, if_neg c3, hS.2.2.2.1, eb 1]
          exact m_bys_c (fun l hl => (hL.2.2.2.2 l hl).symm)

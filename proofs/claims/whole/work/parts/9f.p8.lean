/-! the asking calls: things, notes, ways -/
theorem y_nz {v : Int32} : v ≠ 0 ↔ ∃ c, c < 32 ∧ y_bit v c := by
  constructor
  · intro h
    apply Classical.byContradiction
    intro q
    refine h (b_ext (fun i hi => ?_))
    rw [b_0]
    cases e : bt v i with
    | false => rfl
    | true => exact absurd ⟨i, hi, (y_bit_bt hi).mpr e⟩ q
  · rintro ⟨c, hc, h⟩ e
    rw [e] at h
    exact y_bit_0 hc h
theorem y_sf_b {h f : Int32} : ∀ n, n ≤ 16 → ∀ g, g < 32 → (y_bit (y_sf h f n) g ↔ g < n ∧ h ≤ nI (y_pop (g % 4)) ∧ f ≤ nI (y_pop (g / 4)))
  | 0, _, g, hg => ⟨fun q => absurd q (y_bit_0 hg), fun q => absurd q.1 (by omega)⟩
  | n + 1, hn, g, hg => by
    have ih := y_sf_b (h := h) (f := f) n (by omega) g hg
    show y_bit (y_sf h f n ||| (if h ≤ nI (y_pop (n % 4)) ∧ f ≤ nI (y_pop (n / 4)) then nI (2 ^ n) else 0)) g ↔ _
    rw [y_bit_or hg, ih]
    by_cases c : h ≤ nI (y_pop (n % 4)) ∧ f ≤ nI (y_pop (n / 4))
    · rw [if_pos c, y_bit_tb hg, Nat.testBit_two_pow]
      constructor
      · rintro (q | q)
        · exact ⟨by omega, q.2⟩
        · have e : n = g := of_decide_eq_true q
          rw [← e]
          exact ⟨by omega, c⟩
      · rintro ⟨q1, q2⟩
        by_cases e : n = g
        · exact Or.inr (decide_eq_true e)
        · exact Or.inl ⟨by omega, q2⟩
    · rw [if_neg c]
      constructor
      · rintro (q | q)
        · exact ⟨by omega, q.2⟩
        · exact absurd q (y_bit_0 hg)
      · rintro ⟨q1, q2⟩
        by_cases e : n = g
        · rw [← e] at q2
          exact absurd q2 c
        · exact Or.inl ⟨by omega, q2⟩
/-- the steps sl ask what the need LINES of the text t ask -/
def q_M (sl : List Nat) (W : Nat → Int32) (t : Nat) : Prop := ∀ (DS DL : y_D) (x f : Nat) (hl : Int32), q_E DS DL → x < 301 → f < 16 → (y_bit (((c_s (fun p q => K_tag DS (nI p) q x) (fun p q => K_partOf DS (nI p) q (nI x)) hl sl (0, 0, [65535])).2.2).headD 0) f ↔ ∀ i, i < m_k W t → m_o W t i 0 = 3 → e_s (fun p q => m_ask DL p q x f hl) (m_sl W t (m_o W t i 4 - m_o W t i 3) (m_o W t i 3)) [] = [1])
/-- the WAY w of the class is that of the reference -/
def q_wy (D : y_D) (W : Nat → Int32) (w : Nat) : Prop := (D (k_wh D w)).1 0 = nI (m_frees W w) ∧ (D (k_wh D w)).1 1 = nI (m_take W w) ∧ (D (k_wh D w)).1 2 = nI (m_reach W w) ∧ q_M (c_sl (k_wt D w) (k_wl D w) 0) W (4 + w)
theorem q_met {D DS DL : y_D} {W : Nat → Int32} {w x f : Nat} {hl : Int32} (h : q_wy D W w) (hE : q_E DS DL) (hW : (DL 170).1 = W) (hx : x < 301) (hf : f < 16) : y_bit (k_met DS (k_wt D w) (k_wl D w) x hl) f ↔ m_all DL w x f hl := by
  have h1 := h.2.2.2 DS DL x f hl hE hx hf
  unfold k_met m_all m_alls m_line
  rw [hW]
  exact h1
/-- class and reference have the same: what the asking calls see -/
def q_A (D : y_D) (W : Nat → Int32) : Prop := (q_tb D W 74 0 12 2 ∧ q_PB W) ∧ q_tb D W 78 3 28 3 ∧ q_tb D W 80 4 46 2 ∧ ((D 73).1 2 = W 1 ∧ ∀ t, t < q_n W 1 → q_ru D W t) ∧ (D 73).1 4 = W 2 ∧ ∀ w, w < q_n W 2 → q_wy D W w
theorem q_A_r {D : y_D} {W : Nat → Int32} (h : q_A D W) : q_n (D 73).1 2 = q_n W 1 := by
  unfold q_n
  rw [h.2.2.2.1.1]
theorem q_A_w {D : y_D} {W : Nat → Int32} (h : q_A D W) : q_n (D 73).1 4 = q_n W 2 := by
  unfold q_n
  rw [h.2.2.2.2.1]
theorem m_fb_lt {W : Nat → Int32} {w : Nat} (h : m_ww W (4 + w)) : m_frees W w < 16 := by
  have key : ∀ k, k ≤ m_k W (4 + w) → m_fb W (4 + w) k < 16 := by
    intro k
    induction k with
    | zero => intro _; exact Nat.le_of_ble_eq_true rfl
    | succ k ih =>
      intro hk
      have i9 := ih (by omega)
      have h9 := (h.2 k (by omega)).2.2.1
      unfold m_fb
      have kk : ∀ a, a < 16 → ∀ b, b < 4 → a ||| 2 ^ b < 16 := by decide +kernel
      split
      · rename_i c
        exact kk _ i9 _ (h9 c)
      · exact i9
  exact key _ (Nat.le_refl _)
theorem m_reach_9 {W : Nat → Int32} {w : Nat} (h : m_ww W (4 + w)) : m_reach W w ≤ 9 := m_lst_b (by decide) (fun i hi c => (h.2 i hi).2.2.2.2.1 c)
theorem m_rc_9 {W : Nat → Int32} {u : Int32} : ∀ {k}, (∀ w, w < k → m_reach W w ≤ 9) → m_rc W u k ≤ 9
  | 0, _ => by unfold m_rc; omega
  | k + 1, h => by
    have ih := m_rc_9 (u := u) (k := k) (fun w hw => h w (by omega))
    have := h k (by omega)
    unfold m_rc
    split <;> omega
theorem q_gr {D : y_D} {W : Nat → Int32} {L : List Nat} {u : Int32} (hB : k_B D L) : ∀ {k}, k ≤ 6 → (∀ w, w < k → (D (k_wh D w)).1 2 = nI (m_reach W w) ∧ m_reach W w ≤ 9) → y_gr D u k = nI (m_rc W u k)
  | 0, _, _ => rfl
  | k + 1, hk, h => by
    have ih := q_gr hB (k := k) (u := u) (by omega) (fun w hw => h w (by omega))
    have h9 := m_rc_9 (u := u) (k := k) (fun w hw => (h w (by omega)).2)
    have hk1 := h k (by omega)
    have ew : y_w D k 2 = nI (m_reach W k) := by
      rw [← y_w_ok (hB.2.2.2.2.2.2.1 k (by omega)).1]
      exact hk1.1
    show y_gr1 D u k (y_gr D u k) = _
    unfold y_gr1 m_rc
    rw [ih, ew]
    by_cases b : y_bit u k
    · rw [if_pos b, if_pos b]
      have kk : ∀ a, a ≤ 9 → ∀ c, c ≤ 9 → (if nI a < nI c then nI c else nI a) = nI (max a c) := by decide +kernel
      exact kk _ h9 _ hk1.2
    · rw [if_neg b, if_neg b]
theorem q_sf {D : y_D} {W : Nat → Int32} {L : List Nat} (hA : q_A D W) (hB : k_B D L) (hW : m_W W) {th f : Nat} {u : Int32} (hth : th < q_n W 3) (hf : f < 32) : y_bit (K_setsFor D (q_n (D 78).1 2) th (q_n (D 73).1 4) u) f ↔ f < 16 ∧ m_cd W th f (m_rc W u (q_n W 2)) := by
  have hn := q_tb_n hA.2.1
  have hw := q_A_w hA
  have h6 : q_n W 2 ≤ 6 := hW.2.2.1.2
  have hr : ∀ w, w < q_n W 2 → (D (k_wh D w)).1 2 = nI (m_reach W w) ∧ m_reach W w ≤ 9 := fun w hww => ⟨(hA.2.2.2.2.2 w hww).2.2.1, m_reach_9 (hW.2.2.2.2.2.2.1 w hww)⟩
  have hg := q_gr (u := u) hB h6 hr
  have ht : ∀ c, c < 3 → y_tg D (q_n W 3) th c = W (28 + 3 * th + c) := fun c hc => by
    unfold y_tg
    rw [if_pos ⟨hth, hc⟩]
    exact hA.2.1.2.2 th c hth hc
  unfold K_setsFor m_cd
  rw [hn, hw, hg, ht 0 (by decide), ht 1 (by decide), ht 2 (by decide)]
  by_cases c : nI (m_rc W u (q_n W 2)) < W (28 + 3 * th + 2)
  · rw [if_pos c]
    exact ⟨fun q => absurd q (y_bit_0 hf), fun q => absurd c (Int32.not_lt.mpr q.2.2.2)⟩
  · rw [if_neg c, y_sf_b 16 (Nat.le_refl _) f hf]
    exact ⟨fun q => ⟨q.1, q.2.1, q.2.2, Int32.not_lt.mp c⟩, fun q => ⟨q.1, q.2.1, q.2.2.1⟩⟩
theorem q_chg {D : y_D} {i m f : Nat} (h : (D (k_wh D i)).1 0 = nI m) (hm : m < 16) (hf : f < 16) : y_bit (k_chg D i) f ↔ f ||| m ≠ f := by
  have key : ∀ l, l ≤ 4 → (y_bit (y_sc (nI m) l) f ↔ ∀ j, j < l → m.testBit j = true → f.testBit j = true) := by
    intro l
    induction l with
    | zero => intro _; exact ⟨fun _ j hj => absurd hj (by omega), fun _ => y_bit_all hf⟩
    | succ l ih =>
      intro hl
      have i9 := ih (by omega)
      show y_bit (y_sc1 (nI m) l (y_sc (nI m) l)) f ↔ _
      unfold y_sc1
      by_cases b : y_bit (nI m) l
      · rw [if_pos b, y_bit_and (by omega), i9, y_bit_swl l (by omega) f (by omega)]
        rw [y_bit_tb (by omega)] at b
        constructor
        · rintro ⟨a1, a2⟩ j hj hb
          by_cases e : j = l
          · rw [e]
            exact a2.2
          · exact a1 j (by omega) hb
        · intro a
          exact ⟨fun j hj hb => a j (by omega) hb, hf, a l (by omega) b⟩
      · rw [if_neg b, i9]
        rw [y_bit_tb (by omega)] at b
        constructor
        · intro a j hj hb
          by_cases e : j = l
          · rw [e] at hb
            exact absurd hb b
          · exact a j (by omega) hb
        · exact fun a j hj hb => a j (by omega) hb
  unfold k_chg
  rw [h, y_bit_and (by omega), y_bit_bt (c := f) (x := y_sc (nI m) 4 ^^^ (-1)) (by omega), b_xor, b_m1 f (by omega), Bool.xor_true, Bool.not_eq_true']
  have k2 := key 4 (Nat.le_refl _)
  rw [y_bit_bt (by omega)] at k2
  have k3 : ∀ m, m < 16 → ∀ f, f < 16 → ((∀ j, j < 4 → m.testBit j = true → f.testBit j = true) ↔ f ||| m = f) := by decide +kernel
  have k4 := k3 m hm f hf
  constructor
  · rintro ⟨-, a⟩ e
    rw [k2.mpr (k4.mpr e)] at a
    cases a
  · intro a
    refine ⟨y_bit_all hf, ?_⟩
    cases e : bt (y_sc (nI m) 4) f with
    | false => rfl
    | true => exact absurd (k4.mp (k2.mp e)) a
theorem y_al_b {DS : y_D} {k x f : Nat} (hf : f < 32) : y_bit (y_al DS k x) f ↔ f < 16 ∧ ((DS 153).1 x = 0 ∧ x ≠ k ∨ f = 0) := by
  unfold y_al
  by_cases c : (DS 153).1 x ≠ 0 ∨ x = k
  · rw [if_pos c]
    have k1 : ∀ f, f < 32 → (y_bit 1 f ↔ f = 0) := by decide +kernel
    rw [k1 f hf]
    constructor
    · intro e
      exact ⟨by omega, Or.inr e⟩
    · rintro ⟨-, h | h⟩
      · rcases c with c | c
        · exact absurd h.1 c
        · exact absurd c h.2
      · exact h
  · rw [if_neg c]
    have k1 : ∀ f, f < 32 → (y_bit 65535 f ↔ f < 16) := by decide +kernel
    rw [k1 f hf]
    constructor
    · intro e
      exact ⟨e, Or.inl ⟨Classical.not_not.mp (fun q => c (Or.inl q)), fun q => c (Or.inr q)⟩⟩
    · exact fun h => h.1
theorem k_An_b {A : Nat → Int32} {sec : Nat → Nat} {sf : Nat → Int32} {x f : Nat} (hf : f < 32) : ∀ n, (y_bit (k_An A sec sf n x) f ↔ y_bit (A x) f ∧ ∀ i, i < n → sec i = x → y_bit (sf i) f)
  | 0 => ⟨fun h => ⟨h, fun i hi => absurd hi (by omega)⟩, fun h => h.1⟩
  | n + 1 => by
    have ih := k_An_b (A := A) (sec := sec) (sf := sf) (x := x) hf n
    unfold k_An
    by_cases c : x = sec n
    · rw [if_pos c, y_bit_and hf, ih]
      constructor
      · rintro ⟨⟨a, b⟩, d⟩
        refine ⟨a, fun i hi e => ?_⟩
        by_cases q : i = n
        · rw [q]
          exact d
        · exact b i (by omega) e
      · rintro ⟨a, b⟩
        exact ⟨⟨a, fun i hi e => b i (by omega) e⟩, b n (by omega) c.symm⟩
    · rw [if_neg c, ih]
      constructor
      · rintro ⟨a, b⟩
        refine ⟨a, fun i hi e => ?_⟩
        by_cases q : i = n
        · rw [q] at e
          exact absurd e.symm c
        · exact b i (by omega) e
      · rintro ⟨a, b⟩
        exact ⟨a, fun i hi e => b i (by omega) e⟩

/-! the asking calls answer alike -/
theorem m_on_c {C C2 : Nat → Nat → Nat → Prop} {W : Nat → Int32} {kw : Nat} {G G2 : Nat → Prop} (hC : ∀ w s f, w < kw → C w s f → C2 w s f) (hG : ∀ m, G m → G2 m) : ∀ {s m : Nat}, m_on C W kw G s m → m_on C2 W kw G2 s m
  | 0, m, h => ⟨h.1, hG 0 h.2⟩
  | s + 1, m, h => by
    rcases h with h | ⟨f, a, b, c⟩
    · exact Or.inl (m_on_c hC hG h)
    · refine Or.inr ⟨f, a, m_on_c hC hG b, ?_⟩
      rcases c with ⟨g, c1, c2, c3, c4⟩ | ⟨v, c1, c2, c3⟩
      · exact Or.inl ⟨g, c1, c2, hG _ c3, c4⟩
      · exact Or.inr ⟨v, c1, hC v s f c1 c2, c3⟩
theorem y_maskb {u : Int32} {i kw : Nat} (hi : i < kw) (hk : kw ≤ 6) : y_bit (u &&& (nI (2 ^ kw) - 1)) i ↔ y_bit u i := by
  rw [y_bit_and (by omega)]
  exact ⟨fun h => h.1, fun h => ⟨h, y_bit_sub kw (by omega) i hi⟩⟩
theorem m_rc_mask {W : Nat → Int32} {u : Int32} {kw : Nat} (hk : kw ≤ 6) : ∀ k, k ≤ kw → m_rc W (u &&& (nI (2 ^ kw) - 1)) k = m_rc W u k
  | 0, _ => rfl
  | k + 1, h => by
    unfold m_rc
    rw [m_rc_mask hk k (by omega)]
    by_cases b : y_bit u k
    · rw [if_pos b, if_pos ((y_maskb (by omega) hk).mpr b)]
    · rw [if_neg b, if_neg (fun q => b ((y_maskb (by omega) hk).mp q))]
theorem m_G0_b {DL : y_D} {x f : Nat} (hf : f < 16) : m_G0 DL (16 * x + f) ↔ f = 0 ∨ (DL 174).1 x = 0 := by
  unfold m_G0
  rw [show (16 * x + f) % 16 = f by omega, show (16 * x + f) / 16 = x by omega]
theorem q_SS {D DS DL : y_D} {W : Nat → Int32} {L : List Nat} {t k : Nat} {wo u hl : Int32} {A : Nat → Int32} {G : Nat → Prop} (hA : q_A D W) (hB : k_B D L) (hW : m_W W) (hE : q_E DS DL) (hDL : (DL 170).1 = W) (hk : k ≤ 300)
    (hA0 : ∀ x c, 16 ≤ c → c < 32 → ¬ y_bit (A x) c) (hAG : ∀ x, x ≤ k → ∀ f, f < 16 → (y_bit (A x) f ↔ (x = k → f = 0) ∧ G (16 * x + f))) (hG : ∀ m, G m → m_G0 DL m) {x f : Nat} (hx : x ≤ k) (hf : f < 16) :
    y_bit (k_SS D DS t wo u hl A k x) f ↔ (x = k → f = 0) ∧ m_on (m_CG W (u &&& (nI (2 ^ q_n W 2) - 1)) k G (m_Q DL hl)) W (q_n W 2) G k (16 * x + f) := by
  have hw := q_A_w hA
  have h6 : q_n W 2 ≤ 6 := hW.2.2.1.2
  have hww : ∀ w, w < q_n W 2 → m_ww W (4 + w) := hW.2.2.2.2.2.2.1
  unfold k_SS
  rw [hw, c_S_le hx]
  rw [c_on (W := W) (G := G) (Q := m_Q DL hl) hA0 hAG (fun i hi b y hy f hf hg => ?_) (fun i hi => ⟨(hA.2.2.2.2.2 i hi).1, m_fb_lt (hww i hi)⟩) (fun i hi => ?_) (fun i hi => m_take_1 (hww i hi)) x hx f hf]
  · refine and_congr Iff.rfl ⟨fun h => m_on_c (fun w s f hw h => ?_) (fun _ h => h) h, fun h => m_on_c (fun w s f hw h => ?_) (fun _ h => h) h⟩
    · exact ⟨(y_maskb hw h6).mpr h.1, h.2⟩
    · exact ⟨(y_maskb hw h6).mp h.1, h.2⟩
  · unfold k_Z
    rw [y_bit_and (by omega), q_chg (hA.2.2.2.2.2 i hi).1 (m_fb_lt (hww i hi)) hf, q_met (hA.2.2.2.2.2 i hi) hE hDL (by omega) hf]
    exact and_congr Iff.rfl ⟨fun h => ⟨hG _ hg, h⟩, fun h => h.2⟩
  · show ((D (k_wh D i)).1 1).toNatClampNeg = m_take W i
    rw [(hA.2.2.2.2.2 i hi).2.1]
    have h60 : m_take W i ≤ 60 := m_lst_b (by decide) (fun j hj c => ((hww i hi).2 j hj).2.2.2.1 c |>.2)
    exact nI_cl (by omega)
theorem q_al0 {DS : y_D} {k x c : Nat} (h1 : 16 ≤ c) (h2 : c < 32) : ¬ y_bit (y_al DS k x) c := by
  rw [y_al_b h2]
  exact fun h => absurd h.1 (by omega)
/-- a set at a second -/
theorem q_me {D DS DL : y_D} {W : Nat → Int32} {L : List Nat} {t k : Nat} {wo u hl : Int32} (hA : q_A D W) (hB : k_B D L) (hW : m_W W) (hE : q_E DS DL) (hDL : (DL 170).1 = W) (hk : k ≤ 300) {x f : Nat} (hx : x ≤ k) (hf : f < 16) :
    y_bit (k_SS D DS t wo u hl (y_al DS k) k x) f ↔ m_me DL (u &&& (nI (2 ^ q_n W 2) - 1)) hl k (q_n W 2) (16 * x + f) := by
  rw [q_SS (G := m_G0 DL) hA hB hW hE hDL hk (fun x c => q_al0) (fun x hx f hf => ?_) (fun _ h => h) hx hf]
  · unfold m_me m_BB m_C
    rw [hDL, show (16 * x + f) / 16 = x by omega]
    constructor
    · rintro ⟨a, b⟩
      refine ⟨b, ?_⟩
      by_cases q : x = k
      · exact Or.inr (by rw [a q, q]; rfl)
      · exact Or.inl ⟨by omega, m_on_G (fun w s f h => h.2.2.2.2) b⟩
    · rintro ⟨a, b⟩
      refine ⟨fun q => ?_, a⟩
      rcases b with b | b <;> omega
  · rw [y_al_b (by omega), m_G0_b hf, hE.1 x (by omega)]
    constructor
    · rintro ⟨-, h | h⟩
      · exact ⟨fun q => absurd q h.2, Or.inr h.1⟩
      · exact ⟨fun _ => h, Or.inl h⟩
    · rintro ⟨a, b⟩
      refine ⟨hf, ?_⟩
      rcases b with b | b
      · exact Or.inr b
      · by_cases q : x = k
        · exact Or.inr (a q)
        · exact Or.inl ⟨b, q⟩
/-- NOTES tell of THINGS that are there -/
def q_N (W : Nat → Int32) : Prop := ∀ j, j < q_n W 4 → q_n W (46 + 2 * j) < q_n W 3
theorem q_can {D DS DL : y_D} {W : Nat → Int32} {L : List Nat} {t : Nat} {u hl : Int32} (hA : q_A D W) (hB : k_B D L) (hW : m_W W) (hN : q_N W) (ht : t < q_n W 1) (hS : c_G (c_per D (q_n (D 74).1 2)) DS (k_rt D t) (-1) (k_rm D t)) (hL : m_L W DL t (-1)) :
    k_can D DS t u hl ↔ m_can DL (u &&& (nI (2 ^ q_n W 2) - 1)) hl (m_ls W t (-1)) (q_n W 2) (q_n W 4) := by
  have hR := hA.2.2.2.1.2 t ht
  have hwr := hW.2.2.2.2.2.1 t ht
  have hE := q_E_ok hA.1 hW.1 hwr hR hS hL
  have hDL := hL.1
  have h6 : q_n W 2 ≤ 6 := hW.2.2.1.2
  have hk : m_ls W t (-1) ≤ 300 := m_ls_b hwr
  have hn4 := q_tb_n hA.2.2.1
  have hsec : ∀ i, i < q_n W 4 → k_sec D i = q_n W (46 + 2 * i + 1) := fun i hi => q_tb_c hA.2.2.1 hi (by decide)
  have hthi : ∀ i, i < q_n W 4 → k_thi D i = q_n W (46 + 2 * i) := fun i hi => q_tb_c hA.2.2.1 hi (by decide)
  unfold k_can m_can
  rw [hn4, q_last hR, hDL]
  refine and_congr ⟨fun h i hi => by rw [← hsec i hi]; exact h i hi, fun h i hi => by rw [hsec i hi]; exact h i hi⟩ ?_
  have key := fun {x f : Nat} (hx : x ≤ m_ls W t (-1)) (hf : f < 16) => q_SS (t := t) (wo := -1) (u := u) (hl := hl) (A := k_An (y_al DS (m_ls W t (-1))) (k_sec D) (fun i => K_setsFor D (q_n (D 78).1 2) (k_thi D i) (q_n (D 73).1 4) u) (q_n W 4)) (G := fun m => m_G0 DL m ∧ m_nt W (m_rc W (u &&& (nI (2 ^ q_n W 2) - 1)) (q_n W 2)) (q_n W 4) m) hA hB hW hE hDL hk
    (fun x c h1 h2 q => q_al0 h1 h2 ((k_An_b h2 _).mp q).1) (fun x hx f hf => by
      rw [k_An_b (by omega), y_al_b (by omega), m_G0_b hf, hE.1 x (by omega)]
      unfold m_nt
      rw [show (16 * x + f) / 16 = x by omega, show (16 * x + f) % 16 = f by omega, m_rc_mask h6 _ (Nat.le_refl _)]
      constructor
      · rintro ⟨⟨-, a⟩, b⟩
        refine ⟨fun q => ?_, ?_, fun j hj e => ?_⟩
        · rcases a with a | a
          · exact absurd q a.2
          · exact a
        · rcases a with a | a
          · exact Or.inr a.1
          · exact Or.inl a
        · have h9 := b j hj (by rw [hsec j hj]; exact e)
          have h8 := ((q_sf hA hB hW (by rw [hthi j hj]; exact hN j hj) (by omega)).mp h9).2
          rw [hthi j hj] at h8
          exact h8
      · rintro ⟨a, b, c⟩
        refine ⟨⟨hf, ?_⟩, fun j hj e => ?_⟩
        · rcases b with b | b
          · exact Or.inr b
          · by_cases q : x = m_ls W t (-1)
            · exact Or.inr (a q)
            · exact Or.inl ⟨b, q⟩
        · refine (q_sf hA hB hW (by rw [hthi j hj]; exact hN j hj) (by omega)).mpr ⟨hf, ?_⟩
          rw [hthi j hj]
          exact c j hj (by rw [← hsec j hj]; exact e)) (fun _ h => h.1) hx hf
  rw [y_nz]
  constructor
  · rintro ⟨c, hc, h⟩
    have c16 : c < 16 := by
      apply Classical.byContradiction
      intro q
      have h9 := c_S_A _ c hc h
      exact q_al0 (by omega) hc ((k_An_b hc _).mp h9).1
    have h9 := (key (Nat.le_refl _) c16).mp h
    rw [h9.1 rfl] at h9
    exact h9.2
  · intro h
    exact ⟨0, by decide, (key (Nat.le_refl _) (by decide)).mpr ⟨fun _ => rfl, h⟩⟩
theorem y_is_u {v w : Int32} {P Q : Prop} (h1 : y_is v P) (h2 : y_is w Q) (h : P ↔ Q) : v = w := by
  rcases h1 with ⟨a, b⟩ | ⟨a, b⟩ <;> rcases h2 with ⟨c, d⟩ | ⟨c, d⟩
  · rw [a, c]
  · exact absurd (h.mp b) d
  · exact absurd (h.mpr d) b
  · rw [a, c]
/-- an EARLIEST -/
theorem q_fs {S : Nat → Int32} {K v w : Int32} {k : Nat} {P : Nat → Nat → Prop} (h : ∀ x, x ≤ k → (S x &&& K ≠ 0 ↔ ∃ f, f < 16 ∧ P x f)) (h1 : k_fs S K k v) (h2 : m_ea P k w) : v = w := by
  rcases h1 with ⟨e1, a⟩ | ⟨x, hx, e1, a, b⟩
  · rcases h2 with ⟨e2, _⟩ | ⟨s, hs, e2, c, d⟩
    · rw [e1, e2]
    · exact absurd (a s hs) ((h s hs).mpr c)
  · rcases h2 with ⟨e2, c⟩ | ⟨s, hs, e2, c, d⟩
    · obtain ⟨f, hf, p⟩ := (h x hx).mp a
      exact absurd p (c x hx f hf)
    · by_cases q : x < s
      · obtain ⟨f, hf, p⟩ := (h x hx).mp a
        exact absurd p (d x q f hf)
      · by_cases q2 : s < x
        · exact absurd (b s q2) ((h s hs).mpr c)
        · rw [e1, e2, show x = s by omega]
theorem q_nz {D DS DL : y_D} {W : Nat → Int32} {L : List Nat} {t k th : Nat} {wo u hl : Int32} (hA : q_A D W) (hB : k_B D L) (hW : m_W W) (hE : q_E DS DL) (hDL : (DL 170).1 = W) (hk : k ≤ 300) (hth : th < q_n W 3) {x : Nat} (hx : x ≤ k) :
    (k_SS D DS t wo u hl (y_al DS k) k x &&& K_setsFor D (q_n (D 78).1 2) th (q_n (D 73).1 4) u ≠ 0) ↔ ∃ f, f < 16 ∧ (m_me DL (u &&& (nI (2 ^ q_n W 2) - 1)) hl k (q_n W 2) (16 * x + f) ∧ m_cd W th f (m_rc W (u &&& (nI (2 ^ q_n W 2) - 1)) (q_n W 2))) := by
  have h6 : q_n W 2 ≤ 6 := hW.2.2.1.2
  rw [y_nz, m_rc_mask h6 _ (Nat.le_refl _)]
  constructor
  · rintro ⟨c, hc, h⟩
    rw [y_bit_and hc, q_sf hA hB hW hth hc] at h
    exact ⟨c, h.2.1, (q_me hA hB hW hE hDL hk hx h.2.1).mp h.1, h.2.2⟩
  · rintro ⟨f, hf, a, b⟩
    refine ⟨f, by omega, ?_⟩
    rw [y_bit_and (by omega), q_sf hA hB hW hth (by omega)]
    exact ⟨(q_me hA hB hW hE hDL hk hx hf).mpr a, hf, b⟩
theorem q_earliest {D DS DL : y_D} {W : Nat → Int32} {L : List Nat} {t th : Nat} {wo u hl v w : Int32} (hA : q_A D W) (hB : k_B D L) (hW : m_W W) (ht : t < q_n W 1) (hth : th < q_n W 3) (hS : c_G (c_per D (q_n (D 74).1 2)) DS (k_rt D t) wo (k_rm D t)) (hL : m_L W DL t wo)
    (h1 : k_fs (k_SS D DS t wo u hl (y_al DS (k_last D t wo)) (k_last D t wo)) (K_setsFor D (q_n (D 78).1 2) th (q_n (D 73).1 4) u) (k_last D t wo) v)
    (h2 : m_ea (fun s f => m_me DL (u &&& (nI (2 ^ (q_n W 2)) - 1)) hl (m_ls W t wo) (q_n W 2) (16 * s + f) ∧ m_cd W th f (m_rc W (u &&& (nI (2 ^ (q_n W 2)) - 1)) (q_n W 2))) (m_ls W t wo) w) : v = w := by
  have hR := hA.2.2.2.1.2 t ht
  have hwr := hW.2.2.2.2.2.1 t ht
  have hE := q_E_ok hA.1 hW.1 hwr hR hS hL
  rw [q_last hR] at h1
  exact q_fs (fun x hx => q_nz hA hB hW hE hL.1 (m_ls_b hwr) hth hx) h1 h2
theorem q_orf {P : Nat → Prop} {s : Int32} : ∀ {n : Nat} {v : Int32}, (∀ i, i < n → (P i ↔ y_bit s i)) → m_orf P n v → v = y_lm s n
  | 0, v, _, h => h
  | n + 1, v, hp, h => by
    obtain ⟨z, h1, h2⟩ := h
    have e := q_orf (fun i hi => hp i (by omega)) h1
    have hn := hp n (by omega)
    show v = y_lm s n ||| (if y_bit s n then nI n else 0)
    rcases h2 with ⟨a, b⟩ | ⟨a, b⟩
    · rw [if_pos (hn.mp a), b, e]
    · rw [if_neg (fun q => a (hn.mpr q)), b, e]
theorem q_may {D DS DL : y_D} {W : Nat → Int32} {L : List Nat} {t s : Nat} {u hl v w : Int32} (hA : q_A D W) (hB : k_B D L) (hW : m_W W) (ht : t < q_n W 1) (hS : c_G (c_per D (q_n (D 74).1 2)) DS (k_rt D t) (-1) (k_rm D t)) (hL : m_L W DL t (-1))
    (h1 : v = (if k_last D t (-1) < s then 0 else y_lm ((k_SS D DS t (-1) u hl (y_al DS (k_last D t (-1))) (k_last D t (-1))) s) 16))
    (h2 : ((m_ls W t (-1)) < s → w = 0) ∧ (s ≤ (m_ls W t (-1)) → m_orf (fun f => m_me DL (u &&& (nI (2 ^ (q_n W 2)) - 1)) hl (m_ls W t (-1)) (q_n W 2) (16 * s + f)) 16 w)) : v = w := by
  have hR := hA.2.2.2.1.2 t ht
  have hwr := hW.2.2.2.2.2.1 t ht
  have hE := q_E_ok hA.1 hW.1 hwr hR hS hL
  rw [q_last hR] at h1
  by_cases q : m_ls W t (-1) < s
  · rw [if_pos q] at h1
    rw [h1, h2.1 q]
  · rw [if_neg q] at h1
    rw [h1]
    exact (q_orf (fun i hi => (q_me hA hB hW hE hL.1 (m_ls_b hwr) (by omega) hi).symm) (h2.2 (by omega))).symm
theorem q_needs {D DS DL : y_D} {W : Nat → Int32} {w t s f : Nat} {hl v z : Int32} (hA : q_A D W) (hW : m_W W) (ht : t < q_n W 1) (hw : w < q_n W 2) (hs : s ≤ 300) (hf : f < 16) (hS : c_G (c_per D (q_n (D 74).1 2)) DS (k_rt D t) (-1) (k_rm D t)) (hL : m_L W DL t (-1))
    (h1 : v = y_b (y_bit (k_met DS (k_wt D w) (k_wl D w) s hl) f)) (h2 : y_is z (m_all DL w s f hl)) : v = z := by
  have hE := q_E_ok hA.1 hW.1 (hW.2.2.2.2.2.1 t ht) (hA.2.2.2.1.2 t ht) hS hL
  have e := q_met (hl := hl) (hA.2.2.2.2.2 w hw) hE hL.1 (show s < 301 by omega) hf
  rw [h1]
  rcases h2 with ⟨a, b⟩ | ⟨a, b⟩
  · rw [a]
    exact if_pos (e.mpr b)
  · rw [a]
    exact if_neg (fun q => b (e.mp q))

/-! the reference: can, earliest, may, shut, opens, fewest, look, needs -/
/-- all that calls which only ask leave as it was -/
def m_ot (D D2 : y_D) : Prop := (∀ j, j < 169 ∨ 188 < j ∨ (170 ≤ j ∧ j < 173) → D2 j = D j) ∧ ∀ k, k = 3 ∨ k = 5 ∨ k = 10 → (D2 169).1 k = (D 169).1 k
theorem m_ot_r {D : y_D} : m_ot D D := ⟨fun _ _ => rfl, fun _ _ => rfl⟩
theorem m_ot_t {D D2 D3 : y_D} (a : m_ot D D2) (b : m_ot D2 D3) : m_ot D D3 := ⟨fun j hj => by rw [b.1 j hj, a.1 j hj], fun k hk => by rw [b.2 k hk, a.2 k hk]⟩
theorem m_ot_0 {D D2 : y_D} {v : Int32} (a : m_ot D D2) : m_ot D (y_si D2 169 0 v) := ⟨fun j hj => by rw [y_si_ne (by omega), a.1 j hj], fun k hk => by rw [y_si_1, if_neg (by omega), a.2 k hk]⟩
theorem m_ot_fx {D D2 : y_D} {hs : List Nat} (a : y_fx hs D D2) (hh : ∀ j, j ∈ hs → 173 ≤ j ∧ j ≤ 188) : m_ot D D2 := ⟨fun j hj => a.1 j (fun q => by have := hh j q; omega), fun k hk => by rw [a.1 169 (fun q => by have := hh 169 q; omega)]⟩
theorem m_ot_7 {D D2 : y_D} {u : Int32} (a : m_M7 D D2 u) : m_ot D D2 := by
  refine ⟨fun j hj => a.1.1 j ?_, fun k hk => a.2.1 k (by omega)⟩
  simp only [List.mem_cons, List.not_mem_nil, or_false]
  omega
theorem m_ot_lay {D D2 : y_D} {t i : Nat} {wo : Int32} (a : m_lay D D2 t wo i) : m_ot D D2 := ⟨fun j hj => a.1 j (by omega) (by omega) (by omega) (by omega), fun k hk => a.2.1 k (by omega)⟩
/-- what the reference's rows hold can be -/
def m_W (W : Nat → Int32) : Prop := q_ok W 0 8 ∧ q_ok W 1 4 ∧ q_ok W 2 6 ∧ q_ok W 3 6 ∧ q_ok W 4 10 ∧ (∀ t, t < q_n W 1 → m_wr W t) ∧ (∀ w, w < q_n W 2 → m_ww W (4 + w)) ∧ ∀ j, j < q_n W 4 → q_ok W (46 + 2 * j) 5 ∧ q_ok W (46 + 2 * j + 1) 300
/-- the LINES of the text t, but wo, are laid out in DL -/
def m_L (W : Nat → Int32) (DL : y_D) (t : Nat) (wo : Int32) : Prop := (DL 170).1 = W ∧ (DL 169).1 13 = nI (s_last (fun i => m_o W t i 0) (fun i => m_o W t i 1) wo (m_k W t)) ∧ (∀ s, s < 301 → (DL 174).1 s = s_lit (fun i => m_o W t i 0) (fun i => m_o W t i 1) (fun i => m_o W t i 2) wo s (m_k W t)) ∧ (∀ l, l < 4 → (DL 175).1 l = s_by 0 (fun i => m_o W t i 0) (fun i => m_o W t i 1) (fun i => m_o W t i 2) wo l (m_k W t)) ∧ (∀ l, l < 4 → (DL 176).1 l = s_by 1 (fun i => m_o W t i 0) (fun i => m_o W t i 1) (fun i => m_o W t i 2) wo l (m_k W t))
abbrev m_ls (W : Nat → Int32) (t : Nat) (wo : Int32) : Nat := s_last (fun i => m_o W t i 0) (fun i => m_o W t i 1) wo (m_k W t)
theorem m_L_lay {D D2 : y_D} {t : Nat} {wo : Int32} (a : m_lay D D2 t wo (m_k (D 170).1 t)) : m_L (D 170).1 D2 t wo := ⟨by rw [a.1 170 (by decide) (by decide) (by decide) (by decide)], a.2.2.2.2.2.2.1, a.2.2.2.2.2.2.2.1, a.2.2.2.2.2.2.2.2.1, a.2.2.2.2.2.2.2.2.2⟩
theorem s_last_b {p a : Nat → Nat} {wo : Int32} : ∀ {k}, (∀ i, i < k → p i = 3 → a i ≤ 300) → s_last p a wo k ≤ 300
  | 0, _ => by unfold s_last; omega
  | k + 1, h => by
    unfold s_last
    split
    · rename_i c; exact h k (by omega) c.2
    · exact s_last_b (fun i hi => h i (by omega))
theorem m_ls_b {W : Nat → Int32} {t : Nat} {wo : Int32} (h : m_wr W t) : m_ls W t wo ≤ 300 := s_last_b (fun i hi c => ((h.2 i hi).2.2.2.2.2.2 c).2)
theorem s_by_hd {p a b : Nat → Nat} {wo : Int32} {l : Nat} : ∀ {k}, (∀ i, i < k → p i = 0 → b i < 8) → m_hd (s_by 0 p a b wo l k)
  | 0, _ => Or.inl rfl
  | k + 1, h => by
    unfold s_by
    split
    · rename_i c; exact Or.inr ⟨b k, rfl, h k (by omega) c.2.1⟩
    · exact s_by_hd (fun i hi => h i (by omega))
theorem m_L_hd {W : Nat → Int32} {DL : y_D} {t : Nat} {wo : Int32} (h : m_wr W t) (a : m_L W DL t wo) : ∀ l, l < 4 → m_hd ((DL 175).1 l) := by
  intro l hl
  rw [a.2.2.2.1 l hl]
  exact s_by_hd (fun i hi c => (h.2 i hi).2.2.2.2.1 c)
theorem y_rng {p : Int32} {k : Nat} (hk : k < 2 ^ 31) (h : 0 ≤ p ∧ p ≤ nI k - 1) : ∃ t, t < k ∧ p = nI t := by
  obtain ⟨j, hj, rfl⟩ := nI_of (x := p) (by rw [Int32.not_lt]; exact h.1)
  refine ⟨j, ?_, rfl⟩
  have h2 := h.2
  rcases k with _ | k
  · rw [show nI 0 - 1 = (-1 : Int32) from rfl, Int32.le_iff_toInt_le, nI_toInt hj, show (-1 : Int32).toInt = -1 from rfl] at h2
    omega
  · rw [nI_pred, nI_leI hj (by omega)] at h2
    omega
theorem y_rng2 {p : Int32} {k : Nat} (hk : k < 2 ^ 31) (h : 0 ≤ p ∧ p ≤ nI k) : ∃ t, t ≤ k ∧ p = nI t := by
  obtain ⟨j, hj, rfl⟩ := nI_of (x := p) (by rw [Int32.not_lt]; exact h.1)
  exact ⟨j, (nI_leI hj hk).mp h.2, rfl⟩
theorem y_rng3 {p : Int32} {t k : Nat} (ht : t < k) (hk : k < 2 ^ 31) (e : p = nI t) : 0 ≤ p ∧ p ≤ nI k - 1 := by
  subst e
  refine ⟨nI_pos' (by omega), ?_⟩
  rcases k with _ | k
  · omega
  · rw [nI_pred, nI_leI (by omega) (by omega)]
    omega
theorem m_can_eq {D D8 : y_D} (h0 : D8 170 = D 170) (h1 : D8 174 = D 174) (h2 : D8 175 = D 175) (h3 : D8 176 = D 176) : m_can D8 = m_can D := by
  funext u hl k kw kn
  have e := m_all_eq h0 h1 h2 h3
  have e2 := m_G0_fx h1
  have e3 : m_Q D8 = m_Q D := by funext hl w f y; unfold m_Q; rw [e, e2]
  unfold m_can
  rw [e2, e3, h0]
theorem c_can {V : x_E} {n : Nat} {L : List Nat} {D : y_D} {p u hl : Int32} (hL : y_ok L) (hW : m_W (D 170).1) : y_Ri V yX11_can cX11_can 4 (some .boolean) 8 [.ref 169, .int p, .int u, .int hl] n L D (fun v D2 => m_ot D D2 ∧ (((¬ (0 ≤ p ∧ p ≤ (D 170).1 1 - 1)) ∧ (D2 169).1 0 = 1) ∨ ∃ t, t < q_n (D 170).1 1 ∧ p = nI t ∧ (D2 169).1 0 = 0 ∧ ∃ DL, m_L (D 170).1 DL t (-1) ∧ y_is v (m_can DL (u &&& (nI (2 ^ (q_n (D 170).1 2)) - 1)) hl (m_ls (D 170).1 t (-1)) (q_n (D 170).1 2) (q_n (D 170).1 4)))) := by
  refine y_ri (by decide) (Nat.le_of_ble_eq_true rfl) (fun E hE => ?_)
  change E 0 0 0 [(0, .ref 169), (1, .int p), (2, .int u), (3, .int hl)] [] (y_mk n L D)
  refine r_aload_n hE dX11_can_0 rfl ?_
  refine r_iconst (v := 0) hE dX11_can_1 (by decide) ?_
  refine t_puti hE f_X11_3 y_I_169_0 dX11_can_2 (hL 169 (by decide)) rfl rfl ?_
  refine r_aload_n hE dX11_can_5 rfl ?_
  refine r_aload_n hE dX11_can_6 rfl ?_
  refine r_iload_n hE dX11_can_7 rfl ?_
  refine r_iconst (v := 1) hE dX11_can_8 (by decide) ?_
  refine t_invv (r := (some (.int (y_b (¬ (0 ≤ p ∧ p ≤ (D 170).1 1 - 1)))))) (S2 := (y_mk n L (y_si D 169 0 0))) hE [.int p, .int 1] (c_none (c := 1) hL (by decide)) v_yX11_none m_X11_262 dX11_can_9 rfl (hL 169 (by decide)) (y_l_169 ((y_si D 169 0 0) 169)) rfl (by decide) ⟨Nat.le_refl _, Nat.le_refl _⟩ (Nat.le_of_ble_eq_true rfl) ?_
  show E 0 0 12 [(0, .ref 169), (1, .int p), (2, .int u), (3, .int hl)] [.int (y_b (¬ (0 ≤ p ∧ p ≤ (D 170).1 1 - 1))), .ref 169] (y_mk n L (y_si D 169 0 0))
  refine r_iconst (v := 1) hE dX11_can_12 (by decide) ?_
  refine t_invv (r := (some (.int (y_b (¬ (0 ≤ p ∧ p ≤ (D 170).1 1 - 1)))))) (S2 := (y_mk n L (if (¬ (0 ≤ p ∧ p ≤ (D 170).1 1 - 1)) then y_si (y_si D 169 0 0) 169 0 1 else y_si D 169 0 0))) hE [.int (y_b (¬ (0 ≤ p ∧ p ≤ (D 170).1 1 - 1))), .int 1] (c_throwsIf hL) v_yX11_throwsIf m_X11_85 dX11_can_13 rfl (hL 169 (by decide)) (y_l_169 ((y_si D 169 0 0) 169)) rfl (by decide) ⟨Nat.le_refl _, Nat.le_refl _⟩ (Nat.le_of_ble_eq_true rfl) ?_
  show E 0 0 16 [(0, .ref 169), (1, .int p), (2, .int u), (3, .int hl)] [.int (y_b (¬ (0 ≤ p ∧ p ≤ (D 170).1 1 - 1)))] (y_mk n L (if (¬ (0 ≤ p ∧ p ≤ (D 170).1 1 - 1)) then y_si (y_si D 169 0 0) 169 0 1 else y_si D 169 0 0))
  refine r_ifb_eq (tgt := 21) hE dX11_can_16 (by decide) (fun c16 => ?_) (fun c16 => ?_)
  · rw [if_neg c16]
    obtain ⟨t, ht, rfl⟩ := y_rng (k := q_n (D 170).1 1) (by have := hW.2.1.2; omega) (by rw [← hW.2.1.1]; exact Decidable.of_not_not c16)
    refine r_aload_n hE dX11_can_21 rfl ?_
    refine r_iload_n hE dX11_can_22 rfl ?_
    refine r_iconst (v := (-1)) hE dX11_can_23 (by decide) ?_
    refine t_invvRv hE [.int (nI t), .int (-1)] (c_laysOut (D := y_si D 169 0 0) (t := t) (wo := (-1)) hL (by have := hW.2.1.2; omega) (hW.2.2.2.2.2.1 t ht)) v_yX11_laysOut m_X11_265 dX11_can_24 rfl (hL 169 (by decide)) (y_l_169 ((y_si D 169 0 0) 169)) rfl (by decide) ⟨Nat.le_refl _, Nat.le_refl _⟩ (Nat.le_of_ble_eq_true rfl) (fun DL ql => ?_)
    have hwr := hW.2.2.2.2.2.1 t ht
    have hml : m_L (D 170).1 DL t (-1) := m_L_lay (D := y_si D 169 0 0) ql
    have hk3 := m_ls_b (wo := (-1)) hwr
    have h170 : DL 170 = D 170 := ql.1 170 (by decide) (by decide) (by decide) (by decide)
    show E 0 0 27 [(0, .ref 169), (1, .int (nI t)), (2, .int u), (3, .int hl)] [] (y_mk n L DL)
    refine r_aload_n hE dX11_can_27 rfl ?_
    refine r_iload_n hE dX11_can_28 rfl ?_
    refine r_iload_n hE dX11_can_29 rfl ?_
    refine t_invvRi hE [.int u, .int hl] (c_canBy (D := DL) (u := u) (hl := hl) hL hml.2.1 hk3 (by rw [h170]; exact hW.2.2.1.1) hW.2.2.1.2 (by rw [h170]; exact hW.2.2.2.2.2.2.1) (m_L_hd hwr hml) (by rw [h170]; exact hW.2.2.2.2.1.1) hW.2.2.2.2.1.2 (by rw [h170]; exact hW.2.2.2.2.2.2.2)) v_yX11_canBy m_X11_327 dX11_can_30 rfl (hL 169 (by decide)) (y_l_169 (DL 169)) rfl (by decide) ⟨Nat.le_refl _, Nat.le_refl _⟩ (Nat.le_of_ble_eq_true rfl) (fun v1 D1 q1 => ?_)
    show E 0 0 33 [(0, .ref 169), (1, .int (nI t)), (2, .int u), (3, .int hl)] [.int v1] (y_mk n L D1)
    refine r_ireturn hE dX11_can_33 rfl (by exact y_is_nar q1.1) (Nat.zero_le _) (Nat.zero_le _) ?_
    exact ⟨_, _, rfl, rfl, m_ot_t (m_ot_0 m_ot_r) (m_ot_t (m_ot_lay ql) (m_ot_7 q1.2)), Or.inr ⟨t, ht, rfl, (by rw [q1.2.2.1 0 (by decide), ql.2.1 0 (by decide), y_si_1, if_pos rfl]), DL, hml, q1.1⟩⟩
  · rw [if_pos c16]
    refine r_iconst (v := 0) hE dX11_can_19 (by decide) ?_
    refine r_ireturn hE dX11_can_20 rfl (by decide) (Nat.zero_le _) (Nat.zero_le _) ?_
    exact ⟨_, _, rfl, rfl, m_ot_0 (m_ot_0 m_ot_r), Or.inl ⟨c16, by rw [y_si_1, if_pos rfl]⟩⟩
theorem c_earliest {V : x_E} {n : Nat} {L : List Nat} {D : y_D} {p u hl r : Int32} (hL : y_ok L) (hW : m_W (D 170).1) : y_Ri V yX11_earliest cX11_earliest 5 (some .int) 9 [.ref 169, .int p, .int u, .int hl, .int r] n L D (fun v D2 => m_ot D D2 ∧ (((¬ (0 ≤ p ∧ p ≤ (D 170).1 1 - 1) ∨ ¬ (0 ≤ r ∧ r ≤ (D 170).1 3 - 1)) ∧ (D2 169).1 0 = 1) ∨ ∃ t th, t < q_n (D 170).1 1 ∧ th < q_n (D 170).1 3 ∧ p = nI t ∧ r = nI th ∧ (D2 169).1 0 = 0 ∧ ∃ DL, m_L (D 170).1 DL t (-1) ∧ m_ea (fun s f => m_me DL (u &&& (nI (2 ^ (q_n (D 170).1 2)) - 1)) hl (m_ls (D 170).1 t (-1)) (q_n (D 170).1 2) (16 * s + f) ∧ m_cd (D 170).1 th f (m_rc (D 170).1 (u &&& (nI (2 ^ (q_n (D 170).1 2)) - 1)) (q_n (D 170).1 2))) (m_ls (D 170).1 t (-1)) v)) := by
  refine y_ri (by decide) (Nat.le_of_ble_eq_true rfl) (fun E hE => ?_)
  change E 0 0 0 [(0, .ref 169), (1, .int p), (2, .int u), (3, .int hl), (4, .int r)] [] (y_mk n L D)
  refine r_aload_n hE dX11_earliest_0 rfl ?_
  refine r_iconst (v := 0) hE dX11_earliest_1 (by decide) ?_
  refine t_puti hE f_X11_3 y_I_169_0 dX11_earliest_2 (hL 169 (by decide)) rfl rfl ?_
  refine r_aload_n hE dX11_earliest_5 rfl ?_
  refine r_aload_n hE dX11_earliest_6 rfl ?_
  refine r_iload_n hE dX11_earliest_7 rfl ?_
  refine r_iconst (v := 1) hE dX11_earliest_8 (by decide) ?_
  refine t_invv (r := (some (.int (y_b (¬ (0 ≤ p ∧ p ≤ (D 170).1 1 - 1)))))) (S2 := (y_mk n L (y_si D 169 0 0))) hE [.int p, .int 1] (c_none (c := 1) hL (by decide)) v_yX11_none m_X11_262 dX11_earliest_9 rfl (hL 169 (by decide)) (y_l_169 ((y_si D 169 0 0) 169)) rfl (by decide) ⟨Nat.le_refl _, Nat.le_refl _⟩ (Nat.le_of_ble_eq_true rfl) ?_
  show E 0 0 12 [(0, .ref 169), (1, .int p), (2, .int u), (3, .int hl), (4, .int r)] [.int (y_b (¬ (0 ≤ p ∧ p ≤ (D 170).1 1 - 1))), .ref 169] (y_mk n L (y_si D 169 0 0))
  refine r_ifb_ne (tgt := 25) hE dX11_earliest_12 (by decide) (fun c12 => ?_) (fun c12 => ?_)
  · refine r_iconst (v := 1) hE dX11_earliest_25 (by decide) ?_
    refine r_goto (tgt := 30) hE dX11_earliest_26 (by decide) ?_
    refine r_iconst (v := 1) hE dX11_earliest_30 (by decide) ?_
    refine t_invv (r := (some (.int 1))) (S2 := (y_mk n L (y_si (y_si D 169 0 0) 169 0 1))) hE [.int 1, .int 1] (c_throwsT hL) v_yX11_throwsIf m_X11_85 dX11_earliest_31 rfl (hL 169 (by decide)) (y_l_169 ((y_si D 169 0 0) 169)) rfl (by decide) ⟨Nat.le_refl _, Nat.le_refl _⟩ (Nat.le_of_ble_eq_true rfl) ?_
    show E 0 0 34 [(0, .ref 169), (1, .int p), (2, .int u), (3, .int hl), (4, .int r)] [.int 1] (y_mk n L (y_si (y_si D 169 0 0) 169 0 1))
    refine r_if_eq (tgt := 39) hE dX11_earliest_34 (by decide) (fun c34 => by first | exact absurd c34 (by decide) | exact absurd (by decide) c34) (fun _ => ?_)
    refine r_iconst (v := 0) hE dX11_earliest_37 (by decide) ?_
    refine r_ireturn hE dX11_earliest_38 rfl rfl (Nat.zero_le _) (Nat.zero_le _) ?_
    exact ⟨_, _, rfl, rfl, m_ot_0 (m_ot_0 m_ot_r), Or.inl ⟨by first | exact Or.inl c12 | exact Or.inr c22, by rw [y_si_1, if_pos rfl]⟩⟩
  · refine r_aload_n hE dX11_earliest_15 rfl ?_
    refine r_iload hE dX11_earliest_16 rfl ?_
    refine r_iconst (v := 3) hE dX11_earliest_18 (by decide) ?_
    refine t_invv (r := (some (.int (y_b (¬ (0 ≤ r ∧ r ≤ (D 170).1 3 - 1)))))) (S2 := (y_mk n L (y_si D 169 0 0))) hE [.int r, .int 3] (c_none (c := 3) hL (by decide)) v_yX11_none m_X11_262 dX11_earliest_19 rfl (hL 169 (by decide)) (y_l_169 ((y_si D 169 0 0) 169)) rfl (by decide) ⟨Nat.le_refl _, Nat.le_refl _⟩ (Nat.le_of_ble_eq_true rfl) ?_
    show E 0 0 22 [(0, .ref 169), (1, .int p), (2, .int u), (3, .int hl), (4, .int r)] [.int (y_b (¬ (0 ≤ r ∧ r ≤ (D 170).1 3 - 1))), .ref 169] (y_mk n L (y_si D 169 0 0))
    refine r_ifb_eq (tgt := 29) hE dX11_earliest_22 (by decide) (fun c22 => ?_) (fun c22 => ?_)
    · refine r_iconst (v := 0) hE dX11_earliest_29 (by decide) ?_
      refine r_iconst (v := 1) hE dX11_earliest_30 (by decide) ?_
      refine t_invv (r := (some (.int 0))) (S2 := (y_mk n L (y_si D 169 0 0))) hE [.int 0, .int 1] (c_throwsF) v_yX11_throwsIf m_X11_85 dX11_earliest_31 rfl (hL 169 (by decide)) (y_l_169 ((y_si D 169 0 0) 169)) rfl (by decide) ⟨Nat.le_refl _, Nat.le_refl _⟩ (Nat.le_of_ble_eq_true rfl) ?_
      show E 0 0 34 [(0, .ref 169), (1, .int p), (2, .int u), (3, .int hl), (4, .int r)] [.int 0] (y_mk n L (y_si D 169 0 0))
      refine r_if_eq (tgt := 39) hE dX11_earliest_34 (by decide) (fun _ => ?_) (fun c34 => by first | exact absurd c34 (by decide) | exact absurd (by decide) c34)
      obtain ⟨t, ht, rfl⟩ := y_rng (k := q_n (D 170).1 1) (by have := hW.2.1.2; omega) (by rw [← hW.2.1.1]; exact Decidable.of_not_not c12)
      obtain ⟨th, hth, rfl⟩ := y_rng (k := q_n (D 170).1 3) (by have := hW.2.2.2.1.2; omega) (by rw [← hW.2.2.2.1.1]; exact Decidable.of_not_not c22)
      refine r_aload_n hE dX11_earliest_39 rfl ?_
      refine r_iload_n hE dX11_earliest_40 rfl ?_
      refine r_iconst (v := (-1)) hE dX11_earliest_41 (by decide) ?_
      refine t_invvRv hE [.int (nI t), .int (-1)] (c_laysOut (D := y_si D 169 0 0) (t := t) (wo := (-1)) hL (by have := hW.2.1.2; omega) (hW.2.2.2.2.2.1 t ht)) v_yX11_laysOut m_X11_265 dX11_earliest_42 rfl (hL 169 (by decide)) (y_l_169 ((y_si D 169 0 0) 169)) rfl (by decide) ⟨Nat.le_refl _, Nat.le_refl _⟩ (Nat.le_of_ble_eq_true rfl) (fun DL ql => ?_)
      have hwr := hW.2.2.2.2.2.1 t ht
      have hml : m_L (D 170).1 DL t (-1) := m_L_lay (D := y_si D 169 0 0) ql
      have hk3 := m_ls_b (wo := (-1)) hwr
      have h170 : DL 170 = D 170 := ql.1 170 (by decide) (by decide) (by decide) (by decide)
      show E 0 0 45 [(0, .ref 169), (1, .int (nI t)), (2, .int u), (3, .int hl), (4, .int (nI th))] [] (y_mk n L DL)
      refine r_aload_n hE dX11_earliest_45 rfl ?_
      refine r_iload_n hE dX11_earliest_46 rfl ?_
      refine r_iload_n hE dX11_earliest_47 rfl ?_
      refine t_invvRv hE [.int u, .int hl] (c_meets (D := DL) (u := u) (hl := hl) hL hml.2.1 hk3 (by rw [h170]; exact hW.2.2.1.1) hW.2.2.1.2 (by rw [h170]; exact hW.2.2.2.2.2.2.1) (m_L_hd hwr hml)) v_yX11_meets m_X11_330 dX11_earliest_48 rfl (hL 169 (by decide)) (y_l_169 (DL 169)) rfl (by decide) ⟨Nat.le_refl _, Nat.le_refl _⟩ (Nat.le_of_ble_eq_true rfl) (fun D1 q1 => ?_)
      show E 0 0 51 [(0, .ref 169), (1, .int (nI t)), (2, .int u), (3, .int hl), (4, .int (nI th))] [] (y_mk n L D1)
      refine r_aload_n hE dX11_earliest_51 rfl ?_
      refine r_iload hE dX11_earliest_52 rfl ?_
      refine r_aload_n hE dX11_earliest_54 rfl ?_
      refine r_aload_n hE dX11_earliest_55 rfl ?_
      refine t_geti hE f_X11_296 y_I_169_23 dX11_earliest_56 (hL 169 (by decide)) ?_
      refine r_top (y := (u &&& (nI (2 ^ (q_n (D 170).1 2)) - 1))) q1.1.2.2 ?_
      refine t_invv (r := (some (.int (nI (m_rc (D1 170).1 (u &&& (nI (2 ^ (q_n (D 170).1 2)) - 1)) (q_n (D 170).1 2)))))) (S2 := (y_mk n L D1)) hE [.int (u &&& (nI (2 ^ (q_n (D 170).1 2)) - 1))] (c_reachOf (D := D1) (u := (u &&& (nI (2 ^ (q_n (D 170).1 2)) - 1))) (kw := (q_n (D 170).1 2)) hL (by rw [q1.1.1.1 170 (by decide), h170]; exact hW.2.2.1.1) hW.2.2.1.2 (by rw [q1.1.1.1 170 (by decide), h170]; exact hW.2.2.2.2.2.2.1)) v_yX11_reachOf m_X11_305 dX11_earliest_59 rfl (hL 169 (by decide)) (y_l_169 (D1 169)) rfl (by decide) ⟨Nat.le_refl _, Nat.le_refl _⟩ (Nat.le_of_ble_eq_true rfl) ?_
      show E 0 0 62 [(0, .ref 169), (1, .int (nI t)), (2, .int u), (3, .int hl), (4, .int (nI th))] [.int (nI (m_rc (D1 170).1 (u &&& (nI (2 ^ (q_n (D 170).1 2)) - 1)) (q_n (D 170).1 2))), .int (nI th), .ref 169] (y_mk n L D1)
      refine r_top (y := (nI (m_rc (D 170).1 (u &&& (nI (2 ^ (q_n (D 170).1 2)) - 1)) (q_n (D 170).1 2)))) (by rw [q1.1.1.1 170 (by decide), h170]) ?_
      refine t_invvRi hE [.int (nI th), .int (nI (m_rc (D 170).1 (u &&& (nI (2 ^ (q_n (D 170).1 2)) - 1)) (q_n (D 170).1 2)))] (c_earliestOf (D := D1) (k := m_ls (D 170).1 t (-1)) (th := th) (rc := m_rc (D 170).1 (u &&& (nI (2 ^ (q_n (D 170).1 2)) - 1)) (q_n (D 170).1 2)) (P := m_me DL (u &&& (nI (2 ^ (q_n (D 170).1 2)) - 1)) hl (m_ls (D 170).1 t (-1)) (q_n (D 170).1 2)) hL (by rw [q1.1.2.1 13 (by decide)]; exact hml.2.1) hk3 (by have := hW.2.2.2.1.2; omega) (fun m hm => q1.2 m hm)) v_yX11_earliestOf m_X11_334 dX11_earliest_62 rfl (hL 169 (by decide)) (y_l_169 (D1 169)) rfl (by decide) ⟨Nat.le_refl _, Nat.le_refl _⟩ (Nat.le_of_ble_eq_true rfl) (fun v2 D2 q2 => ?_)
      obtain ⟨q2, hD2⟩ := q2
      rw [hD2]
      rw [q1.1.1.1 170 (by decide), h170] at q2
      show E 0 0 65 [(0, .ref 169), (1, .int (nI t)), (2, .int u), (3, .int hl), (4, .int (nI th))] [.int v2] (y_mk n L D1)
      refine r_ireturn hE dX11_earliest_65 rfl rfl (Nat.zero_le _) (Nat.zero_le _) ?_
      exact ⟨_, _, rfl, rfl, m_ot_t (m_ot_0 m_ot_r) (m_ot_t (m_ot_lay ql) (m_ot_7 q1.1)), Or.inr ⟨t, th, ht, hth, rfl, rfl, (by rw [q1.1.2.1 0 (by decide), ql.2.1 0 (by decide), y_si_1, if_pos rfl]), DL, hml, q2⟩⟩
    · refine r_iconst (v := 1) hE dX11_earliest_25 (by decide) ?_
      refine r_goto (tgt := 30) hE dX11_earliest_26 (by decide) ?_
      refine r_iconst (v := 1) hE dX11_earliest_30 (by decide) ?_
      refine t_invv (r := (some (.int 1))) (S2 := (y_mk n L (y_si (y_si D 169 0 0) 169 0 1))) hE [.int 1, .int 1] (c_throwsT hL) v_yX11_throwsIf m_X11_85 dX11_earliest_31 rfl (hL 169 (by decide)) (y_l_169 ((y_si D 169 0 0) 169)) rfl (by decide) ⟨Nat.le_refl _, Nat.le_refl _⟩ (Nat.le_of_ble_eq_true rfl) ?_
      show E 0 0 34 [(0, .ref 169), (1, .int p), (2, .int u), (3, .int hl), (4, .int r)] [.int 1] (y_mk n L (y_si (y_si D 169 0 0) 169 0 1))
      refine r_if_eq (tgt := 39) hE dX11_earliest_34 (by decide) (fun c34 => by first | exact absurd c34 (by decide) | exact absurd (by decide) c34) (fun _ => ?_)
      refine r_iconst (v := 0) hE dX11_earliest_37 (by decide) ?_
      refine r_ireturn hE dX11_earliest_38 rfl rfl (Nat.zero_le _) (Nat.zero_le _) ?_
      exact ⟨_, _, rfl, rfl, m_ot_0 (m_ot_0 m_ot_r), Or.inl ⟨by first | exact Or.inl c12 | exact Or.inr c22, by rw [y_si_1, if_pos rfl]⟩⟩
def m_orf (P : Nat → Prop) : Nat → Int32 → Prop
  | 0, v => v = 0
  | i + 1, v => ∃ z, m_orf P i z ∧ ((P i ∧ v = z ||| nI i) ∨ (¬ P i ∧ v = z ||| 0))
theorem c_may {V : x_E} {n : Nat} {L : List Nat} {D : y_D} {p u hl x : Int32} (hL : y_ok L) (hW : m_W (D 170).1) : y_Ri V yX11_may cX11_may 7 (some .int) 8 [.ref 169, .int p, .int u, .int hl, .int x] n L D (fun v D2 => m_ot D D2 ∧ (((¬ (0 ≤ p ∧ p ≤ (D 170).1 1 - 1)) ∧ (D2 169).1 0 = 1) ∨ (¬ (¬ (0 ≤ p ∧ p ≤ (D 170).1 1 - 1)) ∧ ¬ (0 ≤ x ∧ x ≤ 300) ∧ (D2 169).1 0 = 2) ∨ ∃ t s, t < q_n (D 170).1 1 ∧ s ≤ 300 ∧ p = nI t ∧ x = nI s ∧ (D2 169).1 0 = 0 ∧ ∃ DL, m_L (D 170).1 DL t (-1) ∧ ((m_ls (D 170).1 t (-1)) < s → v = 0) ∧ (s ≤ (m_ls (D 170).1 t (-1)) → m_orf (fun f => m_me DL (u &&& (nI (2 ^ (q_n (D 170).1 2)) - 1)) hl (m_ls (D 170).1 t (-1)) (q_n (D 170).1 2) (16 * s + f)) 16 v))) := by
  refine y_ri (by decide) (Nat.le_of_ble_eq_true rfl) (fun E hE => ?_)
  change E 0 0 0 [(0, .ref 169), (1, .int p), (2, .int u), (3, .int hl), (4, .int x)] [] (y_mk n L D)
  refine r_aload_n hE dX11_may_0 rfl ?_
  refine r_iconst (v := 0) hE dX11_may_1 (by decide) ?_
  refine t_puti hE f_X11_3 y_I_169_0 dX11_may_2 (hL 169 (by decide)) rfl rfl ?_
  refine r_aload_n hE dX11_may_5 rfl ?_
  refine r_aload_n hE dX11_may_6 rfl ?_
  refine r_iload_n hE dX11_may_7 rfl ?_
  refine r_iconst (v := 1) hE dX11_may_8 (by decide) ?_
  refine t_invv (r := (some (.int (y_b (¬ (0 ≤ p ∧ p ≤ (D 170).1 1 - 1)))))) (S2 := (y_mk n L (y_si D 169 0 0))) hE [.int p, .int 1] (c_none (c := 1) hL (by decide)) v_yX11_none m_X11_262 dX11_may_9 rfl (hL 169 (by decide)) (y_l_169 ((y_si D 169 0 0) 169)) rfl (by decide) ⟨Nat.le_refl _, Nat.le_refl _⟩ (Nat.le_of_ble_eq_true rfl) ?_
  show E 0 0 12 [(0, .ref 169), (1, .int p), (2, .int u), (3, .int hl), (4, .int x)] [.int (y_b (¬ (0 ≤ p ∧ p ≤ (D 170).1 1 - 1))), .ref 169] (y_mk n L (y_si D 169 0 0))
  refine r_iconst (v := 1) hE dX11_may_12 (by decide) ?_
  refine t_invv (r := (some (.int (y_b (¬ (0 ≤ p ∧ p ≤ (D 170).1 1 - 1)))))) (S2 := (y_mk n L (if (¬ (0 ≤ p ∧ p ≤ (D 170).1 1 - 1)) then y_si (y_si D 169 0 0) 169 0 1 else y_si D 169 0 0))) hE [.int (y_b (¬ (0 ≤ p ∧ p ≤ (D 170).1 1 - 1))), .int 1] (c_throwsIf hL) v_yX11_throwsIf m_X11_85 dX11_may_13 rfl (hL 169 (by decide)) (y_l_169 ((y_si D 169 0 0) 169)) rfl (by decide) ⟨Nat.le_refl _, Nat.le_refl _⟩ (Nat.le_of_ble_eq_true rfl) ?_
  show E 0 0 16 [(0, .ref 169), (1, .int p), (2, .int u), (3, .int hl), (4, .int x)] [.int (y_b (¬ (0 ≤ p ∧ p ≤ (D 170).1 1 - 1)))] (y_mk n L (if (¬ (0 ≤ p ∧ p ≤ (D 170).1 1 - 1)) then y_si (y_si D 169 0 0) 169 0 1 else y_si D 169 0 0))
  refine r_ifb_ne (tgt := 44) hE dX11_may_16 (by decide) (fun c16 => ?_) (fun c16 => ?_)
  · rw [if_pos c16]
    refine r_iconst (v := 0) hE dX11_may_44 (by decide) ?_
    refine r_ireturn hE dX11_may_45 rfl rfl (Nat.zero_le _) (Nat.zero_le _) ?_
    first
    | exact ⟨_, _, rfl, rfl, m_ot_0 (m_ot_0 m_ot_r), Or.inl ⟨c16, by rw [y_si_1, if_pos rfl]⟩⟩
    | exact ⟨_, _, rfl, rfl, m_ot_0 (m_ot_0 m_ot_r), Or.inr (Or.inl ⟨c16, c29, by rw [y_si_1, if_pos rfl]⟩)⟩
  · rw [if_neg c16]
    refine r_aload_n hE dX11_may_19 rfl ?_
    refine r_iload hE dX11_may_20 rfl ?_
    refine r_iconst (v := 0) hE dX11_may_22 (by decide) ?_
    refine r_sipush (v := 300) hE dX11_may_23 (by decide) ?_
    refine t_invs (r := (some (.int (y_b (0 ≤ x ∧ x ≤ 300))))) (S2 := (y_mk n L (y_si D 169 0 0))) hE [.int x, .int 0, .int 300] (c_in) s_yX11_in m_X11_81 dX11_may_26 rfl (by decide) ⟨Nat.le_refl _, Nat.le_refl _⟩ (Nat.le_of_ble_eq_true rfl) ?_
    show E 0 0 29 [(0, .ref 169), (1, .int p), (2, .int u), (3, .int hl), (4, .int x)] [.int (y_b (0 ≤ x ∧ x ≤ 300)), .ref 169] (y_mk n L (y_si D 169 0 0))
    refine r_ifb_ne (tgt := 36) hE dX11_may_29 (by decide) (fun c29 => ?_) (fun c29 => ?_)
    · refine r_iconst (v := 0) hE dX11_may_36 (by decide) ?_
      refine r_iconst (v := 2) hE dX11_may_37 (by decide) ?_
      refine t_invv (r := (some (.int 0))) (S2 := (y_mk n L (y_si D 169 0 0))) hE [.int 0, .int 2] (c_throwsF) v_yX11_throwsIf m_X11_85 dX11_may_38 rfl (hL 169 (by decide)) (y_l_169 ((y_si D 169 0 0) 169)) rfl (by decide) ⟨Nat.le_refl _, Nat.le_refl _⟩ (Nat.le_of_ble_eq_true rfl) ?_
      show E 0 0 41 [(0, .ref 169), (1, .int p), (2, .int u), (3, .int hl), (4, .int x)] [.int 0] (y_mk n L (y_si D 169 0 0))
      refine r_if_eq (tgt := 46) hE dX11_may_41 (by decide) (fun _ => ?_) (fun c41 => by first | exact absurd c41 (by decide) | exact absurd (by decide) c41)
      obtain ⟨t, ht, rfl⟩ := y_rng (k := q_n (D 170).1 1) (by have := hW.2.1.2; omega) (by rw [← hW.2.1.1]; exact Decidable.of_not_not c16)
      obtain ⟨s, hs, rfl⟩ := y_rng2 (k := 300) (by decide) c29
      refine r_aload_n hE dX11_may_46 rfl ?_
      refine r_iload_n hE dX11_may_47 rfl ?_
      refine r_iconst (v := (-1)) hE dX11_may_48 (by decide) ?_
      refine t_invvRv hE [.int (nI t), .int (-1)] (c_laysOut (D := y_si D 169 0 0) (t := t) (wo := (-1)) hL (by have := hW.2.1.2; omega) (hW.2.2.2.2.2.1 t ht)) v_yX11_laysOut m_X11_265 dX11_may_49 rfl (hL 169 (by decide)) (y_l_169 ((y_si D 169 0 0) 169)) rfl (by decide) ⟨Nat.le_refl _, Nat.le_refl _⟩ (Nat.le_of_ble_eq_true rfl) (fun DL ql => ?_)
      have hwr := hW.2.2.2.2.2.1 t ht
      have hml : m_L (D 170).1 DL t (-1) := m_L_lay (D := y_si D 169 0 0) ql
      have hk3 := m_ls_b (wo := (-1)) hwr
      have h170 : DL 170 = D 170 := ql.1 170 (by decide) (by decide) (by decide) (by decide)
      show E 0 0 52 [(0, .ref 169), (1, .int (nI t)), (2, .int u), (3, .int hl), (4, .int (nI s))] [] (y_mk n L DL)
      refine r_iload hE dX11_may_52 rfl ?_
      refine r_aload_n hE dX11_may_54 rfl ?_
      refine t_geti hE f_X11_249 y_I_169_13 dX11_may_55 (hL 169 (by decide)) ?_
      refine r_top (y := (nI (m_ls (D 170).1 t (-1)))) hml.2.1 ?_
      refine r_icmp_leN (a := s) (b := m_ls (D 170).1 t (-1)) (tgt := 63) hE dX11_may_58 (by decide) (by omega) (by omega) (fun c58 => ?_) (fun c58 => ?_)
      · refine r_aload_n hE dX11_may_63 rfl ?_
        refine r_iload_n hE dX11_may_64 rfl ?_
        refine r_iload_n hE dX11_may_65 rfl ?_
        refine t_invvRv hE [.int u, .int hl] (c_meets (D := DL) (u := u) (hl := hl) hL hml.2.1 hk3 (by rw [h170]; exact hW.2.2.1.1) hW.2.2.1.2 (by rw [h170]; exact hW.2.2.2.2.2.2.1) (m_L_hd hwr hml)) v_yX11_meets m_X11_330 dX11_may_66 rfl (hL 169 (by decide)) (y_l_169 (DL 169)) rfl (by decide) ⟨Nat.le_refl _, Nat.le_refl _⟩ (Nat.le_of_ble_eq_true rfl) (fun D1 q1 => ?_)
        show E 0 0 69 [(0, .ref 169), (1, .int (nI t)), (2, .int u), (3, .int hl), (4, .int (nI s))] [] (y_mk n L D1)
        refine r_iconst (v := 0) hE dX11_may_69 (by decide) ?_
        refine r_istore (ls2 := [(0, .ref 169), (1, .int (nI t)), (2, .int u), (3, .int hl), (4, .int (nI s)), (5, .int 0)]) hE dX11_may_70 (by decide) rfl ?_
        refine r_iconst (v := 0) hE dX11_may_72 (by decide) ?_
        refine r_istore (ls2 := [(0, .ref 169), (1, .int (nI t)), (2, .int u), (3, .int hl), (4, .int (nI s)), (5, .int 0), (6, .int 0)]) hE dX11_may_73 (by decide) rfl ?_
        have q1b : ∀ m, m < 16 * ((m_ls (D 170).1 t (-1)) + 1) → y_is ((D1 181).1 m) (m_me DL (u &&& (nI (2 ^ (q_n (D 170).1 2)) - 1)) hl (m_ls (D 170).1 t (-1)) (q_n (D 170).1 2) m) := q1.2
        have l2 : ∀ (f : Nat) (v : Int32), f ≤ 16 → m_orf (fun f => m_me DL (u &&& (nI (2 ^ (q_n (D 170).1 2)) - 1)) hl (m_ls (D 170).1 t (-1)) (q_n (D 170).1 2) (16 * s + f)) f v → E 0 0 75 [(0, .ref 169), (1, .int (nI t)), (2, .int u), (3, .int hl), (4, .int (nI s)), (5, .int v), (6, .int (nI f))] [] (y_mk n L D1) := by
          intro f v
          induction hm9 : (16 - f) using Nat.strongRecOn generalizing f v with
          | _ m9 ih =>
            intro hf hv
            subst hm9
            refine r_iload hE dX11_may_75 rfl ?_
            refine r_bipush (v := 16) hE dX11_may_77 (by decide) ?_
            refine r_icmp_geN (a := f) (b := 16) (tgt := 114) hE dX11_may_79 (by decide) (by omega) (by decide) (fun c79 => ?_) (fun c79 => ?_)
            · refine r_iload hE dX11_may_114 rfl ?_
              refine r_ireturn hE dX11_may_116 rfl rfl (Nat.zero_le _) (Nat.zero_le _) ?_
              rw [show f = 16 by omega] at hv
              exact ⟨_, _, rfl, rfl, m_ot_t (m_ot_0 m_ot_r) (m_ot_t (m_ot_lay ql) (m_ot_7 q1.1)), Or.inr (Or.inr ⟨t, s, ht, hs, rfl, rfl, (by rw [q1.1.2.1 0 (by decide), ql.2.1 0 (by decide), y_si_1, if_pos rfl]), DL, hml, fun h => absurd h (by omega), fun _ => hv⟩)⟩
            · refine r_iload hE dX11_may_82 rfl ?_
              refine r_aload_n hE dX11_may_84 rfl ?_
              refine t_getr hE f_X11_52 y_R_169_21 dX11_may_85 (hL 169 (by decide)) ?_
              refine r_iload hE dX11_may_88 rfl ?_
              refine r_iload hE dX11_may_90 rfl ?_
              refine t_invs (r := (some (.int (nI (16 * s + f))))) (S2 := (y_mk n L D1)) hE [.int (nI s), .int (nI f)] (c_at) s_yX11_at m_X11_299 dX11_may_92 rfl (by decide) ⟨Nat.le_refl _, Nat.le_refl _⟩ (Nat.le_of_ble_eq_true rfl) ?_
              show E 0 0 95 [(0, .ref 169), (1, .int (nI t)), (2, .int u), (3, .int hl), (4, .int (nI s)), (5, .int v), (6, .int (nI f))] [.int (nI (16 * s + f)), .ref 181, .int v] (y_mk n L D1)
              refine t_zaldN (e := 16 * s + f) hE y_A_181 dX11_may_95 (hL 181 (by decide)) (by omega) (by decide) ?_
              refine r_if_eq (tgt := 104) hE dX11_may_96 (by decide) (fun c96 => ?_) (fun c96 => ?_)
              · refine r_iconst (v := 0) hE dX11_may_104 (by decide) ?_
                refine r_ior hE dX11_may_105 ?_
                refine r_istore (ls2 := [(0, .ref 169), (1, .int (nI t)), (2, .int u), (3, .int hl), (4, .int (nI s)), (5, .int (v ||| 0)), (6, .int (nI f))]) hE dX11_may_106 (by decide) rfl ?_
                refine r_iincN (a := f) (b := 1) (ls2 := [(0, .ref 169), (1, .int (nI t)), (2, .int u), (3, .int hl), (4, .int (nI s)), (5, .int (v ||| 0)), (6, .int (nI (f + 1)))]) hE dX11_may_108 rfl rfl (by decide) rfl ?_
                refine r_goto (tgt := 75) hE dX11_may_111 (by decide) ?_
                exact ih (16 - (f + 1)) (by omega) (f + 1) _ rfl (by omega) ⟨v, hv, Or.inr ⟨(y_is_0 (q1b _ (by omega))).mp c96, rfl⟩⟩
              · refine r_iload hE dX11_may_99 rfl ?_
                refine r_goto (tgt := 105) hE dX11_may_101 (by decide) ?_
                refine r_ior hE dX11_may_105 ?_
                refine r_istore (ls2 := [(0, .ref 169), (1, .int (nI t)), (2, .int u), (3, .int hl), (4, .int (nI s)), (5, .int (v ||| (nI f))), (6, .int (nI f))]) hE dX11_may_106 (by decide) rfl ?_
                refine r_iincN (a := f) (b := 1) (ls2 := [(0, .ref 169), (1, .int (nI t)), (2, .int u), (3, .int hl), (4, .int (nI s)), (5, .int (v ||| (nI f))), (6, .int (nI (f + 1)))]) hE dX11_may_108 rfl rfl (by decide) rfl ?_
                refine r_goto (tgt := 75) hE dX11_may_111 (by decide) ?_
                exact ih (16 - (f + 1)) (by omega) (f + 1) _ rfl (by omega) ⟨v, hv, Or.inl ⟨Classical.not_not.mp (fun q => c96 ((y_is_0 (q1b _ (by omega))).mpr q)), rfl⟩⟩
        exact l2 0 0 (by omega) rfl
      · refine r_iconst (v := 0) hE dX11_may_61 (by decide) ?_
        refine r_ireturn hE dX11_may_62 rfl rfl (Nat.zero_le _) (Nat.zero_le _) ?_
        exact ⟨_, _, rfl, rfl, m_ot_t (m_ot_0 m_ot_r) (m_ot_lay ql), Or.inr (Or.inr ⟨t, s, ht, hs, rfl, rfl, by rw [ql.2.1 0 (by decide), y_si_1, if_pos rfl], DL, hml, fun _ => rfl, fun h => absurd h (by omega)⟩)⟩
    · refine r_iconst (v := 1) hE dX11_may_32 (by decide) ?_
      refine r_goto (tgt := 37) hE dX11_may_33 (by decide) ?_
      refine r_iconst (v := 2) hE dX11_may_37 (by decide) ?_
      refine t_invv (r := (some (.int 1))) (S2 := (y_mk n L (y_si (y_si D 169 0 0) 169 0 2))) hE [.int 1, .int 2] (c_throwsT hL) v_yX11_throwsIf m_X11_85 dX11_may_38 rfl (hL 169 (by decide)) (y_l_169 ((y_si D 169 0 0) 169)) rfl (by decide) ⟨Nat.le_refl _, Nat.le_refl _⟩ (Nat.le_of_ble_eq_true rfl) ?_
      show E 0 0 41 [(0, .ref 169), (1, .int p), (2, .int u), (3, .int hl), (4, .int x)] [.int 1] (y_mk n L (y_si (y_si D 169 0 0) 169 0 2))
      refine r_if_eq (tgt := 46) hE dX11_may_41 (by decide) (fun c41 => by first | exact absurd c41 (by decide) | exact absurd (by decide) c41) (fun _ => ?_)
      refine r_iconst (v := 0) hE dX11_may_44 (by decide) ?_
      refine r_ireturn hE dX11_may_45 rfl rfl (Nat.zero_le _) (Nat.zero_le _) ?_
      first
      | exact ⟨_, _, rfl, rfl, m_ot_0 (m_ot_0 m_ot_r), Or.inl ⟨c16, by rw [y_si_1, if_pos rfl]⟩⟩
      | exact ⟨_, _, rfl, rfl, m_ot_0 (m_ot_0 m_ot_r), Or.inr (Or.inl ⟨c16, c29, by rw [y_si_1, if_pos rfl]⟩)⟩
theorem c_isShut {V : x_E} {n : Nat} {L : List Nat} {D : y_D} {t th : Nat} {wo : Int32} (hL : y_ok L) (hW : m_W (D 170).1) (ht : t < q_n (D 170).1 1) (hth : th < q_n (D 170).1 3) : y_Ri V yX11_isShut cX11_isShut 4 (some .boolean) 8 [.ref 169, .int (nI t), .int wo, .int (nI th)] n L D (fun v D2 => m_ot D D2 ∧ (D2 169).1 0 = (D 169).1 0 ∧ ∃ v2 DL, m_L (D 170).1 DL t wo ∧ m_ea (fun s f => m_me DL ((-1) &&& (nI (2 ^ (q_n (D 170).1 2)) - 1)) 0 (m_ls (D 170).1 t wo) (q_n (D 170).1 2) (16 * s + f) ∧ m_cd (D 170).1 th f (m_rc (D 170).1 ((-1) &&& (nI (2 ^ (q_n (D 170).1 2)) - 1)) (q_n (D 170).1 2))) (m_ls (D 170).1 t wo) v2 ∧ y_is v (v2 < 0)) := by
  refine y_ri (by decide) (Nat.le_of_ble_eq_true rfl) (fun E hE => ?_)
  change E 0 0 0 [(0, .ref 169), (1, .int (nI t)), (2, .int wo), (3, .int (nI th))] [] (y_mk n L D)
  refine r_aload_n hE dX11_isShut_0 rfl ?_
  refine r_iload_n hE dX11_isShut_1 rfl ?_
  refine r_iload_n hE dX11_isShut_2 rfl ?_
  refine t_invvRv hE [.int (nI t), .int wo] (c_laysOut (D := D) (t := t) (wo := wo) hL (by have := hW.2.1.2; omega) (hW.2.2.2.2.2.1 t ht)) v_yX11_laysOut m_X11_265 dX11_isShut_3 rfl (hL 169 (by decide)) (y_l_169 (D 169)) rfl (by decide) ⟨Nat.le_refl _, Nat.le_refl _⟩ (Nat.le_of_ble_eq_true rfl) (fun DL ql => ?_)
  have hwr := hW.2.2.2.2.2.1 t ht
  have hml : m_L (D 170).1 DL t wo := m_L_lay (D := D) ql
  have hk3 := m_ls_b (wo := wo) hwr
  have h170 : DL 170 = D 170 := ql.1 170 (by decide) (by decide) (by decide) (by decide)
  show E 0 0 6 [(0, .ref 169), (1, .int (nI t)), (2, .int wo), (3, .int (nI th))] [] (y_mk n L DL)
  refine r_aload_n hE dX11_isShut_6 rfl ?_
  refine r_iconst (v := (-1)) hE dX11_isShut_7 (by decide) ?_
  refine r_iconst (v := 0) hE dX11_isShut_8 (by decide) ?_
  refine t_invvRv hE [.int (-1), .int 0] (c_meets (D := DL) (u := (-1)) (hl := 0) hL hml.2.1 hk3 (by rw [h170]; exact hW.2.2.1.1) hW.2.2.1.2 (by rw [h170]; exact hW.2.2.2.2.2.2.1) (m_L_hd hwr hml)) v_yX11_meets m_X11_330 dX11_isShut_9 rfl (hL 169 (by decide)) (y_l_169 (DL 169)) rfl (by decide) ⟨Nat.le_refl _, Nat.le_refl _⟩ (Nat.le_of_ble_eq_true rfl) (fun D1 q1 => ?_)
  show E 0 0 12 [(0, .ref 169), (1, .int (nI t)), (2, .int wo), (3, .int (nI th))] [] (y_mk n L D1)
  refine r_aload_n hE dX11_isShut_12 rfl ?_
  refine r_iload_n hE dX11_isShut_13 rfl ?_
  refine r_aload_n hE dX11_isShut_14 rfl ?_
  refine r_aload_n hE dX11_isShut_15 rfl ?_
  refine t_geti hE f_X11_296 y_I_169_23 dX11_isShut_16 (hL 169 (by decide)) ?_
  refine r_top (y := ((-1) &&& (nI (2 ^ (q_n (D 170).1 2)) - 1))) q1.1.2.2 ?_
  refine t_invv (r := (some (.int (nI (m_rc (D1 170).1 ((-1) &&& (nI (2 ^ (q_n (D 170).1 2)) - 1)) (q_n (D 170).1 2)))))) (S2 := (y_mk n L D1)) hE [.int ((-1) &&& (nI (2 ^ (q_n (D 170).1 2)) - 1))] (c_reachOf (D := D1) (u := ((-1) &&& (nI (2 ^ (q_n (D 170).1 2)) - 1))) (kw := (q_n (D 170).1 2)) hL (by rw [q1.1.1.1 170 (by decide), h170]; exact hW.2.2.1.1) hW.2.2.1.2 (by rw [q1.1.1.1 170 (by decide), h170]; exact hW.2.2.2.2.2.2.1)) v_yX11_reachOf m_X11_305 dX11_isShut_19 rfl (hL 169 (by decide)) (y_l_169 (D1 169)) rfl (by decide) ⟨Nat.le_refl _, Nat.le_refl _⟩ (Nat.le_of_ble_eq_true rfl) ?_
  show E 0 0 22 [(0, .ref 169), (1, .int (nI t)), (2, .int wo), (3, .int (nI th))] [.int (nI (m_rc (D1 170).1 ((-1) &&& (nI (2 ^ (q_n (D 170).1 2)) - 1)) (q_n (D 170).1 2))), .int (nI th), .ref 169] (y_mk n L D1)
  refine r_top (y := (nI (m_rc (D 170).1 ((-1) &&& (nI (2 ^ (q_n (D 170).1 2)) - 1)) (q_n (D 170).1 2)))) (by rw [q1.1.1.1 170 (by decide), h170]) ?_
  refine t_invvRi hE [.int (nI th), .int (nI (m_rc (D 170).1 ((-1) &&& (nI (2 ^ (q_n (D 170).1 2)) - 1)) (q_n (D 170).1 2)))] (c_earliestOf (D := D1) (k := m_ls (D 170).1 t wo) (th := th) (rc := m_rc (D 170).1 ((-1) &&& (nI (2 ^ (q_n (D 170).1 2)) - 1)) (q_n (D 170).1 2)) (P := m_me DL ((-1) &&& (nI (2 ^ (q_n (D 170).1 2)) - 1)) 0 (m_ls (D 170).1 t wo) (q_n (D 170).1 2)) hL (by rw [q1.1.2.1 13 (by decide)]; exact hml.2.1) hk3 (by have := hW.2.2.2.1.2; omega) (fun m hm => q1.2 m hm)) v_yX11_earliestOf m_X11_334 dX11_isShut_22 rfl (hL 169 (by decide)) (y_l_169 (D1 169)) rfl (by decide) ⟨Nat.le_refl _, Nat.le_refl _⟩ (Nat.le_of_ble_eq_true rfl) (fun v2 D2 q2 => ?_)
  obtain ⟨q2, hD2⟩ := q2
  rw [hD2]
  rw [q1.1.1.1 170 (by decide), h170] at q2
  show E 0 0 25 [(0, .ref 169), (1, .int (nI t)), (2, .int wo), (3, .int (nI th))] [.int v2] (y_mk n L D1)
  refine r_if_ge (tgt := 32) hE dX11_isShut_25 (by decide) (fun c25 => ?_) (fun c25 => ?_)
  · refine r_iconst (v := 0) hE dX11_isShut_32 (by decide) ?_
    refine r_ireturn hE dX11_isShut_33 rfl (by decide) (Nat.zero_le _) (Nat.zero_le _) ?_
    refine ⟨_, _, rfl, rfl, m_ot_t (m_ot_lay ql) (m_ot_7 q1.1), ?_, v2, DL, hml, q2, ?_⟩
    · rw [q1.1.2.1 0 (by decide), ql.2.1 0 (by decide)]
    · first
      | exact Or.inl ⟨rfl, by rw [← Int32.not_le]; exact c25⟩
      | exact Or.inr ⟨rfl, by rw [Int32.not_lt]; exact c25⟩
  · refine r_iconst (v := 1) hE dX11_isShut_28 (by decide) ?_
    refine r_goto (tgt := 33) hE dX11_isShut_29 (by decide) ?_
    refine r_ireturn hE dX11_isShut_33 rfl (by decide) (Nat.zero_le _) (Nat.zero_le _) ?_
    refine ⟨_, _, rfl, rfl, m_ot_t (m_ot_lay ql) (m_ot_7 q1.1), ?_, v2, DL, hml, q2, ?_⟩
    · rw [q1.1.2.1 0 (by decide), ql.2.1 0 (by decide)]
    · first
      | exact Or.inl ⟨rfl, by rw [← Int32.not_le]; exact c25⟩
      | exact Or.inr ⟨rfl, by rw [Int32.not_lt]; exact c25⟩
def m_sh (W : Nat → Int32) (t th : Nat) (wo : Int32) : Prop := ∃ (v2 : Int32) (DL : y_D), m_L W DL t wo ∧ m_ea (fun s f => m_me DL ((-1) &&& (nI (2 ^ (q_n W 2)) - 1)) 0 (m_ls W t wo) (q_n W 2) (16 * s + f) ∧ m_cd W th f (m_rc W ((-1) &&& (nI (2 ^ (q_n W 2)) - 1)) (q_n W 2))) (m_ls W t wo) v2 ∧ v2 < 0
def m_ns (W : Nat → Int32) (t th : Nat) (wo : Int32) : Prop := ∃ (v2 : Int32) (DL : y_D), m_L W DL t wo ∧ m_ea (fun s f => m_me DL ((-1) &&& (nI (2 ^ (q_n W 2)) - 1)) 0 (m_ls W t wo) (q_n W 2) (16 * s + f) ∧ m_cd W th f (m_rc W ((-1) &&& (nI (2 ^ (q_n W 2)) - 1)) (q_n W 2))) (m_ls W t wo) v2 ∧ ¬ v2 < 0
/-- bits of what is shut, told one by one -/
def m_shb (S N : Nat → Prop) (y n : Nat → Int32) : Nat → Int32 → Prop
  | 0, v => v = 0
  | i + 1, v => ∃ z, m_shb S N y n i z ∧ ((S i ∧ v = z ||| y i) ∨ (N i ∧ v = z ||| n i))
theorem c_shut {V : x_E} {n : Nat} {L : List Nat} {D : y_D} {r : Int32} (hL : y_ok L) (hW : m_W (D 170).1) : y_Ri V yX11_shut cX11_shut 4 (some .int) 9 [.ref 169, .int r] n L D (fun v D2 => m_ot D D2 ∧ (((¬ (0 ≤ r ∧ r ≤ (D 170).1 3 - 1)) ∧ (D2 169).1 0 = 1) ∨ ∃ th, th < q_n (D 170).1 3 ∧ r = nI th ∧ (D2 169).1 0 = 0 ∧ m_shb (fun t => m_sh (D 170).1 t th (-1)) (fun t => m_ns (D 170).1 t th (-1)) (fun t => nI (2 ^ t)) (fun _ => 0) (q_n (D 170).1 1) v)) := by
  refine y_ri (by decide) (Nat.le_of_ble_eq_true rfl) (fun E hE => ?_)
  change E 0 0 0 [(0, .ref 169), (1, .int r)] [] (y_mk n L D)
  refine r_aload_n hE dX11_shut_0 rfl ?_
  refine r_iconst (v := 0) hE dX11_shut_1 (by decide) ?_
  refine t_puti hE f_X11_3 y_I_169_0 dX11_shut_2 (hL 169 (by decide)) rfl rfl ?_
  refine r_aload_n hE dX11_shut_5 rfl ?_
  refine r_aload_n hE dX11_shut_6 rfl ?_
  refine r_iload_n hE dX11_shut_7 rfl ?_
  refine r_iconst (v := 3) hE dX11_shut_8 (by decide) ?_
  refine t_invv (r := (some (.int (y_b (¬ (0 ≤ r ∧ r ≤ (D 170).1 3 - 1)))))) (S2 := (y_mk n L (y_si D 169 0 0))) hE [.int r, .int 3] (c_none (c := 3) hL (by decide)) v_yX11_none m_X11_262 dX11_shut_9 rfl (hL 169 (by decide)) (y_l_169 ((y_si D 169 0 0) 169)) rfl (by decide) ⟨Nat.le_refl _, Nat.le_refl _⟩ (Nat.le_of_ble_eq_true rfl) ?_
  show E 0 0 12 [(0, .ref 169), (1, .int r)] [.int (y_b (¬ (0 ≤ r ∧ r ≤ (D 170).1 3 - 1))), .ref 169] (y_mk n L (y_si D 169 0 0))
  refine r_iconst (v := 1) hE dX11_shut_12 (by decide) ?_
  refine t_invv (r := (some (.int (y_b (¬ (0 ≤ r ∧ r ≤ (D 170).1 3 - 1)))))) (S2 := (y_mk n L (if (¬ (0 ≤ r ∧ r ≤ (D 170).1 3 - 1)) then y_si (y_si D 169 0 0) 169 0 1 else y_si D 169 0 0))) hE [.int (y_b (¬ (0 ≤ r ∧ r ≤ (D 170).1 3 - 1))), .int 1] (c_throwsIf hL) v_yX11_throwsIf m_X11_85 dX11_shut_13 rfl (hL 169 (by decide)) (y_l_169 ((y_si D 169 0 0) 169)) rfl (by decide) ⟨Nat.le_refl _, Nat.le_refl _⟩ (Nat.le_of_ble_eq_true rfl) ?_
  show E 0 0 16 [(0, .ref 169), (1, .int r)] [.int (y_b (¬ (0 ≤ r ∧ r ≤ (D 170).1 3 - 1)))] (y_mk n L (if (¬ (0 ≤ r ∧ r ≤ (D 170).1 3 - 1)) then y_si (y_si D 169 0 0) 169 0 1 else y_si D 169 0 0))
  refine r_ifb_eq (tgt := 21) hE dX11_shut_16 (by decide) (fun c16 => ?_) (fun c16 => ?_)
  · rw [if_neg c16]
    obtain ⟨th, hth, rfl⟩ := y_rng (k := q_n (D 170).1 3) (by have := hW.2.2.2.1.2; omega) (by rw [← hW.2.2.2.1.1]; exact Decidable.of_not_not c16)
    refine r_iconst (v := 0) hE dX11_shut_21 (by decide) ?_
    refine r_istore_n (ls2 := [(0, .ref 169), (1, .int (nI th)), (2, .int 0)]) hE dX11_shut_22 (by decide) rfl ?_
    refine r_iconst (v := 0) hE dX11_shut_23 (by decide) ?_
    refine r_istore_n (ls2 := [(0, .ref 169), (1, .int (nI th)), (2, .int 0), (3, .int 0)]) hE dX11_shut_24 (by decide) rfl ?_
    have hr4 : q_n (D 170).1 1 ≤ 4 := hW.2.1.2
    have l2 : ∀ (i : Nat) (v : Int32) (D8 : y_D), i ≤ q_n (D 170).1 1 → m_ot D D8 → (D8 169).1 0 = 0 → m_shb (fun t => m_sh (D 170).1 t th (-1)) (fun t => m_ns (D 170).1 t th (-1)) (fun t => nI (2 ^ t)) (fun _ => 0) i v → E 0 0 25 [(0, .ref 169), (1, .int (nI th)), (2, .int v), (3, .int (nI i))] [] (y_mk n L D8) := by
      intro i v D8
      induction hm9 : (q_n (D 170).1 1 - i) using Nat.strongRecOn generalizing i v D8 with
      | _ m9 ih =>
        intro hi ot hz hv
        subst hm9
        refine r_iload_n hE dX11_shut_25 rfl ?_
        refine r_aload_n hE dX11_shut_26 rfl ?_
        refine t_getr hE f_X11_13 y_R_169_1 dX11_shut_27 (hL 169 (by decide)) ?_
        refine r_iconst (v := 1) hE dX11_shut_30 (by decide) ?_
        refine t_ialdN (e := 1) hE y_A_170 dX11_shut_31 (hL 170 (by decide)) (by omega) (by decide) ?_
        refine r_top (y := (nI (q_n (D 170).1 1))) (by rw [ot.1 170 (by decide)]; exact hW.2.1.1) ?_
        refine r_icmp_geN (a := i) (b := q_n (D 170).1 1) (tgt := 61) hE dX11_shut_32 (by decide) (by omega) (by omega) (fun c32 => ?_) (fun c32 => ?_)
        · refine r_iload_n hE dX11_shut_61 rfl ?_
          refine r_ireturn hE dX11_shut_62 rfl rfl (Nat.zero_le _) (Nat.zero_le _) ?_
          rw [show i = q_n (D 170).1 1 by omega] at hv
          exact ⟨_, _, rfl, rfl, ot, Or.inr ⟨th, hth, rfl, hz, hv⟩⟩
        · refine r_iload_n hE dX11_shut_35 rfl ?_
          refine r_aload_n hE dX11_shut_36 rfl ?_
          refine r_iload_n hE dX11_shut_37 rfl ?_
          refine r_iconst (v := (-1)) hE dX11_shut_38 (by decide) ?_
          refine r_iload_n hE dX11_shut_39 rfl ?_
          refine t_invvRi hE [.int (nI i), .int (-1), .int (nI th)] (c_isShut (D := D8) (t := i) (th := th) (wo := (-1)) hL (by rw [ot.1 170 (by decide)]; exact hW) (by rw [ot.1 170 (by decide)]; omega) (by rw [ot.1 170 (by decide)]; omega)) v_yX11_isShut m_X11_337 dX11_shut_40 rfl (hL 169 (by decide)) (y_l_169 (D8 169)) rfl (by decide) ⟨Nat.le_refl _, Nat.le_refl _⟩ (Nat.le_of_ble_eq_true rfl) (fun v9 D9 q9 => ?_)
          rw [ot.1 170 (by decide)] at q9
          show E 0 0 43 [(0, .ref 169), (1, .int (nI th)), (2, .int v), (3, .int (nI i))] [.int v9, .int v] (y_mk n L D9)
          refine r_if_eq (tgt := 52) hE dX11_shut_43 (by decide) (fun c43 => ?_) (fun c43 => ?_)
          · refine r_iconst (v := 0) hE dX11_shut_52 (by decide) ?_
            refine r_ior hE dX11_shut_53 ?_
            refine r_istore_n (ls2 := [(0, .ref 169), (1, .int (nI th)), (2, .int (v ||| 0)), (3, .int (nI i))]) hE dX11_shut_54 (by decide) rfl ?_
            refine r_iincN (a := i) (b := 1) (ls2 := [(0, .ref 169), (1, .int (nI th)), (2, .int (v ||| 0)), (3, .int (nI (i + 1)))]) hE dX11_shut_55 rfl rfl (by decide) rfl ?_
            refine r_goto (tgt := 25) hE dX11_shut_58 (by decide) ?_
            obtain ⟨o9, z9, v2, DL, h1, h2, h3⟩ := q9
            exact ih (q_n (D 170).1 1 - (i + 1)) (by omega) (i + 1) _ _ rfl (by omega) (m_ot_t ot o9) (z9.trans hz) ⟨v, hv, Or.inr ⟨⟨v2, DL, h1, h2, (y_is_0 h3).mp c43⟩, rfl⟩⟩
          · refine r_iconst (v := 1) hE dX11_shut_46 (by decide) ?_
            refine r_iload_n hE dX11_shut_47 rfl ?_
            refine r_shl1N (k := i) hE dX11_shut_48 (by omega) ?_
            refine r_goto (tgt := 53) hE dX11_shut_49 (by decide) ?_
            refine r_ior hE dX11_shut_53 ?_
            refine r_istore_n (ls2 := [(0, .ref 169), (1, .int (nI th)), (2, .int (v ||| (nI (2 ^ i)))), (3, .int (nI i))]) hE dX11_shut_54 (by decide) rfl ?_
            refine r_iincN (a := i) (b := 1) (ls2 := [(0, .ref 169), (1, .int (nI th)), (2, .int (v ||| (nI (2 ^ i)))), (3, .int (nI (i + 1)))]) hE dX11_shut_55 rfl rfl (by decide) rfl ?_
            refine r_goto (tgt := 25) hE dX11_shut_58 (by decide) ?_
            obtain ⟨o9, z9, v2, DL, h1, h2, h3⟩ := q9
            exact ih (q_n (D 170).1 1 - (i + 1)) (by omega) (i + 1) _ _ rfl (by omega) (m_ot_t ot o9) (z9.trans hz) ⟨v, hv, Or.inl ⟨⟨v2, DL, h1, h2, Classical.not_not.mp (fun q => c43 ((y_is_0 h3).mpr q))⟩, rfl⟩⟩
    exact l2 0 0 _ (by omega) (m_ot_0 m_ot_r) (by rw [y_si_1, if_pos rfl]) rfl
  · rw [if_pos c16]
    refine r_iconst (v := 0) hE dX11_shut_19 (by decide) ?_
    refine r_ireturn hE dX11_shut_20 rfl rfl (Nat.zero_le _) (Nat.zero_le _) ?_
    exact ⟨_, _, rfl, rfl, m_ot_0 (m_ot_0 m_ot_r), Or.inl ⟨c16, by rw [y_si_1, if_pos rfl]⟩⟩
theorem c_opens {V : x_E} {n : Nat} {L : List Nat} {D : y_D} {p r : Int32} (hL : y_ok L) (hW : m_W (D 170).1) : y_Ri V yX11_opens cX11_opens 5 (some .int) 9 [.ref 169, .int p, .int r] n L D (fun v D2 => m_ot D D2 ∧ (((¬ (0 ≤ p ∧ p ≤ (D 170).1 1 - 1) ∨ ¬ (0 ≤ r ∧ r ≤ (D 170).1 3 - 1)) ∧ (D2 169).1 0 = 1) ∨ ∃ t th, t < q_n (D 170).1 1 ∧ th < q_n (D 170).1 3 ∧ p = nI t ∧ r = nI th ∧ (D2 169).1 0 = 0 ∧ ((m_sh (D 170).1 t th (-1) ∧ m_shb (fun i => m_sh (D 170).1 t th (nI i)) (fun i => m_ns (D 170).1 t th (nI i)) (fun _ => 0) (fun i => nI (2 ^ i)) (m_k (D 170).1 t) v) ∨ (m_ns (D 170).1 t th (-1) ∧ v = -1)))) := by
  refine y_ri (by decide) (Nat.le_of_ble_eq_true rfl) (fun E hE => ?_)
  change E 0 0 0 [(0, .ref 169), (1, .int p), (2, .int r)] [] (y_mk n L D)
  refine r_aload_n hE dX11_opens_0 rfl ?_
  refine r_iconst (v := 0) hE dX11_opens_1 (by decide) ?_
  refine t_puti hE f_X11_3 y_I_169_0 dX11_opens_2 (hL 169 (by decide)) rfl rfl ?_
  refine r_aload_n hE dX11_opens_5 rfl ?_
  refine r_aload_n hE dX11_opens_6 rfl ?_
  refine r_iload_n hE dX11_opens_7 rfl ?_
  refine r_iconst (v := 1) hE dX11_opens_8 (by decide) ?_
  refine t_invv (r := (some (.int (y_b (¬ (0 ≤ p ∧ p ≤ (D 170).1 1 - 1)))))) (S2 := (y_mk n L (y_si D 169 0 0))) hE [.int p, .int 1] (c_none (c := 1) hL (by decide)) v_yX11_none m_X11_262 dX11_opens_9 rfl (hL 169 (by decide)) (y_l_169 ((y_si D 169 0 0) 169)) rfl (by decide) ⟨Nat.le_refl _, Nat.le_refl _⟩ (Nat.le_of_ble_eq_true rfl) ?_
  show E 0 0 12 [(0, .ref 169), (1, .int p), (2, .int r)] [.int (y_b (¬ (0 ≤ p ∧ p ≤ (D 170).1 1 - 1))), .ref 169] (y_mk n L (y_si D 169 0 0))
  refine r_ifb_ne (tgt := 24) hE dX11_opens_12 (by decide) (fun c12 => ?_) (fun c12 => ?_)
  · refine r_iconst (v := 1) hE dX11_opens_24 (by decide) ?_
    refine r_goto (tgt := 29) hE dX11_opens_25 (by decide) ?_
    refine r_iconst (v := 1) hE dX11_opens_29 (by decide) ?_
    refine t_invv (r := (some (.int 1))) (S2 := (y_mk n L (y_si (y_si D 169 0 0) 169 0 1))) hE [.int 1, .int 1] (c_throwsT hL) v_yX11_throwsIf m_X11_85 dX11_opens_30 rfl (hL 169 (by decide)) (y_l_169 ((y_si D 169 0 0) 169)) rfl (by decide) ⟨Nat.le_refl _, Nat.le_refl _⟩ (Nat.le_of_ble_eq_true rfl) ?_
    show E 0 0 33 [(0, .ref 169), (1, .int p), (2, .int r)] [.int 1] (y_mk n L (y_si (y_si D 169 0 0) 169 0 1))
    refine r_if_eq (tgt := 38) hE dX11_opens_33 (by decide) (fun c33 => by first | exact absurd c33 (by decide) | exact absurd (by decide) c33) (fun _ => ?_)
    refine r_iconst (v := 0) hE dX11_opens_36 (by decide) ?_
    refine r_ireturn hE dX11_opens_37 rfl rfl (Nat.zero_le _) (Nat.zero_le _) ?_
    exact ⟨_, _, rfl, rfl, m_ot_0 (m_ot_0 m_ot_r), Or.inl ⟨by first | exact Or.inl c12 | exact Or.inr c21, by rw [y_si_1, if_pos rfl]⟩⟩
  · refine r_aload_n hE dX11_opens_15 rfl ?_
    refine r_iload_n hE dX11_opens_16 rfl ?_
    refine r_iconst (v := 3) hE dX11_opens_17 (by decide) ?_
    refine t_invv (r := (some (.int (y_b (¬ (0 ≤ r ∧ r ≤ (D 170).1 3 - 1)))))) (S2 := (y_mk n L (y_si D 169 0 0))) hE [.int r, .int 3] (c_none (c := 3) hL (by decide)) v_yX11_none m_X11_262 dX11_opens_18 rfl (hL 169 (by decide)) (y_l_169 ((y_si D 169 0 0) 169)) rfl (by decide) ⟨Nat.le_refl _, Nat.le_refl _⟩ (Nat.le_of_ble_eq_true rfl) ?_
    show E 0 0 21 [(0, .ref 169), (1, .int p), (2, .int r)] [.int (y_b (¬ (0 ≤ r ∧ r ≤ (D 170).1 3 - 1))), .ref 169] (y_mk n L (y_si D 169 0 0))
    refine r_ifb_eq (tgt := 28) hE dX11_opens_21 (by decide) (fun c21 => ?_) (fun c21 => ?_)
    · refine r_iconst (v := 0) hE dX11_opens_28 (by decide) ?_
      refine r_iconst (v := 1) hE dX11_opens_29 (by decide) ?_
      refine t_invv (r := (some (.int 0))) (S2 := (y_mk n L (y_si D 169 0 0))) hE [.int 0, .int 1] (c_throwsF) v_yX11_throwsIf m_X11_85 dX11_opens_30 rfl (hL 169 (by decide)) (y_l_169 ((y_si D 169 0 0) 169)) rfl (by decide) ⟨Nat.le_refl _, Nat.le_refl _⟩ (Nat.le_of_ble_eq_true rfl) ?_
      show E 0 0 33 [(0, .ref 169), (1, .int p), (2, .int r)] [.int 0] (y_mk n L (y_si D 169 0 0))
      refine r_if_eq (tgt := 38) hE dX11_opens_33 (by decide) (fun _ => ?_) (fun c33 => by first | exact absurd c33 (by decide) | exact absurd (by decide) c33)
      obtain ⟨t, ht, rfl⟩ := y_rng (k := q_n (D 170).1 1) (by have := hW.2.1.2; omega) (by rw [← hW.2.1.1]; exact Decidable.of_not_not c12)
      obtain ⟨th, hth, rfl⟩ := y_rng (k := q_n (D 170).1 3) (by have := hW.2.2.2.1.2; omega) (by rw [← hW.2.2.2.1.1]; exact Decidable.of_not_not c21)
      refine r_aload_n hE dX11_opens_38 rfl ?_
      refine r_iload_n hE dX11_opens_39 rfl ?_
      refine r_iconst (v := (-1)) hE dX11_opens_40 (by decide) ?_
      refine r_iload_n hE dX11_opens_41 rfl ?_
      refine t_invvRi hE [.int (nI t), .int (-1), .int (nI th)] (c_isShut (D := y_si D 169 0 0) (t := t) (th := th) (wo := (-1)) hL hW ht hth) v_yX11_isShut m_X11_337 dX11_opens_42 rfl (hL 169 (by decide)) (y_l_169 ((y_si D 169 0 0) 169)) rfl (by decide) ⟨Nat.le_refl _, Nat.le_refl _⟩ (Nat.le_of_ble_eq_true rfl) (fun v1 D1 q1 => ?_)
      obtain ⟨o1, z1, w1, DL1, g1, g2, g3⟩ := q1
      have ot1 : m_ot D D1 := m_ot_t (m_ot_0 m_ot_r) o1
      have hz1 : (D1 169).1 0 = 0 := z1.trans (by rw [y_si_1, if_pos rfl])
      show E 0 0 45 [(0, .ref 169), (1, .int (nI t)), (2, .int (nI th))] [.int v1] (y_mk n L D1)
      refine r_if_ne (tgt := 50) hE dX11_opens_45 (by decide) (fun c45 => ?_) (fun c45 => ?_)
      · refine r_iconst (v := 0) hE dX11_opens_50 (by decide) ?_
        refine r_istore_n (ls2 := [(0, .ref 169), (1, .int (nI t)), (2, .int (nI th)), (3, .int 0)]) hE dX11_opens_51 (by decide) rfl ?_
        refine r_iconst (v := 0) hE dX11_opens_52 (by decide) ?_
        refine r_istore (ls2 := [(0, .ref 169), (1, .int (nI t)), (2, .int (nI th)), (3, .int 0), (4, .int 0)]) hE dX11_opens_53 (by decide) rfl ?_
        have hr4 : q_n (D 170).1 1 ≤ 4 := hW.2.1.2
        have hwr := hW.2.2.2.2.2.1 t ht
        have hk10 : m_k (D 170).1 t ≤ 10 := hwr.1.2
        have l2 : ∀ (i : Nat) (v : Int32) (D8 : y_D), i ≤ m_k (D 170).1 t → m_ot D D8 → (D8 169).1 0 = 0 → m_shb (fun i => m_sh (D 170).1 t th (nI i)) (fun i => m_ns (D 170).1 t th (nI i)) (fun _ => 0) (fun i => nI (2 ^ i)) i v → E 0 0 55 [(0, .ref 169), (1, .int (nI t)), (2, .int (nI th)), (3, .int v), (4, .int (nI i))] [] (y_mk n L D8) := by
          intro i v D8
          induction hm9 : (m_k (D 170).1 t - i) using Nat.strongRecOn generalizing i v D8 with
          | _ m9 ih =>
            intro hi ot hz hv
            subst hm9
            refine r_iload hE dX11_opens_55 rfl ?_
            refine r_aload_n hE dX11_opens_57 rfl ?_
            refine r_iload_n hE dX11_opens_58 rfl ?_
            refine t_invv (r := (some (.int ((D8 170).1 (237 + 851 * t))))) (S2 := (y_mk n L D8)) hE [.int (nI t)] (c_lines (t := t) hL (by omega)) v_yX11_lines m_X11_252 dX11_opens_59 rfl (hL 169 (by decide)) (y_l_169 (D8 169)) rfl (by decide) ⟨Nat.le_refl _, Nat.le_refl _⟩ (Nat.le_of_ble_eq_true rfl) ?_
            show E 0 0 62 [(0, .ref 169), (1, .int (nI t)), (2, .int (nI th)), (3, .int v), (4, .int (nI i))] [.int ((D8 170).1 (237 + 851 * t)), .int (nI i)] (y_mk n L D8)
            refine r_top (y := (nI (m_k (D 170).1 t))) (by rw [ot.1 170 (by decide)]; exact hwr.1.1) ?_
            refine r_icmp_geN (a := i) (b := m_k (D 170).1 t) (tgt := 93) hE dX11_opens_62 (by decide) (by omega) (by omega) (fun c62 => ?_) (fun c62 => ?_)
            · refine r_iload_n hE dX11_opens_93 rfl ?_
              refine r_ireturn hE dX11_opens_94 rfl rfl (Nat.zero_le _) (Nat.zero_le _) ?_
              rw [show i = m_k (D 170).1 t by omega] at hv
              exact ⟨_, _, rfl, rfl, ot, Or.inr ⟨t, th, ht, hth, rfl, rfl, hz, Or.inl ⟨⟨w1, DL1, g1, g2, Classical.not_not.mp (fun q => c45 ((y_is_0 g3).mpr q))⟩, hv⟩⟩⟩
            · refine r_iload_n hE dX11_opens_65 rfl ?_
              refine r_aload_n hE dX11_opens_66 rfl ?_
              refine r_iload_n hE dX11_opens_67 rfl ?_
              refine r_iload hE dX11_opens_68 rfl ?_
              refine r_iload_n hE dX11_opens_70 rfl ?_
              refine t_invvRi hE [.int (nI t), .int (nI i), .int (nI th)] (c_isShut (D := D8) (t := t) (th := th) (wo := (nI i)) hL (by rw [ot.1 170 (by decide)]; exact hW) (by rw [ot.1 170 (by decide)]; omega) (by rw [ot.1 170 (by decide)]; omega)) v_yX11_isShut m_X11_337 dX11_opens_71 rfl (hL 169 (by decide)) (y_l_169 (D8 169)) rfl (by decide) ⟨Nat.le_refl _, Nat.le_refl _⟩ (Nat.le_of_ble_eq_true rfl) (fun v9 D9 q9 => ?_)
              rw [ot.1 170 (by decide)] at q9
              show E 0 0 74 [(0, .ref 169), (1, .int (nI t)), (2, .int (nI th)), (3, .int v), (4, .int (nI i))] [.int v9, .int v] (y_mk n L D9)
              refine r_if_eq (tgt := 81) hE dX11_opens_74 (by decide) (fun c74 => ?_) (fun c74 => ?_)
              · refine r_iconst (v := 1) hE dX11_opens_81 (by decide) ?_
                refine r_iload hE dX11_opens_82 rfl ?_
                refine r_shl1N (k := i) hE dX11_opens_84 (by omega) ?_
                refine r_ior hE dX11_opens_85 ?_
                refine r_istore_n (ls2 := [(0, .ref 169), (1, .int (nI t)), (2, .int (nI th)), (3, .int (v ||| (nI (2 ^ i)))), (4, .int (nI i))]) hE dX11_opens_86 (by decide) rfl ?_
                refine r_iincN (a := i) (b := 1) (ls2 := [(0, .ref 169), (1, .int (nI t)), (2, .int (nI th)), (3, .int (v ||| (nI (2 ^ i)))), (4, .int (nI (i + 1)))]) hE dX11_opens_87 rfl rfl (by decide) rfl ?_
                refine r_goto (tgt := 55) hE dX11_opens_90 (by decide) ?_
                obtain ⟨o9, z9, v2, DL, h1, h2, h3⟩ := q9
                exact ih (m_k (D 170).1 t - (i + 1)) (by omega) (i + 1) _ _ rfl (by omega) (m_ot_t ot o9) (z9.trans hz) ⟨v, hv, Or.inr ⟨⟨v2, DL, h1, h2, (y_is_0 h3).mp c74⟩, rfl⟩⟩
              · refine r_iconst (v := 0) hE dX11_opens_77 (by decide) ?_
                refine r_goto (tgt := 85) hE dX11_opens_78 (by decide) ?_
                refine r_ior hE dX11_opens_85 ?_
                refine r_istore_n (ls2 := [(0, .ref 169), (1, .int (nI t)), (2, .int (nI th)), (3, .int (v ||| 0)), (4, .int (nI i))]) hE dX11_opens_86 (by decide) rfl ?_
                refine r_iincN (a := i) (b := 1) (ls2 := [(0, .ref 169), (1, .int (nI t)), (2, .int (nI th)), (3, .int (v ||| 0)), (4, .int (nI (i + 1)))]) hE dX11_opens_87 rfl rfl (by decide) rfl ?_
                refine r_goto (tgt := 55) hE dX11_opens_90 (by decide) ?_
                obtain ⟨o9, z9, v2, DL, h1, h2, h3⟩ := q9
                exact ih (m_k (D 170).1 t - (i + 1)) (by omega) (i + 1) _ _ rfl (by omega) (m_ot_t ot o9) (z9.trans hz) ⟨v, hv, Or.inl ⟨⟨v2, DL, h1, h2, Classical.not_not.mp (fun q => c74 ((y_is_0 h3).mpr q))⟩, rfl⟩⟩
        exact l2 0 0 _ (by omega) ot1 hz1 rfl
      · refine r_iconst (v := (-1)) hE dX11_opens_48 (by decide) ?_
        refine r_ireturn hE dX11_opens_49 rfl rfl (Nat.zero_le _) (Nat.zero_le _) ?_
        exact ⟨_, _, rfl, rfl, ot1, Or.inr ⟨t, th, ht, hth, rfl, rfl, hz1, Or.inr ⟨⟨w1, DL1, g1, g2, (y_is_0 g3).mp c45⟩, rfl⟩⟩⟩
    · refine r_iconst (v := 1) hE dX11_opens_24 (by decide) ?_
      refine r_goto (tgt := 29) hE dX11_opens_25 (by decide) ?_
      refine r_iconst (v := 1) hE dX11_opens_29 (by decide) ?_
      refine t_invv (r := (some (.int 1))) (S2 := (y_mk n L (y_si (y_si D 169 0 0) 169 0 1))) hE [.int 1, .int 1] (c_throwsT hL) v_yX11_throwsIf m_X11_85 dX11_opens_30 rfl (hL 169 (by decide)) (y_l_169 ((y_si D 169 0 0) 169)) rfl (by decide) ⟨Nat.le_refl _, Nat.le_refl _⟩ (Nat.le_of_ble_eq_true rfl) ?_
      show E 0 0 33 [(0, .ref 169), (1, .int p), (2, .int r)] [.int 1] (y_mk n L (y_si (y_si D 169 0 0) 169 0 1))
      refine r_if_eq (tgt := 38) hE dX11_opens_33 (by decide) (fun c33 => by first | exact absurd c33 (by decide) | exact absurd (by decide) c33) (fun _ => ?_)
      refine r_iconst (v := 0) hE dX11_opens_36 (by decide) ?_
      refine r_ireturn hE dX11_opens_37 rfl rfl (Nat.zero_le _) (Nat.zero_le _) ?_
      exact ⟨_, _, rfl, rfl, m_ot_0 (m_ot_0 m_ot_r), Or.inl ⟨by first | exact Or.inl c12 | exact Or.inr c21, by rw [y_si_1, if_pos rfl]⟩⟩

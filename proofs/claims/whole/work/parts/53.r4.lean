/-! ===== the class: can, fewest, earliest, may, shut, opens, needs ===== -/
/-- a RULE is ready for walks by WAYS of u -/
def k_PQ (D DS D2 : y_D) (t : Nat) (wo u hl : Int32) : Prop := c_F D DS (k_rt D t) wo (q_n (D 74).1 2) (k_rm D t) ∧ (∀ j, j ∉ [157, 158, 159, 160, 161, 190] → D2 j = DS j) ∧ ∀ i, i < q_n (D 73).1 4 → y_bit u i → ∀ x, x < k_last D t wo → (D2 158).1 (i * 301 + x) = k_Z D DS hl i x
theorem k_PR_PQ {D DS D2 : y_D} {t : Nat} {wo u hl : Int32} (h : k_PR D DS D2 t wo u hl) : k_PQ D DS D2 t wo u hl := ⟨h.1, fun j hj => h.2.1.1 j (fun q => hj (by simp only [List.mem_cons, List.not_mem_nil, or_false] at q ⊢; omega)), h.2.2.2⟩
theorem k_PQ_same {D DS D2 : y_D} {t : Nat} {wo u hl : Int32} (h : k_PQ D DS D2 t wo u hl) : k_same D D2 := by
  refine ⟨fun j hj => ?_, trivial⟩
  simp only [List.mem_cons, List.not_mem_nil, or_false, not_or] at hj
  rw [h.2.1 j (by simp only [List.mem_cons, List.not_mem_nil, or_false]; omega), h.1.1 j (by omega)]
theorem k_PQ_162 {D DS D2 : y_D} {t : Nat} {wo u hl : Int32} (h : k_PQ D DS D2 t wo u hl) : D2 162 = D 162 := by rw [h.2.1 162 (by decide), h.1.1 162 (by decide)]
theorem k_PQ_keep {D DS D2 D3 : y_D} {t : Nat} {wo u hl : Int32} (h : k_PQ D DS D2 t wo u hl) (h3 : ∀ j, j ≠ 159 → j ≠ 160 → j ≠ 161 → j ≠ 190 → D3 j = D2 j) : k_PQ D DS D3 t wo u hl := by
  refine ⟨h.1, fun j hj => ?_, fun i hi b x hx => ?_⟩
  · have hj2 := hj
    simp only [List.mem_cons, List.not_mem_nil, or_false, not_or] at hj2
    rw [h3 j (by omega) (by omega) (by omega) (by omega), h.2.1 j hj]
  · rw [h3 158 (by decide) (by decide) (by decide) (by decide)]; exact h.2.2 i hi b x hx
theorem k_PQ_walk {D DS D2 : y_D} {L : List Nat} {t : Nat} {wo u hl : Int32} {A : Nat → Int32} (hB : k_B D L) (ht : t < 4) (h : k_PQ D DS D2 t wo u hl) (hA : ∀ x, x ≤ k_last D t wo → (D2 160).1 x = A x) (u2 : Int32) (hu : ∀ i, i < q_n (D 73).1 4 → y_bit u2 i → y_bit u i) : k_same D (y_wo D2 u2 (q_n (D 73).1 4) (k_last D t wo)) ∧ ∀ x, x ≤ k_last D t wo → ((y_wo D2 u2 (q_n (D 73).1 4) (k_last D t wo)) 161).1 x = k_SS D DS t wo u2 hl A (k_last D t wo) x := by
  have sm3 := k_PQ_same h
  have hB3 := k_B_same sm3 hB
  have hk := hB.2.1.2
  have hw : ∀ i, i < q_n (D 73).1 4 → k_WA D L i := fun i hi => hB.2.2.2.2.2.2.1 i (by omega)
  have hyw : ∀ i, i < q_n (D 73).1 4 → ∀ c, y_w D2 i c = (D (k_wh D i)).1 c := fun i hi c => by
    rw [k_w_eq (hB3.2.2.2.2.2.2.1 i (by omega))]
    obtain ⟨e1, e2, e3, e4⟩ := k_WA_same sm3 (hw i hi)
    rw [e1, e3]
  have ht1 : ∀ i, i < q_n (D 73).1 4 → 1 ≤ (y_w D2 i 1).toNatClampNeg := fun i hi => by rw [hyw i hi]; exact (hw i hi).2.2.2.2.2.2.2.2.2.2.2.2.2.1
  have hl3 : k_last D t wo ≤ 300 := k_last_b (hB.2.2.2.2.2.1 t ht)
  have hc := c_wo (u := u2) (k_B_rq hB3) hk ht1 (k_last D t wo) (by omega)
  refine ⟨k_same_ag sm3 hc.1, fun x hx => ?_⟩
  rw [hc.2.1 x hx]
  refine c_S_c (fun i hi => hyw i hi 0) (fun i hi => by rw [hyw i hi]; rfl) ht1 _ hA (fun i hi b j hj => ?_) x
  exact h.2.2 i hi (hu i hi b) j hj
/-- what NOTES allow -/
def k_An (A : Nat → Int32) (sec : Nat → Nat) (sf : Nat → Int32) : Nat → Nat → Int32
  | 0, x => A x
  | i + 1, x => if x = sec i then k_An A sec sf i x &&& sf i else k_An A sec sf i x
abbrev k_sec (D : y_D) (i : Nat) : Nat := q_n (D 81).1 (i * 2 + 1)
abbrev k_thi (D : y_D) (i : Nat) : Nat := q_n (D 81).1 (i * 2 + 0)
/-- all NOTES can have been done by these WAYS -/
def k_can (D DS : y_D) (t : Nat) (u hl : Int32) : Prop := (∀ i, i < q_n (D 80).1 2 → k_sec D i ≤ k_last D t (-1)) ∧ k_SS D DS t (-1) u hl (k_An (y_al DS (k_last D t (-1))) (k_sec D) (fun i => K_setsFor D (q_n (D 78).1 2) (k_thi D i) (q_n (D 73).1 4) u) (q_n (D 80).1 2)) (k_last D t (-1)) (k_last D t (-1)) ≠ 0
theorem k_bn_ok {D DS D2 : y_D} {L : List Nat} {t : Nat} {u hl : Int32} (hB : k_B D L) (h : k_PQ D DS D2 t (-1) u hl) (u2 : Int32) : ∀ i, (∀ j, j ≠ 160 → y_bn D2 (k_last D t (-1)) (q_n (D 78).1 2) (q_n (D 73).1 4) u2 i j = D2 j) ∧ ∀ x, x ≤ k_last D t (-1) → (y_bn D2 (k_last D t (-1)) (q_n (D 78).1 2) (q_n (D 73).1 4) u2 i 160).1 x = k_An (y_al DS (k_last D t (-1))) (k_sec D) (fun i => K_setsFor D (q_n (D 78).1 2) (k_thi D i) (q_n (D 73).1 4) u2) i x := by
  have sm := k_PQ_same h
  intro i
  induction i with
  | zero =>
    refine ⟨fun j hj => y_sw_ne hj, fun x hx => ?_⟩
    show (y_sw D2 160 _ 160).1 x = _
    rw [y_sw_1]
    show y_cp (y_al D2 _) _ _ x = y_al DS _ x
    unfold y_cp y_al
    rw [if_pos (by omega), h.2.1 153 (by decide)]
  | succ i ih =>
    obtain ⟨i1, i2⟩ := ih
    have es : y_sec D2 i = k_sec D i := by unfold y_sec k_sec q_n; rw [sm.1 81 (by decide)]
    have et : y_thi D2 i = k_thi D i := by unfold y_thi k_thi q_n; rw [sm.1 81 (by decide)]; rfl
    have sm2 : k_same D (y_bn D2 (k_last D t (-1)) (q_n (D 78).1 2) (q_n (D 73).1 4) u2 i) := ⟨fun j hj => by rw [i1 j (fun q => hj (by rw [q]; decide)), sm.1 j hj], trivial⟩
    refine ⟨fun j hj => ?_, fun x hx => ?_⟩
    · show y_si _ 160 _ _ j = _
      rw [y_si_ne hj, i1 j hj]
    · show (y_si _ 160 _ _ 160).1 x = _
      rw [y_si_1, es, et, k_sf_same sm2 hB, k_An]
      by_cases c : x = k_sec D i
      · rw [if_pos c, if_pos c, ← c, i2 x hx]
      · rw [if_neg c, if_neg c, i2 x hx]
theorem k_bn_can {D DS D2 D3 : y_D} {L : List Nat} {t : Nat} {u hl u2 v : Int32} (hB : k_B D L) (ht : t < 4) (h : k_PQ D DS D2 t (-1) u hl) (hu : ∀ i, i < q_n (D 73).1 4 → y_bit u2 i → y_bit u i) (q : P_bn D2 (k_last D t (-1)) (q_n (D 78).1 2) (q_n (D 73).1 4) (q_n (D 80).1 2) u2 v D3) : k_PQ D DS D3 t (-1) u hl ∧ y_is v (k_can D DS t u2 hl) := by
  obtain ⟨q1, q2, q3⟩ := q
  have sm := k_PQ_same h
  obtain ⟨b1, b2⟩ := k_bn_ok hB h u2 (q_n (D 80).1 2)
  have h2 : k_PQ D DS (y_bn D2 (k_last D t (-1)) (q_n (D 78).1 2) (q_n (D 73).1 4) u2 (q_n (D 80).1 2)) t (-1) u hl := k_PQ_keep h (fun j _ hj _ _ => b1 j hj)
  obtain ⟨-, w2⟩ := k_PQ_walk hB ht h2 b2 u2 hu
  refine ⟨k_PQ_keep h q1, ?_⟩
  have e : v = 1 ↔ k_can D DS t u2 hl := by
    rw [q3, w2 _ (Nat.le_refl _)]
    have es : ∀ i, y_sec D2 i = k_sec D i := fun i => by unfold y_sec k_sec q_n; rw [sm.1 81 (by decide)]
    simp only [es]
    exact Iff.rfl
  rcases q2 with q2 | q2
  · exact Or.inl ⟨q2, e.mp q2⟩
  · exact Or.inr ⟨q2, fun z => by rw [e.mpr z] at q2; exact absurd q2 (by decide)⟩
theorem y_rngR {p : Int32} {k : Nat} (hk : k < 2 ^ 31) (h : 0 ≤ p ∧ p < nI k) : ∃ t, t < k ∧ p = nI t := by
  obtain ⟨j, hj, rfl⟩ := nI_of (x := p) (by rw [Int32.not_lt]; exact h.1)
  exact ⟨j, (nI_ltI hj hk).mp h.2, rfl⟩
/-- the first second with a set that is wanted; none: -1 -/
def k_fs (S : Nat → Int32) (W : Int32) (k : Nat) (v : Int32) : Prop := (v = -1 ∧ ∀ x, x ≤ k → S x &&& W = 0) ∨ ∃ x, x ≤ k ∧ v = nI x ∧ S x &&& W ≠ 0 ∧ ∀ y, y < x → S y &&& W = 0
theorem k_fs_ok {S T : Nat → Int32} {W : Int32} {k : Nat} (h : ∀ x, x ≤ k → T x = S x) : ∀ c i, i + c = k + 1 → (∀ y, y < i → S y &&& W = 0) → k_fs S W k (y_fs T W i c)
  | 0, i, hi, h0 => Or.inl ⟨rfl, fun x hx => h0 x (by omega)⟩
  | c + 1, i, hi, h0 => by
    unfold y_fs
    by_cases q : T i &&& W = 0
    · rw [if_pos q]
      refine k_fs_ok h c (i + 1) (by omega) (fun y hy => ?_)
      by_cases z : y = i
      · rw [z, ← h i (by omega)]; exact q
      · exact h0 y (by omega)
    · rw [if_neg q]
      exact Or.inr ⟨i, by omega, rfl, by rw [← h i (by omega)]; exact q, h0⟩
theorem k_tks {D : y_D} {L : List Nat} {kw : Nat} (hB : k_B D L) (hk : kw ≤ q_n (D 73).1 4) : ∀ i, i < kw → ∃ tk : Nat, y_w D i 1 = nI tk ∧ 1 ≤ tk ∧ tk < 1000 := fun i hi => by
  have h6 := hB.2.1.2
  have h := hB.2.2.2.2.2.2.1 i (by omega)
  exact ⟨_, by rw [k_w_eq h]; exact h.2.2.2.2.2.2.2.2.2.2.2.2.1.1, h.2.2.2.2.2.2.2.2.2.2.2.2.2.1, Nat.lt_of_le_of_lt h.2.2.2.2.2.2.2.2.2.2.2.2.1.2 (by decide)⟩
theorem f_can {V : x_E} (hV : y_V V) {n : Nat} {L : List Nat} {D : y_D} (hL : y_ok L) {p u hl : Int32} (hB : k_B D L) (hCI : k_CI D) : y_Fi V yX10_can cX10_can 4 (some .boolean) 8 1 6 [.ref 64, .int p, .int u, .int hl] n L D (fun v D2 => (k_same D D2 ∧ k_CI D2) ∧ ∃ t DS, t < q_n (D 73).1 2 ∧ p = nI t ∧ c_G (c_per D (q_n (D 74).1 2)) DS (k_rt D t) (-1) (k_rm D t) ∧ y_is v (k_can D DS t u hl)) (fun E9 => ¬ (0 ≤ p ∧ p < (D 73).1 2) ∧ E9 = y_IOB) := by
  refine x_cx (by decide) hV.1 (fun a0 S0 h => by rw [h.1]; exact Nat.le_of_ble_eq_true rfl) (fun a0 S0 h E EX hX => ?_)
  obtain ⟨rfl, rfl⟩ := h
  have hE := hX.x
  change E 0 0 0 [(0, .ref 64), (1, .int p), (2, .int u), (3, .int hl)] [] (y_mk n L D)
  refine r_iload_n hE dX10_can_0 rfl ?_
  refine r_aload_n hE dX10_can_1 rfl ?_
  refine t_getr hE f_X10_23 y_R_64_3 dX10_can_2 (hL 64 (by decide)) ?_
  refine t_geti hE f_X10_97 y_I_73_2 dX10_can_5 (hL 73 (by decide)) ?_
  refine t_demandRow hX hV [.int p, .int ((D 73).1 2)] dX10_can_8 m_X10_125 rfl (by decide) ⟨by decide, by decide⟩ (Nat.le_of_ble_eq_true rfl) (fun c8 => ?_) (fun c8 n2 hn2 => r_out hX ⟨by exact ⟨c8, rfl⟩, n2, hn2, rfl⟩ (by decide) (by decide))
  show E 1 6 11 [(0, .ref 64), (1, .int p), (2, .int u), (3, .int hl)] [] (y_mk n L D)
  obtain ⟨t, ht, rfl⟩ := y_rngR (k := q_n (D 73).1 2) (by have := hB.1.2; omega) (by rw [← hB.1.1]; exact c8)
  refine r_aload_n hE dX10_can_11 rfl ?_
  refine t_getr hE f_X10_35 y_R_64_6 dX10_can_12 (hL 64 (by decide)) ?_
  refine r_iload_n hE dX10_can_15 rfl ?_
  refine r_iconst (v := (-1)) hE dX10_can_16 (by decide) ?_
  refine r_iload_n hE dX10_can_17 rfl ?_
  refine r_iload_n hE dX10_can_18 rfl ?_
  refine t_invvRv hE [.int (nI t), .int (-1), .int u, .int hl] (k_prepare (D := D) (t := t) (wo := (-1)) (u := u) (hl := hl) hV hL hB (by have := hB.1.2; omega)) v_yX1_prepare m_X10_182 dX10_can_19 rfl (hL 151 (by decide)) (y_l_151 (D 151)) rfl (by decide) ⟨by decide, by decide⟩ (Nat.le_of_ble_eq_true rfl) (fun D1 q1 => ?_)
  obtain ⟨DS, q1⟩ := q1
  have q1 := k_PR_PQ q1
  show E 1 6 22 [(0, .ref 64), (1, .int (nI t)), (2, .int u), (3, .int hl)] [] (y_mk n L D1)
  refine r_aload_n hE dX10_can_22 rfl ?_
  refine t_getr hE f_X10_35 y_R_64_6 dX10_can_23 (hL 64 (by decide)) ?_
  refine r_iload_n hE dX10_can_26 rfl ?_
  refine t_invvRi hE [.int u] (k_bringsAllNotes (D := D1) (u := u) (k := k_last D t (-1)) (kt := q_n (D 78).1 2) (kw := q_n (D 73).1 4) (kn := q_n (D 80).1 2) hV hL (by rw [q1.2.1 152 (by decide)]; exact q1.1.2.2.1) (k_last_b (hB.2.2.2.2.2.1 t (by have := hB.1.2; omega))) (by rw [(k_PQ_same q1).1 73 (by decide)]; exact hB.2.1.1) hB.2.1.2 (k_B_rq (k_B_same (k_PQ_same q1) hB)) (k_tks (k_B_same (k_PQ_same q1) hB) (Nat.le_of_eq (by rw [(k_PQ_same q1).1 73 (by decide)]))) (by rw [(k_PQ_same q1).1 78 (by decide)]; exact hB.2.2.2.1.1.1) (by rw [(k_PQ_same q1).1 78 (by decide)]; exact hB.2.2.2.1.2) hB.2.2.2.1.1.2 (by rw [(k_PQ_same q1).1 80 (by decide)]; exact hB.2.2.2.2.1.1.1) (by rw [(k_PQ_same q1).1 80 (by decide)]; exact hB.2.2.2.2.1.2) hB.2.2.2.2.1.1.2 (fun i hi => ⟨k_thi D i, k_sec D i, by rw [(k_PQ_same q1).1 81 (by decide)]; exact (hB.2.2.2.2.2.2.2.1 i hi).1.1, by rw [(k_PQ_same q1).1 81 (by decide)]; exact (hB.2.2.2.2.2.2.2.1 i hi).2.1, Nat.lt_of_le_of_lt (hB.2.2.2.2.2.2.2.1 i hi).1.2 (by decide), (hB.2.2.2.2.2.2.2.1 i hi).2.2⟩) (k_th2 (k_PQ_same q1) hB)) v_yX1_bringsAllNotes m_X10_186 dX10_can_27 rfl (hL 151 (by decide)) (y_l_151 (D1 151)) rfl (by decide) ⟨by decide, by decide⟩ (Nat.le_of_ble_eq_true rfl) (fun v2 D2 q2 => ?_)
  obtain ⟨q2, hv2⟩ := k_bn_can hB (by have := hB.1.2; omega) q1 (fun _ _ b => b) q2
  show E 1 6 30 [(0, .ref 64), (1, .int (nI t)), (2, .int u), (3, .int hl)] [.int v2] (y_mk n L D2)
  refine r_ireturn hE dX10_can_30 rfl (by exact y_is_nar hv2) (by decide) (by decide) ?_
  exact ⟨_, _, rfl, rfl, ⟨k_PQ_same q2, k_CI_same (k_PQ_same q2) (k_PQ_162 q2) hB hCI⟩, t, DS, ht, rfl, c_F_G q2.1, hv2⟩
theorem f_earliest {V : x_E} (hV : y_V V) {n : Nat} {L : List Nat} {D : y_D} (hL : y_ok L) {p u hl r : Int32} (hB : k_B D L) (hCI : k_CI D) : y_Fi V yX10_earliest cX10_earliest 5 (some .int) 8 2 12 [.ref 64, .int p, .int u, .int hl, .int r] n L D (fun v D2 => (k_same D D2 ∧ k_CI D2) ∧ ∃ t th DS, t < q_n (D 73).1 2 ∧ th < q_n (D 78).1 2 ∧ p = nI t ∧ r = nI th ∧ c_G (c_per D (q_n (D 74).1 2)) DS (k_rt D t) (-1) (k_rm D t) ∧ k_fs (k_SS D DS t (-1) u hl (y_al DS (k_last D t (-1))) (k_last D t (-1))) (K_setsFor D (q_n (D 78).1 2) th (q_n (D 73).1 4) u) (k_last D t (-1)) v) (fun E9 => (¬ (0 ≤ p ∧ p < (D 73).1 2) ∨ ¬ (0 ≤ r ∧ r < (D 78).1 2)) ∧ E9 = y_IOB) := by
  refine x_cx (by decide) hV.1 (fun a0 S0 h => by rw [h.1]; exact Nat.le_of_ble_eq_true rfl) (fun a0 S0 h E EX hX => ?_)
  obtain ⟨rfl, rfl⟩ := h
  have hE := hX.x
  change E 0 0 0 [(0, .ref 64), (1, .int p), (2, .int u), (3, .int hl), (4, .int r)] [] (y_mk n L D)
  refine r_iload_n hE dX10_earliest_0 rfl ?_
  refine r_aload_n hE dX10_earliest_1 rfl ?_
  refine t_getr hE f_X10_23 y_R_64_3 dX10_earliest_2 (hL 64 (by decide)) ?_
  refine t_geti hE f_X10_97 y_I_73_2 dX10_earliest_5 (hL 73 (by decide)) ?_
  refine t_demandRow hX hV [.int p, .int ((D 73).1 2)] dX10_earliest_8 m_X10_125 rfl (by decide) ⟨by decide, by decide⟩ (Nat.le_of_ble_eq_true rfl) (fun c8 => ?_) (fun c8 n2 hn2 => r_out hX ⟨by first | exact ⟨Or.inl c8, rfl⟩ | exact ⟨Or.inr c23, rfl⟩, n2, hn2, rfl⟩ (by decide) (by decide))
  show E 1 6 11 [(0, .ref 64), (1, .int p), (2, .int u), (3, .int hl), (4, .int r)] [] (y_mk n L D)
  refine r_iload hE dX10_earliest_11 rfl ?_
  refine r_aload_n hE dX10_earliest_13 rfl ?_
  refine t_getr hE f_X10_23 y_R_64_3 dX10_earliest_14 (hL 64 (by decide)) ?_
  refine t_getr hE f_X10_122 y_R_73_5 dX10_earliest_17 (hL 73 (by decide)) ?_
  refine t_geti hE f_X10_176 y_I_78_2 dX10_earliest_20 (hL 78 (by decide)) ?_
  refine t_demandRow hX hV [.int r, .int ((D 78).1 2)] dX10_earliest_23 m_X10_125 rfl (by decide) ⟨by decide, by decide⟩ (Nat.le_of_ble_eq_true rfl) (fun c23 => ?_) (fun c23 n2 hn2 => r_out hX ⟨by first | exact ⟨Or.inl c8, rfl⟩ | exact ⟨Or.inr c23, rfl⟩, n2, hn2, rfl⟩ (by decide) (by decide))
  show E 2 12 26 [(0, .ref 64), (1, .int p), (2, .int u), (3, .int hl), (4, .int r)] [] (y_mk n L D)
  obtain ⟨t, ht, rfl⟩ := y_rngR (k := q_n (D 73).1 2) (by have := hB.1.2; omega) (by rw [← hB.1.1]; exact c8)
  obtain ⟨th, hth, rfl⟩ := y_rngR (k := q_n (D 78).1 2) (by have := hB.2.2.2.1.1.2; omega) (by rw [← hB.2.2.2.1.1.1]; exact c23)
  refine r_aload_n hE dX10_earliest_26 rfl ?_
  refine t_getr hE f_X10_35 y_R_64_6 dX10_earliest_27 (hL 64 (by decide)) ?_
  refine r_iload_n hE dX10_earliest_30 rfl ?_
  refine r_iconst (v := (-1)) hE dX10_earliest_31 (by decide) ?_
  refine r_iload_n hE dX10_earliest_32 rfl ?_
  refine r_iload_n hE dX10_earliest_33 rfl ?_
  refine t_invvRv hE [.int (nI t), .int (-1), .int u, .int hl] (k_prepare (D := D) (t := t) (wo := (-1)) (u := u) (hl := hl) hV hL hB (by have := hB.1.2; omega)) v_yX1_prepare m_X10_182 dX10_earliest_34 rfl (hL 151 (by decide)) (y_l_151 (D 151)) rfl (by decide) ⟨by decide, by decide⟩ (Nat.le_of_ble_eq_true rfl) (fun D1 q1 => ?_)
  obtain ⟨DS, q0⟩ := q1
  have q1 := k_PR_PQ q0
  show E 2 12 37 [(0, .ref 64), (1, .int (nI t)), (2, .int u), (3, .int hl), (4, .int (nI th))] [] (y_mk n L D1)
  refine r_aload_n hE dX10_earliest_37 rfl ?_
  refine t_getr hE f_X10_35 y_R_64_6 dX10_earliest_38 (hL 64 (by decide)) ?_
  refine r_iload_n hE dX10_earliest_41 rfl ?_
  refine t_invv (r := none) (S2 := (y_mk n L (y_wo D1 (u) (q_n (D 73).1 4) (k_last D t (-1))))) hE [.int u] (k_walk (D := D1) (u := u) (k := k_last D t (-1)) (kw := q_n (D 73).1 4) hV hL (by rw [q1.2.1 152 (by decide)]; exact q1.1.2.2.1) (k_last_b (hB.2.2.2.2.2.1 t (by have := hB.1.2; omega))) (by rw [(k_PQ_same q1).1 73 (by decide)]; exact hB.2.1.1) hB.2.1.2 (k_B_rq (k_B_same (k_PQ_same q1) hB)) (k_tks (k_B_same (k_PQ_same q1) hB) (Nat.le_of_eq (by rw [(k_PQ_same q1).1 73 (by decide)])))) v_yX1_walk m_X10_199 dX10_earliest_42 rfl (hL 151 (by decide)) (y_l_151 (D1 151)) rfl (by decide) ⟨by decide, by decide⟩ (Nat.le_of_ble_eq_true rfl) ?_
  show E 2 12 45 [(0, .ref 64), (1, .int (nI t)), (2, .int u), (3, .int hl), (4, .int (nI th))] [] (y_mk n L (y_wo D1 (u) (q_n (D 73).1 4) (k_last D t (-1))))
  obtain ⟨D2, hD2⟩ : ∃ z, z = y_wo D1 (u) (q_n (D 73).1 4) (k_last D t (-1)) := ⟨_, rfl⟩
  rw [← hD2]
  obtain ⟨smD2, hS⟩ := k_PQ_walk (A := y_al DS (k_last D t (-1))) hB (by have := hB.1.2; omega) q1 q0.2.2.1 (u) (fun _ _ b => b)
  rw [← hD2] at smD2 hS
  have e162 : D2 162 = D 162 := by rw [hD2, y_wo_ag 162 (by decide) (by decide) (by decide), k_PQ_162 q1]
  have e152 : (D2 152).1 0 = nI (k_last D t (-1)) := by rw [hD2, y_wo_ag 152 (by decide) (by decide) (by decide), q1.2.1 152 (by decide)]; exact q1.1.2.2.1
  refine r_aload_n hE dX10_earliest_45 rfl ?_
  refine t_getr hE f_X10_35 y_R_64_6 dX10_earliest_46 (hL 64 (by decide)) ?_
  refine r_aload_n hE dX10_earliest_49 rfl ?_
  refine t_getr hE f_X10_23 y_R_64_3 dX10_earliest_50 (hL 64 (by decide)) ?_
  refine r_iload hE dX10_earliest_53 rfl ?_
  refine r_iload_n hE dX10_earliest_55 rfl ?_
  refine t_invv (r := (some (.int (K_setsFor D2 (q_n (D 78).1 2) th (q_n (D 73).1 4) (u))))) (S2 := (y_mk n L D2)) hE [.int (nI th), .int u] (k_setsFor (D := D2) (u := u) (th := th) (k := q_n (D 73).1 4) (kt := q_n (D 78).1 2) hV hL (by rw [smD2.1 73 (by decide)]; exact hB.2.1.1) hB.2.1.2 (k_B_rq (k_B_same smD2 hB)) (by rw [smD2.1 78 (by decide)]; exact hB.2.2.2.1.1.1) (by rw [smD2.1 78 (by decide)]; exact hB.2.2.2.1.2) hB.2.2.2.1.1.2 (by have := hB.2.2.2.1.1.2; omega) (k_th2 smD2 hB th 0 (by decide)) (k_th2 smD2 hB th 1 (by decide))) v_yX0_setsFor m_X10_202 dX10_earliest_56 rfl (hL 73 (by decide)) (y_l_73 (D2 73)) rfl (by decide) ⟨by decide, by decide⟩ (Nat.le_of_ble_eq_true rfl) ?_
  show E 2 12 59 [(0, .ref 64), (1, .int (nI t)), (2, .int u), (3, .int hl), (4, .int (nI th))] [.int (K_setsFor D2 (q_n (D 78).1 2) th (q_n (D 73).1 4) (u)), .ref 151] (y_mk n L D2)
  refine r_top (y := (K_setsFor D (q_n (D 78).1 2) th (q_n (D 73).1 4) u)) (k_sf_same smD2 hB) ?_
  refine t_invv (r := (some (.int (y_fs (D2 161).1 (K_setsFor D (q_n (D 78).1 2) th (q_n (D 73).1 4) u) 0 (k_last D t (-1) + 1))))) (S2 := (y_mk n L D2)) hE [.int (K_setsFor D (q_n (D 78).1 2) th (q_n (D 73).1 4) u)] (k_firstSecondOf (D := D2) (k := k_last D t (-1)) hL e152 (k_last_b (hB.2.2.2.2.2.1 t (by have := hB.1.2; omega)))) v_yX1_firstSecondOf m_X10_206 dX10_earliest_59 rfl (hL 151 (by decide)) (y_l_151 (D2 151)) rfl (by decide) ⟨by decide, by decide⟩ (Nat.le_of_ble_eq_true rfl) ?_
  show E 2 12 62 [(0, .ref 64), (1, .int (nI t)), (2, .int u), (3, .int hl), (4, .int (nI th))] [.int (y_fs (D2 161).1 (K_setsFor D (q_n (D 78).1 2) th (q_n (D 73).1 4) u) 0 (k_last D t (-1) + 1))] (y_mk n L D2)
  refine r_ireturn hE dX10_earliest_62 rfl rfl (by decide) (by decide) ?_
  exact ⟨_, _, rfl, rfl, ⟨smD2, k_CI_same smD2 e162 hB hCI⟩, t, th, DS, ht, hth, rfl, rfl, c_F_G q1.1, k_fs_ok hS _ _ (by omega) (fun y hy => absurd hy (by omega))⟩
theorem f_may {V : x_E} (hV : y_V V) {n : Nat} {L : List Nat} {D : y_D} (hL : y_ok L) {p u hl x : Int32} (hB : k_B D L) (hCI : k_CI D) : y_Fi V yX10_may cX10_may 5 (some .int) 8 2 12 [.ref 64, .int p, .int u, .int hl, .int x] n L D (fun v D2 => (k_same D D2 ∧ k_CI D2) ∧ ∃ t s DS, t < q_n (D 73).1 2 ∧ s ≤ 300 ∧ p = nI t ∧ x = nI s ∧ c_G (c_per D (q_n (D 74).1 2)) DS (k_rt D t) (-1) (k_rm D t) ∧ v = (if k_last D t (-1) < s then 0 else y_lm ((k_SS D DS t (-1) u hl (y_al DS (k_last D t (-1))) (k_last D t (-1))) s) 16)) (fun E9 => (¬ (0 ≤ p ∧ p < (D 73).1 2) ∧ E9 = y_IOB) ∨ (¬ ¬ (0 ≤ p ∧ p < (D 73).1 2) ∧ ¬ (0 ≤ x ∧ x ≤ 300) ∧ E9 = y_IAE)) := by
  refine x_cx (by decide) hV.1 (fun a0 S0 h => by rw [h.1]; exact Nat.le_of_ble_eq_true rfl) (fun a0 S0 h E EX hX => ?_)
  obtain ⟨rfl, rfl⟩ := h
  have hE := hX.x
  change E 0 0 0 [(0, .ref 64), (1, .int p), (2, .int u), (3, .int hl), (4, .int x)] [] (y_mk n L D)
  refine r_iload_n hE dX10_may_0 rfl ?_
  refine r_aload_n hE dX10_may_1 rfl ?_
  refine t_getr hE f_X10_23 y_R_64_3 dX10_may_2 (hL 64 (by decide)) ?_
  refine t_geti hE f_X10_97 y_I_73_2 dX10_may_5 (hL 73 (by decide)) ?_
  refine t_demandRow hX hV [.int p, .int ((D 73).1 2)] dX10_may_8 m_X10_125 rfl (by decide) ⟨by decide, by decide⟩ (Nat.le_of_ble_eq_true rfl) (fun c8 => ?_) (fun c8 n2 hn2 => r_out hX ⟨by first | exact Or.inl ⟨c8, rfl⟩ | exact Or.inr ⟨fun q => q c8, c20, rfl⟩, n2, hn2, rfl⟩ (by decide) (by decide))
  show E 1 6 11 [(0, .ref 64), (1, .int p), (2, .int u), (3, .int hl), (4, .int x)] [] (y_mk n L D)
  refine r_iload hE dX10_may_11 rfl ?_
  refine r_iconst (v := 0) hE dX10_may_13 (by decide) ?_
  refine r_sipush (v := 300) hE dX10_may_14 (by decide) ?_
  refine t_invs (r := (some (.int (y_b (0 ≤ x ∧ x ≤ 300))))) (S2 := (y_mk n L D)) hE [.int x, .int 0, .int 300] (k_isBetween) s_yX10_isBetween m_X10_65 dX10_may_17 rfl (by decide) ⟨by decide, by decide⟩ (Nat.le_of_ble_eq_true rfl) ?_
  show E 1 6 20 [(0, .ref 64), (1, .int p), (2, .int u), (3, .int hl), (4, .int x)] [.int (y_b (0 ≤ x ∧ x ≤ 300))] (y_mk n L D)
  refine t_demand hX hV [.int (y_b (0 ≤ x ∧ x ≤ 300))] dX10_may_20 m_X10_69 rfl (by decide) ⟨by decide, by decide⟩ (Nat.le_of_ble_eq_true rfl) (fun c20 => ?_) (fun c20 n2 hn2 => r_out hX ⟨by first | exact Or.inl ⟨c8, rfl⟩ | exact Or.inr ⟨fun q => q c8, c20, rfl⟩, n2, hn2, rfl⟩ (by decide) (by decide))
  show E 2 12 23 [(0, .ref 64), (1, .int p), (2, .int u), (3, .int hl), (4, .int x)] [] (y_mk n L D)
  obtain ⟨t, ht, rfl⟩ := y_rngR (k := q_n (D 73).1 2) (by have := hB.1.2; omega) (by rw [← hB.1.1]; exact c8)
  obtain ⟨s, hs, rfl⟩ := y_rng2 (k := 300) (by decide) c20
  refine r_aload_n hE dX10_may_23 rfl ?_
  refine t_getr hE f_X10_35 y_R_64_6 dX10_may_24 (hL 64 (by decide)) ?_
  refine r_iload_n hE dX10_may_27 rfl ?_
  refine r_iconst (v := (-1)) hE dX10_may_28 (by decide) ?_
  refine r_iload_n hE dX10_may_29 rfl ?_
  refine r_iload_n hE dX10_may_30 rfl ?_
  refine t_invvRv hE [.int (nI t), .int (-1), .int u, .int hl] (k_prepare (D := D) (t := t) (wo := (-1)) (u := u) (hl := hl) hV hL hB (by have := hB.1.2; omega)) v_yX1_prepare m_X10_182 dX10_may_31 rfl (hL 151 (by decide)) (y_l_151 (D 151)) rfl (by decide) ⟨by decide, by decide⟩ (Nat.le_of_ble_eq_true rfl) (fun D1 q1 => ?_)
  obtain ⟨DS, q0⟩ := q1
  have q1 := k_PR_PQ q0
  show E 2 12 34 [(0, .ref 64), (1, .int (nI t)), (2, .int u), (3, .int hl), (4, .int (nI s))] [] (y_mk n L D1)
  refine r_aload_n hE dX10_may_34 rfl ?_
  refine t_getr hE f_X10_35 y_R_64_6 dX10_may_35 (hL 64 (by decide)) ?_
  refine r_iload_n hE dX10_may_38 rfl ?_
  refine t_invv (r := none) (S2 := (y_mk n L (y_wo D1 (u) (q_n (D 73).1 4) (k_last D t (-1))))) hE [.int u] (k_walk (D := D1) (u := u) (k := k_last D t (-1)) (kw := q_n (D 73).1 4) hV hL (by rw [q1.2.1 152 (by decide)]; exact q1.1.2.2.1) (k_last_b (hB.2.2.2.2.2.1 t (by have := hB.1.2; omega))) (by rw [(k_PQ_same q1).1 73 (by decide)]; exact hB.2.1.1) hB.2.1.2 (k_B_rq (k_B_same (k_PQ_same q1) hB)) (k_tks (k_B_same (k_PQ_same q1) hB) (Nat.le_of_eq (by rw [(k_PQ_same q1).1 73 (by decide)])))) v_yX1_walk m_X10_199 dX10_may_39 rfl (hL 151 (by decide)) (y_l_151 (D1 151)) rfl (by decide) ⟨by decide, by decide⟩ (Nat.le_of_ble_eq_true rfl) ?_
  show E 2 12 42 [(0, .ref 64), (1, .int (nI t)), (2, .int u), (3, .int hl), (4, .int (nI s))] [] (y_mk n L (y_wo D1 (u) (q_n (D 73).1 4) (k_last D t (-1))))
  obtain ⟨D2, hD2⟩ : ∃ z, z = y_wo D1 (u) (q_n (D 73).1 4) (k_last D t (-1)) := ⟨_, rfl⟩
  rw [← hD2]
  obtain ⟨smD2, hS⟩ := k_PQ_walk (A := y_al DS (k_last D t (-1))) hB (by have := hB.1.2; omega) q1 q0.2.2.1 (u) (fun _ _ b => b)
  rw [← hD2] at smD2 hS
  have e162 : D2 162 = D 162 := by rw [hD2, y_wo_ag 162 (by decide) (by decide) (by decide), k_PQ_162 q1]
  have e152 : (D2 152).1 0 = nI (k_last D t (-1)) := by rw [hD2, y_wo_ag 152 (by decide) (by decide) (by decide), q1.2.1 152 (by decide)]; exact q1.1.2.2.1
  refine r_aload_n hE dX10_may_42 rfl ?_
  refine t_getr hE f_X10_35 y_R_64_6 dX10_may_43 (hL 64 (by decide)) ?_
  refine r_iload hE dX10_may_46 rfl ?_
  refine t_invv (r := (some (.int (K_limbsAt D2 s (k_last D t (-1)))))) (S2 := (y_mk n L D2)) hE [.int (nI s)] (k_limbsAt (D := D2) (x := s) (k := k_last D t (-1)) hV hL e152 (k_last_b (hB.2.2.2.2.2.1 t (by have := hB.1.2; omega))) (by omega)) v_yX1_limbsAt m_X10_209 dX10_may_48 rfl (hL 151 (by decide)) (y_l_151 (D2 151)) rfl (by decide) ⟨by decide, by decide⟩ (Nat.le_of_ble_eq_true rfl) ?_
  show E 2 12 51 [(0, .ref 64), (1, .int (nI t)), (2, .int u), (3, .int hl), (4, .int (nI s))] [.int (K_limbsAt D2 s (k_last D t (-1)))] (y_mk n L D2)
  refine r_ireturn hE dX10_may_51 rfl rfl (by decide) (by decide) ?_
  refine ⟨_, _, rfl, rfl, ⟨smD2, k_CI_same smD2 e162 hB hCI⟩, t, s, DS, ht, hs, rfl, rfl, c_F_G q1.1, ?_⟩
  unfold K_limbsAt
  by_cases c : k_last D t (-1) < s
  · rw [if_pos c, if_pos c]
  · rw [if_neg c, if_neg c, hS s (by omega)]
theorem y_mask_all {k : Nat} (hk : k ≤ 6) : (nI (2 ^ k) - 1) &&& (nI (2 ^ k) - 1) = nI (2 ^ k) - 1 := by rw [Int32.and_self]
/-- a THING can be done by a RULE, or not -/
def k_ever (D : y_D) (t th : Nat) (yes : Bool) : Prop := ∃ v, k_Ev D t (nI (2 ^ q_n (D 73).1 4) - 1) (nI 0) v ∧ ((v &&& K_setsFor D (q_n (D 78).1 2) th (q_n (D 73).1 4) (nI (2 ^ q_n (D 73).1 4) - 1) ≠ 0) ↔ yes = true)
theorem k_ever_same {D D2 : y_D} {L : List Nat} {t th : Nat} {b : Bool} (h : k_same D D2) (hB : k_B D L) (ht : t < 4) (a : k_ever D2 t th b) : k_ever D t th b := by
  obtain ⟨v, h1, h2⟩ := a
  have hs : k_same D2 D := ⟨fun j hj => (h.1 j hj).symm, trivial⟩
  have hB2 := k_B_same h hB
  refine ⟨v, ?_, ?_⟩
  · have := k_Ev_same hs hB2 ht h1
    rw [h.1 73 (by decide)] at this
    exact this
  · rw [h.1 73 (by decide), h.1 78 (by decide), k_sf_same h hB] at h2
    exact h2
theorem f_shut {V : x_E} (hV : y_V V) {n : Nat} {L : List Nat} {D : y_D} (hL : y_ok L) {r : Int32} (hB : k_B D L) (hCI : k_CI D) : y_Fi V yX10_shut cX10_shut 4 (some .int) 8 1 6 [.ref 64, .int r] n L D (fun v D2 => (k_same D D2 ∧ k_CI D2) ∧ ∃ th, th < q_n (D 78).1 2 ∧ r = nI th ∧ m_shb (fun t => k_ever D t th false) (fun t => k_ever D t th true) (fun t => nI (2 ^ t)) (fun _ => 0) (q_n (D 73).1 2) v) (fun E9 => ¬ (0 ≤ r ∧ r < (D 78).1 2) ∧ E9 = y_IOB) := by
  refine x_cx (by decide) hV.1 (fun a0 S0 h => by rw [h.1]; exact Nat.le_of_ble_eq_true rfl) (fun a0 S0 h E EX hX => ?_)
  obtain ⟨rfl, rfl⟩ := h
  have hE := hX.x
  change E 0 0 0 [(0, .ref 64), (1, .int r)] [] (y_mk n L D)
  refine r_iload_n hE dX10_shut_0 rfl ?_
  refine r_aload_n hE dX10_shut_1 rfl ?_
  refine t_getr hE f_X10_23 y_R_64_3 dX10_shut_2 (hL 64 (by decide)) ?_
  refine t_getr hE f_X10_122 y_R_73_5 dX10_shut_5 (hL 73 (by decide)) ?_
  refine t_geti hE f_X10_176 y_I_78_2 dX10_shut_8 (hL 78 (by decide)) ?_
  refine t_demandRow hX hV [.int r, .int ((D 78).1 2)] dX10_shut_11 m_X10_125 rfl (by decide) ⟨by decide, by decide⟩ (Nat.le_of_ble_eq_true rfl) (fun c11 => ?_) (fun c11 n2 hn2 => r_out hX ⟨by exact ⟨c11, rfl⟩, n2, hn2, rfl⟩ (by decide) (by decide))
  show E 1 6 14 [(0, .ref 64), (1, .int r)] [] (y_mk n L D)
  obtain ⟨th, hth, rfl⟩ := y_rngR (k := q_n (D 78).1 2) (by have := hB.2.2.2.1.1.2; omega) (by rw [← hB.2.2.2.1.1.1]; exact c11)
  refine r_iconst (v := 0) hE dX10_shut_14 (by decide) ?_
  refine r_istore_n (ls2 := [(0, .ref 64), (1, .int (nI th)), (2, .int 0)]) hE dX10_shut_15 (by decide) rfl ?_
  refine r_iconst (v := 0) hE dX10_shut_16 (by decide) ?_
  refine r_istore_n (ls2 := [(0, .ref 64), (1, .int (nI th)), (2, .int 0), (3, .int 0)]) hE dX10_shut_17 (by decide) rfl ?_
  have hr4 : q_n (D 73).1 2 ≤ 4 := hB.1.2
  have l2 : ∀ (i : Nat) (v : Int32) (D8 : y_D), i ≤ q_n (D 73).1 2 → k_same D D8 → k_CI D8 → m_shb (fun t => k_ever D t th false) (fun t => k_ever D t th true) (fun t => nI (2 ^ t)) (fun _ => 0) i v → E 1 6 18 [(0, .ref 64), (1, .int (nI th)), (2, .int v), (3, .int (nI i))] [] (y_mk n L D8) := by
    intro i v D8
    induction hm9 : (q_n (D 73).1 2 - i) using Nat.strongRecOn generalizing i v D8 with
    | _ m9 ih =>
      intro hi sm ci hv
      subst hm9
      refine r_iload_n hE dX10_shut_18 rfl ?_
      refine r_aload_n hE dX10_shut_19 rfl ?_
      refine t_getr hE f_X10_23 y_R_64_3 dX10_shut_20 (hL 64 (by decide)) ?_
      refine t_geti hE f_X10_97 y_I_73_2 dX10_shut_23 (hL 73 (by decide)) ?_
      refine r_top (y := (nI (q_n (D 73).1 2))) (by rw [sm.1 73 (by decide)]; exact hB.1.1) ?_
      refine r_icmp_geN (a := i) (b := q_n (D 73).1 2) (tgt := 61) hE dX10_shut_26 (by decide) (by omega) (by omega) (fun c26 => ?_) (fun c26 => ?_)
      · refine r_iload_n hE dX10_shut_61 rfl ?_
        refine r_ireturn hE dX10_shut_62 rfl rfl (by decide) (by decide) ?_
        rw [show i = q_n (D 73).1 2 by omega] at hv
        exact ⟨_, _, rfl, rfl, ⟨sm, ci⟩, th, hth, rfl, hv⟩
      · refine r_aload_n hE dX10_shut_29 rfl ?_
        refine t_getr hE f_X10_35 y_R_64_6 dX10_shut_30 (hL 64 (by decide)) ?_
        refine r_iload_n hE dX10_shut_33 rfl ?_
        refine r_aload_n hE dX10_shut_34 rfl ?_
        refine t_getr hE f_X10_23 y_R_64_3 dX10_shut_35 (hL 64 (by decide)) ?_
        refine t_invv (r := (some (.int (nI (2 ^ q_n (D 73).1 4) - 1)))) (S2 := (y_mk n L D8)) hE [] (k_allWays (D := D8) (k := q_n (D 73).1 4) hV hL (by rw [sm.1 73 (by decide)]; exact hB.2.1.1) hB.2.1.2) v_yX0_allWays m_X10_190 dX10_shut_38 rfl (hL 73 (by decide)) (y_l_73 (D8 73)) rfl (by decide) ⟨by decide, by decide⟩ (Nat.le_of_ble_eq_true rfl) ?_
        show E 1 6 41 [(0, .ref 64), (1, .int (nI th)), (2, .int v), (3, .int (nI i))] [.int (nI (2 ^ q_n (D 73).1 4) - 1), .int (nI i), .ref 151] (y_mk n L D8)
        refine r_iconst (v := 0) hE dX10_shut_41 (by decide) ?_
        refine r_iload_n hE dX10_shut_42 rfl ?_
        refine t_invvRi hE [.int (nI i), .int (nI (2 ^ q_n (D 73).1 4) - 1), .int 0, .int (nI th)] (k_canEver0 (D := D8) (t := i) (th := th) (u := (nI (2 ^ q_n (D 73).1 4) - 1)) hV hL (k_B_same sm hB) ci (by rw [sm.1 73 (by decide)]; omega) (by have := hB.2.2.2.1.1.2; omega)) v_yX1_canEver m_X10_212 dX10_shut_43 rfl (hL 151 (by decide)) (y_l_151 (D8 151)) rfl (by decide) ⟨by decide, by decide⟩ (Nat.le_of_ble_eq_true rfl) (fun v9 D9 q9 => ?_)
        show E 1 6 46 [(0, .ref 64), (1, .int (nI th)), (2, .int v), (3, .int (nI i))] [.int v9] (y_mk n L D9)
        refine r_if_ne (tgt := 55) hE dX10_shut_46 (by decide) (fun c46 => ?_) (fun c46 => ?_)
        · refine r_iincN (a := i) (b := 1) (ls2 := [(0, .ref 64), (1, .int (nI th)), (2, .int v), (3, .int (nI (i + 1)))]) hE dX10_shut_55 rfl rfl (by decide) rfl ?_
          refine r_goto (tgt := 18) hE dX10_shut_58 (by decide) ?_
          obtain ⟨⟨sm9, ci9⟩, v8, h8, h7⟩ := q9
          have sm2 := k_same_t sm sm9
          have hev : k_ever D i th true := by
            refine k_ever_same sm hB (by omega) ⟨v8, ?_, ?_⟩
            · rw [sm.1 73 (by decide), y_mask_all hB.2.1.2] at h8
              rw [sm.1 73 (by decide)]
              exact h8
            · rw [sm.1 73 (by decide), y_mask_all hB.2.1.2] at h7
              rw [sm.1 73 (by decide)]
              exact ⟨fun _ => rfl, fun _ => Classical.not_not.mp (fun q => c46 ((y_is_0 h7).mpr q))⟩
          exact ih (q_n (D 73).1 2 - (i + 1)) (by omega) (i + 1) _ _ rfl (by omega) sm2 ci9 ⟨v, hv, Or.inr ⟨hev, by rw [Int32.or_zero]⟩⟩
        · refine r_iload_n hE dX10_shut_49 rfl ?_
          refine r_iconst (v := 1) hE dX10_shut_50 (by decide) ?_
          refine r_iload_n hE dX10_shut_51 rfl ?_
          refine r_shl1N (k := i) hE dX10_shut_52 (by omega) ?_
          refine r_ior hE dX10_shut_53 ?_
          refine r_istore_n (ls2 := [(0, .ref 64), (1, .int (nI th)), (2, .int (v ||| (nI (2 ^ i)))), (3, .int (nI i))]) hE dX10_shut_54 (by decide) rfl ?_
          refine r_iincN (a := i) (b := 1) (ls2 := [(0, .ref 64), (1, .int (nI th)), (2, .int (v ||| (nI (2 ^ i)))), (3, .int (nI (i + 1)))]) hE dX10_shut_55 rfl rfl (by decide) rfl ?_
          refine r_goto (tgt := 18) hE dX10_shut_58 (by decide) ?_
          obtain ⟨⟨sm9, ci9⟩, v8, h8, h7⟩ := q9
          have sm2 := k_same_t sm sm9
          have hev : k_ever D i th false := by
            refine k_ever_same sm hB (by omega) ⟨v8, ?_, ?_⟩
            · rw [sm.1 73 (by decide), y_mask_all hB.2.1.2] at h8
              rw [sm.1 73 (by decide)]
              exact h8
            · rw [sm.1 73 (by decide), y_mask_all hB.2.1.2] at h7
              rw [sm.1 73 (by decide)]
              exact ⟨fun q => absurd q ((y_is_0 h7).mp c46), fun q => by cases q⟩
          exact ih (q_n (D 73).1 2 - (i + 1)) (by omega) (i + 1) _ _ rfl (by omega) sm2 ci9 ⟨v, hv, Or.inl ⟨hev, rfl⟩⟩
  exact l2 0 0 _ (by omega) k_same_r hCI rfl
theorem k_PR_back {D D8 DS D1 : y_D} {L : List Nat} {t : Nat} {wo u hl : Int32} (h : k_same D D8) (h162 : True) (hB : k_B D L) (ht : t < 4) (a : k_PR D8 DS D1 t wo u hl) : ∃ DS2, c_G (c_per D (q_n (D 74).1 2)) DS2 (k_rt D t) wo (k_rm D t) ∧ k_last D8 t wo = k_last D t wo ∧ ∀ A n x, k_SS D8 DS t wo u hl A n x = k_SS D DS2 t wo u hl A n x ∧ y_al DS = y_al DS2 := by
  obtain ⟨e1, e2, e3, e4⟩ := k_RU_same h (hB.2.2.2.2.2.1 t ht)
  refine ⟨DS, ?_, k_last_same h (hB.2.2.2.2.2.1 t ht), fun A n x => ⟨k_SS_same (t := t) (wo := wo) h hB x, rfl⟩⟩
  have := c_F_G a.1
  rw [c_per_same h] at this
  unfold k_rt k_rm at this ⊢
  rw [e2, e4] at this
  exact this
theorem f_opens {V : x_E} (hV : y_V V) {n : Nat} {L : List Nat} {D : y_D} (hL : y_ok L) {p r : Int32} (hB : k_B D L) (hCI : k_CI D) : y_Fi V yX10_opens cX10_opens 6 (some .int) 8 2 12 [.ref 64, .int p, .int r] n L D (fun v D2 => (k_same D D2 ∧ k_CI D2) ∧ ∃ t th, t < q_n (D 73).1 2 ∧ th < q_n (D 78).1 2 ∧ p = nI t ∧ r = nI th ∧ ((k_ever D t th false ∧ m_shb (fun i => ∃ DS, c_G (c_per D (q_n (D 74).1 2)) DS (k_rt D t) (nI i) (k_rm D t) ∧ k_fs (k_SS D DS t (nI i) (nI (2 ^ q_n (D 73).1 4) - 1) 0 (y_al DS (k_last D t (nI i))) (k_last D t (nI i))) (K_setsFor D (q_n (D 78).1 2) th (q_n (D 73).1 4) (nI (2 ^ q_n (D 73).1 4) - 1)) (k_last D t (nI i)) (-1)) (fun i => ∃ DS w, c_G (c_per D (q_n (D 74).1 2)) DS (k_rt D t) (nI i) (k_rm D t) ∧ k_fs (k_SS D DS t (nI i) (nI (2 ^ q_n (D 73).1 4) - 1) 0 (y_al DS (k_last D t (nI i))) (k_last D t (nI i))) (K_setsFor D (q_n (D 78).1 2) th (q_n (D 73).1 4) (nI (2 ^ q_n (D 73).1 4) - 1)) (k_last D t (nI i)) w ∧ w ≠ -1) (fun _ => 0) (fun i => nI (2 ^ i)) (k_rm D t) v) ∨ (k_ever D t th true ∧ v = -1))) (fun E9 => (¬ (0 ≤ p ∧ p < (D 73).1 2) ∨ ¬ (0 ≤ r ∧ r < (D 78).1 2)) ∧ E9 = y_IOB) := by
  refine x_cx (by decide) hV.1 (fun a0 S0 h => by rw [h.1]; exact Nat.le_of_ble_eq_true rfl) (fun a0 S0 h E EX hX => ?_)
  obtain ⟨rfl, rfl⟩ := h
  have hE := hX.x
  change E 0 0 0 [(0, .ref 64), (1, .int p), (2, .int r)] [] (y_mk n L D)
  refine r_iload_n hE dX10_opens_0 rfl ?_
  refine r_aload_n hE dX10_opens_1 rfl ?_
  refine t_getr hE f_X10_23 y_R_64_3 dX10_opens_2 (hL 64 (by decide)) ?_
  refine t_geti hE f_X10_97 y_I_73_2 dX10_opens_5 (hL 73 (by decide)) ?_
  refine t_demandRow hX hV [.int p, .int ((D 73).1 2)] dX10_opens_8 m_X10_125 rfl (by decide) ⟨by decide, by decide⟩ (Nat.le_of_ble_eq_true rfl) (fun c8 => ?_) (fun c8 n2 hn2 => r_out hX ⟨by first | exact ⟨Or.inl c8, rfl⟩ | exact ⟨Or.inr c22, rfl⟩, n2, hn2, rfl⟩ (by decide) (by decide))
  show E 1 6 11 [(0, .ref 64), (1, .int p), (2, .int r)] [] (y_mk n L D)
  refine r_iload_n hE dX10_opens_11 rfl ?_
  refine r_aload_n hE dX10_opens_12 rfl ?_
  refine t_getr hE f_X10_23 y_R_64_3 dX10_opens_13 (hL 64 (by decide)) ?_
  refine t_getr hE f_X10_122 y_R_73_5 dX10_opens_16 (hL 73 (by decide)) ?_
  refine t_geti hE f_X10_176 y_I_78_2 dX10_opens_19 (hL 78 (by decide)) ?_
  refine t_demandRow hX hV [.int r, .int ((D 78).1 2)] dX10_opens_22 m_X10_125 rfl (by decide) ⟨by decide, by decide⟩ (Nat.le_of_ble_eq_true rfl) (fun c22 => ?_) (fun c22 n2 hn2 => r_out hX ⟨by first | exact ⟨Or.inl c8, rfl⟩ | exact ⟨Or.inr c22, rfl⟩, n2, hn2, rfl⟩ (by decide) (by decide))
  show E 2 12 25 [(0, .ref 64), (1, .int p), (2, .int r)] [] (y_mk n L D)
  obtain ⟨t, ht, rfl⟩ := y_rngR (k := q_n (D 73).1 2) (by have := hB.1.2; omega) (by rw [← hB.1.1]; exact c8)
  obtain ⟨th, hth, rfl⟩ := y_rngR (k := q_n (D 78).1 2) (by have := hB.2.2.2.1.1.2; omega) (by rw [← hB.2.2.2.1.1.1]; exact c22)
  refine r_aload_n hE dX10_opens_25 rfl ?_
  refine t_getr hE f_X10_23 y_R_64_3 dX10_opens_26 (hL 64 (by decide)) ?_
  refine t_invv (r := (some (.int (nI (2 ^ q_n (D 73).1 4) - 1)))) (S2 := (y_mk n L D)) hE [] (k_allWays (k := q_n (D 73).1 4) hV hL hB.2.1.1 hB.2.1.2) v_yX0_allWays m_X10_190 dX10_opens_29 rfl (hL 73 (by decide)) (y_l_73 (D 73)) rfl (by decide) ⟨by decide, by decide⟩ (Nat.le_of_ble_eq_true rfl) ?_
  show E 2 12 32 [(0, .ref 64), (1, .int (nI t)), (2, .int (nI th))] [.int (nI (2 ^ q_n (D 73).1 4) - 1)] (y_mk n L D)
  refine r_istore_n (ls2 := [(0, .ref 64), (1, .int (nI t)), (2, .int (nI th)), (3, .int (nI (2 ^ q_n (D 73).1 4) - 1))]) hE dX10_opens_32 (by decide) rfl ?_
  refine r_aload_n hE dX10_opens_33 rfl ?_
  refine t_getr hE f_X10_35 y_R_64_6 dX10_opens_34 (hL 64 (by decide)) ?_
  refine r_iload_n hE dX10_opens_37 rfl ?_
  refine r_iload_n hE dX10_opens_38 rfl ?_
  refine r_iconst (v := 0) hE dX10_opens_39 (by decide) ?_
  refine r_iload_n hE dX10_opens_40 rfl ?_
  refine t_invvRi hE [.int (nI t), .int (nI (2 ^ q_n (D 73).1 4) - 1), .int 0, .int (nI th)] (k_canEver0 (D := D) (t := t) (th := th) (u := (nI (2 ^ q_n (D 73).1 4) - 1)) hV hL hB hCI ht (by have := hB.2.2.2.1.1.2; omega)) v_yX1_canEver m_X10_212 dX10_opens_41 rfl (hL 151 (by decide)) (y_l_151 (D 151)) rfl (by decide) ⟨by decide, by decide⟩ (Nat.le_of_ble_eq_true rfl) (fun v9 D9 q9 => ?_)
  obtain ⟨⟨sm9, ci9⟩, v8, h8, h7⟩ := q9
  rw [y_mask_all hB.2.1.2] at h8 h7
  show E 2 12 44 [(0, .ref 64), (1, .int (nI t)), (2, .int (nI th)), (3, .int (nI (2 ^ q_n (D 73).1 4) - 1))] [.int v9] (y_mk n L D9)
  refine r_if_eq (tgt := 49) hE dX10_opens_44 (by decide) (fun c44 => ?_) (fun c44 => ?_)
  · refine r_iconst (v := 0) hE dX10_opens_49 (by decide) ?_
    refine r_istore (ls2 := [(0, .ref 64), (1, .int (nI t)), (2, .int (nI th)), (3, .int (nI (2 ^ q_n (D 73).1 4) - 1)), (4, .int 0)]) hE dX10_opens_50 (by decide) rfl ?_
    refine r_iconst (v := 0) hE dX10_opens_52 (by decide) ?_
    refine r_istore (ls2 := [(0, .ref 64), (1, .int (nI t)), (2, .int (nI th)), (3, .int (nI (2 ^ q_n (D 73).1 4) - 1)), (4, .int 0), (5, .int 0)]) hE dX10_opens_53 (by decide) rfl ?_
    have hRU := hB.2.2.2.2.2.1 t (by have := hB.1.2; omega)
    have hm10 := hRU.2.2.2.2.2.2.2.2.2.1
    have hev0 : k_ever D t th false := ⟨v8, h8, fun q => absurd q ((y_is_0 h7).mp c44), fun q => by cases q⟩
    obtain ⟨r9, hr9⟩ : ∃ z, z = k_rh D t := ⟨_, rfl⟩
    obtain ⟨s9, hs9⟩ : ∃ z, z = k_rr D t := ⟨_, rfl⟩
    have hm_r9 : r9 ∈ L := by rw [hr9]; exact hRU.2.1
    have hd_r9 : y_dh r9 := by rw [hr9]; exact hRU.2.2.1
    have hm_s9 : s9 ∈ L := by rw [hs9]; exact hRU.2.2.2.2.2.1
    have hd_s9 : y_dh s9 := by rw [hs9]; exact hRU.2.2.2.2.2.2.1
    have l2 : ∀ (i : Nat) (v : Int32) (D8 : y_D), i ≤ k_rm D t → k_same D D8 → k_CI D8 → m_shb (fun i => ∃ DS, c_G (c_per D (q_n (D 74).1 2)) DS (k_rt D t) (nI i) (k_rm D t) ∧ k_fs (k_SS D DS t (nI i) (nI (2 ^ q_n (D 73).1 4) - 1) 0 (y_al DS (k_last D t (nI i))) (k_last D t (nI i))) (K_setsFor D (q_n (D 78).1 2) th (q_n (D 73).1 4) (nI (2 ^ q_n (D 73).1 4) - 1)) (k_last D t (nI i)) (-1)) (fun i => ∃ DS w, c_G (c_per D (q_n (D 74).1 2)) DS (k_rt D t) (nI i) (k_rm D t) ∧ k_fs (k_SS D DS t (nI i) (nI (2 ^ q_n (D 73).1 4) - 1) 0 (y_al DS (k_last D t (nI i))) (k_last D t (nI i))) (K_setsFor D (q_n (D 78).1 2) th (q_n (D 73).1 4) (nI (2 ^ q_n (D 73).1 4) - 1)) (k_last D t (nI i)) w ∧ w ≠ -1) (fun _ => 0) (fun i => nI (2 ^ i)) i v → E 2 12 55 [(0, .ref 64), (1, .int (nI t)), (2, .int (nI th)), (3, .int (nI (2 ^ q_n (D 73).1 4) - 1)), (4, .int v), (5, .int (nI i))] [] (y_mk n L D8) := by
      intro i v D8
      induction hm9 : (k_rm D t - i) using Nat.strongRecOn generalizing i v D8 with
      | _ m9 ih =>
        intro hi sm ci hv
        subst hm9
        refine r_iload hE dX10_opens_55 rfl ?_
        have sm8 := sm
        have e1 := (k_RU_same sm hRU).2.2.1
        have e2 := (k_RU_same sm hRU).2.2.2
        have hk_r9 : (D8 r9).2.2.2.1 = 1 := by rw [hr9, e1]; exact hRU.2.2.2.1
        have hs_r9 : (D8 r9).2.2.1 0 = some s9 := by rw [hr9, e1, hs9]; exact hRU.2.2.2.2.1
        have hk_s9 : (D8 s9).2.2.2.1 = 0 := by rw [hs9, e2]; exact hRU.2.2.2.2.2.2.2.1
        have hl_s9 : (D8 s9).2.2.2.2 = 3 * k_rm D t := by rw [hs9, e2]; exact hRU.2.2.2.2.2.2.2.2.1
        refine r_aload_n hE dX10_opens_57 rfl ?_
        refine t_getr hE f_X10_23 y_R_64_3 dX10_opens_58 (hL 64 (by decide)) ?_
        refine t_getr hE f_X10_136 y_R_73_1 dX10_opens_61 (hL 73 (by decide)) ?_
        refine r_iload_n hE dX10_opens_64 rfl ?_
        refine t_aaldN (e := t) (h2 := r9) hE y_Q_76 (by decide) dX10_opens_65 (hL 76 (by decide)) (by have := hB.1.2; omega) (by decide) (by rw [sm.1 76 (by decide), hr9]; exact hRU.1) ?_
        refine t_invv (r := (some (.int (nI (3 * k_rm D t / 3))))) (S2 := (y_mk n L D8)) hE [] (k_lineCount (D := D8) (r := r9) (s := s9) (len := 3 * k_rm D t) hm_r9 hd_r9 hk_r9 hs_r9 hm_s9 hd_s9 hk_s9 hl_s9 (by omega)) v_yX4_lineCount m_X10_153 dX10_opens_66 rfl hm_r9 (y_rule_lay hd_r9 (show ((D8) r9).2.2.2.1 = _ from hk_r9)) rfl (by decide) ⟨by decide, by decide⟩ (Nat.le_of_ble_eq_true rfl) ?_
        show E 2 12 69 [(0, .ref 64), (1, .int (nI t)), (2, .int (nI th)), (3, .int (nI (2 ^ q_n (D 73).1 4) - 1)), (4, .int v), (5, .int (nI i))] [.int (nI (3 * k_rm D t / 3)), .int (nI i)] (y_mk n L D8)
        refine r_icmp_geN (a := i) (b := 3 * k_rm D t / 3) (tgt := 127) hE dX10_opens_69 (by decide) (by omega) (by omega) (fun c69 => ?_) (fun c69 => ?_)
        · refine r_iload hE dX10_opens_127 rfl ?_
          refine r_ireturn hE dX10_opens_129 rfl rfl (by decide) (by decide) ?_
          refine ⟨_, _, rfl, rfl, ⟨sm, ci⟩, t, th, ht, hth, rfl, rfl, Or.inl ⟨hev0, ?_⟩⟩
          rw [show i = k_rm D t by omega] at hv
          exact hv
        · refine r_aload_n hE dX10_opens_72 rfl ?_
          refine t_getr hE f_X10_35 y_R_64_6 dX10_opens_73 (hL 64 (by decide)) ?_
          refine r_iload_n hE dX10_opens_76 rfl ?_
          refine r_iload hE dX10_opens_77 rfl ?_
          refine r_iload_n hE dX10_opens_79 rfl ?_
          refine r_iconst (v := 0) hE dX10_opens_80 (by decide) ?_
          refine t_invvRv hE [.int (nI t), .int (nI i), .int (nI (2 ^ q_n (D 73).1 4) - 1), .int 0] (k_prepare (D := D8) (t := t) (wo := nI i) (u := (nI (2 ^ q_n (D 73).1 4) - 1)) (hl := 0) hV hL (k_B_same sm hB) (by have := hB.1.2; omega)) v_yX1_prepare m_X10_182 dX10_opens_81 rfl (hL 151 (by decide)) (y_l_151 (D8 151)) rfl (by decide) ⟨by decide, by decide⟩ (Nat.le_of_ble_eq_true rfl) (fun D1 q1 => ?_)
          obtain ⟨DS, q1⟩ := q1
          obtain ⟨DS2, g1, elast, g3⟩ := k_PR_back sm trivial hB (by have := hB.1.2; omega) q1
          show E 2 12 84 [(0, .ref 64), (1, .int (nI t)), (2, .int (nI th)), (3, .int (nI (2 ^ q_n (D 73).1 4) - 1)), (4, .int v), (5, .int (nI i))] [] (y_mk n L D1)
          refine r_aload_n hE dX10_opens_84 rfl ?_
          refine t_getr hE f_X10_35 y_R_64_6 dX10_opens_85 (hL 64 (by decide)) ?_
          refine r_iload_n hE dX10_opens_88 rfl ?_
          refine t_invv (r := none) (S2 := (y_mk n L (y_wo D1 (nI (2 ^ q_n (D 73).1 4) - 1) (q_n (D 73).1 4) (k_last D t (nI i))))) hE [.int (nI (2 ^ q_n (D 73).1 4) - 1)] (k_walk (D := D1) (u := (nI (2 ^ q_n (D 73).1 4) - 1)) (k := k_last D t (nI i)) (kw := q_n (D 73).1 4) hV hL (by rw [q1.2.1.1 152 (by decide), ← elast]; exact q1.1.2.2.1) (k_last_b (hB.2.2.2.2.2.1 t (by have := hB.1.2; omega))) (by rw [(k_PR_same q1).1 73 (by decide), sm.1 73 (by decide)]; exact hB.2.1.1) hB.2.1.2 (k_B_rq (k_B_same (k_PR_same q1) (k_B_same sm hB))) (k_tks (k_B_same (k_PR_same q1) (k_B_same sm hB)) (Nat.le_of_eq (by rw [(k_PR_same q1).1 73 (by decide), sm.1 73 (by decide)])))) v_yX1_walk m_X10_199 dX10_opens_89 rfl (hL 151 (by decide)) (y_l_151 (D1 151)) rfl (by decide) ⟨by decide, by decide⟩ (Nat.le_of_ble_eq_true rfl) ?_
          show E 2 12 92 [(0, .ref 64), (1, .int (nI t)), (2, .int (nI th)), (3, .int (nI (2 ^ q_n (D 73).1 4) - 1)), (4, .int v), (5, .int (nI i))] [] (y_mk n L (y_wo D1 (nI (2 ^ q_n (D 73).1 4) - 1) (q_n (D 73).1 4) (k_last D t (nI i))))
          obtain ⟨D2, hD2⟩ : ∃ z, z = y_wo D1 (nI (2 ^ q_n (D 73).1 4) - 1) (q_n (D 73).1 4) (k_last D t (nI i)) := ⟨_, rfl⟩
          rw [← hD2]
          have hB8 := k_B_same sm hB
          have e73 : D8 73 = D 73 := sm.1 73 (by decide)
          have hw9 := k_PQ_walk (A := y_al DS (k_last D8 t (nI i))) hB8 (by have := hB.1.2; omega) (k_PR_PQ q1) q1.2.2.1 (nI (2 ^ q_n (D 73).1 4) - 1) (fun _ _ b => b)
          rw [e73, elast, ← hD2] at hw9
          obtain ⟨sm2, hS⟩ := hw9
          have smD2 := k_same_t sm sm2
          have e162 : D2 162 = D8 162 := by rw [hD2, y_wo_ag 162 (by decide) (by decide) (by decide), k_PR_162 q1]
          have e152 : (D2 152).1 0 = nI (k_last D t (nI i)) := by rw [hD2, y_wo_ag 152 (by decide) (by decide) (by decide), q1.2.1.1 152 (by decide), ← elast]; exact q1.1.2.2.1
          refine r_aload_n hE dX10_opens_92 rfl ?_
          refine t_getr hE f_X10_35 y_R_64_6 dX10_opens_93 (hL 64 (by decide)) ?_
          refine r_aload_n hE dX10_opens_96 rfl ?_
          refine t_getr hE f_X10_23 y_R_64_3 dX10_opens_97 (hL 64 (by decide)) ?_
          refine r_iload_n hE dX10_opens_100 rfl ?_
          refine r_iload_n hE dX10_opens_101 rfl ?_
          refine t_invv (r := (some (.int (K_setsFor D2 (q_n (D 78).1 2) th (q_n (D 73).1 4) ((nI (2 ^ q_n (D 73).1 4) - 1)))))) (S2 := (y_mk n L D2)) hE [.int (nI th), .int (nI (2 ^ q_n (D 73).1 4) - 1)] (k_setsFor (D := D2) (u := (nI (2 ^ q_n (D 73).1 4) - 1)) (th := th) (k := q_n (D 73).1 4) (kt := q_n (D 78).1 2) hV hL (by rw [smD2.1 73 (by decide)]; exact hB.2.1.1) hB.2.1.2 (k_B_rq (k_B_same smD2 hB)) (by rw [smD2.1 78 (by decide)]; exact hB.2.2.2.1.1.1) (by rw [smD2.1 78 (by decide)]; exact hB.2.2.2.1.2) hB.2.2.2.1.1.2 (by have := hB.2.2.2.1.1.2; omega) (k_th2 smD2 hB th 0 (by decide)) (k_th2 smD2 hB th 1 (by decide))) v_yX0_setsFor m_X10_202 dX10_opens_102 rfl (hL 73 (by decide)) (y_l_73 (D2 73)) rfl (by decide) ⟨by decide, by decide⟩ (Nat.le_of_ble_eq_true rfl) ?_
          show E 2 12 105 [(0, .ref 64), (1, .int (nI t)), (2, .int (nI th)), (3, .int (nI (2 ^ q_n (D 73).1 4) - 1)), (4, .int v), (5, .int (nI i))] [.int (K_setsFor D2 (q_n (D 78).1 2) th (q_n (D 73).1 4) ((nI (2 ^ q_n (D 73).1 4) - 1))), .ref 151] (y_mk n L D2)
          refine r_top (y := (K_setsFor D (q_n (D 78).1 2) th (q_n (D 73).1 4) (nI (2 ^ q_n (D 73).1 4) - 1))) (k_sf_same smD2 hB) ?_
          refine t_invv (r := (some (.int (y_fs (D2 161).1 (K_setsFor D (q_n (D 78).1 2) th (q_n (D 73).1 4) (nI (2 ^ q_n (D 73).1 4) - 1)) 0 (k_last D t (nI i) + 1))))) (S2 := (y_mk n L D2)) hE [.int (K_setsFor D (q_n (D 78).1 2) th (q_n (D 73).1 4) (nI (2 ^ q_n (D 73).1 4) - 1))] (k_firstSecondOf (D := D2) (k := k_last D t (nI i)) hL e152 (k_last_b (hB.2.2.2.2.2.1 t (by have := hB.1.2; omega)))) v_yX1_firstSecondOf m_X10_206 dX10_opens_105 rfl (hL 151 (by decide)) (y_l_151 (D2 151)) rfl (by decide) ⟨by decide, by decide⟩ (Nat.le_of_ble_eq_true rfl) ?_
          show E 2 12 108 [(0, .ref 64), (1, .int (nI t)), (2, .int (nI th)), (3, .int (nI (2 ^ q_n (D 73).1 4) - 1)), (4, .int v), (5, .int (nI i))] [.int (y_fs (D2 161).1 (K_setsFor D (q_n (D 78).1 2) th (q_n (D 73).1 4) (nI (2 ^ q_n (D 73).1 4) - 1)) 0 (k_last D t (nI i) + 1))] (y_mk n L D2)
          refine r_iconst (v := (-1)) hE dX10_opens_108 (by decide) ?_
          refine r_icmp_eq (tgt := 121) hE dX10_opens_109 (by decide) (fun c109 => ?_) (fun c109 => ?_)
          · refine r_iincN (a := i) (b := 1) (ls2 := [(0, .ref 64), (1, .int (nI t)), (2, .int (nI th)), (3, .int (nI (2 ^ q_n (D 73).1 4) - 1)), (4, .int v), (5, .int (nI (i + 1)))]) hE dX10_opens_121 rfl rfl (by decide) rfl ?_
            refine r_goto (tgt := 55) hE dX10_opens_124 (by decide) ?_
            have hfs : k_fs (k_SS D DS2 t (nI i) (nI (2 ^ q_n (D 73).1 4) - 1) 0 (y_al DS2 (k_last D t (nI i))) (k_last D t (nI i))) (K_setsFor D (q_n (D 78).1 2) th (q_n (D 73).1 4) (nI (2 ^ q_n (D 73).1 4) - 1)) (k_last D t (nI i)) (y_fs (D2 161).1 (K_setsFor D (q_n (D 78).1 2) th (q_n (D 73).1 4) (nI (2 ^ q_n (D 73).1 4) - 1)) 0 (k_last D t (nI i) + 1)) := k_fs_ok (fun x hx => by rw [hS x hx, (g3 _ _ x).1, (g3 (y_al DS2 (k_last D t (nI i))) 0 0).2]) _ _ (by omega) (fun y hy => absurd hy (by omega))
            refine r_locs hE (ls2 := [(0, .ref 64), (1, .int (nI t)), (2, .int (nI th)), (3, .int (nI (2 ^ q_n (D 73).1 4) - 1)), (4, .int v), (5, .int (nI (i + 1)))]) ?_ (ih (k_rm D t - (i + 1)) (by omega) (i + 1) _ _ rfl (by omega) smD2 (k_CI_same sm2 e162 hB8 ci) ⟨v, hv, Or.inl ⟨⟨DS2, g1, by rw [← c109]; exact hfs⟩, by rw [Int32.or_zero]⟩⟩)
            simp [x_lk]
          · refine r_iload hE dX10_opens_112 rfl ?_
            refine r_iconst (v := 1) hE dX10_opens_114 (by decide) ?_
            refine r_iload hE dX10_opens_115 rfl ?_
            refine r_shl1N (k := i) hE dX10_opens_117 (by omega) ?_
            refine r_ior hE dX10_opens_118 ?_
            refine r_istore (ls2 := [(0, .ref 64), (1, .int (nI t)), (2, .int (nI th)), (3, .int (nI (2 ^ q_n (D 73).1 4) - 1)), (4, .int (v ||| (nI (2 ^ i)))), (5, .int (nI i))]) hE dX10_opens_119 (by decide) rfl ?_
            refine r_iincN (a := i) (b := 1) (ls2 := [(0, .ref 64), (1, .int (nI t)), (2, .int (nI th)), (3, .int (nI (2 ^ q_n (D 73).1 4) - 1)), (4, .int (v ||| (nI (2 ^ i)))), (5, .int (nI (i + 1)))]) hE dX10_opens_121 rfl rfl (by decide) rfl ?_
            refine r_goto (tgt := 55) hE dX10_opens_124 (by decide) ?_
            have hfs : k_fs (k_SS D DS2 t (nI i) (nI (2 ^ q_n (D 73).1 4) - 1) 0 (y_al DS2 (k_last D t (nI i))) (k_last D t (nI i))) (K_setsFor D (q_n (D 78).1 2) th (q_n (D 73).1 4) (nI (2 ^ q_n (D 73).1 4) - 1)) (k_last D t (nI i)) (y_fs (D2 161).1 (K_setsFor D (q_n (D 78).1 2) th (q_n (D 73).1 4) (nI (2 ^ q_n (D 73).1 4) - 1)) 0 (k_last D t (nI i) + 1)) := k_fs_ok (fun x hx => by rw [hS x hx, (g3 _ _ x).1, (g3 (y_al DS2 (k_last D t (nI i))) 0 0).2]) _ _ (by omega) (fun y hy => absurd hy (by omega))
            refine r_locs hE (ls2 := [(0, .ref 64), (1, .int (nI t)), (2, .int (nI th)), (3, .int (nI (2 ^ q_n (D 73).1 4) - 1)), (4, .int (v ||| (nI (2 ^ i)))), (5, .int (nI (i + 1)))]) ?_ (ih (k_rm D t - (i + 1)) (by omega) (i + 1) _ _ rfl (by omega) smD2 (k_CI_same sm2 e162 hB8 ci) ⟨v, hv, Or.inr ⟨⟨DS2, _, g1, hfs, c109⟩, rfl⟩⟩)
            simp [x_lk]
    exact l2 0 0 _ (by omega) sm9 ci9 rfl
  · refine r_iconst (v := (-1)) hE dX10_opens_47 (by decide) ?_
    refine r_ireturn hE dX10_opens_48 rfl rfl (by decide) (by decide) ?_
    refine ⟨_, _, rfl, rfl, ⟨sm9, ci9⟩, t, th, ht, hth, rfl, rfl, Or.inr ⟨⟨v8, h8, ?_⟩, rfl⟩⟩
    exact ⟨fun _ => rfl, fun _ => Classical.not_not.mp (fun q => c44 ((y_is_0 h7).mpr q))⟩

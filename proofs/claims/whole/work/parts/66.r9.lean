/-! ===== the class: stories weighed ===== -/
def k_BO (D : y_D) : Prop := (q_ok (D 82).1 2 4 ∧ (D 82).1 0 = nI 3) ∧ (q_ok (D 84).1 2 5 ∧ (D 84).1 0 = nI 3) ∧ (q_ok (D 86).1 2 12 ∧ (D 86).1 0 = nI 5) ∧ (∀ t, t < q_n (D 82).1 2 → q_ok (D 83).1 (t * 3 + 0) 5 ∧ (q_ok (D 83).1 (t * 3 + 1) 9 ∧ 1 ≤ q_n (D 83).1 (t * 3 + 1)) ∧ q_ok (D 83).1 (t * 3 + 2) 9 ∧ 1 ≤ q_n (D 83).1 (t * 3 + 2)) ∧ (∀ k, k < q_n (D 84).1 2 → (q_ok (D 85).1 (k * 3 + 0) 99 ∧ 1 ≤ q_n (D 85).1 (k * 3 + 0)) ∧ ((D 85).1 (k * 3 + 2) = -1 ∨ q_ok (D 85).1 (k * 3 + 2) 7)) ∧ ∀ n, n < q_n (D 86).1 2 → (D 87).1 (n * 5 + 0) = nI (q_n (D 87).1 (n * 5 + 0)) ∧ q_n (D 87).1 (n * 5 + 0) < q_n (D 73).1 2
/-- rows that the weighing writes -/
def k_sB (D D2 : y_D) : Prop := ∀ j, ¬ ((152 ≤ j ∧ j < 163) ∨ j = 190) → j ≠ 166 → j ≠ 167 → D2 j = D j
theorem k_sB_r {D : y_D} : k_sB D D := fun _ _ _ _ => rfl
theorem k_sB_t {D D2 D3 : y_D} (a : k_sB D D2) (b : k_sB D2 D3) : k_sB D D3 := fun j h1 h2 h3 => by rw [b j h1 h2 h3, a j h1 h2 h3]
theorem k_sB_k {D D2 : y_D} (a : k_same D D2) : k_sB D D2 := fun j h1 _ _ => a.1 j (by simp only [List.mem_cons, List.not_mem_nil, or_false]; omega)
theorem k_BO_s {D D2 : y_D} (h : k_sB D D2) (a : k_BO D) : k_BO D2 := by
  unfold k_BO at a ⊢
  rw [h 82 (by decide) (by decide) (by decide), h 83 (by decide) (by decide) (by decide), h 84 (by decide) (by decide) (by decide), h 85 (by decide) (by decide) (by decide), h 86 (by decide) (by decide) (by decide), h 87 (by decide) (by decide) (by decide), h 73 (by decide) (by decide) (by decide)]
  exact a
def k_spr (D : y_D) (k t : Nat) : Nat := if y_bit ((D 85).1 (k * 3 + 1)) (q_n (D 83).1 (t * 3 + 0)) then q_n (D 83).1 (t * 3 + 1) else q_n (D 83).1 (t * 3 + 2)
theorem k_spr_b {D : y_D} {k t : Nat} (h : k_BO D) (ht : t < q_n (D 82).1 2) : 1 ≤ k_spr D k t ∧ k_spr D k t ≤ 9 := by
  have := h.2.2.2.1 t ht
  unfold k_spr
  split
  · exact ⟨this.2.1.2, this.2.1.1.2⟩
  · exact ⟨this.2.2.2, this.2.2.1.2⟩
theorem k_spr_s {D D2 : y_D} (h : k_sB D D2) : k_spr D2 = k_spr D := by
  unfold k_spr
  rw [h 83 (by decide) (by decide) (by decide), h 85 (by decide) (by decide) (by decide)]
def k_hp (D : y_D) (k n : Nat) : Prop := (D 85).1 (k * 3 + 2) ≠ -1 ∧ y_bit ((D 87).1 (n * 5 + 1)) (q_n (D 85).1 (k * 3 + 2))
abbrev k_us (D : y_D) (k : Nat) : Int32 := (D 85).1 (k * 3 + 1) &&& (nI (2 ^ q_n (D 73).1 4) - 1)
def k_FAC (D : y_D) (k n f : Nat) : Prop := ∃ (h : Nat) (c : Nat → Bool), ((h = 1 ∧ k_hp D k n) ∨ (h = 0 ∧ ¬ k_hp D k n)) ∧ (∀ th, th < q_n (D 78).1 2 → ∃ v, k_Ev D (q_n (D 87).1 (n * 5 + 0)) (k_us D k) (nI h) v ∧ (c th = true ↔ v &&& K_setsFor D (q_n (D 78).1 2) th (q_n (D 73).1 4) (k_us D k) ≠ 0)) ∧ f = o_th c (fun th => decide (y_bit ((D 87).1 (n * 5 + 2)) th)) (q_n (D 78).1 2) * o_tr (fun t => decide (y_bit ((D 87).1 (n * 5 + 3)) t)) (fun t => decide (y_bit ((D 87).1 (n * 5 + 4)) t)) (k_spr D k) 1 (q_n (D 82).1 2)
theorem k_FAC_b {D : y_D} {L : List Nat} {k n f : Nat} (hB : k_B D L) (hO : k_BO D) (h : k_FAC D k n f) : 1 ≤ f ∧ f ≤ 3486784401 := by
  obtain ⟨h, c, -, -, rfl⟩ := h
  have a := o_th_b (c := c) (came := fun th => decide (y_bit ((D 87).1 (n * 5 + 2)) th)) (n := q_n (D 78).1 2)
  have b := o_tr_b (set := fun t => decide (y_bit ((D 87).1 (n * 5 + 3)) t)) (spr := fun t => decide (y_bit ((D 87).1 (n * 5 + 4)) t)) (often := k_spr D k) (b := 1) (n := q_n (D 82).1 2) (fun t ht => k_spr_b hO ht) (Nat.le_refl _)
  have c1 : 9 ^ q_n (D 78).1 2 ≤ 9 ^ 6 := Nat.pow_le_pow_right (by decide) hB.2.2.2.1.1.2
  have c2 : 9 ^ q_n (D 82).1 2 ≤ 9 ^ 4 := Nat.pow_le_pow_right (by decide) hO.1.1.2
  refine ⟨Nat.mul_le_mul a.1 b.1, ?_⟩
  refine Nat.le_trans (Nat.mul_le_mul (Nat.le_trans a.2 c1) (Nat.le_trans b.2 (Nat.mul_le_mul_left 1 c2))) (by decide)
theorem o_th_c {c c2 came : Nat → Bool} : ∀ {n}, (∀ i, i < n → c i = c2 i) → o_th c came n = o_th c2 came n
  | 0, _ => rfl
  | n + 1, h => by unfold o_th; rw [o_th_c (fun i hi => h i (by omega)), h n (by omega)]
theorem k_same_sym {D D2 : y_D} (h : k_same D D2) : k_same D2 D := ⟨fun j hj => (h.1 j hj).symm, trivial⟩
theorem k_springs {V : x_E} {n : Nat} {L : List Nat} {D : y_D} {k t : Nat} (hL : y_ok L) (hO : k_BO D) (hk : k < (q_n (D 84).1 2)) (ht : t < (q_n (D 82).1 2)) : x_Fn V yX10_springs cX10_springs 4 (some .int) 1 [.ref 64, .int (nI t), .int (nI k)] (y_mk n L D) (some (.int (nI (k_spr D k t)))) (y_mk n L D) := by
  refine x_fn (by decide) (Nat.le_of_ble_eq_true rfl) (fun E hE => ?_)
  change E 0 0 0 [(0, .ref 64), (1, .int (nI t)), (2, .int (nI k))] [] (y_mk n L D)
  have hn12 : (q_n (D 86).1 2) ≤ 12 := hO.2.2.1.1.2
  have hs5 : (q_n (D 84).1 2) ≤ 5 := hO.2.1.1.2
  have ht4 : (q_n (D 82).1 2) ≤ 4 := hO.1.1.2
  refine r_aload_n hE dX10_springs_0 rfl ?_
  refine t_getr hE f_X10_23 y_R_64_3 dX10_springs_1 (hL 64 (by decide)) ?_
  refine t_getr hE f_X10_219 y_R_73_8 dX10_springs_4 (hL 73 (by decide)) ?_
  refine r_iload_n hE dX10_springs_7 rfl ?_
  refine r_iconst (v := 1) hE dX10_springs_8 (by decide) ?_
  refine t_invv (r := (some (.int (if k < (q_n (D 84).1 2) ∧ 1 < 3 then (D 85).1 (k * 3 + 1) else 0)))) (S2 := (y_mk n L D)) hE [.int (nI k), .int 1] (k_get (D := D) (k := (q_n (D 84).1 2)) (wd := 3) y_T_84 (hL 84 (by decide)) (hL 85 (by decide)) hO.2.1.1.1 hO.2.1.2 (by have := hO.2.1.1.2; omega) (by decide) (by decide) (r := k) (c := 1) (by omega) (by decide) (by have := hO.2.1.1.2; omega)) v_yX7_get m_X10_246 dX10_springs_9 rfl (hL 84 (by decide)) (y_l_84 (D 84)) rfl (by decide) ⟨Nat.le_refl _, Nat.le_refl _⟩ (Nat.le_of_ble_eq_true rfl) ?_
  show E 0 0 12 [(0, .ref 64), (1, .int (nI t)), (2, .int (nI k))] [.int (if k < (q_n (D 84).1 2) ∧ 1 < 3 then (D 85).1 (k * 3 + 1) else 0)] (y_mk n L D)
  refine r_top (y := ((D 85).1 (k * 3 + 1))) (by rw [if_pos ⟨by omega, by decide⟩]) ?_
  refine r_aload_n hE dX10_springs_12 rfl ?_
  refine t_getr hE f_X10_23 y_R_64_3 dX10_springs_13 (hL 64 (by decide)) ?_
  refine t_getr hE f_X10_216 y_R_73_7 dX10_springs_16 (hL 73 (by decide)) ?_
  refine r_iload_n hE dX10_springs_19 rfl ?_
  refine r_iconst (v := 0) hE dX10_springs_20 (by decide) ?_
  refine t_invv (r := (some (.int (if t < (q_n (D 82).1 2) ∧ 0 < 3 then (D 83).1 (t * 3 + 0) else 0)))) (S2 := (y_mk n L D)) hE [.int (nI t), .int 0] (k_get (D := D) (k := (q_n (D 82).1 2)) (wd := 3) y_T_82 (hL 82 (by decide)) (hL 83 (by decide)) hO.1.1.1 hO.1.2 (by have := hO.1.1.2; omega) (by decide) (by decide) (r := t) (c := 0) (by omega) (by decide) (by have := hO.1.1.2; omega)) v_yX7_get m_X10_246 dX10_springs_21 rfl (hL 82 (by decide)) (y_l_82 (D 82)) rfl (by decide) ⟨Nat.le_refl _, Nat.le_refl _⟩ (Nat.le_of_ble_eq_true rfl) ?_
  show E 0 0 24 [(0, .ref 64), (1, .int (nI t)), (2, .int (nI k))] [.int (if t < (q_n (D 82).1 2) ∧ 0 < 3 then (D 83).1 (t * 3 + 0) else 0), .int ((D 85).1 (k * 3 + 1))] (y_mk n L D)
  refine r_top (y := (nI (q_n (D 83).1 (t * 3 + 0)))) (by rw [if_pos ⟨by omega, by decide⟩]; exact (hO.2.2.2.1 t ht).1.1) ?_
  refine t_invs (r := (some (.int (y_b (y_bit ((D 85).1 (k * 3 + 1)) (q_n (D 83).1 (t * 3 + 0))))))) (S2 := (y_mk n L D)) hE [.int ((D 85).1 (k * 3 + 1)), .int (nI (q_n (D 83).1 (t * 3 + 0)))] (k_hasBit) s_yX10_hasBit m_X10_172 dX10_springs_24 rfl (by decide) ⟨Nat.le_refl _, Nat.le_refl _⟩ (Nat.le_of_ble_eq_true rfl) ?_
  show E 0 0 27 [(0, .ref 64), (1, .int (nI t)), (2, .int (nI k))] [.int (y_b (y_bit ((D 85).1 (k * 3 + 1)) (q_n (D 83).1 (t * 3 + 0))))] (y_mk n L D)
  refine r_istore_n (ls2 := [(0, .ref 64), (1, .int (nI t)), (2, .int (nI k)), (3, .int (y_b (y_bit ((D 85).1 (k * 3 + 1)) (q_n (D 83).1 (t * 3 + 0)))))]) hE dX10_springs_27 (by decide) rfl ?_
  refine r_aload_n hE dX10_springs_28 rfl ?_
  refine t_getr hE f_X10_23 y_R_64_3 dX10_springs_29 (hL 64 (by decide)) ?_
  refine t_getr hE f_X10_216 y_R_73_7 dX10_springs_32 (hL 73 (by decide)) ?_
  refine r_iload_n hE dX10_springs_35 rfl ?_
  refine r_iload_n hE dX10_springs_36 rfl ?_
  refine r_ifb_eq (tgt := 44) hE dX10_springs_37 (by decide) (fun c37 => ?_) (fun c37 => ?_)
  · refine r_iconst (v := 2) hE dX10_springs_44 (by decide) ?_
    refine t_invv (r := (some (.int (if t < (q_n (D 82).1 2) ∧ 2 < 3 then (D 83).1 (t * 3 + 2) else 0)))) (S2 := (y_mk n L D)) hE [.int (nI t), .int 2] (k_get (D := D) (k := (q_n (D 82).1 2)) (wd := 3) y_T_82 (hL 82 (by decide)) (hL 83 (by decide)) hO.1.1.1 hO.1.2 (by have := hO.1.1.2; omega) (by decide) (by decide) (r := t) (c := 2) (by omega) (by decide) (by have := hO.1.1.2; omega)) v_yX7_get m_X10_246 dX10_springs_45 rfl (hL 82 (by decide)) (y_l_82 (D 82)) rfl (by decide) ⟨Nat.le_refl _, Nat.le_refl _⟩ (Nat.le_of_ble_eq_true rfl) ?_
    show E 0 0 48 [(0, .ref 64), (1, .int (nI t)), (2, .int (nI k)), (3, .int (y_b (y_bit ((D 85).1 (k * 3 + 1)) (q_n (D 83).1 (t * 3 + 0)))))] [.int (if t < (q_n (D 82).1 2) ∧ 2 < 3 then (D 83).1 (t * 3 + 2) else 0)] (y_mk n L D)
    refine r_top (y := (nI (q_n (D 83).1 (t * 3 + 2)))) (by rw [if_pos ⟨by omega, by decide⟩]; exact (hO.2.2.2.1 t ht).2.2.1.1) ?_
    refine r_ireturn hE dX10_springs_48 rfl rfl (Nat.zero_le _) (Nat.zero_le _) ?_
    unfold k_spr
    first | (rw [if_pos c37]; exact ⟨rfl, rfl⟩) | (rw [if_neg c37]; exact ⟨rfl, rfl⟩)
  · refine r_iconst (v := 1) hE dX10_springs_40 (by decide) ?_
    refine r_goto (tgt := 45) hE dX10_springs_41 (by decide) ?_
    refine t_invv (r := (some (.int (if t < (q_n (D 82).1 2) ∧ 1 < 3 then (D 83).1 (t * 3 + 1) else 0)))) (S2 := (y_mk n L D)) hE [.int (nI t), .int 1] (k_get (D := D) (k := (q_n (D 82).1 2)) (wd := 3) y_T_82 (hL 82 (by decide)) (hL 83 (by decide)) hO.1.1.1 hO.1.2 (by have := hO.1.1.2; omega) (by decide) (by decide) (r := t) (c := 1) (by omega) (by decide) (by have := hO.1.1.2; omega)) v_yX7_get m_X10_246 dX10_springs_45 rfl (hL 82 (by decide)) (y_l_82 (D 82)) rfl (by decide) ⟨Nat.le_refl _, Nat.le_refl _⟩ (Nat.le_of_ble_eq_true rfl) ?_
    show E 0 0 48 [(0, .ref 64), (1, .int (nI t)), (2, .int (nI k)), (3, .int (y_b (y_bit ((D 85).1 (k * 3 + 1)) (q_n (D 83).1 (t * 3 + 0)))))] [.int (if t < (q_n (D 82).1 2) ∧ 1 < 3 then (D 83).1 (t * 3 + 1) else 0)] (y_mk n L D)
    refine r_top (y := (nI (q_n (D 83).1 (t * 3 + 1)))) (by rw [if_pos ⟨by omega, by decide⟩]; exact (hO.2.2.2.1 t ht).2.1.1.1) ?_
    refine r_ireturn hE dX10_springs_48 rfl rfl (Nat.zero_le _) (Nat.zero_le _) ?_
    unfold k_spr
    first | (rw [if_pos c37]; exact ⟨rfl, rfl⟩) | (rw [if_neg c37]; exact ⟨rfl, rfl⟩)
theorem k_trapFactors {V : x_E} {n : Nat} {L : List Nat} {D : y_D} {k n9 : Nat} (hL : y_ok L) (hO : k_BO D) (hk : k < (q_n (D 84).1 2)) (hn : n9 < (q_n (D 86).1 2)) : x_Fn V yX10_trapFactors cX10_trapFactors 9 (some .long) 2 [.ref 64, .int (nI k), .int (nI n9)] (y_mk n L D) (some (.long (lN (o_tr (fun t => decide (y_bit ((D 87).1 (n9 * 5 + 3)) t)) (fun t => decide (y_bit ((D 87).1 (n9 * 5 + 4)) t)) (k_spr D k) 1 (q_n (D 82).1 2))))) (y_mk n L D) := by
  refine x_fn (by decide) (Nat.le_of_ble_eq_true rfl) (fun E hE => ?_)
  change E 0 0 0 [(0, .ref 64), (1, .int (nI k)), (2, .int (nI n9))] [] (y_mk n L D)
  have hn12 : (q_n (D 86).1 2) ≤ 12 := hO.2.2.1.1.2
  have hs5 : (q_n (D 84).1 2) ≤ 5 := hO.2.1.1.2
  have ht4 : (q_n (D 82).1 2) ≤ 4 := hO.1.1.2
  have lp : ∀ (i : Nat), i ≤ (q_n (D 82).1 2) → E 0 0 33 [(0, .ref 64), (1, .int (nI k)), (2, .int (nI n9)), (3, .int ((D 87).1 (n9 * 5 + 3))), (4, .int ((D 87).1 (n9 * 5 + 4))), (5, .long (lN (o_tr (fun t => decide (y_bit ((D 87).1 (n9 * 5 + 3)) t)) (fun t => decide (y_bit ((D 87).1 (n9 * 5 + 4)) t)) (k_spr D k) 1 i))), (7, .int (nI i))] [] (y_mk n L D) := by
    intro i
    induction hm9 : ((q_n (D 82).1 2) - i) using Nat.strongRecOn generalizing i with
    | _ m9 ih =>
      intro hi
      subst hm9
      refine r_iload hE dX10_trapFactors_33 rfl ?_
      refine r_aload_n hE dX10_trapFactors_35 rfl ?_
      refine t_getr hE f_X10_23 y_R_64_3 dX10_trapFactors_36 (hL 64 (by decide)) ?_
      refine t_getr hE f_X10_216 y_R_73_7 dX10_trapFactors_39 (hL 73 (by decide)) ?_
      refine t_geti hE f_X10_176 y_I_82_2 dX10_trapFactors_42 (hL 82 (by decide)) ?_
      refine r_top (y := (nI (q_n (D 82).1 2))) hO.1.1.1 ?_
      refine r_icmp_geN (a := i) (b := (q_n (D 82).1 2)) (tgt := 99) hE dX10_trapFactors_45 (by decide) (by omega) (by omega) (fun c45 => ?_) (fun c45 => ?_)
      · refine r_lload hE dX10_trapFactors_99 rfl ?_
        refine r_lreturn hE dX10_trapFactors_101 rfl (Nat.zero_le _) (Nat.zero_le _) ?_
        rw [show i = (q_n (D 82).1 2) by omega]
        exact ⟨rfl, rfl⟩
      · refine r_iload_n hE dX10_trapFactors_48 rfl ?_
        refine r_iload hE dX10_trapFactors_49 rfl ?_
        refine t_invs (r := (some (.int (y_b (y_bit ((D 87).1 (n9 * 5 + 3)) i))))) (S2 := (y_mk n L D)) hE [.int ((D 87).1 (n9 * 5 + 3)), .int (nI i)] (k_hasBit) s_yX10_hasBit m_X10_172 dX10_trapFactors_51 rfl (by decide) ⟨Nat.le_refl _, Nat.le_refl _⟩ (Nat.le_of_ble_eq_true rfl) ?_
        show E 0 0 54 [(0, .ref 64), (1, .int (nI k)), (2, .int (nI n9)), (3, .int ((D 87).1 (n9 * 5 + 3))), (4, .int ((D 87).1 (n9 * 5 + 4))), (5, .long (lN (o_tr (fun t => decide (y_bit ((D 87).1 (n9 * 5 + 3)) t)) (fun t => decide (y_bit ((D 87).1 (n9 * 5 + 4)) t)) (k_spr D k) 1 i))), (7, .int (nI i))] [.int (y_b (y_bit ((D 87).1 (n9 * 5 + 3)) i))] (y_mk n L D)
        refine r_ifb_eq (tgt := 93) hE dX10_trapFactors_54 (by decide) (fun c54 => ?_) (fun c54 => ?_)
        · refine r_iincN (a := i) (b := 1) (ls2 := [(0, .ref 64), (1, .int (nI k)), (2, .int (nI n9)), (3, .int ((D 87).1 (n9 * 5 + 3))), (4, .int ((D 87).1 (n9 * 5 + 4))), (5, .long (lN (o_tr (fun t => decide (y_bit ((D 87).1 (n9 * 5 + 3)) t)) (fun t => decide (y_bit ((D 87).1 (n9 * 5 + 4)) t)) (k_spr D k) 1 i))), (7, .int (nI (i + 1)))]) hE dX10_trapFactors_93 rfl rfl (by decide) rfl ?_
          refine r_goto (tgt := 33) hE dX10_trapFactors_96 (by decide) ?_
          have e9 : o_tr (fun t => decide (y_bit ((D 87).1 (n9 * 5 + 3)) t)) (fun t => decide (y_bit ((D 87).1 (n9 * 5 + 4)) t)) (k_spr D k) 1 (i + 1) = o_tr (fun t => decide (y_bit ((D 87).1 (n9 * 5 + 3)) t)) (fun t => decide (y_bit ((D 87).1 (n9 * 5 + 4)) t)) (k_spr D k) 1 i := by
            show (if (fun t => decide (y_bit ((D 87).1 (n9 * 5 + 3)) t)) i then o_tr (fun t => decide (y_bit ((D 87).1 (n9 * 5 + 3)) t)) (fun t => decide (y_bit ((D 87).1 (n9 * 5 + 4)) t)) (k_spr D k) 1 i * (if (fun t => decide (y_bit ((D 87).1 (n9 * 5 + 4)) t)) i then k_spr D k i else 10 - k_spr D k i) else o_tr (fun t => decide (y_bit ((D 87).1 (n9 * 5 + 3)) t)) (fun t => decide (y_bit ((D 87).1 (n9 * 5 + 4)) t)) (k_spr D k) 1 i) = _
            rw [if_neg (fun q => c54 (of_decide_eq_true q))]
          refine r_locs hE (ls2 := [(0, .ref 64), (1, .int (nI k)), (2, .int (nI n9)), (3, .int ((D 87).1 (n9 * 5 + 3))), (4, .int ((D 87).1 (n9 * 5 + 4))), (5, .long (lN (o_tr (fun t => decide (y_bit ((D 87).1 (n9 * 5 + 3)) t)) (fun t => decide (y_bit ((D 87).1 (n9 * 5 + 4)) t)) (k_spr D k) 1 (i + 1)))), (7, .int (nI (i + 1)))]) ?_ (ih ((q_n (D 82).1 2) - (i + 1)) (by omega) (i + 1) rfl (by omega))
          rw [e9]
          simp [x_lk]
        · refine r_aload_n hE dX10_trapFactors_57 rfl ?_
          refine r_iload hE dX10_trapFactors_58 rfl ?_
          refine r_iload_n hE dX10_trapFactors_60 rfl ?_
          refine t_invv (r := (some (.int (nI (k_spr D k i))))) (S2 := (y_mk n L D)) hE [.int (nI i), .int (nI k)] (k_springs (k := k) (t := i) hL hO hk (by omega)) v_yX10_springs m_X10_235 dX10_trapFactors_61 rfl (hL 64 (by decide)) (y_l_64 (D 64)) rfl (by decide) ⟨Nat.le_refl _, Nat.le_refl _⟩ (Nat.le_of_ble_eq_true rfl) ?_
          show E 0 0 64 [(0, .ref 64), (1, .int (nI k)), (2, .int (nI n9)), (3, .int ((D 87).1 (n9 * 5 + 3))), (4, .int ((D 87).1 (n9 * 5 + 4))), (5, .long (lN (o_tr (fun t => decide (y_bit ((D 87).1 (n9 * 5 + 3)) t)) (fun t => decide (y_bit ((D 87).1 (n9 * 5 + 4)) t)) (k_spr D k) 1 i))), (7, .int (nI i))] [.int (nI (k_spr D k i))] (y_mk n L D)
          have hs9 := k_spr_b (k := k) hO (t := i) (by omega)
          refine r_istore (ls2 := [(0, .ref 64), (1, .int (nI k)), (2, .int (nI n9)), (3, .int ((D 87).1 (n9 * 5 + 3))), (4, .int ((D 87).1 (n9 * 5 + 4))), (5, .long (lN (o_tr (fun t => decide (y_bit ((D 87).1 (n9 * 5 + 3)) t)) (fun t => decide (y_bit ((D 87).1 (n9 * 5 + 4)) t)) (k_spr D k) 1 i))), (7, .int (nI i)), (8, .int (nI (k_spr D k i)))]) hE dX10_trapFactors_64 (by decide) rfl ?_
          refine r_lload hE dX10_trapFactors_66 rfl ?_
          refine r_iload hE dX10_trapFactors_68 rfl ?_
          refine r_iload hE dX10_trapFactors_70 rfl ?_
          refine t_invs (r := (some (.int (y_b (y_bit ((D 87).1 (n9 * 5 + 4)) i))))) (S2 := (y_mk n L D)) hE [.int ((D 87).1 (n9 * 5 + 4)), .int (nI i)] (k_hasBit) s_yX10_hasBit m_X10_172 dX10_trapFactors_72 rfl (by decide) ⟨Nat.le_refl _, Nat.le_refl _⟩ (Nat.le_of_ble_eq_true rfl) ?_
          show E 0 0 75 [(0, .ref 64), (1, .int (nI k)), (2, .int (nI n9)), (3, .int ((D 87).1 (n9 * 5 + 3))), (4, .int ((D 87).1 (n9 * 5 + 4))), (5, .long (lN (o_tr (fun t => decide (y_bit ((D 87).1 (n9 * 5 + 3)) t)) (fun t => decide (y_bit ((D 87).1 (n9 * 5 + 4)) t)) (k_spr D k) 1 i))), (7, .int (nI i)), (8, .int (nI (k_spr D k i)))] [.int (y_b (y_bit ((D 87).1 (n9 * 5 + 4)) i)), .long (lN (o_tr (fun t => decide (y_bit ((D 87).1 (n9 * 5 + 3)) t)) (fun t => decide (y_bit ((D 87).1 (n9 * 5 + 4)) t)) (k_spr D k) 1 i))] (y_mk n L D)
          refine r_ifb_eq (tgt := 84) hE dX10_trapFactors_75 (by decide) (fun c75 => ?_) (fun c75 => ?_)
          · refine r_bipush (v := 10) hE dX10_trapFactors_84 (by decide) ?_
            refine r_iload hE dX10_trapFactors_86 rfl ?_
            refine r_isubN (a := 10) (b := k_spr D k i) hE dX10_trapFactors_88 (by omega) ?_
            refine r_i2l hE dX10_trapFactors_89 ?_
            refine r_topL (y := lN (10 - (k_spr D k i))) (nI_l (by omega)) ?_
            refine r_lmul hE dX10_trapFactors_90 ?_
            refine r_topL (y := lN ((o_tr (fun t => decide (y_bit ((D 87).1 (n9 * 5 + 3)) t)) (fun t => decide (y_bit ((D 87).1 (n9 * 5 + 4)) t)) (k_spr D k) 1 i) * (10 - (k_spr D k i)))) (lN_mul (o_tr (fun t => decide (y_bit ((D 87).1 (n9 * 5 + 3)) t)) (fun t => decide (y_bit ((D 87).1 (n9 * 5 + 4)) t)) (k_spr D k) 1 i) (10 - (k_spr D k i))) ?_
            refine r_lstore (ls2 := [(0, .ref 64), (1, .int (nI k)), (2, .int (nI n9)), (3, .int ((D 87).1 (n9 * 5 + 3))), (4, .int ((D 87).1 (n9 * 5 + 4))), (5, .long (lN ((o_tr (fun t => decide (y_bit ((D 87).1 (n9 * 5 + 3)) t)) (fun t => decide (y_bit ((D 87).1 (n9 * 5 + 4)) t)) (k_spr D k) 1 i) * (10 - (k_spr D k i))))), (7, .int (nI i)), (8, .int (nI (k_spr D k i)))]) hE dX10_trapFactors_91 (by decide) rfl ?_
            refine r_iincN (a := i) (b := 1) (ls2 := [(0, .ref 64), (1, .int (nI k)), (2, .int (nI n9)), (3, .int ((D 87).1 (n9 * 5 + 3))), (4, .int ((D 87).1 (n9 * 5 + 4))), (5, .long (lN ((o_tr (fun t => decide (y_bit ((D 87).1 (n9 * 5 + 3)) t)) (fun t => decide (y_bit ((D 87).1 (n9 * 5 + 4)) t)) (k_spr D k) 1 i) * (10 - (k_spr D k i))))), (7, .int (nI (i + 1))), (8, .int (nI (k_spr D k i)))]) hE dX10_trapFactors_93 rfl rfl (by decide) rfl ?_
            refine r_goto (tgt := 33) hE dX10_trapFactors_96 (by decide) ?_
            have e9 : o_tr (fun t => decide (y_bit ((D 87).1 (n9 * 5 + 3)) t)) (fun t => decide (y_bit ((D 87).1 (n9 * 5 + 4)) t)) (k_spr D k) 1 (i + 1) = (o_tr (fun t => decide (y_bit ((D 87).1 (n9 * 5 + 3)) t)) (fun t => decide (y_bit ((D 87).1 (n9 * 5 + 4)) t)) (k_spr D k) 1 i) * (10 - (k_spr D k i)) := by
              show (if (fun t => decide (y_bit ((D 87).1 (n9 * 5 + 3)) t)) i then o_tr (fun t => decide (y_bit ((D 87).1 (n9 * 5 + 3)) t)) (fun t => decide (y_bit ((D 87).1 (n9 * 5 + 4)) t)) (k_spr D k) 1 i * (if (fun t => decide (y_bit ((D 87).1 (n9 * 5 + 4)) t)) i then k_spr D k i else 10 - k_spr D k i) else o_tr (fun t => decide (y_bit ((D 87).1 (n9 * 5 + 3)) t)) (fun t => decide (y_bit ((D 87).1 (n9 * 5 + 4)) t)) (k_spr D k) 1 i) = _
              rw [if_pos (decide_eq_true c54)]
              rw [if_neg (fun q => c75 (of_decide_eq_true q))]
            refine r_locs hE (ls2 := [(0, .ref 64), (1, .int (nI k)), (2, .int (nI n9)), (3, .int ((D 87).1 (n9 * 5 + 3))), (4, .int ((D 87).1 (n9 * 5 + 4))), (5, .long (lN (o_tr (fun t => decide (y_bit ((D 87).1 (n9 * 5 + 3)) t)) (fun t => decide (y_bit ((D 87).1 (n9 * 5 + 4)) t)) (k_spr D k) 1 (i + 1)))), (7, .int (nI (i + 1)))]) ?_ (ih ((q_n (D 82).1 2) - (i + 1)) (by omega) (i + 1) rfl (by omega))
            rw [e9]
            simp [x_lk]
          · refine r_iload hE dX10_trapFactors_78 rfl ?_
            refine r_i2l hE dX10_trapFactors_80 ?_
            refine r_topL (y := lN (k_spr D k i)) (nI_l (by omega)) ?_
            refine r_goto (tgt := 90) hE dX10_trapFactors_81 (by decide) ?_
            refine r_lmul hE dX10_trapFactors_90 ?_
            refine r_topL (y := lN ((o_tr (fun t => decide (y_bit ((D 87).1 (n9 * 5 + 3)) t)) (fun t => decide (y_bit ((D 87).1 (n9 * 5 + 4)) t)) (k_spr D k) 1 i) * (k_spr D k i))) (lN_mul (o_tr (fun t => decide (y_bit ((D 87).1 (n9 * 5 + 3)) t)) (fun t => decide (y_bit ((D 87).1 (n9 * 5 + 4)) t)) (k_spr D k) 1 i) (k_spr D k i)) ?_
            refine r_lstore (ls2 := [(0, .ref 64), (1, .int (nI k)), (2, .int (nI n9)), (3, .int ((D 87).1 (n9 * 5 + 3))), (4, .int ((D 87).1 (n9 * 5 + 4))), (5, .long (lN ((o_tr (fun t => decide (y_bit ((D 87).1 (n9 * 5 + 3)) t)) (fun t => decide (y_bit ((D 87).1 (n9 * 5 + 4)) t)) (k_spr D k) 1 i) * (k_spr D k i)))), (7, .int (nI i)), (8, .int (nI (k_spr D k i)))]) hE dX10_trapFactors_91 (by decide) rfl ?_
            refine r_iincN (a := i) (b := 1) (ls2 := [(0, .ref 64), (1, .int (nI k)), (2, .int (nI n9)), (3, .int ((D 87).1 (n9 * 5 + 3))), (4, .int ((D 87).1 (n9 * 5 + 4))), (5, .long (lN ((o_tr (fun t => decide (y_bit ((D 87).1 (n9 * 5 + 3)) t)) (fun t => decide (y_bit ((D 87).1 (n9 * 5 + 4)) t)) (k_spr D k) 1 i) * (k_spr D k i)))), (7, .int (nI (i + 1))), (8, .int (nI (k_spr D k i)))]) hE dX10_trapFactors_93 rfl rfl (by decide) rfl ?_
            refine r_goto (tgt := 33) hE dX10_trapFactors_96 (by decide) ?_
            have e9 : o_tr (fun t => decide (y_bit ((D 87).1 (n9 * 5 + 3)) t)) (fun t => decide (y_bit ((D 87).1 (n9 * 5 + 4)) t)) (k_spr D k) 1 (i + 1) = (o_tr (fun t => decide (y_bit ((D 87).1 (n9 * 5 + 3)) t)) (fun t => decide (y_bit ((D 87).1 (n9 * 5 + 4)) t)) (k_spr D k) 1 i) * (k_spr D k i) := by
              show (if (fun t => decide (y_bit ((D 87).1 (n9 * 5 + 3)) t)) i then o_tr (fun t => decide (y_bit ((D 87).1 (n9 * 5 + 3)) t)) (fun t => decide (y_bit ((D 87).1 (n9 * 5 + 4)) t)) (k_spr D k) 1 i * (if (fun t => decide (y_bit ((D 87).1 (n9 * 5 + 4)) t)) i then k_spr D k i else 10 - k_spr D k i) else o_tr (fun t => decide (y_bit ((D 87).1 (n9 * 5 + 3)) t)) (fun t => decide (y_bit ((D 87).1 (n9 * 5 + 4)) t)) (k_spr D k) 1 i) = _
              rw [if_pos (decide_eq_true c54)]
              rw [if_pos (decide_eq_true c75)]
            refine r_locs hE (ls2 := [(0, .ref 64), (1, .int (nI k)), (2, .int (nI n9)), (3, .int ((D 87).1 (n9 * 5 + 3))), (4, .int ((D 87).1 (n9 * 5 + 4))), (5, .long (lN (o_tr (fun t => decide (y_bit ((D 87).1 (n9 * 5 + 3)) t)) (fun t => decide (y_bit ((D 87).1 (n9 * 5 + 4)) t)) (k_spr D k) 1 (i + 1)))), (7, .int (nI (i + 1)))]) ?_ (ih ((q_n (D 82).1 2) - (i + 1)) (by omega) (i + 1) rfl (by omega))
            rw [e9]
            simp [x_lk]
  refine r_aload_n hE dX10_trapFactors_0 rfl ?_
  refine t_getr hE f_X10_23 y_R_64_3 dX10_trapFactors_1 (hL 64 (by decide)) ?_
  refine t_getr hE f_X10_225 y_R_73_9 dX10_trapFactors_4 (hL 73 (by decide)) ?_
  refine r_iload_n hE dX10_trapFactors_7 rfl ?_
  refine r_iconst (v := 3) hE dX10_trapFactors_8 (by decide) ?_
  refine t_invv (r := (some (.int (if n9 < (q_n (D 86).1 2) ∧ 3 < 5 then (D 87).1 (n9 * 5 + 3) else 0)))) (S2 := (y_mk n L D)) hE [.int (nI n9), .int 3] (k_get (D := D) (k := (q_n (D 86).1 2)) (wd := 5) y_T_86 (hL 86 (by decide)) (hL 87 (by decide)) hO.2.2.1.1.1 hO.2.2.1.2 (by have := hO.2.2.1.1.2; omega) (by decide) (by decide) (r := n9) (c := 3) (by omega) (by decide) (by have := hO.2.2.1.1.2; omega)) v_yX7_get m_X10_246 dX10_trapFactors_9 rfl (hL 86 (by decide)) (y_l_86 (D 86)) rfl (by decide) ⟨Nat.le_refl _, Nat.le_refl _⟩ (Nat.le_of_ble_eq_true rfl) ?_
  show E 0 0 12 [(0, .ref 64), (1, .int (nI k)), (2, .int (nI n9))] [.int (if n9 < (q_n (D 86).1 2) ∧ 3 < 5 then (D 87).1 (n9 * 5 + 3) else 0)] (y_mk n L D)
  refine r_top (y := ((D 87).1 (n9 * 5 + 3))) (by rw [if_pos ⟨by omega, by decide⟩]) ?_
  refine r_istore_n (ls2 := [(0, .ref 64), (1, .int (nI k)), (2, .int (nI n9)), (3, .int ((D 87).1 (n9 * 5 + 3)))]) hE dX10_trapFactors_12 (by decide) rfl ?_
  refine r_aload_n hE dX10_trapFactors_13 rfl ?_
  refine t_getr hE f_X10_23 y_R_64_3 dX10_trapFactors_14 (hL 64 (by decide)) ?_
  refine t_getr hE f_X10_225 y_R_73_9 dX10_trapFactors_17 (hL 73 (by decide)) ?_
  refine r_iload_n hE dX10_trapFactors_20 rfl ?_
  refine r_iconst (v := 4) hE dX10_trapFactors_21 (by decide) ?_
  refine t_invv (r := (some (.int (if n9 < (q_n (D 86).1 2) ∧ 4 < 5 then (D 87).1 (n9 * 5 + 4) else 0)))) (S2 := (y_mk n L D)) hE [.int (nI n9), .int 4] (k_get (D := D) (k := (q_n (D 86).1 2)) (wd := 5) y_T_86 (hL 86 (by decide)) (hL 87 (by decide)) hO.2.2.1.1.1 hO.2.2.1.2 (by have := hO.2.2.1.1.2; omega) (by decide) (by decide) (r := n9) (c := 4) (by omega) (by decide) (by have := hO.2.2.1.1.2; omega)) v_yX7_get m_X10_246 dX10_trapFactors_22 rfl (hL 86 (by decide)) (y_l_86 (D 86)) rfl (by decide) ⟨Nat.le_refl _, Nat.le_refl _⟩ (Nat.le_of_ble_eq_true rfl) ?_
  show E 0 0 25 [(0, .ref 64), (1, .int (nI k)), (2, .int (nI n9)), (3, .int ((D 87).1 (n9 * 5 + 3)))] [.int (if n9 < (q_n (D 86).1 2) ∧ 4 < 5 then (D 87).1 (n9 * 5 + 4) else 0)] (y_mk n L D)
  refine r_top (y := ((D 87).1 (n9 * 5 + 4))) (by rw [if_pos ⟨by omega, by decide⟩]) ?_
  refine r_istore (ls2 := [(0, .ref 64), (1, .int (nI k)), (2, .int (nI n9)), (3, .int ((D 87).1 (n9 * 5 + 3))), (4, .int ((D 87).1 (n9 * 5 + 4)))]) hE dX10_trapFactors_25 (by decide) rfl ?_
  refine r_lconst (v := 1) hE dX10_trapFactors_27 (by decide) ?_
  refine r_lstore (ls2 := [(0, .ref 64), (1, .int (nI k)), (2, .int (nI n9)), (3, .int ((D 87).1 (n9 * 5 + 3))), (4, .int ((D 87).1 (n9 * 5 + 4))), (5, .long 1)]) hE dX10_trapFactors_28 (by decide) rfl ?_
  refine r_iconst (v := 0) hE dX10_trapFactors_30 (by decide) ?_
  refine r_istore (ls2 := [(0, .ref 64), (1, .int (nI k)), (2, .int (nI n9)), (3, .int ((D 87).1 (n9 * 5 + 3))), (4, .int ((D 87).1 (n9 * 5 + 4))), (5, .long 1), (7, .int 0)]) hE dX10_trapFactors_31 (by decide) rfl ?_
  exact lp 0 (by omega)
theorem k_allFactors {V : x_E} {n : Nat} {L : List Nat} {D : y_D} (hV : y_V V) {k n9 : Nat} (hL : y_ok L) (hB : k_B D L) (hCI : k_CI D) (hO : k_BO D) (hk : k < (q_n (D 84).1 2)) (hn : n9 < (q_n (D 86).1 2)) : y_Rj V yX10_allFactors cX10_allFactors 11 (some .long) 5 [.ref 64, .int (nI k), .int (nI n9)] n L D (fun v D2 => (k_same D D2 ∧ k_CI D2) ∧ ∃ f, v = lN f ∧ k_FAC D k n9 f) := by
  refine y_rj (by decide) (Nat.le_of_ble_eq_true rfl) (fun E hE => ?_)
  change E 0 0 0 [(0, .ref 64), (1, .int (nI k)), (2, .int (nI n9))] [] (y_mk n L D)
  have hn12 : (q_n (D 86).1 2) ≤ 12 := hO.2.2.1.1.2
  have hs5 : (q_n (D 84).1 2) ≤ 5 := hO.2.1.1.2
  have ht4 : (q_n (D 82).1 2) ≤ 4 := hO.1.1.2
  have hn6 : (q_n (D 78).1 2) ≤ 6 := hB.2.2.2.1.1.2
  have hr4 : q_n (D 73).1 2 ≤ 4 := hB.1.2
  have htr := (hO.2.2.2.2.2 n9 hn).2
  rcases (hO.2.2.2.2.1 k hk).2 with hh | hh
  · refine r_aload_n hE dX10_allFactors_0 rfl ?_
    refine t_getr hE f_X10_23 y_R_64_3 dX10_allFactors_1 (hL 64 (by decide)) ?_
    refine t_getr hE f_X10_225 y_R_73_9 dX10_allFactors_4 (hL 73 (by decide)) ?_
    refine r_iload_n hE dX10_allFactors_7 rfl ?_
    refine r_iconst (v := 0) hE dX10_allFactors_8 (by decide) ?_
    refine t_invv (r := (some (.int (if n9 < (q_n (D 86).1 2) ∧ 0 < 5 then (D 87).1 (n9 * 5 + 0) else 0)))) (S2 := (y_mk n L D)) hE [.int (nI n9), .int 0] (k_get (D := D) (k := (q_n (D 86).1 2)) (wd := 5) y_T_86 (hL 86 (by decide)) (hL 87 (by decide)) hO.2.2.1.1.1 hO.2.2.1.2 (by have := hO.2.2.1.1.2; omega) (by decide) (by decide) (r := n9) (c := 0) (by omega) (by decide) (by have := hO.2.2.1.1.2; omega)) v_yX7_get m_X10_246 dX10_allFactors_9 rfl (hL 86 (by decide)) (y_l_86 (D 86)) rfl (by decide) ⟨Nat.le_refl _, Nat.le_refl _⟩ (Nat.le_of_ble_eq_true rfl) ?_
    show E 0 0 12 [(0, .ref 64), (1, .int (nI k)), (2, .int (nI n9))] [.int (if n9 < (q_n (D 86).1 2) ∧ 0 < 5 then (D 87).1 (n9 * 5 + 0) else 0)] (y_mk n L D)
    refine r_top (y := (nI (q_n (D 87).1 (n9 * 5 + 0)))) (by rw [if_pos ⟨by omega, by decide⟩]; exact (hO.2.2.2.2.2 n9 hn).1) ?_
    refine r_istore_n (ls2 := [(0, .ref 64), (1, .int (nI k)), (2, .int (nI n9)), (3, .int (nI (q_n (D 87).1 (n9 * 5 + 0))))]) hE dX10_allFactors_12 (by decide) rfl ?_
    refine r_aload_n hE dX10_allFactors_13 rfl ?_
    refine t_getr hE f_X10_23 y_R_64_3 dX10_allFactors_14 (hL 64 (by decide)) ?_
    refine t_getr hE f_X10_225 y_R_73_9 dX10_allFactors_17 (hL 73 (by decide)) ?_
    refine r_iload_n hE dX10_allFactors_20 rfl ?_
    refine r_iconst (v := 2) hE dX10_allFactors_21 (by decide) ?_
    refine t_invv (r := (some (.int (if n9 < (q_n (D 86).1 2) ∧ 2 < 5 then (D 87).1 (n9 * 5 + 2) else 0)))) (S2 := (y_mk n L D)) hE [.int (nI n9), .int 2] (k_get (D := D) (k := (q_n (D 86).1 2)) (wd := 5) y_T_86 (hL 86 (by decide)) (hL 87 (by decide)) hO.2.2.1.1.1 hO.2.2.1.2 (by have := hO.2.2.1.1.2; omega) (by decide) (by decide) (r := n9) (c := 2) (by omega) (by decide) (by have := hO.2.2.1.1.2; omega)) v_yX7_get m_X10_246 dX10_allFactors_22 rfl (hL 86 (by decide)) (y_l_86 (D 86)) rfl (by decide) ⟨Nat.le_refl _, Nat.le_refl _⟩ (Nat.le_of_ble_eq_true rfl) ?_
    show E 0 0 25 [(0, .ref 64), (1, .int (nI k)), (2, .int (nI n9)), (3, .int (nI (q_n (D 87).1 (n9 * 5 + 0))))] [.int (if n9 < (q_n (D 86).1 2) ∧ 2 < 5 then (D 87).1 (n9 * 5 + 2) else 0)] (y_mk n L D)
    refine r_top (y := ((D 87).1 (n9 * 5 + 2))) (by rw [if_pos ⟨by omega, by decide⟩]) ?_
    refine r_istore (ls2 := [(0, .ref 64), (1, .int (nI k)), (2, .int (nI n9)), (3, .int (nI (q_n (D 87).1 (n9 * 5 + 0)))), (4, .int ((D 87).1 (n9 * 5 + 2)))]) hE dX10_allFactors_25 (by decide) rfl ?_
    refine r_aload_n hE dX10_allFactors_27 rfl ?_
    refine t_getr hE f_X10_23 y_R_64_3 dX10_allFactors_28 (hL 64 (by decide)) ?_
    refine t_getr hE f_X10_219 y_R_73_8 dX10_allFactors_31 (hL 73 (by decide)) ?_
    refine r_iload_n hE dX10_allFactors_34 rfl ?_
    refine r_iconst (v := 1) hE dX10_allFactors_35 (by decide) ?_
    refine t_invv (r := (some (.int (if k < (q_n (D 84).1 2) ∧ 1 < 3 then (D 85).1 (k * 3 + 1) else 0)))) (S2 := (y_mk n L D)) hE [.int (nI k), .int 1] (k_get (D := D) (k := (q_n (D 84).1 2)) (wd := 3) y_T_84 (hL 84 (by decide)) (hL 85 (by decide)) hO.2.1.1.1 hO.2.1.2 (by have := hO.2.1.1.2; omega) (by decide) (by decide) (r := k) (c := 1) (by omega) (by decide) (by have := hO.2.1.1.2; omega)) v_yX7_get m_X10_246 dX10_allFactors_36 rfl (hL 84 (by decide)) (y_l_84 (D 84)) rfl (by decide) ⟨Nat.le_refl _, Nat.le_refl _⟩ (Nat.le_of_ble_eq_true rfl) ?_
    show E 0 0 39 [(0, .ref 64), (1, .int (nI k)), (2, .int (nI n9)), (3, .int (nI (q_n (D 87).1 (n9 * 5 + 0)))), (4, .int ((D 87).1 (n9 * 5 + 2)))] [.int (if k < (q_n (D 84).1 2) ∧ 1 < 3 then (D 85).1 (k * 3 + 1) else 0)] (y_mk n L D)
    refine r_top (y := ((D 85).1 (k * 3 + 1))) (by rw [if_pos ⟨by omega, by decide⟩]) ?_
    refine r_istore (ls2 := [(0, .ref 64), (1, .int (nI k)), (2, .int (nI n9)), (3, .int (nI (q_n (D 87).1 (n9 * 5 + 0)))), (4, .int ((D 87).1 (n9 * 5 + 2))), (5, .int ((D 85).1 (k * 3 + 1)))]) hE dX10_allFactors_39 (by decide) rfl ?_
    refine r_aload_n hE dX10_allFactors_41 rfl ?_
    refine t_getr hE f_X10_23 y_R_64_3 dX10_allFactors_42 (hL 64 (by decide)) ?_
    refine t_getr hE f_X10_219 y_R_73_8 dX10_allFactors_45 (hL 73 (by decide)) ?_
    refine r_iload_n hE dX10_allFactors_48 rfl ?_
    refine r_iconst (v := 2) hE dX10_allFactors_49 (by decide) ?_
    refine t_invv (r := (some (.int (if k < (q_n (D 84).1 2) ∧ 2 < 3 then (D 85).1 (k * 3 + 2) else 0)))) (S2 := (y_mk n L D)) hE [.int (nI k), .int 2] (k_get (D := D) (k := (q_n (D 84).1 2)) (wd := 3) y_T_84 (hL 84 (by decide)) (hL 85 (by decide)) hO.2.1.1.1 hO.2.1.2 (by have := hO.2.1.1.2; omega) (by decide) (by decide) (r := k) (c := 2) (by omega) (by decide) (by have := hO.2.1.1.2; omega)) v_yX7_get m_X10_246 dX10_allFactors_50 rfl (hL 84 (by decide)) (y_l_84 (D 84)) rfl (by decide) ⟨Nat.le_refl _, Nat.le_refl _⟩ (Nat.le_of_ble_eq_true rfl) ?_
    show E 0 0 53 [(0, .ref 64), (1, .int (nI k)), (2, .int (nI n9)), (3, .int (nI (q_n (D 87).1 (n9 * 5 + 0)))), (4, .int ((D 87).1 (n9 * 5 + 2))), (5, .int ((D 85).1 (k * 3 + 1)))] [.int (if k < (q_n (D 84).1 2) ∧ 2 < 3 then (D 85).1 (k * 3 + 2) else 0)] (y_mk n L D)
    refine r_top (y := (-1)) (by rw [if_pos ⟨by omega, by decide⟩]; exact hh) ?_
    refine r_istore (ls2 := [(0, .ref 64), (1, .int (nI k)), (2, .int (nI n9)), (3, .int (nI (q_n (D 87).1 (n9 * 5 + 0)))), (4, .int ((D 87).1 (n9 * 5 + 2))), (5, .int ((D 85).1 (k * 3 + 1))), (6, .int (-1))]) hE dX10_allFactors_53 (by decide) rfl ?_
    refine r_iload hE dX10_allFactors_55 rfl ?_
    refine r_iconst (v := (-1)) hE dX10_allFactors_57 (by decide) ?_
    refine r_icmp_eq (tgt := 85) hE dX10_allFactors_58 (by decide) (fun _ => ?_) (fun c58 => by first | exact absurd c58 (by decide) | exact absurd (by decide) c58)
    refine r_iconst (v := 0) hE dX10_allFactors_85 (by decide) ?_
    refine r_istore (ls2 := [(0, .ref 64), (1, .int (nI k)), (2, .int (nI n9)), (3, .int (nI (q_n (D 87).1 (n9 * 5 + 0)))), (4, .int ((D 87).1 (n9 * 5 + 2))), (5, .int ((D 85).1 (k * 3 + 1))), (6, .int (-1)), (7, .int 0)]) hE dX10_allFactors_86 (by decide) rfl ?_
    refine r_lconst (v := 1) hE dX10_allFactors_88 (by decide) ?_
    refine r_lstore (ls2 := [(0, .ref 64), (1, .int (nI k)), (2, .int (nI n9)), (3, .int (nI (q_n (D 87).1 (n9 * 5 + 0)))), (4, .int ((D 87).1 (n9 * 5 + 2))), (5, .int ((D 85).1 (k * 3 + 1))), (6, .int (-1)), (7, .int 0), (8, .long 1)]) hE dX10_allFactors_89 (by decide) rfl ?_
    refine r_iconst (v := 0) hE dX10_allFactors_91 (by decide) ?_
    refine r_istore (ls2 := [(0, .ref 64), (1, .int (nI k)), (2, .int (nI n9)), (3, .int (nI (q_n (D 87).1 (n9 * 5 + 0)))), (4, .int ((D 87).1 (n9 * 5 + 2))), (5, .int ((D 85).1 (k * 3 + 1))), (6, .int (-1)), (7, .int 0), (8, .long 1), (10, .int 0)]) hE dX10_allFactors_92 (by decide) rfl ?_
    have hhl : (0 = 1 ∧ k_hp D k n9) ∨ (0 = 0 ∧ ¬ k_hp D k n9) := Or.inr ⟨rfl, fun q => q.1 hh⟩
    have l1 : ∀ (i : Nat) (c : Nat → Bool) (D8 : y_D), i ≤ (q_n (D 78).1 2) → k_same D D8 → k_CI D8 → (∀ th, th < i → ∃ v, k_Ev D (q_n (D 87).1 (n9 * 5 + 0)) (k_us D k) (nI 0) v ∧ (c th = true ↔ v &&& K_setsFor D (q_n (D 78).1 2) th (q_n (D 73).1 4) (k_us D k) ≠ 0)) → E 0 0 94 [(0, .ref 64), (1, .int (nI k)), (2, .int (nI n9)), (3, .int (nI (q_n (D 87).1 (n9 * 5 + 0)))), (4, .int ((D 87).1 (n9 * 5 + 2))), (5, .int ((D 85).1 (k * 3 + 1))), (6, .int (-1)), (7, .int 0), (8, .long (lN (o_th c (fun th => decide (y_bit ((D 87).1 (n9 * 5 + 2)) th)) i))), (10, .int (nI i))] [] (y_mk n L D8) := by
      intro i c D8
      induction hm9 : ((q_n (D 78).1 2) - i) using Nat.strongRecOn generalizing i c D8 with
      | _ m9 ih =>
        intro hi sm ci hc
        subst hm9
        refine r_iload hE dX10_allFactors_94 rfl ?_
        refine r_aload_n hE dX10_allFactors_96 rfl ?_
        refine t_getr hE f_X10_23 y_R_64_3 dX10_allFactors_97 (hL 64 (by decide)) ?_
        refine t_getr hE f_X10_122 y_R_73_5 dX10_allFactors_100 (hL 73 (by decide)) ?_
        refine t_geti hE f_X10_176 y_I_78_2 dX10_allFactors_103 (hL 78 (by decide)) ?_
        refine r_top (y := (nI (q_n (D 78).1 2))) (by rw [sm.1 78 (by decide)]; exact hB.2.2.2.1.1.1) ?_
        refine r_icmp_geN (a := i) (b := (q_n (D 78).1 2)) (tgt := 181) hE dX10_allFactors_106 (by decide) (by omega) (by omega) (fun c106 => ?_) (fun c106 => ?_)
        · refine r_lload hE dX10_allFactors_181 rfl ?_
          refine r_aload_n hE dX10_allFactors_183 rfl ?_
          refine r_iload_n hE dX10_allFactors_184 rfl ?_
          refine r_iload_n hE dX10_allFactors_185 rfl ?_
          refine t_invv (r := (some (.long (lN (o_tr (fun t => decide (y_bit ((D8 87).1 (n9 * 5 + 3)) t)) (fun t => decide (y_bit ((D8 87).1 (n9 * 5 + 4)) t)) (k_spr D8 k) 1 (q_n (D8 82).1 2)))))) (S2 := (y_mk n L D8)) hE [.int (nI k), .int (nI n9)] (k_trapFactors (D := D8) (k := k) (n9 := n9) hL (k_BO_s (k_sB_k sm) hO) (by rw [sm.1 84 (by decide)]; exact hk) (by rw [sm.1 86 (by decide)]; exact hn)) v_yX10_trapFactors m_X10_341 dX10_allFactors_186 rfl (hL 64 (by decide)) (y_l_64 (D8 64)) rfl (by decide) ⟨Nat.le_refl _, Nat.le_refl _⟩ (Nat.le_of_ble_eq_true rfl) ?_
          show E 0 0 189 [(0, .ref 64), (1, .int (nI k)), (2, .int (nI n9)), (3, .int (nI (q_n (D 87).1 (n9 * 5 + 0)))), (4, .int ((D 87).1 (n9 * 5 + 2))), (5, .int ((D 85).1 (k * 3 + 1))), (6, .int (-1)), (7, .int 0), (8, .long (lN (o_th c (fun th => decide (y_bit ((D 87).1 (n9 * 5 + 2)) th)) i))), (10, .int (nI i))] [.long (lN (o_tr (fun t => decide (y_bit ((D8 87).1 (n9 * 5 + 3)) t)) (fun t => decide (y_bit ((D8 87).1 (n9 * 5 + 4)) t)) (k_spr D8 k) 1 (q_n (D8 82).1 2))), .long (lN (o_th c (fun th => decide (y_bit ((D 87).1 (n9 * 5 + 2)) th)) i))] (y_mk n L D8)
          refine r_topL (y := lN (o_tr (fun t => decide (y_bit ((D 87).1 (n9 * 5 + 3)) t)) (fun t => decide (y_bit ((D 87).1 (n9 * 5 + 4)) t)) (k_spr D k) 1 (q_n (D 82).1 2))) (by rw [sm.1 87 (by decide), sm.1 82 (by decide), k_spr_s (k_sB_k sm)]) ?_
          refine r_lmul hE dX10_allFactors_189 ?_
          refine r_topL (y := lN ((o_th c (fun th => decide (y_bit ((D 87).1 (n9 * 5 + 2)) th)) i) * (o_tr (fun t => decide (y_bit ((D 87).1 (n9 * 5 + 3)) t)) (fun t => decide (y_bit ((D 87).1 (n9 * 5 + 4)) t)) (k_spr D k) 1 (q_n (D 82).1 2)))) (lN_mul (o_th c (fun th => decide (y_bit ((D 87).1 (n9 * 5 + 2)) th)) i) (o_tr (fun t => decide (y_bit ((D 87).1 (n9 * 5 + 3)) t)) (fun t => decide (y_bit ((D 87).1 (n9 * 5 + 4)) t)) (k_spr D k) 1 (q_n (D 82).1 2))) ?_
          refine r_lreturn hE dX10_allFactors_190 rfl (Nat.zero_le _) (Nat.zero_le _) ?_
          rw [show i = (q_n (D 78).1 2) by omega] at hc ⊢
          exact ⟨_, _, rfl, rfl, ⟨sm, ci⟩, _, rfl, ⟨0, c, hhl, hc, rfl⟩⟩
        · refine r_aload_n hE dX10_allFactors_109 rfl ?_
          refine t_getr hE f_X10_35 y_R_64_6 dX10_allFactors_110 (hL 64 (by decide)) ?_
          refine r_iload_n hE dX10_allFactors_113 rfl ?_
          refine r_iload hE dX10_allFactors_114 rfl ?_
          refine r_iload hE dX10_allFactors_116 rfl ?_
          refine r_iload hE dX10_allFactors_118 rfl ?_
          refine t_invvRi hE [.int (nI (q_n (D 87).1 (n9 * 5 + 0))), .int ((D 85).1 (k * 3 + 1)), .int 0, .int (nI i)] (k_canEver0 (D := D8) (t := q_n (D 87).1 (n9 * 5 + 0)) (th := i) (u := ((D 85).1 (k * 3 + 1))) hV hL (k_B_same sm hB) ci (by rw [sm.1 73 (by decide)]; exact htr) (by omega)) v_yX1_canEver m_X10_212 dX10_allFactors_120 rfl (hL 151 (by decide)) (y_l_151 (D8 151)) rfl (by decide) ⟨Nat.le_refl _, Nat.le_refl _⟩ (Nat.le_of_ble_eq_true rfl) (fun v9 D9 q9 => ?_)
          obtain ⟨⟨sm9, ci9⟩, v8, h8, h7⟩ := q9
          rw [sm.1 73 (by decide)] at h8
          rw [sm.1 73 (by decide), sm.1 78 (by decide), k_sf_same sm hB] at h7
          have h8 := k_Ev_same (k_same_sym sm) (k_B_same sm hB) (by omega) h8
          show E 0 0 123 [(0, .ref 64), (1, .int (nI k)), (2, .int (nI n9)), (3, .int (nI (q_n (D 87).1 (n9 * 5 + 0)))), (4, .int ((D 87).1 (n9 * 5 + 2))), (5, .int ((D 85).1 (k * 3 + 1))), (6, .int (-1)), (7, .int 0), (8, .long (lN (o_th c (fun th => decide (y_bit ((D 87).1 (n9 * 5 + 2)) th)) i))), (10, .int (nI i))] [.int v9] (y_mk n L D9)
          refine r_if_eq (tgt := 153) hE dX10_allFactors_123 (by decide) (fun c123 => ?_) (fun c123 => ?_)
          · refine r_lload hE dX10_allFactors_153 rfl ?_
            refine r_iload hE dX10_allFactors_155 rfl ?_
            refine r_iload hE dX10_allFactors_157 rfl ?_
            refine t_invs (r := (some (.int (y_b (y_bit ((D 87).1 (n9 * 5 + 2)) i))))) (S2 := (y_mk n L D9)) hE [.int ((D 87).1 (n9 * 5 + 2)), .int (nI i)] (k_hasBit) s_yX10_hasBit m_X10_172 dX10_allFactors_159 rfl (by decide) ⟨Nat.le_refl _, Nat.le_refl _⟩ (Nat.le_of_ble_eq_true rfl) ?_
            show E 0 0 162 [(0, .ref 64), (1, .int (nI k)), (2, .int (nI n9)), (3, .int (nI (q_n (D 87).1 (n9 * 5 + 0)))), (4, .int ((D 87).1 (n9 * 5 + 2))), (5, .int ((D 85).1 (k * 3 + 1))), (6, .int (-1)), (7, .int 0), (8, .long (lN (o_th c (fun th => decide (y_bit ((D 87).1 (n9 * 5 + 2)) th)) i))), (10, .int (nI i))] [.int (y_b (y_bit ((D 87).1 (n9 * 5 + 2)) i)), .long (lN (o_th c (fun th => decide (y_bit ((D 87).1 (n9 * 5 + 2)) th)) i))] (y_mk n L D9)
            refine r_ifb_eq (tgt := 169) hE dX10_allFactors_162 (by decide) (fun c162 => ?_) (fun c162 => ?_)
            · refine r_ldc2 (v := 9) hE dX10_allFactors_169 (x_gin (List.mem_append_right _ (tb_5 _ (List.mem_of_getElem? (i := 149) rfl))) rfl) ?_
              refine r_lmul hE dX10_allFactors_172 ?_
              refine r_topL (y := lN ((o_th c (fun th => decide (y_bit ((D 87).1 (n9 * 5 + 2)) th)) i) * 9)) (lN_mul (o_th c (fun th => decide (y_bit ((D 87).1 (n9 * 5 + 2)) th)) i) 9) ?_
              refine r_lstore (ls2 := [(0, .ref 64), (1, .int (nI k)), (2, .int (nI n9)), (3, .int (nI (q_n (D 87).1 (n9 * 5 + 0)))), (4, .int ((D 87).1 (n9 * 5 + 2))), (5, .int ((D 85).1 (k * 3 + 1))), (6, .int (-1)), (7, .int 0), (8, .long (lN ((o_th c (fun th => decide (y_bit ((D 87).1 (n9 * 5 + 2)) th)) i) * 9))), (10, .int (nI i))]) hE dX10_allFactors_173 (by decide) rfl ?_
              refine r_iincN (a := i) (b := 1) (ls2 := [(0, .ref 64), (1, .int (nI k)), (2, .int (nI n9)), (3, .int (nI (q_n (D 87).1 (n9 * 5 + 0)))), (4, .int ((D 87).1 (n9 * 5 + 2))), (5, .int ((D 85).1 (k * 3 + 1))), (6, .int (-1)), (7, .int 0), (8, .long (lN ((o_th c (fun th => decide (y_bit ((D 87).1 (n9 * 5 + 2)) th)) i) * 9))), (10, .int (nI (i + 1)))]) hE dX10_allFactors_175 rfl rfl (by decide) rfl ?_
              refine r_goto (tgt := 94) hE dX10_allFactors_178 (by decide) ?_
              obtain ⟨c2, hc2⟩ : ∃ z : Nat → Bool, z = (fun th => if th = i then false else c th) := ⟨_, rfl⟩
              have e9 : o_th c2 (fun th => decide (y_bit ((D 87).1 (n9 * 5 + 2)) th)) (i + 1) = (o_th c (fun th => decide (y_bit ((D 87).1 (n9 * 5 + 2)) th)) i) * 9 := by
                show o_th c2 (fun th => decide (y_bit ((D 87).1 (n9 * 5 + 2)) th)) i * (if c2 i then (if (fun th => decide (y_bit ((D 87).1 (n9 * 5 + 2)) th)) i then 7 else 3) else (if (fun th => decide (y_bit ((D 87).1 (n9 * 5 + 2)) th)) i then 1 else 9)) = _
                rw [o_th_c (c2 := c) (fun j hj => by rw [hc2]; dsimp only; rw [if_neg (by omega)]), show c2 i = false by rw [hc2]; dsimp only; rw [if_pos rfl]]
                rw [if_neg (by decide)]
                rw [if_neg (fun q => c162 (of_decide_eq_true q))]
              refine r_locs hE (ls2 := [(0, .ref 64), (1, .int (nI k)), (2, .int (nI n9)), (3, .int (nI (q_n (D 87).1 (n9 * 5 + 0)))), (4, .int ((D 87).1 (n9 * 5 + 2))), (5, .int ((D 85).1 (k * 3 + 1))), (6, .int (-1)), (7, .int 0), (8, .long (lN (o_th c2 (fun th => decide (y_bit ((D 87).1 (n9 * 5 + 2)) th)) (i + 1)))), (10, .int (nI (i + 1)))]) ?_ (ih ((q_n (D 78).1 2) - (i + 1)) (by omega) (i + 1) c2 _ rfl (by omega) (k_same_t sm sm9) ci9 (fun th hth => ?_))
              · rw [e9]
                simp [x_lk]
              · rw [hc2]
                dsimp only
                by_cases q : th = i
                · rw [if_pos q, q]
                  exact ⟨v8, h8, ⟨fun q => absurd q (by decide), fun q => absurd q ((y_is_0 h7).mp c123)⟩⟩
                · rw [if_neg q]
                  exact hc th (by omega)
            · refine r_lconst (v := 1) hE dX10_allFactors_165 (by decide) ?_
              refine r_goto (tgt := 172) hE dX10_allFactors_166 (by decide) ?_
              refine r_lmul hE dX10_allFactors_172 ?_
              refine r_topL (y := lN ((o_th c (fun th => decide (y_bit ((D 87).1 (n9 * 5 + 2)) th)) i) * 1)) (lN_mul (o_th c (fun th => decide (y_bit ((D 87).1 (n9 * 5 + 2)) th)) i) 1) ?_
              refine r_lstore (ls2 := [(0, .ref 64), (1, .int (nI k)), (2, .int (nI n9)), (3, .int (nI (q_n (D 87).1 (n9 * 5 + 0)))), (4, .int ((D 87).1 (n9 * 5 + 2))), (5, .int ((D 85).1 (k * 3 + 1))), (6, .int (-1)), (7, .int 0), (8, .long (lN ((o_th c (fun th => decide (y_bit ((D 87).1 (n9 * 5 + 2)) th)) i) * 1))), (10, .int (nI i))]) hE dX10_allFactors_173 (by decide) rfl ?_
              refine r_iincN (a := i) (b := 1) (ls2 := [(0, .ref 64), (1, .int (nI k)), (2, .int (nI n9)), (3, .int (nI (q_n (D 87).1 (n9 * 5 + 0)))), (4, .int ((D 87).1 (n9 * 5 + 2))), (5, .int ((D 85).1 (k * 3 + 1))), (6, .int (-1)), (7, .int 0), (8, .long (lN ((o_th c (fun th => decide (y_bit ((D 87).1 (n9 * 5 + 2)) th)) i) * 1))), (10, .int (nI (i + 1)))]) hE dX10_allFactors_175 rfl rfl (by decide) rfl ?_
              refine r_goto (tgt := 94) hE dX10_allFactors_178 (by decide) ?_
              obtain ⟨c2, hc2⟩ : ∃ z : Nat → Bool, z = (fun th => if th = i then false else c th) := ⟨_, rfl⟩
              have e9 : o_th c2 (fun th => decide (y_bit ((D 87).1 (n9 * 5 + 2)) th)) (i + 1) = (o_th c (fun th => decide (y_bit ((D 87).1 (n9 * 5 + 2)) th)) i) * 1 := by
                show o_th c2 (fun th => decide (y_bit ((D 87).1 (n9 * 5 + 2)) th)) i * (if c2 i then (if (fun th => decide (y_bit ((D 87).1 (n9 * 5 + 2)) th)) i then 7 else 3) else (if (fun th => decide (y_bit ((D 87).1 (n9 * 5 + 2)) th)) i then 1 else 9)) = _
                rw [o_th_c (c2 := c) (fun j hj => by rw [hc2]; dsimp only; rw [if_neg (by omega)]), show c2 i = false by rw [hc2]; dsimp only; rw [if_pos rfl]]
                rw [if_neg (by decide)]
                rw [if_pos (decide_eq_true c162)]
              refine r_locs hE (ls2 := [(0, .ref 64), (1, .int (nI k)), (2, .int (nI n9)), (3, .int (nI (q_n (D 87).1 (n9 * 5 + 0)))), (4, .int ((D 87).1 (n9 * 5 + 2))), (5, .int ((D 85).1 (k * 3 + 1))), (6, .int (-1)), (7, .int 0), (8, .long (lN (o_th c2 (fun th => decide (y_bit ((D 87).1 (n9 * 5 + 2)) th)) (i + 1)))), (10, .int (nI (i + 1)))]) ?_ (ih ((q_n (D 78).1 2) - (i + 1)) (by omega) (i + 1) c2 _ rfl (by omega) (k_same_t sm sm9) ci9 (fun th hth => ?_))
              · rw [e9]
                simp [x_lk]
              · rw [hc2]
                dsimp only
                by_cases q : th = i
                · rw [if_pos q, q]
                  exact ⟨v8, h8, ⟨fun q => absurd q (by decide), fun q => absurd q ((y_is_0 h7).mp c123)⟩⟩
                · rw [if_neg q]
                  exact hc th (by omega)
          · refine r_lload hE dX10_allFactors_126 rfl ?_
            refine r_iload hE dX10_allFactors_128 rfl ?_
            refine r_iload hE dX10_allFactors_130 rfl ?_
            refine t_invs (r := (some (.int (y_b (y_bit ((D 87).1 (n9 * 5 + 2)) i))))) (S2 := (y_mk n L D9)) hE [.int ((D 87).1 (n9 * 5 + 2)), .int (nI i)] (k_hasBit) s_yX10_hasBit m_X10_172 dX10_allFactors_132 rfl (by decide) ⟨Nat.le_refl _, Nat.le_refl _⟩ (Nat.le_of_ble_eq_true rfl) ?_
            show E 0 0 135 [(0, .ref 64), (1, .int (nI k)), (2, .int (nI n9)), (3, .int (nI (q_n (D 87).1 (n9 * 5 + 0)))), (4, .int ((D 87).1 (n9 * 5 + 2))), (5, .int ((D 85).1 (k * 3 + 1))), (6, .int (-1)), (7, .int 0), (8, .long (lN (o_th c (fun th => decide (y_bit ((D 87).1 (n9 * 5 + 2)) th)) i))), (10, .int (nI i))] [.int (y_b (y_bit ((D 87).1 (n9 * 5 + 2)) i)), .long (lN (o_th c (fun th => decide (y_bit ((D 87).1 (n9 * 5 + 2)) th)) i))] (y_mk n L D9)
            refine r_ifb_eq (tgt := 144) hE dX10_allFactors_135 (by decide) (fun c135 => ?_) (fun c135 => ?_)
            · refine r_ldc2 (v := 3) hE dX10_allFactors_144 (x_gin (List.mem_append_right _ (tb_5 _ (List.mem_of_getElem? (i := 148) rfl))) rfl) ?_
              refine r_lmul hE dX10_allFactors_147 ?_
              refine r_topL (y := lN ((o_th c (fun th => decide (y_bit ((D 87).1 (n9 * 5 + 2)) th)) i) * 3)) (lN_mul (o_th c (fun th => decide (y_bit ((D 87).1 (n9 * 5 + 2)) th)) i) 3) ?_
              refine r_lstore (ls2 := [(0, .ref 64), (1, .int (nI k)), (2, .int (nI n9)), (3, .int (nI (q_n (D 87).1 (n9 * 5 + 0)))), (4, .int ((D 87).1 (n9 * 5 + 2))), (5, .int ((D 85).1 (k * 3 + 1))), (6, .int (-1)), (7, .int 0), (8, .long (lN ((o_th c (fun th => decide (y_bit ((D 87).1 (n9 * 5 + 2)) th)) i) * 3))), (10, .int (nI i))]) hE dX10_allFactors_148 (by decide) rfl ?_
              refine r_goto (tgt := 175) hE dX10_allFactors_150 (by decide) ?_
              refine r_iincN (a := i) (b := 1) (ls2 := [(0, .ref 64), (1, .int (nI k)), (2, .int (nI n9)), (3, .int (nI (q_n (D 87).1 (n9 * 5 + 0)))), (4, .int ((D 87).1 (n9 * 5 + 2))), (5, .int ((D 85).1 (k * 3 + 1))), (6, .int (-1)), (7, .int 0), (8, .long (lN ((o_th c (fun th => decide (y_bit ((D 87).1 (n9 * 5 + 2)) th)) i) * 3))), (10, .int (nI (i + 1)))]) hE dX10_allFactors_175 rfl rfl (by decide) rfl ?_
              refine r_goto (tgt := 94) hE dX10_allFactors_178 (by decide) ?_
              obtain ⟨c2, hc2⟩ : ∃ z : Nat → Bool, z = (fun th => if th = i then true else c th) := ⟨_, rfl⟩
              have e9 : o_th c2 (fun th => decide (y_bit ((D 87).1 (n9 * 5 + 2)) th)) (i + 1) = (o_th c (fun th => decide (y_bit ((D 87).1 (n9 * 5 + 2)) th)) i) * 3 := by
                show o_th c2 (fun th => decide (y_bit ((D 87).1 (n9 * 5 + 2)) th)) i * (if c2 i then (if (fun th => decide (y_bit ((D 87).1 (n9 * 5 + 2)) th)) i then 7 else 3) else (if (fun th => decide (y_bit ((D 87).1 (n9 * 5 + 2)) th)) i then 1 else 9)) = _
                rw [o_th_c (c2 := c) (fun j hj => by rw [hc2]; dsimp only; rw [if_neg (by omega)]), show c2 i = true by rw [hc2]; dsimp only; rw [if_pos rfl]]
                rw [if_pos rfl]
                rw [if_neg (fun q => c135 (of_decide_eq_true q))]
              refine r_locs hE (ls2 := [(0, .ref 64), (1, .int (nI k)), (2, .int (nI n9)), (3, .int (nI (q_n (D 87).1 (n9 * 5 + 0)))), (4, .int ((D 87).1 (n9 * 5 + 2))), (5, .int ((D 85).1 (k * 3 + 1))), (6, .int (-1)), (7, .int 0), (8, .long (lN (o_th c2 (fun th => decide (y_bit ((D 87).1 (n9 * 5 + 2)) th)) (i + 1)))), (10, .int (nI (i + 1)))]) ?_ (ih ((q_n (D 78).1 2) - (i + 1)) (by omega) (i + 1) c2 _ rfl (by omega) (k_same_t sm sm9) ci9 (fun th hth => ?_))
              · rw [e9]
                simp [x_lk]
              · rw [hc2]
                dsimp only
                by_cases q : th = i
                · rw [if_pos q, q]
                  exact ⟨v8, h8, ⟨fun _ => Classical.not_not.mp (fun q => c123 ((y_is_0 h7).mpr q)), fun _ => rfl⟩⟩
                · rw [if_neg q]
                  exact hc th (by omega)
            · refine r_ldc2 (v := 7) hE dX10_allFactors_138 (x_gin (List.mem_append_right _ (tb_5 _ (List.mem_of_getElem? (i := 147) rfl))) rfl) ?_
              refine r_goto (tgt := 147) hE dX10_allFactors_141 (by decide) ?_
              refine r_lmul hE dX10_allFactors_147 ?_
              refine r_topL (y := lN ((o_th c (fun th => decide (y_bit ((D 87).1 (n9 * 5 + 2)) th)) i) * 7)) (lN_mul (o_th c (fun th => decide (y_bit ((D 87).1 (n9 * 5 + 2)) th)) i) 7) ?_
              refine r_lstore (ls2 := [(0, .ref 64), (1, .int (nI k)), (2, .int (nI n9)), (3, .int (nI (q_n (D 87).1 (n9 * 5 + 0)))), (4, .int ((D 87).1 (n9 * 5 + 2))), (5, .int ((D 85).1 (k * 3 + 1))), (6, .int (-1)), (7, .int 0), (8, .long (lN ((o_th c (fun th => decide (y_bit ((D 87).1 (n9 * 5 + 2)) th)) i) * 7))), (10, .int (nI i))]) hE dX10_allFactors_148 (by decide) rfl ?_
              refine r_goto (tgt := 175) hE dX10_allFactors_150 (by decide) ?_
              refine r_iincN (a := i) (b := 1) (ls2 := [(0, .ref 64), (1, .int (nI k)), (2, .int (nI n9)), (3, .int (nI (q_n (D 87).1 (n9 * 5 + 0)))), (4, .int ((D 87).1 (n9 * 5 + 2))), (5, .int ((D 85).1 (k * 3 + 1))), (6, .int (-1)), (7, .int 0), (8, .long (lN ((o_th c (fun th => decide (y_bit ((D 87).1 (n9 * 5 + 2)) th)) i) * 7))), (10, .int (nI (i + 1)))]) hE dX10_allFactors_175 rfl rfl (by decide) rfl ?_
              refine r_goto (tgt := 94) hE dX10_allFactors_178 (by decide) ?_
              obtain ⟨c2, hc2⟩ : ∃ z : Nat → Bool, z = (fun th => if th = i then true else c th) := ⟨_, rfl⟩
              have e9 : o_th c2 (fun th => decide (y_bit ((D 87).1 (n9 * 5 + 2)) th)) (i + 1) = (o_th c (fun th => decide (y_bit ((D 87).1 (n9 * 5 + 2)) th)) i) * 7 := by
                show o_th c2 (fun th => decide (y_bit ((D 87).1 (n9 * 5 + 2)) th)) i * (if c2 i then (if (fun th => decide (y_bit ((D 87).1 (n9 * 5 + 2)) th)) i then 7 else 3) else (if (fun th => decide (y_bit ((D 87).1 (n9 * 5 + 2)) th)) i then 1 else 9)) = _
                rw [o_th_c (c2 := c) (fun j hj => by rw [hc2]; dsimp only; rw [if_neg (by omega)]), show c2 i = true by rw [hc2]; dsimp only; rw [if_pos rfl]]
                rw [if_pos rfl]
                rw [if_pos (decide_eq_true c135)]
              refine r_locs hE (ls2 := [(0, .ref 64), (1, .int (nI k)), (2, .int (nI n9)), (3, .int (nI (q_n (D 87).1 (n9 * 5 + 0)))), (4, .int ((D 87).1 (n9 * 5 + 2))), (5, .int ((D 85).1 (k * 3 + 1))), (6, .int (-1)), (7, .int 0), (8, .long (lN (o_th c2 (fun th => decide (y_bit ((D 87).1 (n9 * 5 + 2)) th)) (i + 1)))), (10, .int (nI (i + 1)))]) ?_ (ih ((q_n (D 78).1 2) - (i + 1)) (by omega) (i + 1) c2 _ rfl (by omega) (k_same_t sm sm9) ci9 (fun th hth => ?_))
              · rw [e9]
                simp [x_lk]
              · rw [hc2]
                dsimp only
                by_cases q : th = i
                · rw [if_pos q, q]
                  exact ⟨v8, h8, ⟨fun _ => Classical.not_not.mp (fun q => c123 ((y_is_0 h7).mpr q)), fun _ => rfl⟩⟩
                · rw [if_neg q]
                  exact hc th (by omega)
    exact l1 0 (fun _ => false) _ (by omega) k_same_r hCI (fun th hth => absurd hth (by omega))
  · have hh7 : q_n (D 85).1 (k * 3 + 2) ≤ 7 := hh.2
    refine r_aload_n hE dX10_allFactors_0 rfl ?_
    refine t_getr hE f_X10_23 y_R_64_3 dX10_allFactors_1 (hL 64 (by decide)) ?_
    refine t_getr hE f_X10_225 y_R_73_9 dX10_allFactors_4 (hL 73 (by decide)) ?_
    refine r_iload_n hE dX10_allFactors_7 rfl ?_
    refine r_iconst (v := 0) hE dX10_allFactors_8 (by decide) ?_
    refine t_invv (r := (some (.int (if n9 < (q_n (D 86).1 2) ∧ 0 < 5 then (D 87).1 (n9 * 5 + 0) else 0)))) (S2 := (y_mk n L D)) hE [.int (nI n9), .int 0] (k_get (D := D) (k := (q_n (D 86).1 2)) (wd := 5) y_T_86 (hL 86 (by decide)) (hL 87 (by decide)) hO.2.2.1.1.1 hO.2.2.1.2 (by have := hO.2.2.1.1.2; omega) (by decide) (by decide) (r := n9) (c := 0) (by omega) (by decide) (by have := hO.2.2.1.1.2; omega)) v_yX7_get m_X10_246 dX10_allFactors_9 rfl (hL 86 (by decide)) (y_l_86 (D 86)) rfl (by decide) ⟨Nat.le_refl _, Nat.le_refl _⟩ (Nat.le_of_ble_eq_true rfl) ?_
    show E 0 0 12 [(0, .ref 64), (1, .int (nI k)), (2, .int (nI n9))] [.int (if n9 < (q_n (D 86).1 2) ∧ 0 < 5 then (D 87).1 (n9 * 5 + 0) else 0)] (y_mk n L D)
    refine r_top (y := (nI (q_n (D 87).1 (n9 * 5 + 0)))) (by rw [if_pos ⟨by omega, by decide⟩]; exact (hO.2.2.2.2.2 n9 hn).1) ?_
    refine r_istore_n (ls2 := [(0, .ref 64), (1, .int (nI k)), (2, .int (nI n9)), (3, .int (nI (q_n (D 87).1 (n9 * 5 + 0))))]) hE dX10_allFactors_12 (by decide) rfl ?_
    refine r_aload_n hE dX10_allFactors_13 rfl ?_
    refine t_getr hE f_X10_23 y_R_64_3 dX10_allFactors_14 (hL 64 (by decide)) ?_
    refine t_getr hE f_X10_225 y_R_73_9 dX10_allFactors_17 (hL 73 (by decide)) ?_
    refine r_iload_n hE dX10_allFactors_20 rfl ?_
    refine r_iconst (v := 2) hE dX10_allFactors_21 (by decide) ?_
    refine t_invv (r := (some (.int (if n9 < (q_n (D 86).1 2) ∧ 2 < 5 then (D 87).1 (n9 * 5 + 2) else 0)))) (S2 := (y_mk n L D)) hE [.int (nI n9), .int 2] (k_get (D := D) (k := (q_n (D 86).1 2)) (wd := 5) y_T_86 (hL 86 (by decide)) (hL 87 (by decide)) hO.2.2.1.1.1 hO.2.2.1.2 (by have := hO.2.2.1.1.2; omega) (by decide) (by decide) (r := n9) (c := 2) (by omega) (by decide) (by have := hO.2.2.1.1.2; omega)) v_yX7_get m_X10_246 dX10_allFactors_22 rfl (hL 86 (by decide)) (y_l_86 (D 86)) rfl (by decide) ⟨Nat.le_refl _, Nat.le_refl _⟩ (Nat.le_of_ble_eq_true rfl) ?_
    show E 0 0 25 [(0, .ref 64), (1, .int (nI k)), (2, .int (nI n9)), (3, .int (nI (q_n (D 87).1 (n9 * 5 + 0))))] [.int (if n9 < (q_n (D 86).1 2) ∧ 2 < 5 then (D 87).1 (n9 * 5 + 2) else 0)] (y_mk n L D)
    refine r_top (y := ((D 87).1 (n9 * 5 + 2))) (by rw [if_pos ⟨by omega, by decide⟩]) ?_
    refine r_istore (ls2 := [(0, .ref 64), (1, .int (nI k)), (2, .int (nI n9)), (3, .int (nI (q_n (D 87).1 (n9 * 5 + 0)))), (4, .int ((D 87).1 (n9 * 5 + 2)))]) hE dX10_allFactors_25 (by decide) rfl ?_
    refine r_aload_n hE dX10_allFactors_27 rfl ?_
    refine t_getr hE f_X10_23 y_R_64_3 dX10_allFactors_28 (hL 64 (by decide)) ?_
    refine t_getr hE f_X10_219 y_R_73_8 dX10_allFactors_31 (hL 73 (by decide)) ?_
    refine r_iload_n hE dX10_allFactors_34 rfl ?_
    refine r_iconst (v := 1) hE dX10_allFactors_35 (by decide) ?_
    refine t_invv (r := (some (.int (if k < (q_n (D 84).1 2) ∧ 1 < 3 then (D 85).1 (k * 3 + 1) else 0)))) (S2 := (y_mk n L D)) hE [.int (nI k), .int 1] (k_get (D := D) (k := (q_n (D 84).1 2)) (wd := 3) y_T_84 (hL 84 (by decide)) (hL 85 (by decide)) hO.2.1.1.1 hO.2.1.2 (by have := hO.2.1.1.2; omega) (by decide) (by decide) (r := k) (c := 1) (by omega) (by decide) (by have := hO.2.1.1.2; omega)) v_yX7_get m_X10_246 dX10_allFactors_36 rfl (hL 84 (by decide)) (y_l_84 (D 84)) rfl (by decide) ⟨Nat.le_refl _, Nat.le_refl _⟩ (Nat.le_of_ble_eq_true rfl) ?_
    show E 0 0 39 [(0, .ref 64), (1, .int (nI k)), (2, .int (nI n9)), (3, .int (nI (q_n (D 87).1 (n9 * 5 + 0)))), (4, .int ((D 87).1 (n9 * 5 + 2)))] [.int (if k < (q_n (D 84).1 2) ∧ 1 < 3 then (D 85).1 (k * 3 + 1) else 0)] (y_mk n L D)
    refine r_top (y := ((D 85).1 (k * 3 + 1))) (by rw [if_pos ⟨by omega, by decide⟩]) ?_
    refine r_istore (ls2 := [(0, .ref 64), (1, .int (nI k)), (2, .int (nI n9)), (3, .int (nI (q_n (D 87).1 (n9 * 5 + 0)))), (4, .int ((D 87).1 (n9 * 5 + 2))), (5, .int ((D 85).1 (k * 3 + 1)))]) hE dX10_allFactors_39 (by decide) rfl ?_
    refine r_aload_n hE dX10_allFactors_41 rfl ?_
    refine t_getr hE f_X10_23 y_R_64_3 dX10_allFactors_42 (hL 64 (by decide)) ?_
    refine t_getr hE f_X10_219 y_R_73_8 dX10_allFactors_45 (hL 73 (by decide)) ?_
    refine r_iload_n hE dX10_allFactors_48 rfl ?_
    refine r_iconst (v := 2) hE dX10_allFactors_49 (by decide) ?_
    refine t_invv (r := (some (.int (if k < (q_n (D 84).1 2) ∧ 2 < 3 then (D 85).1 (k * 3 + 2) else 0)))) (S2 := (y_mk n L D)) hE [.int (nI k), .int 2] (k_get (D := D) (k := (q_n (D 84).1 2)) (wd := 3) y_T_84 (hL 84 (by decide)) (hL 85 (by decide)) hO.2.1.1.1 hO.2.1.2 (by have := hO.2.1.1.2; omega) (by decide) (by decide) (r := k) (c := 2) (by omega) (by decide) (by have := hO.2.1.1.2; omega)) v_yX7_get m_X10_246 dX10_allFactors_50 rfl (hL 84 (by decide)) (y_l_84 (D 84)) rfl (by decide) ⟨Nat.le_refl _, Nat.le_refl _⟩ (Nat.le_of_ble_eq_true rfl) ?_
    show E 0 0 53 [(0, .ref 64), (1, .int (nI k)), (2, .int (nI n9)), (3, .int (nI (q_n (D 87).1 (n9 * 5 + 0)))), (4, .int ((D 87).1 (n9 * 5 + 2))), (5, .int ((D 85).1 (k * 3 + 1)))] [.int (if k < (q_n (D 84).1 2) ∧ 2 < 3 then (D 85).1 (k * 3 + 2) else 0)] (y_mk n L D)
    refine r_top (y := (nI (q_n (D 85).1 (k * 3 + 2)))) (by rw [if_pos ⟨by omega, by decide⟩]; exact hh.1) ?_
    refine r_istore (ls2 := [(0, .ref 64), (1, .int (nI k)), (2, .int (nI n9)), (3, .int (nI (q_n (D 87).1 (n9 * 5 + 0)))), (4, .int ((D 87).1 (n9 * 5 + 2))), (5, .int ((D 85).1 (k * 3 + 1))), (6, .int (nI (q_n (D 85).1 (k * 3 + 2))))]) hE dX10_allFactors_53 (by decide) rfl ?_
    refine r_iload hE dX10_allFactors_55 rfl ?_
    refine r_iconst (v := (-1)) hE dX10_allFactors_57 (by decide) ?_
    refine r_icmp_eq (tgt := 85) hE dX10_allFactors_58 (by decide) (fun c58 => ?_) (fun c58 => ?_)
    · refine r_iconst (v := 0) hE dX10_allFactors_85 (by decide) ?_
      refine r_istore (ls2 := [(0, .ref 64), (1, .int (nI k)), (2, .int (nI n9)), (3, .int (nI (q_n (D 87).1 (n9 * 5 + 0)))), (4, .int ((D 87).1 (n9 * 5 + 2))), (5, .int ((D 85).1 (k * 3 + 1))), (6, .int (nI (q_n (D 85).1 (k * 3 + 2)))), (7, .int 0)]) hE dX10_allFactors_86 (by decide) rfl ?_
      refine r_lconst (v := 1) hE dX10_allFactors_88 (by decide) ?_
      refine r_lstore (ls2 := [(0, .ref 64), (1, .int (nI k)), (2, .int (nI n9)), (3, .int (nI (q_n (D 87).1 (n9 * 5 + 0)))), (4, .int ((D 87).1 (n9 * 5 + 2))), (5, .int ((D 85).1 (k * 3 + 1))), (6, .int (nI (q_n (D 85).1 (k * 3 + 2)))), (7, .int 0), (8, .long 1)]) hE dX10_allFactors_89 (by decide) rfl ?_
      refine r_iconst (v := 0) hE dX10_allFactors_91 (by decide) ?_
      refine r_istore (ls2 := [(0, .ref 64), (1, .int (nI k)), (2, .int (nI n9)), (3, .int (nI (q_n (D 87).1 (n9 * 5 + 0)))), (4, .int ((D 87).1 (n9 * 5 + 2))), (5, .int ((D 85).1 (k * 3 + 1))), (6, .int (nI (q_n (D 85).1 (k * 3 + 2)))), (7, .int 0), (8, .long 1), (10, .int 0)]) hE dX10_allFactors_92 (by decide) rfl ?_
      have hhl : (0 = 1 ∧ k_hp D k n9) ∨ (0 = 0 ∧ ¬ k_hp D k n9) := Or.inr ⟨rfl, fun q => by first | exact c78 q.2 | exact nI_pos (n := q_n (D 85).1 (k * 3 + 2)) (by omega) (by rw [c58]; decide)⟩
      have l1 : ∀ (i : Nat) (c : Nat → Bool) (D8 : y_D), i ≤ (q_n (D 78).1 2) → k_same D D8 → k_CI D8 → (∀ th, th < i → ∃ v, k_Ev D (q_n (D 87).1 (n9 * 5 + 0)) (k_us D k) (nI 0) v ∧ (c th = true ↔ v &&& K_setsFor D (q_n (D 78).1 2) th (q_n (D 73).1 4) (k_us D k) ≠ 0)) → E 0 0 94 [(0, .ref 64), (1, .int (nI k)), (2, .int (nI n9)), (3, .int (nI (q_n (D 87).1 (n9 * 5 + 0)))), (4, .int ((D 87).1 (n9 * 5 + 2))), (5, .int ((D 85).1 (k * 3 + 1))), (6, .int (nI (q_n (D 85).1 (k * 3 + 2)))), (7, .int 0), (8, .long (lN (o_th c (fun th => decide (y_bit ((D 87).1 (n9 * 5 + 2)) th)) i))), (10, .int (nI i))] [] (y_mk n L D8) := by
        intro i c D8
        induction hm9 : ((q_n (D 78).1 2) - i) using Nat.strongRecOn generalizing i c D8 with
        | _ m9 ih =>
          intro hi sm ci hc
          subst hm9
          refine r_iload hE dX10_allFactors_94 rfl ?_
          refine r_aload_n hE dX10_allFactors_96 rfl ?_
          refine t_getr hE f_X10_23 y_R_64_3 dX10_allFactors_97 (hL 64 (by decide)) ?_
          refine t_getr hE f_X10_122 y_R_73_5 dX10_allFactors_100 (hL 73 (by decide)) ?_
          refine t_geti hE f_X10_176 y_I_78_2 dX10_allFactors_103 (hL 78 (by decide)) ?_
          refine r_top (y := (nI (q_n (D 78).1 2))) (by rw [sm.1 78 (by decide)]; exact hB.2.2.2.1.1.1) ?_
          refine r_icmp_geN (a := i) (b := (q_n (D 78).1 2)) (tgt := 181) hE dX10_allFactors_106 (by decide) (by omega) (by omega) (fun c106 => ?_) (fun c106 => ?_)
          · refine r_lload hE dX10_allFactors_181 rfl ?_
            refine r_aload_n hE dX10_allFactors_183 rfl ?_
            refine r_iload_n hE dX10_allFactors_184 rfl ?_
            refine r_iload_n hE dX10_allFactors_185 rfl ?_
            refine t_invv (r := (some (.long (lN (o_tr (fun t => decide (y_bit ((D8 87).1 (n9 * 5 + 3)) t)) (fun t => decide (y_bit ((D8 87).1 (n9 * 5 + 4)) t)) (k_spr D8 k) 1 (q_n (D8 82).1 2)))))) (S2 := (y_mk n L D8)) hE [.int (nI k), .int (nI n9)] (k_trapFactors (D := D8) (k := k) (n9 := n9) hL (k_BO_s (k_sB_k sm) hO) (by rw [sm.1 84 (by decide)]; exact hk) (by rw [sm.1 86 (by decide)]; exact hn)) v_yX10_trapFactors m_X10_341 dX10_allFactors_186 rfl (hL 64 (by decide)) (y_l_64 (D8 64)) rfl (by decide) ⟨Nat.le_refl _, Nat.le_refl _⟩ (Nat.le_of_ble_eq_true rfl) ?_
            show E 0 0 189 [(0, .ref 64), (1, .int (nI k)), (2, .int (nI n9)), (3, .int (nI (q_n (D 87).1 (n9 * 5 + 0)))), (4, .int ((D 87).1 (n9 * 5 + 2))), (5, .int ((D 85).1 (k * 3 + 1))), (6, .int (nI (q_n (D 85).1 (k * 3 + 2)))), (7, .int 0), (8, .long (lN (o_th c (fun th => decide (y_bit ((D 87).1 (n9 * 5 + 2)) th)) i))), (10, .int (nI i))] [.long (lN (o_tr (fun t => decide (y_bit ((D8 87).1 (n9 * 5 + 3)) t)) (fun t => decide (y_bit ((D8 87).1 (n9 * 5 + 4)) t)) (k_spr D8 k) 1 (q_n (D8 82).1 2))), .long (lN (o_th c (fun th => decide (y_bit ((D 87).1 (n9 * 5 + 2)) th)) i))] (y_mk n L D8)
            refine r_topL (y := lN (o_tr (fun t => decide (y_bit ((D 87).1 (n9 * 5 + 3)) t)) (fun t => decide (y_bit ((D 87).1 (n9 * 5 + 4)) t)) (k_spr D k) 1 (q_n (D 82).1 2))) (by rw [sm.1 87 (by decide), sm.1 82 (by decide), k_spr_s (k_sB_k sm)]) ?_
            refine r_lmul hE dX10_allFactors_189 ?_
            refine r_topL (y := lN ((o_th c (fun th => decide (y_bit ((D 87).1 (n9 * 5 + 2)) th)) i) * (o_tr (fun t => decide (y_bit ((D 87).1 (n9 * 5 + 3)) t)) (fun t => decide (y_bit ((D 87).1 (n9 * 5 + 4)) t)) (k_spr D k) 1 (q_n (D 82).1 2)))) (lN_mul (o_th c (fun th => decide (y_bit ((D 87).1 (n9 * 5 + 2)) th)) i) (o_tr (fun t => decide (y_bit ((D 87).1 (n9 * 5 + 3)) t)) (fun t => decide (y_bit ((D 87).1 (n9 * 5 + 4)) t)) (k_spr D k) 1 (q_n (D 82).1 2))) ?_
            refine r_lreturn hE dX10_allFactors_190 rfl (Nat.zero_le _) (Nat.zero_le _) ?_
            rw [show i = (q_n (D 78).1 2) by omega] at hc ⊢
            exact ⟨_, _, rfl, rfl, ⟨sm, ci⟩, _, rfl, ⟨0, c, hhl, hc, rfl⟩⟩
          · refine r_aload_n hE dX10_allFactors_109 rfl ?_
            refine t_getr hE f_X10_35 y_R_64_6 dX10_allFactors_110 (hL 64 (by decide)) ?_
            refine r_iload_n hE dX10_allFactors_113 rfl ?_
            refine r_iload hE dX10_allFactors_114 rfl ?_
            refine r_iload hE dX10_allFactors_116 rfl ?_
            refine r_iload hE dX10_allFactors_118 rfl ?_
            refine t_invvRi hE [.int (nI (q_n (D 87).1 (n9 * 5 + 0))), .int ((D 85).1 (k * 3 + 1)), .int 0, .int (nI i)] (k_canEver0 (D := D8) (t := q_n (D 87).1 (n9 * 5 + 0)) (th := i) (u := ((D 85).1 (k * 3 + 1))) hV hL (k_B_same sm hB) ci (by rw [sm.1 73 (by decide)]; exact htr) (by omega)) v_yX1_canEver m_X10_212 dX10_allFactors_120 rfl (hL 151 (by decide)) (y_l_151 (D8 151)) rfl (by decide) ⟨Nat.le_refl _, Nat.le_refl _⟩ (Nat.le_of_ble_eq_true rfl) (fun v9 D9 q9 => ?_)
            obtain ⟨⟨sm9, ci9⟩, v8, h8, h7⟩ := q9
            rw [sm.1 73 (by decide)] at h8
            rw [sm.1 73 (by decide), sm.1 78 (by decide), k_sf_same sm hB] at h7
            have h8 := k_Ev_same (k_same_sym sm) (k_B_same sm hB) (by omega) h8
            show E 0 0 123 [(0, .ref 64), (1, .int (nI k)), (2, .int (nI n9)), (3, .int (nI (q_n (D 87).1 (n9 * 5 + 0)))), (4, .int ((D 87).1 (n9 * 5 + 2))), (5, .int ((D 85).1 (k * 3 + 1))), (6, .int (nI (q_n (D 85).1 (k * 3 + 2)))), (7, .int 0), (8, .long (lN (o_th c (fun th => decide (y_bit ((D 87).1 (n9 * 5 + 2)) th)) i))), (10, .int (nI i))] [.int v9] (y_mk n L D9)
            refine r_if_eq (tgt := 153) hE dX10_allFactors_123 (by decide) (fun c123 => ?_) (fun c123 => ?_)
            · refine r_lload hE dX10_allFactors_153 rfl ?_
              refine r_iload hE dX10_allFactors_155 rfl ?_
              refine r_iload hE dX10_allFactors_157 rfl ?_
              refine t_invs (r := (some (.int (y_b (y_bit ((D 87).1 (n9 * 5 + 2)) i))))) (S2 := (y_mk n L D9)) hE [.int ((D 87).1 (n9 * 5 + 2)), .int (nI i)] (k_hasBit) s_yX10_hasBit m_X10_172 dX10_allFactors_159 rfl (by decide) ⟨Nat.le_refl _, Nat.le_refl _⟩ (Nat.le_of_ble_eq_true rfl) ?_
              show E 0 0 162 [(0, .ref 64), (1, .int (nI k)), (2, .int (nI n9)), (3, .int (nI (q_n (D 87).1 (n9 * 5 + 0)))), (4, .int ((D 87).1 (n9 * 5 + 2))), (5, .int ((D 85).1 (k * 3 + 1))), (6, .int (nI (q_n (D 85).1 (k * 3 + 2)))), (7, .int 0), (8, .long (lN (o_th c (fun th => decide (y_bit ((D 87).1 (n9 * 5 + 2)) th)) i))), (10, .int (nI i))] [.int (y_b (y_bit ((D 87).1 (n9 * 5 + 2)) i)), .long (lN (o_th c (fun th => decide (y_bit ((D 87).1 (n9 * 5 + 2)) th)) i))] (y_mk n L D9)
              refine r_ifb_eq (tgt := 169) hE dX10_allFactors_162 (by decide) (fun c162 => ?_) (fun c162 => ?_)
              · refine r_ldc2 (v := 9) hE dX10_allFactors_169 (x_gin (List.mem_append_right _ (tb_5 _ (List.mem_of_getElem? (i := 149) rfl))) rfl) ?_
                refine r_lmul hE dX10_allFactors_172 ?_
                refine r_topL (y := lN ((o_th c (fun th => decide (y_bit ((D 87).1 (n9 * 5 + 2)) th)) i) * 9)) (lN_mul (o_th c (fun th => decide (y_bit ((D 87).1 (n9 * 5 + 2)) th)) i) 9) ?_
                refine r_lstore (ls2 := [(0, .ref 64), (1, .int (nI k)), (2, .int (nI n9)), (3, .int (nI (q_n (D 87).1 (n9 * 5 + 0)))), (4, .int ((D 87).1 (n9 * 5 + 2))), (5, .int ((D 85).1 (k * 3 + 1))), (6, .int (nI (q_n (D 85).1 (k * 3 + 2)))), (7, .int 0), (8, .long (lN ((o_th c (fun th => decide (y_bit ((D 87).1 (n9 * 5 + 2)) th)) i) * 9))), (10, .int (nI i))]) hE dX10_allFactors_173 (by decide) rfl ?_
                refine r_iincN (a := i) (b := 1) (ls2 := [(0, .ref 64), (1, .int (nI k)), (2, .int (nI n9)), (3, .int (nI (q_n (D 87).1 (n9 * 5 + 0)))), (4, .int ((D 87).1 (n9 * 5 + 2))), (5, .int ((D 85).1 (k * 3 + 1))), (6, .int (nI (q_n (D 85).1 (k * 3 + 2)))), (7, .int 0), (8, .long (lN ((o_th c (fun th => decide (y_bit ((D 87).1 (n9 * 5 + 2)) th)) i) * 9))), (10, .int (nI (i + 1)))]) hE dX10_allFactors_175 rfl rfl (by decide) rfl ?_
                refine r_goto (tgt := 94) hE dX10_allFactors_178 (by decide) ?_
                obtain ⟨c2, hc2⟩ : ∃ z : Nat → Bool, z = (fun th => if th = i then false else c th) := ⟨_, rfl⟩
                have e9 : o_th c2 (fun th => decide (y_bit ((D 87).1 (n9 * 5 + 2)) th)) (i + 1) = (o_th c (fun th => decide (y_bit ((D 87).1 (n9 * 5 + 2)) th)) i) * 9 := by
                  show o_th c2 (fun th => decide (y_bit ((D 87).1 (n9 * 5 + 2)) th)) i * (if c2 i then (if (fun th => decide (y_bit ((D 87).1 (n9 * 5 + 2)) th)) i then 7 else 3) else (if (fun th => decide (y_bit ((D 87).1 (n9 * 5 + 2)) th)) i then 1 else 9)) = _
                  rw [o_th_c (c2 := c) (fun j hj => by rw [hc2]; dsimp only; rw [if_neg (by omega)]), show c2 i = false by rw [hc2]; dsimp only; rw [if_pos rfl]]
                  rw [if_neg (by decide)]
                  rw [if_neg (fun q => c162 (of_decide_eq_true q))]
                refine r_locs hE (ls2 := [(0, .ref 64), (1, .int (nI k)), (2, .int (nI n9)), (3, .int (nI (q_n (D 87).1 (n9 * 5 + 0)))), (4, .int ((D 87).1 (n9 * 5 + 2))), (5, .int ((D 85).1 (k * 3 + 1))), (6, .int (nI (q_n (D 85).1 (k * 3 + 2)))), (7, .int 0), (8, .long (lN (o_th c2 (fun th => decide (y_bit ((D 87).1 (n9 * 5 + 2)) th)) (i + 1)))), (10, .int (nI (i + 1)))]) ?_ (ih ((q_n (D 78).1 2) - (i + 1)) (by omega) (i + 1) c2 _ rfl (by omega) (k_same_t sm sm9) ci9 (fun th hth => ?_))
                · rw [e9]
                  simp [x_lk]
                · rw [hc2]
                  dsimp only
                  by_cases q : th = i
                  · rw [if_pos q, q]
                    exact ⟨v8, h8, ⟨fun q => absurd q (by decide), fun q => absurd q ((y_is_0 h7).mp c123)⟩⟩
                  · rw [if_neg q]
                    exact hc th (by omega)
              · refine r_lconst (v := 1) hE dX10_allFactors_165 (by decide) ?_
                refine r_goto (tgt := 172) hE dX10_allFactors_166 (by decide) ?_
                refine r_lmul hE dX10_allFactors_172 ?_
                refine r_topL (y := lN ((o_th c (fun th => decide (y_bit ((D 87).1 (n9 * 5 + 2)) th)) i) * 1)) (lN_mul (o_th c (fun th => decide (y_bit ((D 87).1 (n9 * 5 + 2)) th)) i) 1) ?_
                refine r_lstore (ls2 := [(0, .ref 64), (1, .int (nI k)), (2, .int (nI n9)), (3, .int (nI (q_n (D 87).1 (n9 * 5 + 0)))), (4, .int ((D 87).1 (n9 * 5 + 2))), (5, .int ((D 85).1 (k * 3 + 1))), (6, .int (nI (q_n (D 85).1 (k * 3 + 2)))), (7, .int 0), (8, .long (lN ((o_th c (fun th => decide (y_bit ((D 87).1 (n9 * 5 + 2)) th)) i) * 1))), (10, .int (nI i))]) hE dX10_allFactors_173 (by decide) rfl ?_
                refine r_iincN (a := i) (b := 1) (ls2 := [(0, .ref 64), (1, .int (nI k)), (2, .int (nI n9)), (3, .int (nI (q_n (D 87).1 (n9 * 5 + 0)))), (4, .int ((D 87).1 (n9 * 5 + 2))), (5, .int ((D 85).1 (k * 3 + 1))), (6, .int (nI (q_n (D 85).1 (k * 3 + 2)))), (7, .int 0), (8, .long (lN ((o_th c (fun th => decide (y_bit ((D 87).1 (n9 * 5 + 2)) th)) i) * 1))), (10, .int (nI (i + 1)))]) hE dX10_allFactors_175 rfl rfl (by decide) rfl ?_
                refine r_goto (tgt := 94) hE dX10_allFactors_178 (by decide) ?_
                obtain ⟨c2, hc2⟩ : ∃ z : Nat → Bool, z = (fun th => if th = i then false else c th) := ⟨_, rfl⟩
                have e9 : o_th c2 (fun th => decide (y_bit ((D 87).1 (n9 * 5 + 2)) th)) (i + 1) = (o_th c (fun th => decide (y_bit ((D 87).1 (n9 * 5 + 2)) th)) i) * 1 := by
                  show o_th c2 (fun th => decide (y_bit ((D 87).1 (n9 * 5 + 2)) th)) i * (if c2 i then (if (fun th => decide (y_bit ((D 87).1 (n9 * 5 + 2)) th)) i then 7 else 3) else (if (fun th => decide (y_bit ((D 87).1 (n9 * 5 + 2)) th)) i then 1 else 9)) = _
                  rw [o_th_c (c2 := c) (fun j hj => by rw [hc2]; dsimp only; rw [if_neg (by omega)]), show c2 i = false by rw [hc2]; dsimp only; rw [if_pos rfl]]
                  rw [if_neg (by decide)]
                  rw [if_pos (decide_eq_true c162)]
                refine r_locs hE (ls2 := [(0, .ref 64), (1, .int (nI k)), (2, .int (nI n9)), (3, .int (nI (q_n (D 87).1 (n9 * 5 + 0)))), (4, .int ((D 87).1 (n9 * 5 + 2))), (5, .int ((D 85).1 (k * 3 + 1))), (6, .int (nI (q_n (D 85).1 (k * 3 + 2)))), (7, .int 0), (8, .long (lN (o_th c2 (fun th => decide (y_bit ((D 87).1 (n9 * 5 + 2)) th)) (i + 1)))), (10, .int (nI (i + 1)))]) ?_ (ih ((q_n (D 78).1 2) - (i + 1)) (by omega) (i + 1) c2 _ rfl (by omega) (k_same_t sm sm9) ci9 (fun th hth => ?_))
                · rw [e9]
                  simp [x_lk]
                · rw [hc2]
                  dsimp only
                  by_cases q : th = i
                  · rw [if_pos q, q]
                    exact ⟨v8, h8, ⟨fun q => absurd q (by decide), fun q => absurd q ((y_is_0 h7).mp c123)⟩⟩
                  · rw [if_neg q]
                    exact hc th (by omega)
            · refine r_lload hE dX10_allFactors_126 rfl ?_
              refine r_iload hE dX10_allFactors_128 rfl ?_
              refine r_iload hE dX10_allFactors_130 rfl ?_
              refine t_invs (r := (some (.int (y_b (y_bit ((D 87).1 (n9 * 5 + 2)) i))))) (S2 := (y_mk n L D9)) hE [.int ((D 87).1 (n9 * 5 + 2)), .int (nI i)] (k_hasBit) s_yX10_hasBit m_X10_172 dX10_allFactors_132 rfl (by decide) ⟨Nat.le_refl _, Nat.le_refl _⟩ (Nat.le_of_ble_eq_true rfl) ?_
              show E 0 0 135 [(0, .ref 64), (1, .int (nI k)), (2, .int (nI n9)), (3, .int (nI (q_n (D 87).1 (n9 * 5 + 0)))), (4, .int ((D 87).1 (n9 * 5 + 2))), (5, .int ((D 85).1 (k * 3 + 1))), (6, .int (nI (q_n (D 85).1 (k * 3 + 2)))), (7, .int 0), (8, .long (lN (o_th c (fun th => decide (y_bit ((D 87).1 (n9 * 5 + 2)) th)) i))), (10, .int (nI i))] [.int (y_b (y_bit ((D 87).1 (n9 * 5 + 2)) i)), .long (lN (o_th c (fun th => decide (y_bit ((D 87).1 (n9 * 5 + 2)) th)) i))] (y_mk n L D9)
              refine r_ifb_eq (tgt := 144) hE dX10_allFactors_135 (by decide) (fun c135 => ?_) (fun c135 => ?_)
              · refine r_ldc2 (v := 3) hE dX10_allFactors_144 (x_gin (List.mem_append_right _ (tb_5 _ (List.mem_of_getElem? (i := 148) rfl))) rfl) ?_
                refine r_lmul hE dX10_allFactors_147 ?_
                refine r_topL (y := lN ((o_th c (fun th => decide (y_bit ((D 87).1 (n9 * 5 + 2)) th)) i) * 3)) (lN_mul (o_th c (fun th => decide (y_bit ((D 87).1 (n9 * 5 + 2)) th)) i) 3) ?_
                refine r_lstore (ls2 := [(0, .ref 64), (1, .int (nI k)), (2, .int (nI n9)), (3, .int (nI (q_n (D 87).1 (n9 * 5 + 0)))), (4, .int ((D 87).1 (n9 * 5 + 2))), (5, .int ((D 85).1 (k * 3 + 1))), (6, .int (nI (q_n (D 85).1 (k * 3 + 2)))), (7, .int 0), (8, .long (lN ((o_th c (fun th => decide (y_bit ((D 87).1 (n9 * 5 + 2)) th)) i) * 3))), (10, .int (nI i))]) hE dX10_allFactors_148 (by decide) rfl ?_
                refine r_goto (tgt := 175) hE dX10_allFactors_150 (by decide) ?_
                refine r_iincN (a := i) (b := 1) (ls2 := [(0, .ref 64), (1, .int (nI k)), (2, .int (nI n9)), (3, .int (nI (q_n (D 87).1 (n9 * 5 + 0)))), (4, .int ((D 87).1 (n9 * 5 + 2))), (5, .int ((D 85).1 (k * 3 + 1))), (6, .int (nI (q_n (D 85).1 (k * 3 + 2)))), (7, .int 0), (8, .long (lN ((o_th c (fun th => decide (y_bit ((D 87).1 (n9 * 5 + 2)) th)) i) * 3))), (10, .int (nI (i + 1)))]) hE dX10_allFactors_175 rfl rfl (by decide) rfl ?_
                refine r_goto (tgt := 94) hE dX10_allFactors_178 (by decide) ?_
                obtain ⟨c2, hc2⟩ : ∃ z : Nat → Bool, z = (fun th => if th = i then true else c th) := ⟨_, rfl⟩
                have e9 : o_th c2 (fun th => decide (y_bit ((D 87).1 (n9 * 5 + 2)) th)) (i + 1) = (o_th c (fun th => decide (y_bit ((D 87).1 (n9 * 5 + 2)) th)) i) * 3 := by
                  show o_th c2 (fun th => decide (y_bit ((D 87).1 (n9 * 5 + 2)) th)) i * (if c2 i then (if (fun th => decide (y_bit ((D 87).1 (n9 * 5 + 2)) th)) i then 7 else 3) else (if (fun th => decide (y_bit ((D 87).1 (n9 * 5 + 2)) th)) i then 1 else 9)) = _
                  rw [o_th_c (c2 := c) (fun j hj => by rw [hc2]; dsimp only; rw [if_neg (by omega)]), show c2 i = true by rw [hc2]; dsimp only; rw [if_pos rfl]]
                  rw [if_pos rfl]
                  rw [if_neg (fun q => c135 (of_decide_eq_true q))]
                refine r_locs hE (ls2 := [(0, .ref 64), (1, .int (nI k)), (2, .int (nI n9)), (3, .int (nI (q_n (D 87).1 (n9 * 5 + 0)))), (4, .int ((D 87).1 (n9 * 5 + 2))), (5, .int ((D 85).1 (k * 3 + 1))), (6, .int (nI (q_n (D 85).1 (k * 3 + 2)))), (7, .int 0), (8, .long (lN (o_th c2 (fun th => decide (y_bit ((D 87).1 (n9 * 5 + 2)) th)) (i + 1)))), (10, .int (nI (i + 1)))]) ?_ (ih ((q_n (D 78).1 2) - (i + 1)) (by omega) (i + 1) c2 _ rfl (by omega) (k_same_t sm sm9) ci9 (fun th hth => ?_))
                · rw [e9]
                  simp [x_lk]
                · rw [hc2]
                  dsimp only
                  by_cases q : th = i
                  · rw [if_pos q, q]
                    exact ⟨v8, h8, ⟨fun _ => Classical.not_not.mp (fun q => c123 ((y_is_0 h7).mpr q)), fun _ => rfl⟩⟩
                  · rw [if_neg q]
                    exact hc th (by omega)
              · refine r_ldc2 (v := 7) hE dX10_allFactors_138 (x_gin (List.mem_append_right _ (tb_5 _ (List.mem_of_getElem? (i := 147) rfl))) rfl) ?_
                refine r_goto (tgt := 147) hE dX10_allFactors_141 (by decide) ?_
                refine r_lmul hE dX10_allFactors_147 ?_
                refine r_topL (y := lN ((o_th c (fun th => decide (y_bit ((D 87).1 (n9 * 5 + 2)) th)) i) * 7)) (lN_mul (o_th c (fun th => decide (y_bit ((D 87).1 (n9 * 5 + 2)) th)) i) 7) ?_
                refine r_lstore (ls2 := [(0, .ref 64), (1, .int (nI k)), (2, .int (nI n9)), (3, .int (nI (q_n (D 87).1 (n9 * 5 + 0)))), (4, .int ((D 87).1 (n9 * 5 + 2))), (5, .int ((D 85).1 (k * 3 + 1))), (6, .int (nI (q_n (D 85).1 (k * 3 + 2)))), (7, .int 0), (8, .long (lN ((o_th c (fun th => decide (y_bit ((D 87).1 (n9 * 5 + 2)) th)) i) * 7))), (10, .int (nI i))]) hE dX10_allFactors_148 (by decide) rfl ?_
                refine r_goto (tgt := 175) hE dX10_allFactors_150 (by decide) ?_
                refine r_iincN (a := i) (b := 1) (ls2 := [(0, .ref 64), (1, .int (nI k)), (2, .int (nI n9)), (3, .int (nI (q_n (D 87).1 (n9 * 5 + 0)))), (4, .int ((D 87).1 (n9 * 5 + 2))), (5, .int ((D 85).1 (k * 3 + 1))), (6, .int (nI (q_n (D 85).1 (k * 3 + 2)))), (7, .int 0), (8, .long (lN ((o_th c (fun th => decide (y_bit ((D 87).1 (n9 * 5 + 2)) th)) i) * 7))), (10, .int (nI (i + 1)))]) hE dX10_allFactors_175 rfl rfl (by decide) rfl ?_
                refine r_goto (tgt := 94) hE dX10_allFactors_178 (by decide) ?_
                obtain ⟨c2, hc2⟩ : ∃ z : Nat → Bool, z = (fun th => if th = i then true else c th) := ⟨_, rfl⟩
                have e9 : o_th c2 (fun th => decide (y_bit ((D 87).1 (n9 * 5 + 2)) th)) (i + 1) = (o_th c (fun th => decide (y_bit ((D 87).1 (n9 * 5 + 2)) th)) i) * 7 := by
                  show o_th c2 (fun th => decide (y_bit ((D 87).1 (n9 * 5 + 2)) th)) i * (if c2 i then (if (fun th => decide (y_bit ((D 87).1 (n9 * 5 + 2)) th)) i then 7 else 3) else (if (fun th => decide (y_bit ((D 87).1 (n9 * 5 + 2)) th)) i then 1 else 9)) = _
                  rw [o_th_c (c2 := c) (fun j hj => by rw [hc2]; dsimp only; rw [if_neg (by omega)]), show c2 i = true by rw [hc2]; dsimp only; rw [if_pos rfl]]
                  rw [if_pos rfl]
                  rw [if_pos (decide_eq_true c135)]
                refine r_locs hE (ls2 := [(0, .ref 64), (1, .int (nI k)), (2, .int (nI n9)), (3, .int (nI (q_n (D 87).1 (n9 * 5 + 0)))), (4, .int ((D 87).1 (n9 * 5 + 2))), (5, .int ((D 85).1 (k * 3 + 1))), (6, .int (nI (q_n (D 85).1 (k * 3 + 2)))), (7, .int 0), (8, .long (lN (o_th c2 (fun th => decide (y_bit ((D 87).1 (n9 * 5 + 2)) th)) (i + 1)))), (10, .int (nI (i + 1)))]) ?_ (ih ((q_n (D 78).1 2) - (i + 1)) (by omega) (i + 1) c2 _ rfl (by omega) (k_same_t sm sm9) ci9 (fun th hth => ?_))
                · rw [e9]
                  simp [x_lk]
                · rw [hc2]
                  dsimp only
                  by_cases q : th = i
                  · rw [if_pos q, q]
                    exact ⟨v8, h8, ⟨fun _ => Classical.not_not.mp (fun q => c123 ((y_is_0 h7).mpr q)), fun _ => rfl⟩⟩
                  · rw [if_neg q]
                    exact hc th (by omega)
      exact l1 0 (fun _ => false) _ (by omega) k_same_r hCI (fun th hth => absurd hth (by omega))
    · refine r_aload_n hE dX10_allFactors_61 rfl ?_
      refine t_getr hE f_X10_23 y_R_64_3 dX10_allFactors_62 (hL 64 (by decide)) ?_
      refine t_getr hE f_X10_225 y_R_73_9 dX10_allFactors_65 (hL 73 (by decide)) ?_
      refine r_iload_n hE dX10_allFactors_68 rfl ?_
      refine r_iconst (v := 1) hE dX10_allFactors_69 (by decide) ?_
      refine t_invv (r := (some (.int (if n9 < (q_n (D 86).1 2) ∧ 1 < 5 then (D 87).1 (n9 * 5 + 1) else 0)))) (S2 := (y_mk n L D)) hE [.int (nI n9), .int 1] (k_get (D := D) (k := (q_n (D 86).1 2)) (wd := 5) y_T_86 (hL 86 (by decide)) (hL 87 (by decide)) hO.2.2.1.1.1 hO.2.2.1.2 (by have := hO.2.2.1.1.2; omega) (by decide) (by decide) (r := n9) (c := 1) (by omega) (by decide) (by have := hO.2.2.1.1.2; omega)) v_yX7_get m_X10_246 dX10_allFactors_70 rfl (hL 86 (by decide)) (y_l_86 (D 86)) rfl (by decide) ⟨Nat.le_refl _, Nat.le_refl _⟩ (Nat.le_of_ble_eq_true rfl) ?_
      show E 0 0 73 [(0, .ref 64), (1, .int (nI k)), (2, .int (nI n9)), (3, .int (nI (q_n (D 87).1 (n9 * 5 + 0)))), (4, .int ((D 87).1 (n9 * 5 + 2))), (5, .int ((D 85).1 (k * 3 + 1))), (6, .int (nI (q_n (D 85).1 (k * 3 + 2))))] [.int (if n9 < (q_n (D 86).1 2) ∧ 1 < 5 then (D 87).1 (n9 * 5 + 1) else 0)] (y_mk n L D)
      refine r_top (y := ((D 87).1 (n9 * 5 + 1))) (by rw [if_pos ⟨by omega, by decide⟩]) ?_
      refine r_iload hE dX10_allFactors_73 rfl ?_
      refine t_invs (r := (some (.int (y_b (y_bit ((D 87).1 (n9 * 5 + 1)) (q_n (D 85).1 (k * 3 + 2))))))) (S2 := (y_mk n L D)) hE [.int ((D 87).1 (n9 * 5 + 1)), .int (nI (q_n (D 85).1 (k * 3 + 2)))] (k_hasBit) s_yX10_hasBit m_X10_172 dX10_allFactors_75 rfl (by decide) ⟨Nat.le_refl _, Nat.le_refl _⟩ (Nat.le_of_ble_eq_true rfl) ?_
      show E 0 0 78 [(0, .ref 64), (1, .int (nI k)), (2, .int (nI n9)), (3, .int (nI (q_n (D 87).1 (n9 * 5 + 0)))), (4, .int ((D 87).1 (n9 * 5 + 2))), (5, .int ((D 85).1 (k * 3 + 1))), (6, .int (nI (q_n (D 85).1 (k * 3 + 2))))] [.int (y_b (y_bit ((D 87).1 (n9 * 5 + 1)) (q_n (D 85).1 (k * 3 + 2))))] (y_mk n L D)
      refine r_ifb_eq (tgt := 85) hE dX10_allFactors_78 (by decide) (fun c78 => ?_) (fun c78 => ?_)
      · refine r_iconst (v := 0) hE dX10_allFactors_85 (by decide) ?_
        refine r_istore (ls2 := [(0, .ref 64), (1, .int (nI k)), (2, .int (nI n9)), (3, .int (nI (q_n (D 87).1 (n9 * 5 + 0)))), (4, .int ((D 87).1 (n9 * 5 + 2))), (5, .int ((D 85).1 (k * 3 + 1))), (6, .int (nI (q_n (D 85).1 (k * 3 + 2)))), (7, .int 0)]) hE dX10_allFactors_86 (by decide) rfl ?_
        refine r_lconst (v := 1) hE dX10_allFactors_88 (by decide) ?_
        refine r_lstore (ls2 := [(0, .ref 64), (1, .int (nI k)), (2, .int (nI n9)), (3, .int (nI (q_n (D 87).1 (n9 * 5 + 0)))), (4, .int ((D 87).1 (n9 * 5 + 2))), (5, .int ((D 85).1 (k * 3 + 1))), (6, .int (nI (q_n (D 85).1 (k * 3 + 2)))), (7, .int 0), (8, .long 1)]) hE dX10_allFactors_89 (by decide) rfl ?_
        refine r_iconst (v := 0) hE dX10_allFactors_91 (by decide) ?_
        refine r_istore (ls2 := [(0, .ref 64), (1, .int (nI k)), (2, .int (nI n9)), (3, .int (nI (q_n (D 87).1 (n9 * 5 + 0)))), (4, .int ((D 87).1 (n9 * 5 + 2))), (5, .int ((D 85).1 (k * 3 + 1))), (6, .int (nI (q_n (D 85).1 (k * 3 + 2)))), (7, .int 0), (8, .long 1), (10, .int 0)]) hE dX10_allFactors_92 (by decide) rfl ?_
        have hhl : (0 = 1 ∧ k_hp D k n9) ∨ (0 = 0 ∧ ¬ k_hp D k n9) := Or.inr ⟨rfl, fun q => by first | exact c78 q.2 | exact nI_pos (n := q_n (D 85).1 (k * 3 + 2)) (by omega) (by rw [c58]; decide)⟩
        have l1 : ∀ (i : Nat) (c : Nat → Bool) (D8 : y_D), i ≤ (q_n (D 78).1 2) → k_same D D8 → k_CI D8 → (∀ th, th < i → ∃ v, k_Ev D (q_n (D 87).1 (n9 * 5 + 0)) (k_us D k) (nI 0) v ∧ (c th = true ↔ v &&& K_setsFor D (q_n (D 78).1 2) th (q_n (D 73).1 4) (k_us D k) ≠ 0)) → E 0 0 94 [(0, .ref 64), (1, .int (nI k)), (2, .int (nI n9)), (3, .int (nI (q_n (D 87).1 (n9 * 5 + 0)))), (4, .int ((D 87).1 (n9 * 5 + 2))), (5, .int ((D 85).1 (k * 3 + 1))), (6, .int (nI (q_n (D 85).1 (k * 3 + 2)))), (7, .int 0), (8, .long (lN (o_th c (fun th => decide (y_bit ((D 87).1 (n9 * 5 + 2)) th)) i))), (10, .int (nI i))] [] (y_mk n L D8) := by
          intro i c D8
          induction hm9 : ((q_n (D 78).1 2) - i) using Nat.strongRecOn generalizing i c D8 with
          | _ m9 ih =>
            intro hi sm ci hc
            subst hm9
            refine r_iload hE dX10_allFactors_94 rfl ?_
            refine r_aload_n hE dX10_allFactors_96 rfl ?_
            refine t_getr hE f_X10_23 y_R_64_3 dX10_allFactors_97 (hL 64 (by decide)) ?_
            refine t_getr hE f_X10_122 y_R_73_5 dX10_allFactors_100 (hL 73 (by decide)) ?_
            refine t_geti hE f_X10_176 y_I_78_2 dX10_allFactors_103 (hL 78 (by decide)) ?_
            refine r_top (y := (nI (q_n (D 78).1 2))) (by rw [sm.1 78 (by decide)]; exact hB.2.2.2.1.1.1) ?_
            refine r_icmp_geN (a := i) (b := (q_n (D 78).1 2)) (tgt := 181) hE dX10_allFactors_106 (by decide) (by omega) (by omega) (fun c106 => ?_) (fun c106 => ?_)
            · refine r_lload hE dX10_allFactors_181 rfl ?_
              refine r_aload_n hE dX10_allFactors_183 rfl ?_
              refine r_iload_n hE dX10_allFactors_184 rfl ?_
              refine r_iload_n hE dX10_allFactors_185 rfl ?_
              refine t_invv (r := (some (.long (lN (o_tr (fun t => decide (y_bit ((D8 87).1 (n9 * 5 + 3)) t)) (fun t => decide (y_bit ((D8 87).1 (n9 * 5 + 4)) t)) (k_spr D8 k) 1 (q_n (D8 82).1 2)))))) (S2 := (y_mk n L D8)) hE [.int (nI k), .int (nI n9)] (k_trapFactors (D := D8) (k := k) (n9 := n9) hL (k_BO_s (k_sB_k sm) hO) (by rw [sm.1 84 (by decide)]; exact hk) (by rw [sm.1 86 (by decide)]; exact hn)) v_yX10_trapFactors m_X10_341 dX10_allFactors_186 rfl (hL 64 (by decide)) (y_l_64 (D8 64)) rfl (by decide) ⟨Nat.le_refl _, Nat.le_refl _⟩ (Nat.le_of_ble_eq_true rfl) ?_
              show E 0 0 189 [(0, .ref 64), (1, .int (nI k)), (2, .int (nI n9)), (3, .int (nI (q_n (D 87).1 (n9 * 5 + 0)))), (4, .int ((D 87).1 (n9 * 5 + 2))), (5, .int ((D 85).1 (k * 3 + 1))), (6, .int (nI (q_n (D 85).1 (k * 3 + 2)))), (7, .int 0), (8, .long (lN (o_th c (fun th => decide (y_bit ((D 87).1 (n9 * 5 + 2)) th)) i))), (10, .int (nI i))] [.long (lN (o_tr (fun t => decide (y_bit ((D8 87).1 (n9 * 5 + 3)) t)) (fun t => decide (y_bit ((D8 87).1 (n9 * 5 + 4)) t)) (k_spr D8 k) 1 (q_n (D8 82).1 2))), .long (lN (o_th c (fun th => decide (y_bit ((D 87).1 (n9 * 5 + 2)) th)) i))] (y_mk n L D8)
              refine r_topL (y := lN (o_tr (fun t => decide (y_bit ((D 87).1 (n9 * 5 + 3)) t)) (fun t => decide (y_bit ((D 87).1 (n9 * 5 + 4)) t)) (k_spr D k) 1 (q_n (D 82).1 2))) (by rw [sm.1 87 (by decide), sm.1 82 (by decide), k_spr_s (k_sB_k sm)]) ?_
              refine r_lmul hE dX10_allFactors_189 ?_
              refine r_topL (y := lN ((o_th c (fun th => decide (y_bit ((D 87).1 (n9 * 5 + 2)) th)) i) * (o_tr (fun t => decide (y_bit ((D 87).1 (n9 * 5 + 3)) t)) (fun t => decide (y_bit ((D 87).1 (n9 * 5 + 4)) t)) (k_spr D k) 1 (q_n (D 82).1 2)))) (lN_mul (o_th c (fun th => decide (y_bit ((D 87).1 (n9 * 5 + 2)) th)) i) (o_tr (fun t => decide (y_bit ((D 87).1 (n9 * 5 + 3)) t)) (fun t => decide (y_bit ((D 87).1 (n9 * 5 + 4)) t)) (k_spr D k) 1 (q_n (D 82).1 2))) ?_
              refine r_lreturn hE dX10_allFactors_190 rfl (Nat.zero_le _) (Nat.zero_le _) ?_
              rw [show i = (q_n (D 78).1 2) by omega] at hc ⊢
              exact ⟨_, _, rfl, rfl, ⟨sm, ci⟩, _, rfl, ⟨0, c, hhl, hc, rfl⟩⟩
            · refine r_aload_n hE dX10_allFactors_109 rfl ?_
              refine t_getr hE f_X10_35 y_R_64_6 dX10_allFactors_110 (hL 64 (by decide)) ?_
              refine r_iload_n hE dX10_allFactors_113 rfl ?_
              refine r_iload hE dX10_allFactors_114 rfl ?_
              refine r_iload hE dX10_allFactors_116 rfl ?_
              refine r_iload hE dX10_allFactors_118 rfl ?_
              refine t_invvRi hE [.int (nI (q_n (D 87).1 (n9 * 5 + 0))), .int ((D 85).1 (k * 3 + 1)), .int 0, .int (nI i)] (k_canEver0 (D := D8) (t := q_n (D 87).1 (n9 * 5 + 0)) (th := i) (u := ((D 85).1 (k * 3 + 1))) hV hL (k_B_same sm hB) ci (by rw [sm.1 73 (by decide)]; exact htr) (by omega)) v_yX1_canEver m_X10_212 dX10_allFactors_120 rfl (hL 151 (by decide)) (y_l_151 (D8 151)) rfl (by decide) ⟨Nat.le_refl _, Nat.le_refl _⟩ (Nat.le_of_ble_eq_true rfl) (fun v9 D9 q9 => ?_)
              obtain ⟨⟨sm9, ci9⟩, v8, h8, h7⟩ := q9
              rw [sm.1 73 (by decide)] at h8
              rw [sm.1 73 (by decide), sm.1 78 (by decide), k_sf_same sm hB] at h7
              have h8 := k_Ev_same (k_same_sym sm) (k_B_same sm hB) (by omega) h8
              show E 0 0 123 [(0, .ref 64), (1, .int (nI k)), (2, .int (nI n9)), (3, .int (nI (q_n (D 87).1 (n9 * 5 + 0)))), (4, .int ((D 87).1 (n9 * 5 + 2))), (5, .int ((D 85).1 (k * 3 + 1))), (6, .int (nI (q_n (D 85).1 (k * 3 + 2)))), (7, .int 0), (8, .long (lN (o_th c (fun th => decide (y_bit ((D 87).1 (n9 * 5 + 2)) th)) i))), (10, .int (nI i))] [.int v9] (y_mk n L D9)
              refine r_if_eq (tgt := 153) hE dX10_allFactors_123 (by decide) (fun c123 => ?_) (fun c123 => ?_)
              · refine r_lload hE dX10_allFactors_153 rfl ?_
                refine r_iload hE dX10_allFactors_155 rfl ?_
                refine r_iload hE dX10_allFactors_157 rfl ?_
                refine t_invs (r := (some (.int (y_b (y_bit ((D 87).1 (n9 * 5 + 2)) i))))) (S2 := (y_mk n L D9)) hE [.int ((D 87).1 (n9 * 5 + 2)), .int (nI i)] (k_hasBit) s_yX10_hasBit m_X10_172 dX10_allFactors_159 rfl (by decide) ⟨Nat.le_refl _, Nat.le_refl _⟩ (Nat.le_of_ble_eq_true rfl) ?_
                show E 0 0 162 [(0, .ref 64), (1, .int (nI k)), (2, .int (nI n9)), (3, .int (nI (q_n (D 87).1 (n9 * 5 + 0)))), (4, .int ((D 87).1 (n9 * 5 + 2))), (5, .int ((D 85).1 (k * 3 + 1))), (6, .int (nI (q_n (D 85).1 (k * 3 + 2)))), (7, .int 0), (8, .long (lN (o_th c (fun th => decide (y_bit ((D 87).1 (n9 * 5 + 2)) th)) i))), (10, .int (nI i))] [.int (y_b (y_bit ((D 87).1 (n9 * 5 + 2)) i)), .long (lN (o_th c (fun th => decide (y_bit ((D 87).1 (n9 * 5 + 2)) th)) i))] (y_mk n L D9)
                refine r_ifb_eq (tgt := 169) hE dX10_allFactors_162 (by decide) (fun c162 => ?_) (fun c162 => ?_)
                · refine r_ldc2 (v := 9) hE dX10_allFactors_169 (x_gin (List.mem_append_right _ (tb_5 _ (List.mem_of_getElem? (i := 149) rfl))) rfl) ?_
                  refine r_lmul hE dX10_allFactors_172 ?_
                  refine r_topL (y := lN ((o_th c (fun th => decide (y_bit ((D 87).1 (n9 * 5 + 2)) th)) i) * 9)) (lN_mul (o_th c (fun th => decide (y_bit ((D 87).1 (n9 * 5 + 2)) th)) i) 9) ?_
                  refine r_lstore (ls2 := [(0, .ref 64), (1, .int (nI k)), (2, .int (nI n9)), (3, .int (nI (q_n (D 87).1 (n9 * 5 + 0)))), (4, .int ((D 87).1 (n9 * 5 + 2))), (5, .int ((D 85).1 (k * 3 + 1))), (6, .int (nI (q_n (D 85).1 (k * 3 + 2)))), (7, .int 0), (8, .long (lN ((o_th c (fun th => decide (y_bit ((D 87).1 (n9 * 5 + 2)) th)) i) * 9))), (10, .int (nI i))]) hE dX10_allFactors_173 (by decide) rfl ?_
                  refine r_iincN (a := i) (b := 1) (ls2 := [(0, .ref 64), (1, .int (nI k)), (2, .int (nI n9)), (3, .int (nI (q_n (D 87).1 (n9 * 5 + 0)))), (4, .int ((D 87).1 (n9 * 5 + 2))), (5, .int ((D 85).1 (k * 3 + 1))), (6, .int (nI (q_n (D 85).1 (k * 3 + 2)))), (7, .int 0), (8, .long (lN ((o_th c (fun th => decide (y_bit ((D 87).1 (n9 * 5 + 2)) th)) i) * 9))), (10, .int (nI (i + 1)))]) hE dX10_allFactors_175 rfl rfl (by decide) rfl ?_
                  refine r_goto (tgt := 94) hE dX10_allFactors_178 (by decide) ?_
                  obtain ⟨c2, hc2⟩ : ∃ z : Nat → Bool, z = (fun th => if th = i then false else c th) := ⟨_, rfl⟩
                  have e9 : o_th c2 (fun th => decide (y_bit ((D 87).1 (n9 * 5 + 2)) th)) (i + 1) = (o_th c (fun th => decide (y_bit ((D 87).1 (n9 * 5 + 2)) th)) i) * 9 := by
                    show o_th c2 (fun th => decide (y_bit ((D 87).1 (n9 * 5 + 2)) th)) i * (if c2 i then (if (fun th => decide (y_bit ((D 87).1 (n9 * 5 + 2)) th)) i then 7 else 3) else (if (fun th => decide (y_bit ((D 87).1 (n9 * 5 + 2)) th)) i then 1 else 9)) = _
                    rw [o_th_c (c2 := c) (fun j hj => by rw [hc2]; dsimp only; rw [if_neg (by omega)]), show c2 i = false by rw [hc2]; dsimp only; rw [if_pos rfl]]
                    rw [if_neg (by decide)]
                    rw [if_neg (fun q => c162 (of_decide_eq_true q))]
                  refine r_locs hE (ls2 := [(0, .ref 64), (1, .int (nI k)), (2, .int (nI n9)), (3, .int (nI (q_n (D 87).1 (n9 * 5 + 0)))), (4, .int ((D 87).1 (n9 * 5 + 2))), (5, .int ((D 85).1 (k * 3 + 1))), (6, .int (nI (q_n (D 85).1 (k * 3 + 2)))), (7, .int 0), (8, .long (lN (o_th c2 (fun th => decide (y_bit ((D 87).1 (n9 * 5 + 2)) th)) (i + 1)))), (10, .int (nI (i + 1)))]) ?_ (ih ((q_n (D 78).1 2) - (i + 1)) (by omega) (i + 1) c2 _ rfl (by omega) (k_same_t sm sm9) ci9 (fun th hth => ?_))
                  · rw [e9]
                    simp [x_lk]
                  · rw [hc2]
                    dsimp only
                    by_cases q : th = i
                    · rw [if_pos q, q]
                      exact ⟨v8, h8, ⟨fun q => absurd q (by decide), fun q => absurd q ((y_is_0 h7).mp c123)⟩⟩
                    · rw [if_neg q]
                      exact hc th (by omega)
                · refine r_lconst (v := 1) hE dX10_allFactors_165 (by decide) ?_
                  refine r_goto (tgt := 172) hE dX10_allFactors_166 (by decide) ?_
                  refine r_lmul hE dX10_allFactors_172 ?_
                  refine r_topL (y := lN ((o_th c (fun th => decide (y_bit ((D 87).1 (n9 * 5 + 2)) th)) i) * 1)) (lN_mul (o_th c (fun th => decide (y_bit ((D 87).1 (n9 * 5 + 2)) th)) i) 1) ?_
                  refine r_lstore (ls2 := [(0, .ref 64), (1, .int (nI k)), (2, .int (nI n9)), (3, .int (nI (q_n (D 87).1 (n9 * 5 + 0)))), (4, .int ((D 87).1 (n9 * 5 + 2))), (5, .int ((D 85).1 (k * 3 + 1))), (6, .int (nI (q_n (D 85).1 (k * 3 + 2)))), (7, .int 0), (8, .long (lN ((o_th c (fun th => decide (y_bit ((D 87).1 (n9 * 5 + 2)) th)) i) * 1))), (10, .int (nI i))]) hE dX10_allFactors_173 (by decide) rfl ?_
                  refine r_iincN (a := i) (b := 1) (ls2 := [(0, .ref 64), (1, .int (nI k)), (2, .int (nI n9)), (3, .int (nI (q_n (D 87).1 (n9 * 5 + 0)))), (4, .int ((D 87).1 (n9 * 5 + 2))), (5, .int ((D 85).1 (k * 3 + 1))), (6, .int (nI (q_n (D 85).1 (k * 3 + 2)))), (7, .int 0), (8, .long (lN ((o_th c (fun th => decide (y_bit ((D 87).1 (n9 * 5 + 2)) th)) i) * 1))), (10, .int (nI (i + 1)))]) hE dX10_allFactors_175 rfl rfl (by decide) rfl ?_
                  refine r_goto (tgt := 94) hE dX10_allFactors_178 (by decide) ?_
                  obtain ⟨c2, hc2⟩ : ∃ z : Nat → Bool, z = (fun th => if th = i then false else c th) := ⟨_, rfl⟩
                  have e9 : o_th c2 (fun th => decide (y_bit ((D 87).1 (n9 * 5 + 2)) th)) (i + 1) = (o_th c (fun th => decide (y_bit ((D 87).1 (n9 * 5 + 2)) th)) i) * 1 := by
                    show o_th c2 (fun th => decide (y_bit ((D 87).1 (n9 * 5 + 2)) th)) i * (if c2 i then (if (fun th => decide (y_bit ((D 87).1 (n9 * 5 + 2)) th)) i then 7 else 3) else (if (fun th => decide (y_bit ((D 87).1 (n9 * 5 + 2)) th)) i then 1 else 9)) = _
                    rw [o_th_c (c2 := c) (fun j hj => by rw [hc2]; dsimp only; rw [if_neg (by omega)]), show c2 i = false by rw [hc2]; dsimp only; rw [if_pos rfl]]
                    rw [if_neg (by decide)]
                    rw [if_pos (decide_eq_true c162)]
                  refine r_locs hE (ls2 := [(0, .ref 64), (1, .int (nI k)), (2, .int (nI n9)), (3, .int (nI (q_n (D 87).1 (n9 * 5 + 0)))), (4, .int ((D 87).1 (n9 * 5 + 2))), (5, .int ((D 85).1 (k * 3 + 1))), (6, .int (nI (q_n (D 85).1 (k * 3 + 2)))), (7, .int 0), (8, .long (lN (o_th c2 (fun th => decide (y_bit ((D 87).1 (n9 * 5 + 2)) th)) (i + 1)))), (10, .int (nI (i + 1)))]) ?_ (ih ((q_n (D 78).1 2) - (i + 1)) (by omega) (i + 1) c2 _ rfl (by omega) (k_same_t sm sm9) ci9 (fun th hth => ?_))
                  · rw [e9]
                    simp [x_lk]
                  · rw [hc2]
                    dsimp only
                    by_cases q : th = i
                    · rw [if_pos q, q]
                      exact ⟨v8, h8, ⟨fun q => absurd q (by decide), fun q => absurd q ((y_is_0 h7).mp c123)⟩⟩
                    · rw [if_neg q]
                      exact hc th (by omega)
              · refine r_lload hE dX10_allFactors_126 rfl ?_
                refine r_iload hE dX10_allFactors_128 rfl ?_
                refine r_iload hE dX10_allFactors_130 rfl ?_
                refine t_invs (r := (some (.int (y_b (y_bit ((D 87).1 (n9 * 5 + 2)) i))))) (S2 := (y_mk n L D9)) hE [.int ((D 87).1 (n9 * 5 + 2)), .int (nI i)] (k_hasBit) s_yX10_hasBit m_X10_172 dX10_allFactors_132 rfl (by decide) ⟨Nat.le_refl _, Nat.le_refl _⟩ (Nat.le_of_ble_eq_true rfl) ?_
                show E 0 0 135 [(0, .ref 64), (1, .int (nI k)), (2, .int (nI n9)), (3, .int (nI (q_n (D 87).1 (n9 * 5 + 0)))), (4, .int ((D 87).1 (n9 * 5 + 2))), (5, .int ((D 85).1 (k * 3 + 1))), (6, .int (nI (q_n (D 85).1 (k * 3 + 2)))), (7, .int 0), (8, .long (lN (o_th c (fun th => decide (y_bit ((D 87).1 (n9 * 5 + 2)) th)) i))), (10, .int (nI i))] [.int (y_b (y_bit ((D 87).1 (n9 * 5 + 2)) i)), .long (lN (o_th c (fun th => decide (y_bit ((D 87).1 (n9 * 5 + 2)) th)) i))] (y_mk n L D9)
                refine r_ifb_eq (tgt := 144) hE dX10_allFactors_135 (by decide) (fun c135 => ?_) (fun c135 => ?_)
                · refine r_ldc2 (v := 3) hE dX10_allFactors_144 (x_gin (List.mem_append_right _ (tb_5 _ (List.mem_of_getElem? (i := 148) rfl))) rfl) ?_
                  refine r_lmul hE dX10_allFactors_147 ?_
                  refine r_topL (y := lN ((o_th c (fun th => decide (y_bit ((D 87).1 (n9 * 5 + 2)) th)) i) * 3)) (lN_mul (o_th c (fun th => decide (y_bit ((D 87).1 (n9 * 5 + 2)) th)) i) 3) ?_
                  refine r_lstore (ls2 := [(0, .ref 64), (1, .int (nI k)), (2, .int (nI n9)), (3, .int (nI (q_n (D 87).1 (n9 * 5 + 0)))), (4, .int ((D 87).1 (n9 * 5 + 2))), (5, .int ((D 85).1 (k * 3 + 1))), (6, .int (nI (q_n (D 85).1 (k * 3 + 2)))), (7, .int 0), (8, .long (lN ((o_th c (fun th => decide (y_bit ((D 87).1 (n9 * 5 + 2)) th)) i) * 3))), (10, .int (nI i))]) hE dX10_allFactors_148 (by decide) rfl ?_
                  refine r_goto (tgt := 175) hE dX10_allFactors_150 (by decide) ?_
                  refine r_iincN (a := i) (b := 1) (ls2 := [(0, .ref 64), (1, .int (nI k)), (2, .int (nI n9)), (3, .int (nI (q_n (D 87).1 (n9 * 5 + 0)))), (4, .int ((D 87).1 (n9 * 5 + 2))), (5, .int ((D 85).1 (k * 3 + 1))), (6, .int (nI (q_n (D 85).1 (k * 3 + 2)))), (7, .int 0), (8, .long (lN ((o_th c (fun th => decide (y_bit ((D 87).1 (n9 * 5 + 2)) th)) i) * 3))), (10, .int (nI (i + 1)))]) hE dX10_allFactors_175 rfl rfl (by decide) rfl ?_
                  refine r_goto (tgt := 94) hE dX10_allFactors_178 (by decide) ?_
                  obtain ⟨c2, hc2⟩ : ∃ z : Nat → Bool, z = (fun th => if th = i then true else c th) := ⟨_, rfl⟩
                  have e9 : o_th c2 (fun th => decide (y_bit ((D 87).1 (n9 * 5 + 2)) th)) (i + 1) = (o_th c (fun th => decide (y_bit ((D 87).1 (n9 * 5 + 2)) th)) i) * 3 := by
                    show o_th c2 (fun th => decide (y_bit ((D 87).1 (n9 * 5 + 2)) th)) i * (if c2 i then (if (fun th => decide (y_bit ((D 87).1 (n9 * 5 + 2)) th)) i then 7 else 3) else (if (fun th => decide (y_bit ((D 87).1 (n9 * 5 + 2)) th)) i then 1 else 9)) = _
                    rw [o_th_c (c2 := c) (fun j hj => by rw [hc2]; dsimp only; rw [if_neg (by omega)]), show c2 i = true by rw [hc2]; dsimp only; rw [if_pos rfl]]
                    rw [if_pos rfl]
                    rw [if_neg (fun q => c135 (of_decide_eq_true q))]
                  refine r_locs hE (ls2 := [(0, .ref 64), (1, .int (nI k)), (2, .int (nI n9)), (3, .int (nI (q_n (D 87).1 (n9 * 5 + 0)))), (4, .int ((D 87).1 (n9 * 5 + 2))), (5, .int ((D 85).1 (k * 3 + 1))), (6, .int (nI (q_n (D 85).1 (k * 3 + 2)))), (7, .int 0), (8, .long (lN (o_th c2 (fun th => decide (y_bit ((D 87).1 (n9 * 5 + 2)) th)) (i + 1)))), (10, .int (nI (i + 1)))]) ?_ (ih ((q_n (D 78).1 2) - (i + 1)) (by omega) (i + 1) c2 _ rfl (by omega) (k_same_t sm sm9) ci9 (fun th hth => ?_))
                  · rw [e9]
                    simp [x_lk]
                  · rw [hc2]
                    dsimp only
                    by_cases q : th = i
                    · rw [if_pos q, q]
                      exact ⟨v8, h8, ⟨fun _ => Classical.not_not.mp (fun q => c123 ((y_is_0 h7).mpr q)), fun _ => rfl⟩⟩
                    · rw [if_neg q]
                      exact hc th (by omega)
                · refine r_ldc2 (v := 7) hE dX10_allFactors_138 (x_gin (List.mem_append_right _ (tb_5 _ (List.mem_of_getElem? (i := 147) rfl))) rfl) ?_
                  refine r_goto (tgt := 147) hE dX10_allFactors_141 (by decide) ?_
                  refine r_lmul hE dX10_allFactors_147 ?_
                  refine r_topL (y := lN ((o_th c (fun th => decide (y_bit ((D 87).1 (n9 * 5 + 2)) th)) i) * 7)) (lN_mul (o_th c (fun th => decide (y_bit ((D 87).1 (n9 * 5 + 2)) th)) i) 7) ?_
                  refine r_lstore (ls2 := [(0, .ref 64), (1, .int (nI k)), (2, .int (nI n9)), (3, .int (nI (q_n (D 87).1 (n9 * 5 + 0)))), (4, .int ((D 87).1 (n9 * 5 + 2))), (5, .int ((D 85).1 (k * 3 + 1))), (6, .int (nI (q_n (D 85).1 (k * 3 + 2)))), (7, .int 0), (8, .long (lN ((o_th c (fun th => decide (y_bit ((D 87).1 (n9 * 5 + 2)) th)) i) * 7))), (10, .int (nI i))]) hE dX10_allFactors_148 (by decide) rfl ?_
                  refine r_goto (tgt := 175) hE dX10_allFactors_150 (by decide) ?_
                  refine r_iincN (a := i) (b := 1) (ls2 := [(0, .ref 64), (1, .int (nI k)), (2, .int (nI n9)), (3, .int (nI (q_n (D 87).1 (n9 * 5 + 0)))), (4, .int ((D 87).1 (n9 * 5 + 2))), (5, .int ((D 85).1 (k * 3 + 1))), (6, .int (nI (q_n (D 85).1 (k * 3 + 2)))), (7, .int 0), (8, .long (lN ((o_th c (fun th => decide (y_bit ((D 87).1 (n9 * 5 + 2)) th)) i) * 7))), (10, .int (nI (i + 1)))]) hE dX10_allFactors_175 rfl rfl (by decide) rfl ?_
                  refine r_goto (tgt := 94) hE dX10_allFactors_178 (by decide) ?_
                  obtain ⟨c2, hc2⟩ : ∃ z : Nat → Bool, z = (fun th => if th = i then true else c th) := ⟨_, rfl⟩
                  have e9 : o_th c2 (fun th => decide (y_bit ((D 87).1 (n9 * 5 + 2)) th)) (i + 1) = (o_th c (fun th => decide (y_bit ((D 87).1 (n9 * 5 + 2)) th)) i) * 7 := by
                    show o_th c2 (fun th => decide (y_bit ((D 87).1 (n9 * 5 + 2)) th)) i * (if c2 i then (if (fun th => decide (y_bit ((D 87).1 (n9 * 5 + 2)) th)) i then 7 else 3) else (if (fun th => decide (y_bit ((D 87).1 (n9 * 5 + 2)) th)) i then 1 else 9)) = _
                    rw [o_th_c (c2 := c) (fun j hj => by rw [hc2]; dsimp only; rw [if_neg (by omega)]), show c2 i = true by rw [hc2]; dsimp only; rw [if_pos rfl]]
                    rw [if_pos rfl]
                    rw [if_pos (decide_eq_true c135)]
                  refine r_locs hE (ls2 := [(0, .ref 64), (1, .int (nI k)), (2, .int (nI n9)), (3, .int (nI (q_n (D 87).1 (n9 * 5 + 0)))), (4, .int ((D 87).1 (n9 * 5 + 2))), (5, .int ((D 85).1 (k * 3 + 1))), (6, .int (nI (q_n (D 85).1 (k * 3 + 2)))), (7, .int 0), (8, .long (lN (o_th c2 (fun th => decide (y_bit ((D 87).1 (n9 * 5 + 2)) th)) (i + 1)))), (10, .int (nI (i + 1)))]) ?_ (ih ((q_n (D 78).1 2) - (i + 1)) (by omega) (i + 1) c2 _ rfl (by omega) (k_same_t sm sm9) ci9 (fun th hth => ?_))
                  · rw [e9]
                    simp [x_lk]
                  · rw [hc2]
                    dsimp only
                    by_cases q : th = i
                    · rw [if_pos q, q]
                      exact ⟨v8, h8, ⟨fun _ => Classical.not_not.mp (fun q => c123 ((y_is_0 h7).mpr q)), fun _ => rfl⟩⟩
                    · rw [if_neg q]
                      exact hc th (by omega)
        exact l1 0 (fun _ => false) _ (by omega) k_same_r hCI (fun th hth => absurd hth (by omega))
      · refine r_iconst (v := 1) hE dX10_allFactors_81 (by decide) ?_
        refine r_goto (tgt := 86) hE dX10_allFactors_82 (by decide) ?_
        refine r_istore (ls2 := [(0, .ref 64), (1, .int (nI k)), (2, .int (nI n9)), (3, .int (nI (q_n (D 87).1 (n9 * 5 + 0)))), (4, .int ((D 87).1 (n9 * 5 + 2))), (5, .int ((D 85).1 (k * 3 + 1))), (6, .int (nI (q_n (D 85).1 (k * 3 + 2)))), (7, .int 1)]) hE dX10_allFactors_86 (by decide) rfl ?_
        refine r_lconst (v := 1) hE dX10_allFactors_88 (by decide) ?_
        refine r_lstore (ls2 := [(0, .ref 64), (1, .int (nI k)), (2, .int (nI n9)), (3, .int (nI (q_n (D 87).1 (n9 * 5 + 0)))), (4, .int ((D 87).1 (n9 * 5 + 2))), (5, .int ((D 85).1 (k * 3 + 1))), (6, .int (nI (q_n (D 85).1 (k * 3 + 2)))), (7, .int 1), (8, .long 1)]) hE dX10_allFactors_89 (by decide) rfl ?_
        refine r_iconst (v := 0) hE dX10_allFactors_91 (by decide) ?_
        refine r_istore (ls2 := [(0, .ref 64), (1, .int (nI k)), (2, .int (nI n9)), (3, .int (nI (q_n (D 87).1 (n9 * 5 + 0)))), (4, .int ((D 87).1 (n9 * 5 + 2))), (5, .int ((D 85).1 (k * 3 + 1))), (6, .int (nI (q_n (D 85).1 (k * 3 + 2)))), (7, .int 1), (8, .long 1), (10, .int 0)]) hE dX10_allFactors_92 (by decide) rfl ?_
        have hhl : (1 = 1 ∧ k_hp D k n9) ∨ (1 = 0 ∧ ¬ k_hp D k n9) := Or.inl ⟨rfl, fun q => nI_pos (n := q_n (D 85).1 (k * 3 + 2)) (by omega) (by rw [← hh.1, q]; decide), c78⟩
        have l1 : ∀ (i : Nat) (c : Nat → Bool) (D8 : y_D), i ≤ (q_n (D 78).1 2) → k_same D D8 → k_CI D8 → (∀ th, th < i → ∃ v, k_Ev D (q_n (D 87).1 (n9 * 5 + 0)) (k_us D k) (nI 1) v ∧ (c th = true ↔ v &&& K_setsFor D (q_n (D 78).1 2) th (q_n (D 73).1 4) (k_us D k) ≠ 0)) → E 0 0 94 [(0, .ref 64), (1, .int (nI k)), (2, .int (nI n9)), (3, .int (nI (q_n (D 87).1 (n9 * 5 + 0)))), (4, .int ((D 87).1 (n9 * 5 + 2))), (5, .int ((D 85).1 (k * 3 + 1))), (6, .int (nI (q_n (D 85).1 (k * 3 + 2)))), (7, .int 1), (8, .long (lN (o_th c (fun th => decide (y_bit ((D 87).1 (n9 * 5 + 2)) th)) i))), (10, .int (nI i))] [] (y_mk n L D8) := by
          intro i c D8
          induction hm9 : ((q_n (D 78).1 2) - i) using Nat.strongRecOn generalizing i c D8 with
          | _ m9 ih =>
            intro hi sm ci hc
            subst hm9
            refine r_iload hE dX10_allFactors_94 rfl ?_
            refine r_aload_n hE dX10_allFactors_96 rfl ?_
            refine t_getr hE f_X10_23 y_R_64_3 dX10_allFactors_97 (hL 64 (by decide)) ?_
            refine t_getr hE f_X10_122 y_R_73_5 dX10_allFactors_100 (hL 73 (by decide)) ?_
            refine t_geti hE f_X10_176 y_I_78_2 dX10_allFactors_103 (hL 78 (by decide)) ?_
            refine r_top (y := (nI (q_n (D 78).1 2))) (by rw [sm.1 78 (by decide)]; exact hB.2.2.2.1.1.1) ?_
            refine r_icmp_geN (a := i) (b := (q_n (D 78).1 2)) (tgt := 181) hE dX10_allFactors_106 (by decide) (by omega) (by omega) (fun c106 => ?_) (fun c106 => ?_)
            · refine r_lload hE dX10_allFactors_181 rfl ?_
              refine r_aload_n hE dX10_allFactors_183 rfl ?_
              refine r_iload_n hE dX10_allFactors_184 rfl ?_
              refine r_iload_n hE dX10_allFactors_185 rfl ?_
              refine t_invv (r := (some (.long (lN (o_tr (fun t => decide (y_bit ((D8 87).1 (n9 * 5 + 3)) t)) (fun t => decide (y_bit ((D8 87).1 (n9 * 5 + 4)) t)) (k_spr D8 k) 1 (q_n (D8 82).1 2)))))) (S2 := (y_mk n L D8)) hE [.int (nI k), .int (nI n9)] (k_trapFactors (D := D8) (k := k) (n9 := n9) hL (k_BO_s (k_sB_k sm) hO) (by rw [sm.1 84 (by decide)]; exact hk) (by rw [sm.1 86 (by decide)]; exact hn)) v_yX10_trapFactors m_X10_341 dX10_allFactors_186 rfl (hL 64 (by decide)) (y_l_64 (D8 64)) rfl (by decide) ⟨Nat.le_refl _, Nat.le_refl _⟩ (Nat.le_of_ble_eq_true rfl) ?_
              show E 0 0 189 [(0, .ref 64), (1, .int (nI k)), (2, .int (nI n9)), (3, .int (nI (q_n (D 87).1 (n9 * 5 + 0)))), (4, .int ((D 87).1 (n9 * 5 + 2))), (5, .int ((D 85).1 (k * 3 + 1))), (6, .int (nI (q_n (D 85).1 (k * 3 + 2)))), (7, .int 1), (8, .long (lN (o_th c (fun th => decide (y_bit ((D 87).1 (n9 * 5 + 2)) th)) i))), (10, .int (nI i))] [.long (lN (o_tr (fun t => decide (y_bit ((D8 87).1 (n9 * 5 + 3)) t)) (fun t => decide (y_bit ((D8 87).1 (n9 * 5 + 4)) t)) (k_spr D8 k) 1 (q_n (D8 82).1 2))), .long (lN (o_th c (fun th => decide (y_bit ((D 87).1 (n9 * 5 + 2)) th)) i))] (y_mk n L D8)
              refine r_topL (y := lN (o_tr (fun t => decide (y_bit ((D 87).1 (n9 * 5 + 3)) t)) (fun t => decide (y_bit ((D 87).1 (n9 * 5 + 4)) t)) (k_spr D k) 1 (q_n (D 82).1 2))) (by rw [sm.1 87 (by decide), sm.1 82 (by decide), k_spr_s (k_sB_k sm)]) ?_
              refine r_lmul hE dX10_allFactors_189 ?_
              refine r_topL (y := lN ((o_th c (fun th => decide (y_bit ((D 87).1 (n9 * 5 + 2)) th)) i) * (o_tr (fun t => decide (y_bit ((D 87).1 (n9 * 5 + 3)) t)) (fun t => decide (y_bit ((D 87).1 (n9 * 5 + 4)) t)) (k_spr D k) 1 (q_n (D 82).1 2)))) (lN_mul (o_th c (fun th => decide (y_bit ((D 87).1 (n9 * 5 + 2)) th)) i) (o_tr (fun t => decide (y_bit ((D 87).1 (n9 * 5 + 3)) t)) (fun t => decide (y_bit ((D 87).1 (n9 * 5 + 4)) t)) (k_spr D k) 1 (q_n (D 82).1 2))) ?_
              refine r_lreturn hE dX10_allFactors_190 rfl (Nat.zero_le _) (Nat.zero_le _) ?_
              rw [show i = (q_n (D 78).1 2) by omega] at hc ⊢
              exact ⟨_, _, rfl, rfl, ⟨sm, ci⟩, _, rfl, ⟨1, c, hhl, hc, rfl⟩⟩
            · refine r_aload_n hE dX10_allFactors_109 rfl ?_
              refine t_getr hE f_X10_35 y_R_64_6 dX10_allFactors_110 (hL 64 (by decide)) ?_
              refine r_iload_n hE dX10_allFactors_113 rfl ?_
              refine r_iload hE dX10_allFactors_114 rfl ?_
              refine r_iload hE dX10_allFactors_116 rfl ?_
              refine r_iload hE dX10_allFactors_118 rfl ?_
              refine t_invvRi hE [.int (nI (q_n (D 87).1 (n9 * 5 + 0))), .int ((D 85).1 (k * 3 + 1)), .int 1, .int (nI i)] (k_canEver1 (D := D8) (t := q_n (D 87).1 (n9 * 5 + 0)) (th := i) (u := ((D 85).1 (k * 3 + 1))) hV hL (k_B_same sm hB) ci (by rw [sm.1 73 (by decide)]; exact htr) (by omega)) v_yX1_canEver m_X10_212 dX10_allFactors_120 rfl (hL 151 (by decide)) (y_l_151 (D8 151)) rfl (by decide) ⟨Nat.le_refl _, Nat.le_refl _⟩ (Nat.le_of_ble_eq_true rfl) (fun v9 D9 q9 => ?_)
              obtain ⟨⟨sm9, ci9⟩, v8, h8, h7⟩ := q9
              rw [sm.1 73 (by decide)] at h8
              rw [sm.1 73 (by decide), sm.1 78 (by decide), k_sf_same sm hB] at h7
              have h8 := k_Ev_same (k_same_sym sm) (k_B_same sm hB) (by omega) h8
              show E 0 0 123 [(0, .ref 64), (1, .int (nI k)), (2, .int (nI n9)), (3, .int (nI (q_n (D 87).1 (n9 * 5 + 0)))), (4, .int ((D 87).1 (n9 * 5 + 2))), (5, .int ((D 85).1 (k * 3 + 1))), (6, .int (nI (q_n (D 85).1 (k * 3 + 2)))), (7, .int 1), (8, .long (lN (o_th c (fun th => decide (y_bit ((D 87).1 (n9 * 5 + 2)) th)) i))), (10, .int (nI i))] [.int v9] (y_mk n L D9)
              refine r_if_eq (tgt := 153) hE dX10_allFactors_123 (by decide) (fun c123 => ?_) (fun c123 => ?_)
              · refine r_lload hE dX10_allFactors_153 rfl ?_
                refine r_iload hE dX10_allFactors_155 rfl ?_
                refine r_iload hE dX10_allFactors_157 rfl ?_
                refine t_invs (r := (some (.int (y_b (y_bit ((D 87).1 (n9 * 5 + 2)) i))))) (S2 := (y_mk n L D9)) hE [.int ((D 87).1 (n9 * 5 + 2)), .int (nI i)] (k_hasBit) s_yX10_hasBit m_X10_172 dX10_allFactors_159 rfl (by decide) ⟨Nat.le_refl _, Nat.le_refl _⟩ (Nat.le_of_ble_eq_true rfl) ?_
                show E 0 0 162 [(0, .ref 64), (1, .int (nI k)), (2, .int (nI n9)), (3, .int (nI (q_n (D 87).1 (n9 * 5 + 0)))), (4, .int ((D 87).1 (n9 * 5 + 2))), (5, .int ((D 85).1 (k * 3 + 1))), (6, .int (nI (q_n (D 85).1 (k * 3 + 2)))), (7, .int 1), (8, .long (lN (o_th c (fun th => decide (y_bit ((D 87).1 (n9 * 5 + 2)) th)) i))), (10, .int (nI i))] [.int (y_b (y_bit ((D 87).1 (n9 * 5 + 2)) i)), .long (lN (o_th c (fun th => decide (y_bit ((D 87).1 (n9 * 5 + 2)) th)) i))] (y_mk n L D9)
                refine r_ifb_eq (tgt := 169) hE dX10_allFactors_162 (by decide) (fun c162 => ?_) (fun c162 => ?_)
                · refine r_ldc2 (v := 9) hE dX10_allFactors_169 (x_gin (List.mem_append_right _ (tb_5 _ (List.mem_of_getElem? (i := 149) rfl))) rfl) ?_
                  refine r_lmul hE dX10_allFactors_172 ?_
                  refine r_topL (y := lN ((o_th c (fun th => decide (y_bit ((D 87).1 (n9 * 5 + 2)) th)) i) * 9)) (lN_mul (o_th c (fun th => decide (y_bit ((D 87).1 (n9 * 5 + 2)) th)) i) 9) ?_
                  refine r_lstore (ls2 := [(0, .ref 64), (1, .int (nI k)), (2, .int (nI n9)), (3, .int (nI (q_n (D 87).1 (n9 * 5 + 0)))), (4, .int ((D 87).1 (n9 * 5 + 2))), (5, .int ((D 85).1 (k * 3 + 1))), (6, .int (nI (q_n (D 85).1 (k * 3 + 2)))), (7, .int 1), (8, .long (lN ((o_th c (fun th => decide (y_bit ((D 87).1 (n9 * 5 + 2)) th)) i) * 9))), (10, .int (nI i))]) hE dX10_allFactors_173 (by decide) rfl ?_
                  refine r_iincN (a := i) (b := 1) (ls2 := [(0, .ref 64), (1, .int (nI k)), (2, .int (nI n9)), (3, .int (nI (q_n (D 87).1 (n9 * 5 + 0)))), (4, .int ((D 87).1 (n9 * 5 + 2))), (5, .int ((D 85).1 (k * 3 + 1))), (6, .int (nI (q_n (D 85).1 (k * 3 + 2)))), (7, .int 1), (8, .long (lN ((o_th c (fun th => decide (y_bit ((D 87).1 (n9 * 5 + 2)) th)) i) * 9))), (10, .int (nI (i + 1)))]) hE dX10_allFactors_175 rfl rfl (by decide) rfl ?_
                  refine r_goto (tgt := 94) hE dX10_allFactors_178 (by decide) ?_
                  obtain ⟨c2, hc2⟩ : ∃ z : Nat → Bool, z = (fun th => if th = i then false else c th) := ⟨_, rfl⟩
                  have e9 : o_th c2 (fun th => decide (y_bit ((D 87).1 (n9 * 5 + 2)) th)) (i + 1) = (o_th c (fun th => decide (y_bit ((D 87).1 (n9 * 5 + 2)) th)) i) * 9 := by
                    show o_th c2 (fun th => decide (y_bit ((D 87).1 (n9 * 5 + 2)) th)) i * (if c2 i then (if (fun th => decide (y_bit ((D 87).1 (n9 * 5 + 2)) th)) i then 7 else 3) else (if (fun th => decide (y_bit ((D 87).1 (n9 * 5 + 2)) th)) i then 1 else 9)) = _
                    rw [o_th_c (c2 := c) (fun j hj => by rw [hc2]; dsimp only; rw [if_neg (by omega)]), show c2 i = false by rw [hc2]; dsimp only; rw [if_pos rfl]]
                    rw [if_neg (by decide)]
                    rw [if_neg (fun q => c162 (of_decide_eq_true q))]
                  refine r_locs hE (ls2 := [(0, .ref 64), (1, .int (nI k)), (2, .int (nI n9)), (3, .int (nI (q_n (D 87).1 (n9 * 5 + 0)))), (4, .int ((D 87).1 (n9 * 5 + 2))), (5, .int ((D 85).1 (k * 3 + 1))), (6, .int (nI (q_n (D 85).1 (k * 3 + 2)))), (7, .int 1), (8, .long (lN (o_th c2 (fun th => decide (y_bit ((D 87).1 (n9 * 5 + 2)) th)) (i + 1)))), (10, .int (nI (i + 1)))]) ?_ (ih ((q_n (D 78).1 2) - (i + 1)) (by omega) (i + 1) c2 _ rfl (by omega) (k_same_t sm sm9) ci9 (fun th hth => ?_))
                  · rw [e9]
                    simp [x_lk]
                  · rw [hc2]
                    dsimp only
                    by_cases q : th = i
                    · rw [if_pos q, q]
                      exact ⟨v8, h8, ⟨fun q => absurd q (by decide), fun q => absurd q ((y_is_0 h7).mp c123)⟩⟩
                    · rw [if_neg q]
                      exact hc th (by omega)
                · refine r_lconst (v := 1) hE dX10_allFactors_165 (by decide) ?_
                  refine r_goto (tgt := 172) hE dX10_allFactors_166 (by decide) ?_
                  refine r_lmul hE dX10_allFactors_172 ?_
                  refine r_topL (y := lN ((o_th c (fun th => decide (y_bit ((D 87).1 (n9 * 5 + 2)) th)) i) * 1)) (lN_mul (o_th c (fun th => decide (y_bit ((D 87).1 (n9 * 5 + 2)) th)) i) 1) ?_
                  refine r_lstore (ls2 := [(0, .ref 64), (1, .int (nI k)), (2, .int (nI n9)), (3, .int (nI (q_n (D 87).1 (n9 * 5 + 0)))), (4, .int ((D 87).1 (n9 * 5 + 2))), (5, .int ((D 85).1 (k * 3 + 1))), (6, .int (nI (q_n (D 85).1 (k * 3 + 2)))), (7, .int 1), (8, .long (lN ((o_th c (fun th => decide (y_bit ((D 87).1 (n9 * 5 + 2)) th)) i) * 1))), (10, .int (nI i))]) hE dX10_allFactors_173 (by decide) rfl ?_
                  refine r_iincN (a := i) (b := 1) (ls2 := [(0, .ref 64), (1, .int (nI k)), (2, .int (nI n9)), (3, .int (nI (q_n (D 87).1 (n9 * 5 + 0)))), (4, .int ((D 87).1 (n9 * 5 + 2))), (5, .int ((D 85).1 (k * 3 + 1))), (6, .int (nI (q_n (D 85).1 (k * 3 + 2)))), (7, .int 1), (8, .long (lN ((o_th c (fun th => decide (y_bit ((D 87).1 (n9 * 5 + 2)) th)) i) * 1))), (10, .int (nI (i + 1)))]) hE dX10_allFactors_175 rfl rfl (by decide) rfl ?_
                  refine r_goto (tgt := 94) hE dX10_allFactors_178 (by decide) ?_
                  obtain ⟨c2, hc2⟩ : ∃ z : Nat → Bool, z = (fun th => if th = i then false else c th) := ⟨_, rfl⟩
                  have e9 : o_th c2 (fun th => decide (y_bit ((D 87).1 (n9 * 5 + 2)) th)) (i + 1) = (o_th c (fun th => decide (y_bit ((D 87).1 (n9 * 5 + 2)) th)) i) * 1 := by
                    show o_th c2 (fun th => decide (y_bit ((D 87).1 (n9 * 5 + 2)) th)) i * (if c2 i then (if (fun th => decide (y_bit ((D 87).1 (n9 * 5 + 2)) th)) i then 7 else 3) else (if (fun th => decide (y_bit ((D 87).1 (n9 * 5 + 2)) th)) i then 1 else 9)) = _
                    rw [o_th_c (c2 := c) (fun j hj => by rw [hc2]; dsimp only; rw [if_neg (by omega)]), show c2 i = false by rw [hc2]; dsimp only; rw [if_pos rfl]]
                    rw [if_neg (by decide)]
                    rw [if_pos (decide_eq_true c162)]
                  refine r_locs hE (ls2 := [(0, .ref 64), (1, .int (nI k)), (2, .int (nI n9)), (3, .int (nI (q_n (D 87).1 (n9 * 5 + 0)))), (4, .int ((D 87).1 (n9 * 5 + 2))), (5, .int ((D 85).1 (k * 3 + 1))), (6, .int (nI (q_n (D 85).1 (k * 3 + 2)))), (7, .int 1), (8, .long (lN (o_th c2 (fun th => decide (y_bit ((D 87).1 (n9 * 5 + 2)) th)) (i + 1)))), (10, .int (nI (i + 1)))]) ?_ (ih ((q_n (D 78).1 2) - (i + 1)) (by omega) (i + 1) c2 _ rfl (by omega) (k_same_t sm sm9) ci9 (fun th hth => ?_))
                  · rw [e9]
                    simp [x_lk]
                  · rw [hc2]
                    dsimp only
                    by_cases q : th = i
                    · rw [if_pos q, q]
                      exact ⟨v8, h8, ⟨fun q => absurd q (by decide), fun q => absurd q ((y_is_0 h7).mp c123)⟩⟩
                    · rw [if_neg q]
                      exact hc th (by omega)
              · refine r_lload hE dX10_allFactors_126 rfl ?_
                refine r_iload hE dX10_allFactors_128 rfl ?_
                refine r_iload hE dX10_allFactors_130 rfl ?_
                refine t_invs (r := (some (.int (y_b (y_bit ((D 87).1 (n9 * 5 + 2)) i))))) (S2 := (y_mk n L D9)) hE [.int ((D 87).1 (n9 * 5 + 2)), .int (nI i)] (k_hasBit) s_yX10_hasBit m_X10_172 dX10_allFactors_132 rfl (by decide) ⟨Nat.le_refl _, Nat.le_refl _⟩ (Nat.le_of_ble_eq_true rfl) ?_
                show E 0 0 135 [(0, .ref 64), (1, .int (nI k)), (2, .int (nI n9)), (3, .int (nI (q_n (D 87).1 (n9 * 5 + 0)))), (4, .int ((D 87).1 (n9 * 5 + 2))), (5, .int ((D 85).1 (k * 3 + 1))), (6, .int (nI (q_n (D 85).1 (k * 3 + 2)))), (7, .int 1), (8, .long (lN (o_th c (fun th => decide (y_bit ((D 87).1 (n9 * 5 + 2)) th)) i))), (10, .int (nI i))] [.int (y_b (y_bit ((D 87).1 (n9 * 5 + 2)) i)), .long (lN (o_th c (fun th => decide (y_bit ((D 87).1 (n9 * 5 + 2)) th)) i))] (y_mk n L D9)
                refine r_ifb_eq (tgt := 144) hE dX10_allFactors_135 (by decide) (fun c135 => ?_) (fun c135 => ?_)
                · refine r_ldc2 (v := 3) hE dX10_allFactors_144 (x_gin (List.mem_append_right _ (tb_5 _ (List.mem_of_getElem? (i := 148) rfl))) rfl) ?_
                  refine r_lmul hE dX10_allFactors_147 ?_
                  refine r_topL (y := lN ((o_th c (fun th => decide (y_bit ((D 87).1 (n9 * 5 + 2)) th)) i) * 3)) (lN_mul (o_th c (fun th => decide (y_bit ((D 87).1 (n9 * 5 + 2)) th)) i) 3) ?_
                  refine r_lstore (ls2 := [(0, .ref 64), (1, .int (nI k)), (2, .int (nI n9)), (3, .int (nI (q_n (D 87).1 (n9 * 5 + 0)))), (4, .int ((D 87).1 (n9 * 5 + 2))), (5, .int ((D 85).1 (k * 3 + 1))), (6, .int (nI (q_n (D 85).1 (k * 3 + 2)))), (7, .int 1), (8, .long (lN ((o_th c (fun th => decide (y_bit ((D 87).1 (n9 * 5 + 2)) th)) i) * 3))), (10, .int (nI i))]) hE dX10_allFactors_148 (by decide) rfl ?_
                  refine r_goto (tgt := 175) hE dX10_allFactors_150 (by decide) ?_
                  refine r_iincN (a := i) (b := 1) (ls2 := [(0, .ref 64), (1, .int (nI k)), (2, .int (nI n9)), (3, .int (nI (q_n (D 87).1 (n9 * 5 + 0)))), (4, .int ((D 87).1 (n9 * 5 + 2))), (5, .int ((D 85).1 (k * 3 + 1))), (6, .int (nI (q_n (D 85).1 (k * 3 + 2)))), (7, .int 1), (8, .long (lN ((o_th c (fun th => decide (y_bit ((D 87).1 (n9 * 5 + 2)) th)) i) * 3))), (10, .int (nI (i + 1)))]) hE dX10_allFactors_175 rfl rfl (by decide) rfl ?_
                  refine r_goto (tgt := 94) hE dX10_allFactors_178 (by decide) ?_
                  obtain ⟨c2, hc2⟩ : ∃ z : Nat → Bool, z = (fun th => if th = i then true else c th) := ⟨_, rfl⟩
                  have e9 : o_th c2 (fun th => decide (y_bit ((D 87).1 (n9 * 5 + 2)) th)) (i + 1) = (o_th c (fun th => decide (y_bit ((D 87).1 (n9 * 5 + 2)) th)) i) * 3 := by
                    show o_th c2 (fun th => decide (y_bit ((D 87).1 (n9 * 5 + 2)) th)) i * (if c2 i then (if (fun th => decide (y_bit ((D 87).1 (n9 * 5 + 2)) th)) i then 7 else 3) else (if (fun th => decide (y_bit ((D 87).1 (n9 * 5 + 2)) th)) i then 1 else 9)) = _
                    rw [o_th_c (c2 := c) (fun j hj => by rw [hc2]; dsimp only; rw [if_neg (by omega)]), show c2 i = true by rw [hc2]; dsimp only; rw [if_pos rfl]]
                    rw [if_pos rfl]
                    rw [if_neg (fun q => c135 (of_decide_eq_true q))]
                  refine r_locs hE (ls2 := [(0, .ref 64), (1, .int (nI k)), (2, .int (nI n9)), (3, .int (nI (q_n (D 87).1 (n9 * 5 + 0)))), (4, .int ((D 87).1 (n9 * 5 + 2))), (5, .int ((D 85).1 (k * 3 + 1))), (6, .int (nI (q_n (D 85).1 (k * 3 + 2)))), (7, .int 1), (8, .long (lN (o_th c2 (fun th => decide (y_bit ((D 87).1 (n9 * 5 + 2)) th)) (i + 1)))), (10, .int (nI (i + 1)))]) ?_ (ih ((q_n (D 78).1 2) - (i + 1)) (by omega) (i + 1) c2 _ rfl (by omega) (k_same_t sm sm9) ci9 (fun th hth => ?_))
                  · rw [e9]
                    simp [x_lk]
                  · rw [hc2]
                    dsimp only
                    by_cases q : th = i
                    · rw [if_pos q, q]
                      exact ⟨v8, h8, ⟨fun _ => Classical.not_not.mp (fun q => c123 ((y_is_0 h7).mpr q)), fun _ => rfl⟩⟩
                    · rw [if_neg q]
                      exact hc th (by omega)
                · refine r_ldc2 (v := 7) hE dX10_allFactors_138 (x_gin (List.mem_append_right _ (tb_5 _ (List.mem_of_getElem? (i := 147) rfl))) rfl) ?_
                  refine r_goto (tgt := 147) hE dX10_allFactors_141 (by decide) ?_
                  refine r_lmul hE dX10_allFactors_147 ?_
                  refine r_topL (y := lN ((o_th c (fun th => decide (y_bit ((D 87).1 (n9 * 5 + 2)) th)) i) * 7)) (lN_mul (o_th c (fun th => decide (y_bit ((D 87).1 (n9 * 5 + 2)) th)) i) 7) ?_
                  refine r_lstore (ls2 := [(0, .ref 64), (1, .int (nI k)), (2, .int (nI n9)), (3, .int (nI (q_n (D 87).1 (n9 * 5 + 0)))), (4, .int ((D 87).1 (n9 * 5 + 2))), (5, .int ((D 85).1 (k * 3 + 1))), (6, .int (nI (q_n (D 85).1 (k * 3 + 2)))), (7, .int 1), (8, .long (lN ((o_th c (fun th => decide (y_bit ((D 87).1 (n9 * 5 + 2)) th)) i) * 7))), (10, .int (nI i))]) hE dX10_allFactors_148 (by decide) rfl ?_
                  refine r_goto (tgt := 175) hE dX10_allFactors_150 (by decide) ?_
                  refine r_iincN (a := i) (b := 1) (ls2 := [(0, .ref 64), (1, .int (nI k)), (2, .int (nI n9)), (3, .int (nI (q_n (D 87).1 (n9 * 5 + 0)))), (4, .int ((D 87).1 (n9 * 5 + 2))), (5, .int ((D 85).1 (k * 3 + 1))), (6, .int (nI (q_n (D 85).1 (k * 3 + 2)))), (7, .int 1), (8, .long (lN ((o_th c (fun th => decide (y_bit ((D 87).1 (n9 * 5 + 2)) th)) i) * 7))), (10, .int (nI (i + 1)))]) hE dX10_allFactors_175 rfl rfl (by decide) rfl ?_
                  refine r_goto (tgt := 94) hE dX10_allFactors_178 (by decide) ?_
                  obtain ⟨c2, hc2⟩ : ∃ z : Nat → Bool, z = (fun th => if th = i then true else c th) := ⟨_, rfl⟩
                  have e9 : o_th c2 (fun th => decide (y_bit ((D 87).1 (n9 * 5 + 2)) th)) (i + 1) = (o_th c (fun th => decide (y_bit ((D 87).1 (n9 * 5 + 2)) th)) i) * 7 := by
                    show o_th c2 (fun th => decide (y_bit ((D 87).1 (n9 * 5 + 2)) th)) i * (if c2 i then (if (fun th => decide (y_bit ((D 87).1 (n9 * 5 + 2)) th)) i then 7 else 3) else (if (fun th => decide (y_bit ((D 87).1 (n9 * 5 + 2)) th)) i then 1 else 9)) = _
                    rw [o_th_c (c2 := c) (fun j hj => by rw [hc2]; dsimp only; rw [if_neg (by omega)]), show c2 i = true by rw [hc2]; dsimp only; rw [if_pos rfl]]
                    rw [if_pos rfl]
                    rw [if_pos (decide_eq_true c135)]
                  refine r_locs hE (ls2 := [(0, .ref 64), (1, .int (nI k)), (2, .int (nI n9)), (3, .int (nI (q_n (D 87).1 (n9 * 5 + 0)))), (4, .int ((D 87).1 (n9 * 5 + 2))), (5, .int ((D 85).1 (k * 3 + 1))), (6, .int (nI (q_n (D 85).1 (k * 3 + 2)))), (7, .int 1), (8, .long (lN (o_th c2 (fun th => decide (y_bit ((D 87).1 (n9 * 5 + 2)) th)) (i + 1)))), (10, .int (nI (i + 1)))]) ?_ (ih ((q_n (D 78).1 2) - (i + 1)) (by omega) (i + 1) c2 _ rfl (by omega) (k_same_t sm sm9) ci9 (fun th hth => ?_))
                  · rw [e9]
                    simp [x_lk]
                  · rw [hc2]
                    dsimp only
                    by_cases q : th = i
                    · rw [if_pos q, q]
                      exact ⟨v8, h8, ⟨fun _ => Classical.not_not.mp (fun q => c123 ((y_is_0 h7).mpr q)), fun _ => rfl⟩⟩
                    · rw [if_neg q]
                      exact hc th (by omega)
        exact l1 0 (fun _ => false) _ (by omega) k_same_r hCI (fun th hth => absurd hth (by omega))

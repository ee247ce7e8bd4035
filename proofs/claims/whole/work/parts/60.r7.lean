/-! ===== the class: Ropes ===== -/
theorem nx_and (a b : Nat) : nI a &&& nI b = nI (a &&& b) := by
  apply Int32.toBitVec_inj.1
  show BitVec.ofNat 32 a &&& BitVec.ofNat 32 b = BitVec.ofNat 32 (a &&& b)
  apply BitVec.eq_of_getLsbD_eq
  intro i hi
  simp [hi]
def k_BK (D : y_D) : Prop := (q_ok (D 90).1 2 6 ∧ (D 90).1 0 = nI 4) ∧ q_ok (D 73).1 13 50 ∧ ∀ k, k < q_n (D 90).1 2 → (q_ok (D 91).1 (k * 4 + 0) 99 ∧ 1 ≤ q_n (D 91).1 (k * 4 + 0)) ∧ (q_ok (D 91).1 (k * 4 + 1) 99 ∧ 1 ≤ q_n (D 91).1 (k * 4 + 1)) ∧ q_ok (D 91).1 (k * 4 + 2) 50 ∧ q_ok (D 91).1 (k * 4 + 3) 50
def r_sum (g : Nat → Nat) (s : Nat) : Nat → Nat
  | 0 => 0
  | j + 1 => r_sum g s j + (if s.testBit j = true then g j else 0)
def k_gv (D : y_D) (j : Nat) : Nat := if j < q_n (D 90).1 2 then q_n (D 91).1 (j * 4 + 3) else 0
def k_rS (D : y_D) (s : Nat) : Nat := q_n (D 73).1 13 + r_sum (k_gv D) s 6
def r_clr (s k : Nat) : Nat := if s.testBit k = true then s ^^^ 2 ^ k else s
def k_tn (D : y_D) (s k : Nat) : Prop := q_n (D 91).1 (k * 4 + 2) ≤ k_rS D (r_clr s k)
def k_kwt (D : y_D) (s k : Nat) : Nat := if s.testBit k = true then q_n (D 91).1 (k * 4 + 1) else q_n (D 91).1 (k * 4 + 0)
theorem r_clr_ok : ∀ s, s < 64 → ∀ k, k < 6 → nI s &&& (nI (2 ^ k) ^^^ (-1)) = nI (r_clr s k) ∧ r_clr s k < 64 := by decide +kernel
theorem r_low : ∀ s, s < 64 → s ≠ 0 → s &&& (s - 1) < s ∧ y_tz s < 6 ∧ ∀ j, j < 6 → (s.testBit j = ((s &&& (s - 1)).testBit j || decide (j = y_tz s))) ∧ ((s &&& (s - 1)).testBit (y_tz s) = false) := by decide +kernel
theorem r_sum_1 {g : Nat → Nat} {s t z : Nat} (ht : t.testBit z = false) : ∀ n, (∀ j, j < n → s.testBit j = (t.testBit j || decide (j = z))) → r_sum g s n = r_sum g t n + (if z < n then g z else 0)
  | 0, _ => rfl
  | n + 1, h => by
    have ih := r_sum_1 (g := g) (s := s) ht n (fun j hj => h j (by omega))
    unfold r_sum
    rw [ih, h n (by omega)]
    by_cases c : n = z
    · subst c
      rw [ht, if_neg (show ¬ n < n by omega), if_pos (show n < n + 1 by omega)]
      simp
    · rw [decide_eq_false c, Bool.or_false]
      by_cases c2 : z < n
      · rw [if_pos c2, if_pos (show z < n + 1 by omega)]; omega
      · rw [if_neg c2, if_neg (show ¬ z < n + 1 by omega)]; omega
theorem k_gv_b {D : y_D} (h : k_BK D) (j : Nat) : k_gv D j ≤ 50 := by
  unfold k_gv
  split
  · rename_i c; exact (h.2.2 j c).2.2.2.2
  · omega
theorem r_sum_b {g : Nat → Nat} {s : Nat} (h : ∀ j, g j ≤ 50) : ∀ n, r_sum g s n ≤ 50 * n
  | 0 => Nat.le_refl _
  | n + 1 => by
    unfold r_sum
    have := r_sum_b (s := s) h n
    have := h n
    split <;> omega
theorem k_rS_b {D : y_D} (h : k_BK D) (s : Nat) : k_rS D s ≤ 350 := by
  unfold k_rS
  have := r_sum_b (s := s) (k_gv_b h) 6
  have := h.2.1.2
  omega
theorem k_rS_1 {D : y_D} {s : Nat} (hs : s < 64) (h0 : s ≠ 0) : k_rS D s = k_rS D (s &&& (s - 1)) + k_gv D (y_tz s) := by
  obtain ⟨-, h2, h3⟩ := r_low s hs h0
  unfold k_rS
  rw [r_sum_1 (z := y_tz s) (h3 0 (by decide)).2 6 (fun j hj => (h3 j hj).1), if_pos h2]
  omega
theorem k_rS_0 {D : y_D} : k_rS D 0 = q_n (D 73).1 13 := by
  unfold k_rS
  have : ∀ n, r_sum (k_gv D) 0 n = 0 := by
    intro n
    induction n with
    | zero => rfl
    | succ n ih => unfold r_sum; rw [ih, Nat.zero_testBit]; rfl
  rw [this]
  rfl
theorem k_kwt_b {D : y_D} (h : k_BK D) {s k : Nat} (hk : k < q_n (D 90).1 2) : 1 ≤ k_kwt D s k ∧ k_kwt D s k ≤ 99 := by
  unfold k_kwt
  split
  · exact ⟨(h.2.2 k hk).2.1.2, (h.2.2 k hk).2.1.1.2⟩
  · exact ⟨(h.2.2 k hk).1.2, (h.2.2 k hk).1.1.2⟩
/-- rows that Ropes writes -/
def k_f2 (D D2 : y_D) : Prop := y_fx [164, 165] D D2
theorem k_BK_f {D D2 : y_D} (h : k_f2 D D2) (a : k_BK D) : k_BK D2 := by
  unfold k_BK at a ⊢
  rw [h.1 90 (by decide), h.1 91 (by decide), h.1 73 (by decide)]
  exact a
theorem k_rS_f {D D2 : y_D} (h : k_f2 D D2) : k_rS D2 = k_rS D := by
  unfold k_rS
  have : k_gv D2 = k_gv D := by unfold k_gv; rw [h.1 90 (by decide), h.1 91 (by decide)]
  rw [this, h.1 73 (by decide)]
theorem k_tn_f {D D2 : y_D} (h : k_f2 D D2) : k_tn D2 = k_tn D := by unfold k_tn; rw [k_rS_f h, h.1 91 (by decide)]
theorem k_kwt_f {D D2 : y_D} (h : k_f2 D D2) : k_kwt D2 = k_kwt D := by unfold k_kwt; rw [h.1 91 (by decide)]
/-- from a state to an end, c0 what is still to be done there -/
abbrev r_bw (tn : Nat → Nat → Prop) (wt : Nat → Nat → Nat) (kn : Nat) (c0 : Nat → Nat) : Nat → Nat → Nat → Prop := g_P (fun s x => c0 s ≤ x) (fun u v a x => ∃ k, k < kn ∧ v < 2 ^ kn ∧ tn v k ∧ u = v ^^^ 2 ^ k ∧ a + wt v k ≤ x)
theorem r_bw_short {tn : Nat → Nat → Prop} {wt : Nat → Nat → Nat} {kn : Nat} {c0 : Nat → Nat} {j s x : Nat} (hs : s < 2 ^ kn) (h : r_bw tn wt kn c0 j s x) : r_bw tn wt kn c0 (2 ^ kn - 1) s x := by
  have h1 : 1 ≤ 2 ^ kn := Nat.one_le_two_pow
  exact g_short (B := fun s x => c0 s ≤ x) (E := fun u v a x => ∃ k, k < kn ∧ v < 2 ^ kn ∧ tn v k ∧ u = v ^^^ 2 ^ k ∧ a + wt v k ≤ x) (fun _ _ _ h hxy => Nat.le_trans h hxy) (fun u v a x y ⟨k, h1, h2, h3, h4, h5⟩ hxy => ⟨k, h1, h2, h3, h4, by omega⟩) (N := 2 ^ kn - 1) (fun u v a x ⟨k, k1, h2, _, h4, _⟩ => by have := r_xlt k1 h2; rw [← h4] at this; omega) (by omega) j h
theorem k_gv_ok {D : y_D} {j : Nat} (h : k_BK D) : (if j < q_n (D 90).1 2 ∧ 3 < 4 then (D 91).1 (j * 4 + 3) else 0) = nI (k_gv D j) := by
  unfold k_gv
  by_cases c : j < q_n (D 90).1 2
  · rw [if_pos ⟨c, by decide⟩, if_pos c]; exact (h.2.2 j c).2.2.2.1
  · rw [if_neg (fun q => c q.1), if_neg c]; rfl
theorem k_reckonSlacks {V : x_E} {n : Nat} {L : List Nat} {D : y_D} (hL : y_ok L) (hK : k_BK D) : y_Rv V yX3_reckonSlacks cX3_reckonSlacks 4 none 1 [.ref 163] n L D (fun D2 => y_fx [165] D D2 ∧ ∀ s, s < 64 → (D2 165).1 s = nI (k_rS D s)) := by
  refine y_rv (by decide) (Nat.le_of_ble_eq_true rfl) (fun E hE => ?_)
  change E 0 0 0 [(0, .ref 163)] [] (y_mk n L D)
  have hk6 : q_n (D 90).1 2 ≤ 6 := hK.1.1.2
  have hp6 : 2 ^ q_n (D 90).1 2 ≤ 2 ^ 6 := Nat.pow_le_pow_right (by decide) hk6
  have hp7 : (2 : Nat) ^ 6 = 64 := rfl
  have hp8 : 1 ≤ 2 ^ q_n (D 90).1 2 := Nat.one_le_two_pow
  have lp : ∀ (i : Nat) (D8 : y_D), 1 ≤ i → i ≤ 64 → y_fx [165] D D8 → (∀ s, s < i → (D8 165).1 s = nI (k_rS D s)) → E 0 0 15 [(0, .ref 163), (1, .int (nI i))] [] (y_mk n L D8) := by
    intro i D8
    induction hm9 : (64 - i) using Nat.strongRecOn generalizing i D8 with
    | _ m9 ih =>
      intro hi1 hi fr sl
      subst hm9
      refine r_iload_n hE dX3_reckonSlacks_15 rfl ?_
      refine r_bipush (v := 64) hE dX3_reckonSlacks_16 (by decide) ?_
      refine r_icmp_geN (a := i) (b := 64) (tgt := 63) hE dX3_reckonSlacks_18 (by decide) (by omega) (by decide) (fun c18 => ?_) (fun c18 => ?_)
      · refine r_return hE dX3_reckonSlacks_63 rfl (Nat.zero_le _) (Nat.zero_le _) ?_
        exact ⟨_, rfl, rfl, fr, by rw [show i = 64 by omega] at sl; exact sl⟩
      · have hlow := r_low i (by omega) (by omega)
        refine r_iload_n hE dX3_reckonSlacks_21 rfl ?_
        refine r_iload_n hE dX3_reckonSlacks_22 rfl ?_
        refine r_iconst (v := 1) hE dX3_reckonSlacks_23 (by decide) ?_
        refine r_isubN (a := i) (b := 1) hE dX3_reckonSlacks_24 (by omega) ?_
        refine r_iand hE dX3_reckonSlacks_25 ?_
        refine r_top (y := (nI (i &&& (i - 1)))) (nx_and _ _) ?_
        refine r_istore_n (ls2 := [(0, .ref 163), (1, .int (nI i)), (2, .int (nI (i &&& (i - 1))))]) hE dX3_reckonSlacks_26 (by decide) rfl ?_
        refine r_aload_n hE dX3_reckonSlacks_27 rfl ?_
        refine t_getr hE f_X3_18 y_R_163_0 dX3_reckonSlacks_28 (hL 163 (by decide)) ?_
        refine t_getr hE f_X3_43 y_R_73_11 dX3_reckonSlacks_31 (hL 73 (by decide)) ?_
        refine r_iload_n hE dX3_reckonSlacks_34 rfl ?_
        refine t_invs (r := (some (.int (nI (y_tz i))))) (S2 := (y_mk n L D8)) hE [.int (nI i)] (j_ntz i (by omega)) s_yJ6_numberOfTrailingZeros_0f7a4 m_X3_65 dX3_reckonSlacks_35 rfl (by decide) ⟨Nat.le_refl _, Nat.le_refl _⟩ (Nat.le_of_ble_eq_true rfl) ?_
        show E 0 0 38 [(0, .ref 163), (1, .int (nI i)), (2, .int (nI (i &&& (i - 1))))] [.int (nI (y_tz i)), .ref 90] (y_mk n L D8)
        refine r_iconst (v := 3) hE dX3_reckonSlacks_38 (by decide) ?_
        refine t_invv (r := (some (.int (if (y_tz i) < q_n (D 90).1 2 ∧ 3 < 4 then (D8 91).1 ((y_tz i) * 4 + 3) else 0)))) (S2 := (y_mk n L D8)) hE [.int (nI (y_tz i)), .int 3] (k_get (D := D8) (k := q_n (D 90).1 2) (wd := 4) y_T_90 (hL 90 (by decide)) (hL 91 (by decide)) (by rw [fr.1 90 (by decide)]; exact hK.1.1.1) (by rw [fr.1 90 (by decide)]; exact hK.1.2) (by omega) (by decide) (by decide) (r := (y_tz i)) (c := 3) (by omega) (by decide) (by omega)) v_yX7_get m_X3_55 dX3_reckonSlacks_39 rfl (hL 90 (by decide)) (y_l_90 (D8 90)) rfl (by decide) ⟨Nat.le_refl _, Nat.le_refl _⟩ (Nat.le_of_ble_eq_true rfl) ?_
        show E 0 0 42 [(0, .ref 163), (1, .int (nI i)), (2, .int (nI (i &&& (i - 1))))] [.int (if (y_tz i) < q_n (D 90).1 2 ∧ 3 < 4 then (D8 91).1 ((y_tz i) * 4 + 3) else 0)] (y_mk n L D8)
        refine r_top (y := (nI (k_gv D (y_tz i)))) (by rw [fr.1 91 (by decide)]; exact k_gv_ok hK) ?_
        refine r_istore_n (ls2 := [(0, .ref 163), (1, .int (nI i)), (2, .int (nI (i &&& (i - 1)))), (3, .int (nI (k_gv D (y_tz i))))]) hE dX3_reckonSlacks_42 (by decide) rfl ?_
        refine r_aload_n hE dX3_reckonSlacks_43 rfl ?_
        refine t_getr hE f_X3_15 y_R_163_2 dX3_reckonSlacks_44 (hL 163 (by decide)) ?_
        refine r_iload_n hE dX3_reckonSlacks_47 rfl ?_
        refine r_aload_n hE dX3_reckonSlacks_48 rfl ?_
        refine t_getr hE f_X3_15 y_R_163_2 dX3_reckonSlacks_49 (hL 163 (by decide)) ?_
        refine r_iload_n hE dX3_reckonSlacks_52 rfl ?_
        refine t_ialdN (e := i &&& (i - 1)) hE y_A_165 dX3_reckonSlacks_53 (hL 165 (by decide)) (by omega) (by decide) ?_
        refine r_top (y := (nI (k_rS D (i &&& (i - 1))))) (sl _ (by omega)) ?_
        refine r_iload_n hE dX3_reckonSlacks_54 rfl ?_
        refine r_iaddN (a := k_rS D (i &&& (i - 1))) (b := k_gv D (y_tz i)) hE dX3_reckonSlacks_55 ?_
        refine t_iastN (e := i) hE y_A_165 dX3_reckonSlacks_56 (hL 165 (by decide)) (by omega) (by decide) ?_
        refine r_iincN (a := i) (b := 1) (ls2 := [(0, .ref 163), (1, .int (nI (i + 1))), (2, .int (nI (i &&& (i - 1)))), (3, .int (nI (k_gv D (y_tz i))))]) hE dX3_reckonSlacks_57 rfl rfl (by decide) rfl ?_
        refine r_goto (tgt := 15) hE dX3_reckonSlacks_60 (by decide) ?_
        refine r_locs hE (ls2 := [(0, .ref 163), (1, .int (nI (i + 1)))]) ?_ (ih (64 - (i + 1)) (by omega) (i + 1) _ rfl (by omega) (by omega) (y_fx_s fr (by decide)) (fun s hs => ?_))
        · simp [x_lk]
        · rw [y_si_1]
          by_cases c : s = i
          · rw [if_pos c, c, k_rS_1 (s := i) (by omega) (by omega)]
          · rw [if_neg c]; exact sl s (by omega)
  refine r_aload_n hE dX3_reckonSlacks_0 rfl ?_
  refine t_getr hE f_X3_15 y_R_163_2 dX3_reckonSlacks_1 (hL 163 (by decide)) ?_
  refine r_iconst (v := 0) hE dX3_reckonSlacks_4 (by decide) ?_
  refine r_aload_n hE dX3_reckonSlacks_5 rfl ?_
  refine t_getr hE f_X3_18 y_R_163_0 dX3_reckonSlacks_6 (hL 163 (by decide)) ?_
  refine t_geti hE f_X3_62 y_I_73_13 dX3_reckonSlacks_9 (hL 73 (by decide)) ?_
  refine r_top (y := (nI (q_n (D 73).1 13))) hK.2.1.1 ?_
  refine t_iastN (e := 0) hE y_A_165 dX3_reckonSlacks_12 (hL 165 (by decide)) (by omega) (by decide) ?_
  refine r_iconst (v := 1) hE dX3_reckonSlacks_13 (by decide) ?_
  refine r_istore_n (ls2 := [(0, .ref 163), (1, .int 1)]) hE dX3_reckonSlacks_14 (by decide) rfl ?_
  exact lp 1 _ (by omega) (by omega) (y_fx_s y_fx_r (by decide)) (fun s hs => by rw [show s = 0 by omega, y_si_1, if_pos rfl, k_rS_0])
theorem k_givesWay {V : x_E} {n : Nat} {L : List Nat} {D : y_D} {k s : Nat} (hL : y_ok L) (hK : k_BK D) (hk : k < q_n (D 90).1 2) (hs : s < 64) (sl : ∀ s, s < 64 → (D 165).1 s = nI (k_rS D s)) : y_Ri V yX3_givesWay cX3_givesWay 3 (some .boolean) 1 [.ref 163, .int (nI k), .int (nI s)] n L D (fun v D2 => y_is v (q_n (D 91).1 (k * 4 + 2) ≤ k_rS D s) ∧ D2 = D) := by
  refine y_ri (by decide) (Nat.le_of_ble_eq_true rfl) (fun E hE => ?_)
  change E 0 0 0 [(0, .ref 163), (1, .int (nI k)), (2, .int (nI s))] [] (y_mk n L D)
  have hk6 : q_n (D 90).1 2 ≤ 6 := hK.1.1.2
  have hp6 : 2 ^ q_n (D 90).1 2 ≤ 2 ^ 6 := Nat.pow_le_pow_right (by decide) hk6
  have hp7 : (2 : Nat) ^ 6 = 64 := rfl
  have hp8 : 1 ≤ 2 ^ q_n (D 90).1 2 := Nat.one_le_two_pow
  refine r_aload_n hE dX3_givesWay_0 rfl ?_
  refine t_getr hE f_X3_15 y_R_163_2 dX3_givesWay_1 (hL 163 (by decide)) ?_
  refine r_iload_n hE dX3_givesWay_4 rfl ?_
  refine t_ialdN (e := s) hE y_A_165 dX3_givesWay_5 (hL 165 (by decide)) (by omega) (by decide) ?_
  refine r_top (y := (nI (k_rS D s))) (sl s hs) ?_
  refine r_aload_n hE dX3_givesWay_6 rfl ?_
  refine t_getr hE f_X3_18 y_R_163_0 dX3_givesWay_7 (hL 163 (by decide)) ?_
  refine t_getr hE f_X3_43 y_R_73_11 dX3_givesWay_10 (hL 73 (by decide)) ?_
  refine r_iload_n hE dX3_givesWay_13 rfl ?_
  refine r_iconst (v := 2) hE dX3_givesWay_14 (by decide) ?_
  refine t_invv (r := (some (.int (if k < q_n (D 90).1 2 ∧ 2 < 4 then (D 91).1 (k * 4 + 2) else 0)))) (S2 := (y_mk n L D)) hE [.int (nI k), .int 2] (k_get (D := D) (k := q_n (D 90).1 2) (wd := 4) y_T_90 (hL 90 (by decide)) (hL 91 (by decide)) hK.1.1.1 hK.1.2 (by omega) (by decide) (by decide) (r := k) (c := 2) (by omega) (by decide) (by omega)) v_yX7_get m_X3_55 dX3_givesWay_15 rfl (hL 90 (by decide)) (y_l_90 (D 90)) rfl (by decide) ⟨Nat.le_refl _, Nat.le_refl _⟩ (Nat.le_of_ble_eq_true rfl) ?_
  show E 0 0 18 [(0, .ref 163), (1, .int (nI k)), (2, .int (nI s))] [.int (if k < q_n (D 90).1 2 ∧ 2 < 4 then (D 91).1 (k * 4 + 2) else 0), .int (nI (k_rS D s))] (y_mk n L D)
  refine r_top (y := (nI (q_n (D 91).1 (k * 4 + 2)))) (by rw [if_pos ⟨hk, by decide⟩]; exact (hK.2.2 k hk).2.2.1.1) ?_
  have hb1 := k_rS_b hK s
  have hb2 : q_n (D 91).1 (k * 4 + 2) ≤ 50 := (hK.2.2 k hk).2.2.1.2
  refine r_icmp_ltN (a := k_rS D s) (b := q_n (D 91).1 (k * 4 + 2)) (tgt := 25) hE dX3_givesWay_18 (by decide) (by omega) (by omega) (fun c18 => ?_) (fun c18 => ?_)
  · refine r_iconst (v := 0) hE dX3_givesWay_25 (by decide) ?_
    refine r_ireturn hE dX3_givesWay_26 rfl (by decide) (Nat.zero_le _) (Nat.zero_le _) ?_
    first
    | exact ⟨_, _, rfl, rfl, Or.inl ⟨rfl, c18⟩, rfl⟩
    | exact ⟨_, _, rfl, rfl, Or.inr ⟨rfl, by omega⟩, rfl⟩
  · refine r_iconst (v := 1) hE dX3_givesWay_21 (by decide) ?_
    refine r_goto (tgt := 26) hE dX3_givesWay_22 (by decide) ?_
    refine r_ireturn hE dX3_givesWay_26 rfl (by decide) (Nat.zero_le _) (Nat.zero_le _) ?_
    first
    | exact ⟨_, _, rfl, rfl, Or.inl ⟨rfl, c18⟩, rfl⟩
    | exact ⟨_, _, rfl, rfl, Or.inr ⟨rfl, by omega⟩, rfl⟩
theorem k_secondsBy {V : x_E} {n : Nat} {L : List Nat} {D : y_D} (hV : y_V V) {s k : Nat} (hL : y_ok L) (hK : k_BK D) (hk : k < q_n (D 90).1 2) (hs : s < 64) (sl : ∀ s, s < 64 → (D 165).1 s = nI (k_rS D s)) (ok : ∀ z, z < 64 → q_ok (D 164).1 z 1000000) : y_Ri V yX3_secondsBy cX3_secondsBy 5 (some .int) 2 [.ref 163, .int (nI s), .int (nI k)] n L D (fun v D2 => (∃ b, v = nI b ∧ ((k_tn D s k ∧ b = k_kwt D s k + q_n (D 164).1 (s ^^^ 2 ^ k)) ∨ (¬ k_tn D s k ∧ b = 1000000))) ∧ D2 = D) := by
  refine y_ri (by decide) (Nat.le_of_ble_eq_true rfl) (fun E hE => ?_)
  change E 0 0 0 [(0, .ref 163), (1, .int (nI s)), (2, .int (nI k))] [] (y_mk n L D)
  have hk6 : q_n (D 90).1 2 ≤ 6 := hK.1.1.2
  have hp6 : 2 ^ q_n (D 90).1 2 ≤ 2 ^ 6 := Nat.pow_le_pow_right (by decide) hk6
  have hp7 : (2 : Nat) ^ 6 = 64 := rfl
  have hp8 : 1 ≤ 2 ^ q_n (D 90).1 2 := Nat.one_le_two_pow
  refine r_iconst (v := 1) hE dX3_secondsBy_0 (by decide) ?_
  refine r_iload_n hE dX3_secondsBy_1 rfl ?_
  refine r_shl1N (k := k) hE dX3_secondsBy_2 (by omega) ?_
  refine r_istore_n (ls2 := [(0, .ref 163), (1, .int (nI s)), (2, .int (nI k)), (3, .int (nI (2 ^ k)))]) hE dX3_secondsBy_3 (by decide) rfl ?_
  have hx64 : s ^^^ 2 ^ k < 64 := by have := r_xlt (kn := 6) (show k < 6 by omega) (show s < 2 ^ 6 by omega); omega
  refine r_aload_n hE dX3_secondsBy_4 rfl ?_
  refine r_iload_n hE dX3_secondsBy_5 rfl ?_
  refine r_iload_n hE dX3_secondsBy_6 rfl ?_
  refine r_iload_n hE dX3_secondsBy_7 rfl ?_
  refine r_iconst (v := (-1)) hE dX3_secondsBy_8 (by decide) ?_
  refine r_ixor hE dX3_secondsBy_9 ?_
  refine r_iand hE dX3_secondsBy_10 ?_
  refine r_top (y := (nI (r_clr s k))) (r_clr_ok s (by omega) k (by omega)).1 ?_
  refine t_invvRi hE [.int (nI k), .int (nI (r_clr s k))] (k_givesWay (D := D) (k := k) (s := (r_clr s k)) hL hK hk (r_clr_ok s (by omega) k (by omega)).2 sl) v_yX3_givesWay m_X3_59 dX3_secondsBy_11 rfl (hL 163 (by decide)) (y_l_163 (D 163)) rfl (by decide) ⟨Nat.le_refl _, Nat.le_refl _⟩ (Nat.le_of_ble_eq_true rfl) (fun v9 D9 q9 => ?_)
  obtain ⟨q9, hD9⟩ := q9
  rw [hD9]
  show E 0 0 14 [(0, .ref 163), (1, .int (nI s)), (2, .int (nI k)), (3, .int (nI (2 ^ k)))] [.int v9] (y_mk n L D)
  refine r_if_ne (tgt := 20) hE dX3_secondsBy_14 (by decide) (fun c14 => ?_) (fun c14 => ?_)
  · refine r_iload_n hE dX3_secondsBy_20 rfl ?_
    refine r_iload_n hE dX3_secondsBy_21 rfl ?_
    refine t_invsN (r := (some (.int (y_b (y_bit (nI s) k))))) (S2 := (y_mk n L D)) hE [.int (nI s), .int (nI k)] (k_hasBit) s_yX10_hasBit (hN_X3_77 hV) dX3_secondsBy_22 rfl (by decide) ⟨Nat.le_refl _, Nat.le_refl _⟩ (Nat.le_of_ble_eq_true rfl) ?_
    show E 0 0 25 [(0, .ref 163), (1, .int (nI s)), (2, .int (nI k)), (3, .int (nI (2 ^ k)))] [.int (y_b (y_bit (nI s) k))] (y_mk n L D)
    refine r_istore (ls2 := [(0, .ref 163), (1, .int (nI s)), (2, .int (nI k)), (3, .int (nI (2 ^ k))), (4, .int (y_b (y_bit (nI s) k)))]) hE dX3_secondsBy_25 (by decide) rfl ?_
    refine r_aload_n hE dX3_secondsBy_27 rfl ?_
    refine t_getr hE f_X3_18 y_R_163_0 dX3_secondsBy_28 (hL 163 (by decide)) ?_
    refine t_getr hE f_X3_43 y_R_73_11 dX3_secondsBy_31 (hL 73 (by decide)) ?_
    refine r_iload_n hE dX3_secondsBy_34 rfl ?_
    refine r_iload hE dX3_secondsBy_35 rfl ?_
    refine r_ifb_eq (tgt := 44) hE dX3_secondsBy_37 (by decide) (fun c37 => ?_) (fun c37 => ?_)
    · have hwt0 : (D 91).1 (k * 4 + 0) = nI (k_kwt D s k) := by unfold k_kwt; rw [if_neg (fun q => c37 ((y_bit_tb (by omega)).mpr q))]; exact (hK.2.2 k hk).1.1.1
      refine r_iconst (v := 0) hE dX3_secondsBy_44 (by decide) ?_
      refine t_invv (r := (some (.int (if k < q_n (D 90).1 2 ∧ 0 < 4 then (D 91).1 (k * 4 + 0) else 0)))) (S2 := (y_mk n L D)) hE [.int (nI k), .int 0] (k_get (D := D) (k := q_n (D 90).1 2) (wd := 4) y_T_90 (hL 90 (by decide)) (hL 91 (by decide)) hK.1.1.1 hK.1.2 (by omega) (by decide) (by decide) (r := k) (c := 0) (by omega) (by decide) (by omega)) v_yX7_get m_X3_55 dX3_secondsBy_45 rfl (hL 90 (by decide)) (y_l_90 (D 90)) rfl (by decide) ⟨Nat.le_refl _, Nat.le_refl _⟩ (Nat.le_of_ble_eq_true rfl) ?_
      show E 0 0 48 [(0, .ref 163), (1, .int (nI s)), (2, .int (nI k)), (3, .int (nI (2 ^ k))), (4, .int (y_b (y_bit (nI s) k)))] [.int (if k < q_n (D 90).1 2 ∧ 0 < 4 then (D 91).1 (k * 4 + 0) else 0)] (y_mk n L D)
      refine r_top (y := (nI (k_kwt D s k))) (by rw [if_pos ⟨hk, by decide⟩, hwt0]) ?_
      refine r_aload_n hE dX3_secondsBy_48 rfl ?_
      refine t_getr hE f_X3_11 y_R_163_1 dX3_secondsBy_49 (hL 163 (by decide)) ?_
      refine r_iload_n hE dX3_secondsBy_52 rfl ?_
      refine r_iload_n hE dX3_secondsBy_53 rfl ?_
      refine r_ixor hE dX3_secondsBy_54 ?_
      refine r_top (y := (nI (s ^^^ 2 ^ k))) (nx_xor _ _) ?_
      refine t_ialdN (e := s ^^^ 2 ^ k) hE y_A_164 dX3_secondsBy_55 (hL 164 (by decide)) (by omega) (by decide) ?_
      refine r_top (y := (nI (q_n (D 164).1 (s ^^^ 2 ^ k)))) (ok _ (by omega)).1 ?_
      refine r_iaddN (a := k_kwt D s k) (b := q_n (D 164).1 (s ^^^ 2 ^ k)) hE dX3_secondsBy_56 ?_
      refine r_ireturn hE dX3_secondsBy_57 rfl rfl (Nat.zero_le _) (Nat.zero_le _) ?_
      exact ⟨_, _, rfl, rfl, ⟨_, rfl, Or.inl ⟨Classical.not_not.mp (fun q => c14 ((y_is_0 q9).mpr q)), rfl⟩⟩, rfl⟩
    · have hwt1 : (D 91).1 (k * 4 + 1) = nI (k_kwt D s k) := by unfold k_kwt; rw [if_pos ((y_bit_tb (by omega)).mp c37)]; exact (hK.2.2 k hk).2.1.1.1
      refine r_iconst (v := 1) hE dX3_secondsBy_40 (by decide) ?_
      refine r_goto (tgt := 45) hE dX3_secondsBy_41 (by decide) ?_
      refine t_invv (r := (some (.int (if k < q_n (D 90).1 2 ∧ 1 < 4 then (D 91).1 (k * 4 + 1) else 0)))) (S2 := (y_mk n L D)) hE [.int (nI k), .int 1] (k_get (D := D) (k := q_n (D 90).1 2) (wd := 4) y_T_90 (hL 90 (by decide)) (hL 91 (by decide)) hK.1.1.1 hK.1.2 (by omega) (by decide) (by decide) (r := k) (c := 1) (by omega) (by decide) (by omega)) v_yX7_get m_X3_55 dX3_secondsBy_45 rfl (hL 90 (by decide)) (y_l_90 (D 90)) rfl (by decide) ⟨Nat.le_refl _, Nat.le_refl _⟩ (Nat.le_of_ble_eq_true rfl) ?_
      show E 0 0 48 [(0, .ref 163), (1, .int (nI s)), (2, .int (nI k)), (3, .int (nI (2 ^ k))), (4, .int (y_b (y_bit (nI s) k)))] [.int (if k < q_n (D 90).1 2 ∧ 1 < 4 then (D 91).1 (k * 4 + 1) else 0)] (y_mk n L D)
      refine r_top (y := (nI (k_kwt D s k))) (by rw [if_pos ⟨hk, by decide⟩, hwt1]) ?_
      refine r_aload_n hE dX3_secondsBy_48 rfl ?_
      refine t_getr hE f_X3_11 y_R_163_1 dX3_secondsBy_49 (hL 163 (by decide)) ?_
      refine r_iload_n hE dX3_secondsBy_52 rfl ?_
      refine r_iload_n hE dX3_secondsBy_53 rfl ?_
      refine r_ixor hE dX3_secondsBy_54 ?_
      refine r_top (y := (nI (s ^^^ 2 ^ k))) (nx_xor _ _) ?_
      refine t_ialdN (e := s ^^^ 2 ^ k) hE y_A_164 dX3_secondsBy_55 (hL 164 (by decide)) (by omega) (by decide) ?_
      refine r_top (y := (nI (q_n (D 164).1 (s ^^^ 2 ^ k)))) (ok _ (by omega)).1 ?_
      refine r_iaddN (a := k_kwt D s k) (b := q_n (D 164).1 (s ^^^ 2 ^ k)) hE dX3_secondsBy_56 ?_
      refine r_ireturn hE dX3_secondsBy_57 rfl rfl (Nat.zero_le _) (Nat.zero_le _) ?_
      exact ⟨_, _, rfl, rfl, ⟨_, rfl, Or.inl ⟨Classical.not_not.mp (fun q => c14 ((y_is_0 q9).mpr q)), rfl⟩⟩, rfl⟩
  · refine r_ldc (v := 1000000) hE dX3_secondsBy_17 (x_gin (List.mem_append_right _ (tb_2 _ (List.mem_of_getElem? (i := 146) rfl))) rfl) ?_
    refine r_ireturn hE dX3_secondsBy_19 rfl rfl (Nat.zero_le _) (Nat.zero_le _) ?_
    exact ⟨_, _, rfl, rfl, ⟨_, rfl, Or.inr ⟨(y_is_0 q9).mp c14, rfl⟩⟩, rfl⟩
theorem k_shorten {V : x_E} {n : Nat} {L : List Nat} {D : y_D} (hV : y_V V) (hL : y_ok L) (hK : k_BK D) (sl : ∀ s, s < 64 → (D 165).1 s = nI (k_rS D s)) (ok0 : ∀ z, z < 64 → q_ok (D 164).1 z 1000000) : y_Rv V yX3_shorten cX3_shorten 6 none 3 [.ref 163] n L D (fun D2 => y_fx [164] D D2 ∧ (∀ z, z < 64 → q_ok (D2 164).1 z 1000000) ∧ ∀ s, s < 2 ^ q_n (D 90).1 2 → r_L (fun x => ∃ j, r_bw (k_tn D) (k_kwt D) (q_n (D 90).1 2) (fun s => q_n (D 164).1 (s)) j s x) (q_n (D2 164).1 (s))) := by
  refine y_rv (by decide) (Nat.le_of_ble_eq_true rfl) (fun E hE => ?_)
  change E 0 0 0 [(0, .ref 163)] [] (y_mk n L D)
  have hk6 : q_n (D 90).1 2 ≤ 6 := hK.1.1.2
  have hp6 : 2 ^ q_n (D 90).1 2 ≤ 2 ^ 6 := Nat.pow_le_pow_right (by decide) hk6
  have hp7 : (2 : Nat) ^ 6 = 64 := rfl
  have hp8 : 1 ≤ 2 ^ q_n (D 90).1 2 := Nat.one_le_two_pow
  have l2 : ∀ (r : Nat) (v : Int32) (D8 : y_D), r ≤ 64 → y_fx [164] D D8 → (∀ s, s < 64 → q_ok (D8 164).1 s 1000000) → (∀ s, s < 2 ^ q_n (D 90).1 2 → q_n (D8 164).1 (s) < 1000000 → ∃ j, r_bw (k_tn D) (k_kwt D) (q_n (D 90).1 2) (fun s => q_n (D 164).1 (s)) j s (q_n (D8 164).1 (s))) → (∀ s, q_n (D8 164).1 (s) ≤ q_n (D 164).1 (s)) → (∀ s, s < 2 ^ q_n (D 90).1 2 → ∀ x, x < 1000000 → r_bw (k_tn D) (k_kwt D) (q_n (D 90).1 2) (fun s => q_n (D 164).1 (s)) r s x → q_n (D8 164).1 (s) ≤ x) → (v = 1 ∨ (v = 0 ∧ (∀ s2 k2, s2 < 2 ^ q_n (D 90).1 2 → k2 < q_n (D 90).1 2 → k_tn D s2 k2 → q_n (D8 164).1 (s2) ≤ k_kwt D s2 k2 + q_n (D8 164).1 (s2 ^^^ 2 ^ k2)))) → E 0 0 4 [(0, .ref 163), (1, .int v), (2, .int (nI r))] [] (y_mk n L D8) := by
    intro r v D8
    induction hm9 : (64 - r) using Nat.strongRecOn generalizing r v D8 with
    | _ m9 ih =>
      intro hr fr ok so le co vf
      subst hm9
      refine r_iload_n hE dX3_shorten_4 rfl ?_
      refine r_bipush (v := 64) hE dX3_shorten_5 (by decide) ?_
      refine r_icmp_geN (a := r) (b := 64) (tgt := 100) hE dX3_shorten_7 (by decide) (by omega) (by decide) (fun c7 => ?_) (fun c7 => ?_)
      · refine r_return hE dX3_shorten_100 rfl (Nat.zero_le _) (Nat.zero_le _) ?_
        refine ⟨_, rfl, rfl, fr, ok, fun s hs => ⟨(ok s (by omega)).2, so s hs, fun x hx ⟨j, hj⟩ => ?_⟩⟩
        by_cases cr : r = 64
        · rw [cr] at co
          refine co s hs x hx ?_
          have := g_mono (d := 64 - (2 ^ q_n (D 90).1 2 - 1)) (r_bw_short hs hj)
          rw [show 2 ^ q_n (D 90).1 2 - 1 + (64 - (2 ^ q_n (D 90).1 2 - 1)) = 64 by omega] at this
          exact this
        · have hfx : (∀ s2 k2, s2 < 2 ^ q_n (D 90).1 2 → k2 < q_n (D 90).1 2 → k_tn D s2 k2 → q_n (D8 164).1 (s2) ≤ k_kwt D s2 k2 + q_n (D8 164).1 (s2 ^^^ 2 ^ k2)) := by
            rcases vf with e | ⟨-, e⟩
            · first
              | exact absurd c11 (by rw [e]; decide)
              | omega
            · exact e
          have key : ∀ j s x, s < 2 ^ q_n (D 90).1 2 → r_bw (k_tn D) (k_kwt D) (q_n (D 90).1 2) (fun s => q_n (D 164).1 (s)) j s x → q_n (D8 164).1 (s) ≤ x := by
            intro j
            induction j with
            | zero => intro s x hs h; exact Nat.le_trans (le s) h
            | succ j ihj =>
              intro s x hs h
              rcases h with h | ⟨u, a, h1, ⟨k, k1, k2, k3, k4, k5⟩, h3⟩
              · exact ihj s x hs h
              · have := hfx s k hs k1 k3
                have := ihj u a (by rw [k4]; exact r_xlt k1 hs) h3
                rw [k4] at this
                omega
          exact key j s x hs hj
      · refine r_iload_n hE dX3_shorten_10 rfl ?_
        refine r_if_eq (tgt := 100) hE dX3_shorten_11 (by decide) (fun c11 => ?_) (fun c11 => ?_)
        · refine r_return hE dX3_shorten_100 rfl (Nat.zero_le _) (Nat.zero_le _) ?_
          refine ⟨_, rfl, rfl, fr, ok, fun s hs => ⟨(ok s (by omega)).2, so s hs, fun x hx ⟨j, hj⟩ => ?_⟩⟩
          by_cases cr : r = 64
          · rw [cr] at co
            refine co s hs x hx ?_
            have := g_mono (d := 64 - (2 ^ q_n (D 90).1 2 - 1)) (r_bw_short hs hj)
            rw [show 2 ^ q_n (D 90).1 2 - 1 + (64 - (2 ^ q_n (D 90).1 2 - 1)) = 64 by omega] at this
            exact this
          · have hfx : (∀ s2 k2, s2 < 2 ^ q_n (D 90).1 2 → k2 < q_n (D 90).1 2 → k_tn D s2 k2 → q_n (D8 164).1 (s2) ≤ k_kwt D s2 k2 + q_n (D8 164).1 (s2 ^^^ 2 ^ k2)) := by
              rcases vf with e | ⟨-, e⟩
              · first
                | exact absurd c11 (by rw [e]; decide)
                | omega
              · exact e
            have key : ∀ j s x, s < 2 ^ q_n (D 90).1 2 → r_bw (k_tn D) (k_kwt D) (q_n (D 90).1 2) (fun s => q_n (D 164).1 (s)) j s x → q_n (D8 164).1 (s) ≤ x := by
              intro j
              induction j with
              | zero => intro s x hs h; exact Nat.le_trans (le s) h
              | succ j ihj =>
                intro s x hs h
                rcases h with h | ⟨u, a, h1, ⟨k, k1, k2, k3, k4, k5⟩, h3⟩
                · exact ihj s x hs h
                · have := hfx s k hs k1 k3
                  have := ihj u a (by rw [k4]; exact r_xlt k1 hs) h3
                  rw [k4] at this
                  omega
            exact key j s x hs hj
        · refine r_iconst (v := 0) hE dX3_shorten_14 (by decide) ?_
          refine r_istore_n (ls2 := [(0, .ref 163), (1, .int 0), (2, .int (nI r))]) hE dX3_shorten_15 (by decide) rfl ?_
          refine r_iconst (v := 0) hE dX3_shorten_16 (by decide) ?_
          refine r_istore_n (ls2 := [(0, .ref 163), (1, .int 0), (2, .int (nI r)), (3, .int 0)]) hE dX3_shorten_17 (by decide) rfl ?_
          have ihr := ih
          obtain ⟨D7, hD7⟩ : ∃ z, z = D8 := ⟨_, rfl⟩
          rw [← hD7] at co
          have l3 : ∀ (s : Nat) (v : Int32) (D8 : y_D), s ≤ 2 ^ q_n (D 90).1 2 → y_fx [164] D D8 → (∀ s, s < 64 → q_ok (D8 164).1 s 1000000) → (∀ s, s < 2 ^ q_n (D 90).1 2 → q_n (D8 164).1 (s) < 1000000 → ∃ j, r_bw (k_tn D) (k_kwt D) (q_n (D 90).1 2) (fun s => q_n (D 164).1 (s)) j s (q_n (D8 164).1 (s))) → (∀ s, q_n (D8 164).1 (s) ≤ q_n (D 164).1 (s)) → (∀ s, q_n (D8 164).1 (s) ≤ q_n (D7 164).1 (s)) → (∀ s2 k2, (s2 < s ∨ (s2 = s ∧ k2 < 0)) → s2 < 2 ^ q_n (D 90).1 2 → k2 < q_n (D 90).1 2 → k_tn D s2 k2 → q_n (D8 164).1 (s2) ≤ k_kwt D s2 k2 + q_n (D7 164).1 (s2 ^^^ 2 ^ k2)) → (v = 1 ∨ (v = 0 ∧ D8 = D7)) → E 0 0 18 [(0, .ref 163), (1, .int v), (2, .int (nI r)), (3, .int (nI s))] [] (y_mk n L D8) := by
            intro s v D8
            induction hm9 : (2 ^ q_n (D 90).1 2 - s) using Nat.strongRecOn generalizing s v D8 with
            | _ m9 ih =>
              intro hs fr ok so le mn mk vf
              subst hm9
              refine r_iload_n hE dX3_shorten_18 rfl ?_
              refine r_iconst (v := 1) hE dX3_shorten_19 (by decide) ?_
              refine r_aload_n hE dX3_shorten_20 rfl ?_
              refine t_getr hE f_X3_18 y_R_163_0 dX3_shorten_21 (hL 163 (by decide)) ?_
              refine t_getr hE f_X3_43 y_R_73_11 dX3_shorten_24 (hL 73 (by decide)) ?_
              refine t_geti hE f_X3_49 y_I_90_2 dX3_shorten_27 (hL 90 (by decide)) ?_
              refine r_top (y := (nI (q_n (D 90).1 2))) (by rw [fr.1 90 (by decide)]; exact hK.1.1.1) ?_
              refine r_shl1N (k := q_n (D 90).1 2) hE dX3_shorten_30 (by omega) ?_
              refine r_icmp_geN (a := s) (b := 2 ^ (q_n (D 90).1 2)) (tgt := 94) hE dX3_shorten_31 (by decide) (by omega) (by omega) (fun c31 => ?_) (fun c31 => ?_)
              · refine r_iincN (a := r) (b := 1) (ls2 := [(0, .ref 163), (1, .int v), (2, .int (nI (r + 1))), (3, .int (nI s))]) hE dX3_shorten_94 rfl rfl (by decide) rfl ?_
                refine r_goto (tgt := 4) hE dX3_shorten_97 (by decide) ?_
                refine r_locs hE (ls2 := [(0, .ref 163), (1, .int v), (2, .int (nI (r + 1)))]) ?_ (ihr (64 - (r + 1)) (by omega) (r + 1) _ _ rfl (by omega) fr ok so le (fun z hz x hx h => ?_) ?_)
                · simp [x_lk]
                · rcases h with h | ⟨u, a, h1, ⟨k, k1, k2, k3, k4, k5⟩, h3⟩
                  · have := mn z; have := co z hz x hx h; omega
                  · have h6 := co u (by rw [k4]; exact r_xlt k1 hz) a (by omega) h3
                    have h7 := mk z k (by omega) hz k1 k3
                    rw [← k4] at h7
                    omega
                · rcases vf with e | ⟨e1, e2⟩
                  · exact Or.inl e
                  · refine Or.inr ⟨e1, fun s2 k2 h1 h2 h3 => ?_⟩
                    have := mk s2 k2 (by omega) h1 h2 h3
                    rw [← e2] at this
                    exact this
              · refine r_iconst (v := 0) hE dX3_shorten_34 (by decide) ?_
                refine r_istore (ls2 := [(0, .ref 163), (1, .int v), (2, .int (nI r)), (3, .int (nI s)), (4, .int 0)]) hE dX3_shorten_35 (by decide) rfl ?_
                have ihs := ih
                have l4 : ∀ (k : Nat) (v : Int32) (D8 : y_D), k ≤ q_n (D 90).1 2 → y_fx [164] D D8 → (∀ s, s < 64 → q_ok (D8 164).1 s 1000000) → (∀ s, s < 2 ^ q_n (D 90).1 2 → q_n (D8 164).1 (s) < 1000000 → ∃ j, r_bw (k_tn D) (k_kwt D) (q_n (D 90).1 2) (fun s => q_n (D 164).1 (s)) j s (q_n (D8 164).1 (s))) → (∀ s, q_n (D8 164).1 (s) ≤ q_n (D 164).1 (s)) → (∀ s, q_n (D8 164).1 (s) ≤ q_n (D7 164).1 (s)) → (∀ s2 k2, (s2 < s ∨ (s2 = s ∧ k2 < k)) → s2 < 2 ^ q_n (D 90).1 2 → k2 < q_n (D 90).1 2 → k_tn D s2 k2 → q_n (D8 164).1 (s2) ≤ k_kwt D s2 k2 + q_n (D7 164).1 (s2 ^^^ 2 ^ k2)) → (v = 1 ∨ (v = 0 ∧ D8 = D7)) → E 0 0 37 [(0, .ref 163), (1, .int v), (2, .int (nI r)), (3, .int (nI s)), (4, .int (nI k))] [] (y_mk n L D8) := by
                  intro k v D8
                  induction hm9 : (q_n (D 90).1 2 - k) using Nat.strongRecOn generalizing k v D8 with
                  | _ m9 ih =>
                    intro hk fr ok so le mn mk vf
                    subst hm9
                    refine r_iload hE dX3_shorten_37 rfl ?_
                    refine r_aload_n hE dX3_shorten_39 rfl ?_
                    refine t_getr hE f_X3_18 y_R_163_0 dX3_shorten_40 (hL 163 (by decide)) ?_
                    refine t_getr hE f_X3_43 y_R_73_11 dX3_shorten_43 (hL 73 (by decide)) ?_
                    refine t_geti hE f_X3_49 y_I_90_2 dX3_shorten_46 (hL 90 (by decide)) ?_
                    refine r_top (y := (nI (q_n (D 90).1 2))) (by rw [fr.1 90 (by decide)]; exact hK.1.1.1) ?_
                    refine r_icmp_geN (a := k) (b := q_n (D 90).1 2) (tgt := 88) hE dX3_shorten_49 (by decide) (by omega) (by omega) (fun c49 => ?_) (fun c49 => ?_)
                    · refine r_iincN (a := s) (b := 1) (ls2 := [(0, .ref 163), (1, .int v), (2, .int (nI r)), (3, .int (nI (s + 1))), (4, .int (nI k))]) hE dX3_shorten_88 rfl rfl (by decide) rfl ?_
                      refine r_goto (tgt := 18) hE dX3_shorten_91 (by decide) ?_
                      refine r_locs hE (ls2 := [(0, .ref 163), (1, .int v), (2, .int (nI r)), (3, .int (nI (s + 1)))]) ?_ (ihs (2 ^ q_n (D 90).1 2 - (s + 1)) (by omega) (s + 1) _ _ rfl (by omega) fr ok so le mn (fun s2 k2 h1 h2 h3 h4 => mk s2 k2 (by omega) h2 h3 h4) vf)
                      simp [x_lk]
                    · refine r_aload_n hE dX3_shorten_52 rfl ?_
                      refine r_iload_n hE dX3_shorten_53 rfl ?_
                      refine r_iload hE dX3_shorten_54 rfl ?_
                      refine t_invvRi hE [.int (nI s), .int (nI k)] (k_secondsBy (D := D8) (s := s) (k := k) hV hL (k_BK_f (y_fx_m fr (by decide)) hK) (by rw [fr.1 90 (by decide)]; omega) (by omega) (by rw [fr.1 165 (by decide), k_rS_f (y_fx_m fr (by decide))]; exact sl) ok) v_yX3_secondsBy m_X3_74 dX3_shorten_56 rfl (hL 163 (by decide)) (y_l_163 (D8 163)) rfl (by decide) ⟨Nat.le_refl _, Nat.le_refl _⟩ (Nat.le_of_ble_eq_true rfl) (fun v9 D9 q9 => ?_)
                      obtain ⟨⟨b, hv9, q9⟩, hD9⟩ := q9
                      rw [hD9, hv9]
                      rw [k_tn_f (y_fx_m fr (by decide)), k_kwt_f (y_fx_m fr (by decide))] at q9
                      show E 0 0 59 [(0, .ref 163), (1, .int v), (2, .int (nI r)), (3, .int (nI s)), (4, .int (nI k))] [.int (nI b)] (y_mk n L D8)
                      refine r_istore (ls2 := [(0, .ref 163), (1, .int v), (2, .int (nI r)), (3, .int (nI s)), (4, .int (nI k)), (5, .int (nI b))]) hE dX3_shorten_59 (by decide) rfl ?_
                      have ho1 : q_n (D8 164).1 (s) ≤ 1000000 := (ok s (by omega)).2
                      have hx64 : s ^^^ 2 ^ k < 2 ^ q_n (D 90).1 2 := r_xlt (by omega) (by omega)
                      have ho2 : q_n (D8 164).1 (s ^^^ 2 ^ k) ≤ 1000000 := (ok _ (by omega)).2
                      have hw9 := k_kwt_b hK (s := s) (k := k) (by omega)
                      have hb9 : b ≤ 1000099 := by rcases q9 with q | q <;> omega
                      refine r_iload hE dX3_shorten_61 rfl ?_
                      refine r_aload_n hE dX3_shorten_63 rfl ?_
                      refine t_getr hE f_X3_11 y_R_163_1 dX3_shorten_64 (hL 163 (by decide)) ?_
                      refine r_iload_n hE dX3_shorten_67 rfl ?_
                      refine t_ialdN (e := s) hE y_A_164 dX3_shorten_68 (hL 164 (by decide)) (by omega) (by decide) ?_
                      refine r_top (y := (nI (q_n (D8 164).1 (s)))) (ok s (by omega)).1 ?_
                      refine r_icmp_geN (a := b) (b := q_n (D8 164).1 (s)) (tgt := 82) hE dX3_shorten_69 (by decide) (by omega) (by omega) (fun c69 => ?_) (fun c69 => ?_)
                      · refine r_iincN (a := k) (b := 1) (ls2 := [(0, .ref 163), (1, .int v), (2, .int (nI r)), (3, .int (nI s)), (4, .int (nI (k + 1))), (5, .int (nI b))]) hE dX3_shorten_82 rfl rfl (by decide) rfl ?_
                        refine r_goto (tgt := 37) hE dX3_shorten_85 (by decide) ?_
                        refine r_locs hE (ls2 := [(0, .ref 163), (1, .int v), (2, .int (nI r)), (3, .int (nI s)), (4, .int (nI (k + 1)))]) ?_ (ih (q_n (D 90).1 2 - (k + 1)) (by omega) (k + 1) _ _ rfl (by omega) fr ok so le mn (fun s2 k2 h1 h2 h3 h4 => ?_) vf)
                        · simp [x_lk]
                        · by_cases c0 : s2 = s ∧ k2 = k
                          · rw [c0.1, c0.2] at h4 ⊢
                            have := mn (s ^^^ 2 ^ k)
                            rcases q9 with q | q
                            · omega
                            · exact absurd h4 q.1
                          · exact mk s2 k2 (by omega) h2 h3 h4
                      · refine r_aload_n hE dX3_shorten_72 rfl ?_
                        refine t_getr hE f_X3_11 y_R_163_1 dX3_shorten_73 (hL 163 (by decide)) ?_
                        refine r_iload_n hE dX3_shorten_76 rfl ?_
                        refine r_iload hE dX3_shorten_77 rfl ?_
                        refine t_iastN (e := s) hE y_A_164 dX3_shorten_79 (hL 164 (by decide)) (by omega) (by decide) ?_
                        refine r_iconst (v := 1) hE dX3_shorten_80 (by decide) ?_
                        refine r_istore_n (ls2 := [(0, .ref 163), (1, .int 1), (2, .int (nI r)), (3, .int (nI s)), (4, .int (nI k)), (5, .int (nI b))]) hE dX3_shorten_81 (by decide) rfl ?_
                        refine r_iincN (a := k) (b := 1) (ls2 := [(0, .ref 163), (1, .int 1), (2, .int (nI r)), (3, .int (nI s)), (4, .int (nI (k + 1))), (5, .int (nI b))]) hE dX3_shorten_82 rfl rfl (by decide) rfl ?_
                        refine r_goto (tgt := 37) hE dX3_shorten_85 (by decide) ?_
                        have hq : k_tn D s k ∧ b = k_kwt D s k + q_n (D8 164).1 (s ^^^ 2 ^ k) := by
                          rcases q9 with q | q
                          · exact q
                          · omega
                        have fa2 : ∀ z, q_n (y_si D8 164 s (nI b) 164).1 z = if z = s then b else q_n (D8 164).1 (z) := by
                          intro z
                          by_cases c : z = s
                          · rw [q_si_y c, if_pos c, nI_clamp (by omega)]
                          · rw [q_si_n c, if_neg c]
                        refine r_locs hE (ls2 := [(0, .ref 163), (1, .int 1), (2, .int (nI r)), (3, .int (nI s)), (4, .int (nI (k + 1)))]) ?_ (ih (q_n (D 90).1 2 - (k + 1)) (by omega) (k + 1) _ _ rfl (by omega) (y_fx_s fr (by decide)) (fun z hz => ?_) (fun z hz h => ?_) (fun z => ?_) (fun z => ?_) (fun s2 k2 h1 h2 h3 h4 => ?_) (Or.inl rfl))
                        · simp [x_lk]
                        · by_cases c : z = s
                          · exact (q_mk (a := b) (by rw [y_si_1, if_pos c]) (by omega) (by omega)).1
                          · exact q_ok_n c (ok z hz)
                        · rw [fa2] at h ⊢
                          by_cases c : z = s
                          · rw [if_pos c] at h ⊢
                            obtain ⟨j, hj⟩ := so (s ^^^ 2 ^ k) hx64 (by omega)
                            exact ⟨j + 1, Or.inr ⟨s ^^^ 2 ^ k, q_n (D8 164).1 (s ^^^ 2 ^ k), by omega, ⟨k, by omega, by omega, by rw [c]; exact hq.1, by rw [c], by rw [c]; omega⟩, hj⟩⟩
                          · rw [if_neg c] at h ⊢
                            exact so z hz h
                        · rw [fa2]
                          by_cases c : z = s
                          · rw [if_pos c, c]; have := le s; omega
                          · rw [if_neg c]; exact le z
                        · rw [fa2]
                          by_cases c : z = s
                          · rw [if_pos c, c]; have := mn s; omega
                          · rw [if_neg c]; exact mn z
                        · rw [fa2]
                          by_cases c0 : s2 = s ∧ k2 = k
                          · rw [c0.1, c0.2, if_pos rfl]
                            have := mn (s ^^^ 2 ^ k)
                            omega
                          · have h9 := mk s2 k2 (by omega) h2 h3 h4
                            by_cases c : s2 = s
                            · rw [if_pos c]; rw [c] at h9 ⊢; omega
                            · rw [if_neg c]; exact h9
                exact l4 0 _ _ (by omega) fr ok so le mn (fun s2 k2 h1 h2 h3 h4 => mk s2 k2 (by omega) h2 h3 h4) vf
          exact l3 0 0 D8 (Nat.zero_le _) fr ok so le (fun p => by rw [hD7]; exact Nat.le_refl _) (fun s2 k2 h1 => absurd h1 (by omega)) (Or.inr ⟨rfl, hD7.symm⟩)
  refine r_iconst (v := 1) hE dX3_shorten_0 (by decide) ?_
  refine r_istore_n (ls2 := [(0, .ref 163), (1, .int 1)]) hE dX3_shorten_1 (by decide) rfl ?_
  refine r_iconst (v := 0) hE dX3_shorten_2 (by decide) ?_
  refine r_istore_n (ls2 := [(0, .ref 163), (1, .int 1), (2, .int 0)]) hE dX3_shorten_3 (by decide) rfl ?_
  exact l2 0 1 _ (by omega) y_fx_r ok0 (fun s hs h => ⟨0, Nat.le_refl _⟩) (fun s => Nat.le_refl _) (fun s hs x hx h => h) (Or.inl rfl)

/-! ===== the class: fewest, needs ===== -/
theorem y_allN {k : Nat} : nI (2 ^ k) - 1 = nI (2 ^ k - 1) := by
  have h := pk_sub (a := 2 ^ k) (b := 1) Nat.one_le_two_pow
  exact h
/-- the smallest of the fewest, of al and those ahead of it -/
def k_few (C : Nat → Prop) (al : Nat) (v : Int32) : Prop := (v = -1 ∧ ¬ C al) ∨ (C al ∧ ∃ b, b ≤ al ∧ v = nI b ∧ C b ∧ ∀ s, s < al → C s → y_pop b < y_pop s ∨ (y_pop b = y_pop s ∧ b ≤ s))
theorem y_pop_all : ∀ k, k ≤ 6 → ∀ s, s < 2 ^ k - 1 → y_pop s < k := by
  have h : ∀ k, k < 7 → ∀ s, s < 64 → s < 2 ^ k - 1 → y_pop s < k := by decide +kernel
  intro k hk s hs
  have : 2 ^ k ≤ 2 ^ 6 := Nat.pow_le_pow_right (by decide) hk
  exact h k (by omega) s (by omega) hs
theorem y_bit_sub : ∀ k, k < 7 → ∀ i, i < k → y_bit (nI (2 ^ k) - 1) i := by decide +kernel
theorem f_fewest {V : x_E} (hV : y_V V) {n : Nat} {L : List Nat} {D : y_D} (hL : y_ok L) {p hl : Int32} (hB : k_B D L) (hCI : k_CI D) : y_Fi V yX10_fewest cX10_fewest 6 (some .int) 8 1 6 [.ref 64, .int p, .int hl] n L D (fun v D2 => (k_same D D2 ∧ k_CI D2) ∧ ∃ t DS, t < q_n (D 73).1 2 ∧ p = nI t ∧ c_G (c_per D (q_n (D 74).1 2)) DS (k_rt D t) (-1) (k_rm D t) ∧ k_few (fun s => k_can D DS t (nI s) hl) (2 ^ q_n (D 73).1 4 - 1) v) (fun E9 => ¬ (0 ≤ p ∧ p < (D 73).1 2) ∧ E9 = y_IOB) := by
  refine x_cx (by decide) hV.1 (fun a0 S0 h => by rw [h.1]; exact Nat.le_of_ble_eq_true rfl) (fun a0 S0 h E EX hX => ?_)
  obtain ⟨rfl, rfl⟩ := h
  have hE := hX.x
  change E 0 0 0 [(0, .ref 64), (1, .int p), (2, .int hl)] [] (y_mk n L D)
  refine r_iload_n hE dX10_fewest_0 rfl ?_
  refine r_aload_n hE dX10_fewest_1 rfl ?_
  refine t_getr hE f_X10_23 y_R_64_3 dX10_fewest_2 (hL 64 (by decide)) ?_
  refine t_geti hE f_X10_97 y_I_73_2 dX10_fewest_5 (hL 73 (by decide)) ?_
  refine t_demandRow hX hV [.int p, .int ((D 73).1 2)] dX10_fewest_8 m_X10_125 rfl (by decide) ⟨by decide, by decide⟩ (Nat.le_of_ble_eq_true rfl) (fun c8 => ?_) (fun c8 n2 hn2 => r_out hX ⟨by exact ⟨c8, rfl⟩, n2, hn2, rfl⟩ (by decide) (by decide))
  show E 1 6 11 [(0, .ref 64), (1, .int p), (2, .int hl)] [] (y_mk n L D)
  obtain ⟨t, ht, rfl⟩ := y_rngR (k := q_n (D 73).1 2) (by have := hB.1.2; omega) (by rw [← hB.1.1]; exact c8)
  refine r_aload_n hE dX10_fewest_11 rfl ?_
  refine t_getr hE f_X10_23 y_R_64_3 dX10_fewest_12 (hL 64 (by decide)) ?_
  refine t_invv (r := (some (.int (nI (2 ^ q_n (D 73).1 4) - 1)))) (S2 := (y_mk n L D)) hE [] (k_allWays (k := q_n (D 73).1 4) hV hL hB.2.1.1 hB.2.1.2) v_yX0_allWays m_X10_190 dX10_fewest_15 rfl (hL 73 (by decide)) (y_l_73 (D 73)) rfl (by decide) ⟨by decide, by decide⟩ (Nat.le_of_ble_eq_true rfl) ?_
  show E 1 6 18 [(0, .ref 64), (1, .int (nI t)), (2, .int hl)] [.int (nI (2 ^ q_n (D 73).1 4) - 1)] (y_mk n L D)
  refine r_istore_n (ls2 := [(0, .ref 64), (1, .int (nI t)), (2, .int hl), (3, .int (nI (2 ^ q_n (D 73).1 4) - 1))]) hE dX10_fewest_18 (by decide) rfl ?_
  refine r_aload_n hE dX10_fewest_19 rfl ?_
  refine t_getr hE f_X10_35 y_R_64_6 dX10_fewest_20 (hL 64 (by decide)) ?_
  refine r_iload_n hE dX10_fewest_23 rfl ?_
  refine r_iconst (v := (-1)) hE dX10_fewest_24 (by decide) ?_
  refine r_iload_n hE dX10_fewest_25 rfl ?_
  refine r_iload_n hE dX10_fewest_26 rfl ?_
  refine t_invvRv hE [.int (nI t), .int (-1), .int (nI (2 ^ q_n (D 73).1 4) - 1), .int hl] (k_prepare (D := D) (t := t) (wo := (-1)) (u := (nI (2 ^ q_n (D 73).1 4) - 1)) (hl := hl) hV hL hB (by have := hB.1.2; omega)) v_yX1_prepare m_X10_182 dX10_fewest_27 rfl (hL 151 (by decide)) (y_l_151 (D 151)) rfl (by decide) ⟨by decide, by decide⟩ (Nat.le_of_ble_eq_true rfl) (fun D1 q1 => ?_)
  obtain ⟨DS, q0⟩ := q1
  have q1 := k_PR_PQ q0
  show E 1 6 30 [(0, .ref 64), (1, .int (nI t)), (2, .int hl), (3, .int (nI (2 ^ q_n (D 73).1 4) - 1))] [] (y_mk n L D1)
  refine r_aload_n hE dX10_fewest_30 rfl ?_
  refine t_getr hE f_X10_35 y_R_64_6 dX10_fewest_31 (hL 64 (by decide)) ?_
  refine r_iload_n hE dX10_fewest_34 rfl ?_
  refine t_invvRi hE [.int (nI (2 ^ q_n (D 73).1 4) - 1)] (k_bringsAllNotes (D := D1) (u := (nI (2 ^ q_n (D 73).1 4) - 1)) (k := k_last D t (-1)) (kt := q_n (D 78).1 2) (kw := q_n (D 73).1 4) (kn := q_n (D 80).1 2) hV hL (by rw [q1.2.1 152 (by decide)]; exact q1.1.2.2.1) (k_last_b (hB.2.2.2.2.2.1 t (by have := hB.1.2; omega))) (by rw [(k_PQ_same q1).1 73 (by decide)]; exact hB.2.1.1) hB.2.1.2 (k_B_rq (k_B_same (k_PQ_same q1) hB)) (k_tks (k_B_same (k_PQ_same q1) hB) (Nat.le_of_eq (by rw [(k_PQ_same q1).1 73 (by decide)]))) (by rw [(k_PQ_same q1).1 78 (by decide)]; exact hB.2.2.2.1.1.1) (by rw [(k_PQ_same q1).1 78 (by decide)]; exact hB.2.2.2.1.2) hB.2.2.2.1.1.2 (by rw [(k_PQ_same q1).1 80 (by decide)]; exact hB.2.2.2.2.1.1.1) (by rw [(k_PQ_same q1).1 80 (by decide)]; exact hB.2.2.2.2.1.2) hB.2.2.2.2.1.1.2 (fun i hi => ⟨k_thi D i, k_sec D i, by rw [(k_PQ_same q1).1 81 (by decide)]; exact (hB.2.2.2.2.2.2.2.1 i hi).1.1, by rw [(k_PQ_same q1).1 81 (by decide)]; exact (hB.2.2.2.2.2.2.2.1 i hi).2.1, Nat.lt_of_le_of_lt (hB.2.2.2.2.2.2.2.1 i hi).1.2 (by decide), (hB.2.2.2.2.2.2.2.1 i hi).2.2⟩) (k_th2 (k_PQ_same q1) hB)) v_yX1_bringsAllNotes m_X10_186 dX10_fewest_35 rfl (hL 151 (by decide)) (y_l_151 (D1 151)) rfl (by decide) ⟨by decide, by decide⟩ (Nat.le_of_ble_eq_true rfl) (fun v2 D2 q2 => ?_)
  obtain ⟨q2, hv2⟩ := k_bn_can hB (by have := hB.1.2; omega) q1 (fun _ _ b => b) q2
  rw [y_allN] at hv2
  show E 1 6 38 [(0, .ref 64), (1, .int (nI t)), (2, .int hl), (3, .int (nI (2 ^ q_n (D 73).1 4) - 1))] [.int v2] (y_mk n L D2)
  refine r_if_ne (tgt := 43) hE dX10_fewest_38 (by decide) (fun c38 => ?_) (fun c38 => ?_)
  · refine r_iconst (v := 0) hE dX10_fewest_43 (by decide) ?_
    refine r_istore (ls2 := [(0, .ref 64), (1, .int (nI t)), (2, .int hl), (3, .int (nI (2 ^ q_n (D 73).1 4) - 1)), (4, .int 0)]) hE dX10_fewest_44 (by decide) rfl ?_
    have hall := Classical.not_not.mp (fun q => c38 ((y_is_0 hv2).mpr q))
    have hkw6 : q_n (D 73).1 4 ≤ 6 := hB.2.1.2
    have hp6 : 2 ^ q_n (D 73).1 4 ≤ 2 ^ 6 := Nat.pow_le_pow_right (by decide) hkw6
    have hp7 : (2 : Nat) ^ 6 = 64 := rfl
    have hp8 : 1 ≤ 2 ^ q_n (D 73).1 4 := Nat.one_le_two_pow
    have l1 : ∀ (z : Nat) (D8 : y_D), z ≤ q_n (D 73).1 4 → k_PQ D DS D8 t (-1) (nI (2 ^ q_n (D 73).1 4) - 1) hl → (∀ s2, s2 < (2 ^ q_n (D 73).1 4 - 1) → y_pop s2 < z → ¬ (fun s => k_can D DS t (nI s) hl) s2) → E 1 6 46 [(0, .ref 64), (1, .int (nI t)), (2, .int hl), (3, .int (nI (2 ^ q_n (D 73).1 4 - 1))), (4, .int (nI z))] [] (y_mk n L D8) := by
      intro z D8
      induction hm9 : (q_n (D 73).1 4 - z) using Nat.strongRecOn generalizing z D8 with
      | _ m9 ih =>
        intro hz ps h0
        subst hm9
        refine r_iload hE dX10_fewest_46 rfl ?_
        refine r_aload_n hE dX10_fewest_48 rfl ?_
        refine t_getr hE f_X10_23 y_R_64_3 dX10_fewest_49 (hL 64 (by decide)) ?_
        refine t_geti hE f_X10_108 y_I_73_4 dX10_fewest_52 (hL 73 (by decide)) ?_
        refine r_top (y := (nI (q_n (D 73).1 4))) (by rw [(k_PQ_same ps).1 73 (by decide)]; exact hB.2.1.1) ?_
        refine r_icmp_geN (a := z) (b := q_n (D 73).1 4) (tgt := 104) hE dX10_fewest_55 (by decide) (by omega) (by omega) (fun c55 => ?_) (fun c55 => ?_)
        · refine r_iload_n hE dX10_fewest_104 rfl ?_
          refine r_ireturn hE dX10_fewest_105 rfl rfl (by decide) (by decide) ?_
          exact ⟨_, _, rfl, rfl, ⟨k_PQ_same ps, k_CI_same (k_PQ_same ps) (k_PQ_162 ps) hB hCI⟩, t, DS, ht, rfl, c_F_G ps.1, Or.inr ⟨hall, (2 ^ q_n (D 73).1 4 - 1), Nat.le_refl _, rfl, hall, fun s2 h1 h2 => absurd h2 (h0 s2 h1 (by have := y_pop_all _ hB.2.1.2 s2 h1; omega))⟩⟩
        · refine r_iconst (v := 0) hE dX10_fewest_58 (by decide) ?_
          refine r_istore (ls2 := [(0, .ref 64), (1, .int (nI t)), (2, .int hl), (3, .int (nI (2 ^ q_n (D 73).1 4 - 1))), (4, .int (nI z)), (5, .int 0)]) hE dX10_fewest_59 (by decide) rfl ?_
          have ihz := ih
          have l2 : ∀ (s : Nat) (D8 : y_D), s ≤ (2 ^ q_n (D 73).1 4 - 1) → k_PQ D DS D8 t (-1) (nI (2 ^ q_n (D 73).1 4) - 1) hl → (∀ s2, s2 < s → y_pop s2 = z → ¬ (fun s => k_can D DS t (nI s) hl) s2) → E 1 6 61 [(0, .ref 64), (1, .int (nI t)), (2, .int hl), (3, .int (nI (2 ^ q_n (D 73).1 4 - 1))), (4, .int (nI z)), (5, .int (nI s))] [] (y_mk n L D8) := by
            intro s D8
            induction hm9 : ((2 ^ q_n (D 73).1 4 - 1) - s) using Nat.strongRecOn generalizing s D8 with
            | _ m9 ih =>
              intro hs ps h8
              subst hm9
              refine r_locs hE (ls2 := [(0, .ref 64), (1, .int (nI t)), (2, .int hl), (3, .int (nI (2 ^ q_n (D 73).1 4 - 1))), (4, .int (nI z)), (5, .int (nI s))]) (by rw [← y_allN]; simp [x_lk]) ?_
              refine r_iload hE dX10_fewest_61 rfl ?_
              refine r_iload_n hE dX10_fewest_63 rfl ?_
              refine r_icmp_geN (a := s) (b := (2 ^ q_n (D 73).1 4 - 1)) (tgt := 98) hE dX10_fewest_64 (by decide) (by omega) (by omega) (fun c64 => ?_) (fun c64 => ?_)
              · refine r_iincN (a := z) (b := 1) (ls2 := [(0, .ref 64), (1, .int (nI t)), (2, .int hl), (3, .int (nI (2 ^ q_n (D 73).1 4 - 1))), (4, .int (nI (z + 1))), (5, .int (nI s))]) hE dX10_fewest_98 rfl rfl (by decide) rfl ?_
                refine r_goto (tgt := 46) hE dX10_fewest_101 (by decide) ?_
                refine r_locs hE (ls2 := [(0, .ref 64), (1, .int (nI t)), (2, .int hl), (3, .int (nI (2 ^ q_n (D 73).1 4 - 1))), (4, .int (nI (z + 1)))]) ?_ (ihz (q_n (D 73).1 4 - (z + 1)) (by omega) (z + 1) _ rfl (by omega) ps (fun s2 h1 h2 => ?_))
                · simp [x_lk]
                · by_cases c : y_pop s2 = z
                  · exact h8 s2 (by omega) c
                  · exact h0 s2 h1 (by omega)
              · have hpb := y_pop_b s
                refine r_iload hE dX10_fewest_67 rfl ?_
                refine t_invs (r := (some (.int (nI (y_pop s))))) (S2 := (y_mk n L D8)) hE [.int (nI s)] (j_bitCount (c := s) (by omega)) s_yJ6_bitCount_0f7a4 m_X10_193 dX10_fewest_69 rfl (by decide) ⟨by decide, by decide⟩ (Nat.le_of_ble_eq_true rfl) ?_
                show E 1 6 72 [(0, .ref 64), (1, .int (nI t)), (2, .int hl), (3, .int (nI (2 ^ q_n (D 73).1 4 - 1))), (4, .int (nI z)), (5, .int (nI s))] [.int (nI (y_pop s))] (y_mk n L D8)
                refine r_iload hE dX10_fewest_72 rfl ?_
                refine r_icmp_neN (a := y_pop s) (b := z) (tgt := 92) hE dX10_fewest_74 (by decide) (by omega) (by omega) (fun c74 => ?_) (fun c74 => ?_)
                · refine r_iincN (a := s) (b := 1) (ls2 := [(0, .ref 64), (1, .int (nI t)), (2, .int hl), (3, .int (nI (2 ^ q_n (D 73).1 4 - 1))), (4, .int (nI z)), (5, .int (nI (s + 1)))]) hE dX10_fewest_92 rfl rfl (by decide) rfl ?_
                  refine r_goto (tgt := 61) hE dX10_fewest_95 (by decide) ?_
                  refine ih ((2 ^ q_n (D 73).1 4 - 1) - (s + 1)) (by omega) (s + 1) _ rfl (by omega) ps (fun s2 h1 h2 => ?_)
                  by_cases c : s2 = s
                  · subst c
                    exact absurd h2 (by omega)
                  · exact h8 s2 (by omega) h2
                · refine r_aload_n hE dX10_fewest_77 rfl ?_
                  refine t_getr hE f_X10_35 y_R_64_6 dX10_fewest_78 (hL 64 (by decide)) ?_
                  refine r_iload hE dX10_fewest_81 rfl ?_
                  refine t_invvRi hE [.int (nI s)] (k_bringsAllNotes (D := D8) (u := (nI s)) (k := k_last D t (-1)) (kt := q_n (D 78).1 2) (kw := q_n (D 73).1 4) (kn := q_n (D 80).1 2) hV hL (by rw [ps.2.1 152 (by decide)]; exact ps.1.2.2.1) (k_last_b (hB.2.2.2.2.2.1 t (by have := hB.1.2; omega))) (by rw [(k_PQ_same ps).1 73 (by decide)]; exact hB.2.1.1) hB.2.1.2 (k_B_rq (k_B_same (k_PQ_same ps) hB)) (k_tks (k_B_same (k_PQ_same ps) hB) (Nat.le_of_eq (by rw [(k_PQ_same ps).1 73 (by decide)]))) (by rw [(k_PQ_same ps).1 78 (by decide)]; exact hB.2.2.2.1.1.1) (by rw [(k_PQ_same ps).1 78 (by decide)]; exact hB.2.2.2.1.2) hB.2.2.2.1.1.2 (by rw [(k_PQ_same ps).1 80 (by decide)]; exact hB.2.2.2.2.1.1.1) (by rw [(k_PQ_same ps).1 80 (by decide)]; exact hB.2.2.2.2.1.2) hB.2.2.2.2.1.1.2 (fun i hi => ⟨k_thi D i, k_sec D i, by rw [(k_PQ_same ps).1 81 (by decide)]; exact (hB.2.2.2.2.2.2.2.1 i hi).1.1, by rw [(k_PQ_same ps).1 81 (by decide)]; exact (hB.2.2.2.2.2.2.2.1 i hi).2.1, Nat.lt_of_le_of_lt (hB.2.2.2.2.2.2.2.1 i hi).1.2 (by decide), (hB.2.2.2.2.2.2.2.1 i hi).2.2⟩) (k_th2 (k_PQ_same ps) hB)) v_yX1_bringsAllNotes m_X10_186 dX10_fewest_83 rfl (hL 151 (by decide)) (y_l_151 (D8 151)) rfl (by decide) ⟨by decide, by decide⟩ (Nat.le_of_ble_eq_true rfl) (fun v9 D9 q9 => ?_)
                  obtain ⟨q9, hv9⟩ := k_bn_can hB (by have := hB.1.2; omega) ps (fun i hi _ => y_bit_sub _ (by have := hB.2.1.2; omega) i hi) q9
                  show E 1 6 86 [(0, .ref 64), (1, .int (nI t)), (2, .int hl), (3, .int (nI (2 ^ q_n (D 73).1 4 - 1))), (4, .int (nI z)), (5, .int (nI s))] [.int v9] (y_mk n L D9)
                  refine r_if_eq (tgt := 92) hE dX10_fewest_86 (by decide) (fun c86 => ?_) (fun c86 => ?_)
                  · refine r_iincN (a := s) (b := 1) (ls2 := [(0, .ref 64), (1, .int (nI t)), (2, .int hl), (3, .int (nI (2 ^ q_n (D 73).1 4 - 1))), (4, .int (nI z)), (5, .int (nI (s + 1)))]) hE dX10_fewest_92 rfl rfl (by decide) rfl ?_
                    refine r_goto (tgt := 61) hE dX10_fewest_95 (by decide) ?_
                    refine ih ((2 ^ q_n (D 73).1 4 - 1) - (s + 1)) (by omega) (s + 1) _ rfl (by omega) q9 (fun s2 h1 h2 => ?_)
                    by_cases c : s2 = s
                    · subst c
                      exact (y_is_0 hv9).mp c86
                    · exact h8 s2 (by omega) h2
                  · refine r_iload hE dX10_fewest_89 rfl ?_
                    refine r_ireturn hE dX10_fewest_91 rfl rfl (by decide) (by decide) ?_
                    refine ⟨_, _, rfl, rfl, ⟨k_PQ_same q9, k_CI_same (k_PQ_same q9) (k_PQ_162 q9) hB hCI⟩, t, DS, ht, rfl, c_F_G q9.1, Or.inr ⟨hall, s, by omega, rfl, Classical.not_not.mp (fun q => c86 ((y_is_0 hv9).mpr q)), fun s2 h1 h2 => ?_⟩⟩
                    by_cases ca : y_pop s2 < z
                    · exact absurd h2 (h0 s2 h1 ca)
                    · by_cases cb : y_pop s2 = z
                      · by_cases cc : s2 < s
                        · exact absurd h2 (h8 s2 cc cb)
                        · omega
                      · omega
          exact l2 0 _ (Nat.zero_le _) ps (fun s2 h => absurd h (by omega))
    refine r_locs hE (ls2 := [(0, .ref 64), (1, .int (nI t)), (2, .int hl), (3, .int (nI (2 ^ q_n (D 73).1 4 - 1))), (4, .int (nI 0))]) (by rw [← y_allN]; simp [x_lk, nI_0]) ?_
    exact l1 0 _ (Nat.zero_le _) q2 (fun s2 h1 h2 => absurd h2 (by omega))
  · refine r_iconst (v := (-1)) hE dX10_fewest_41 (by decide) ?_
    refine r_ireturn hE dX10_fewest_42 rfl rfl (by decide) (by decide) ?_
    exact ⟨_, _, rfl, rfl, ⟨k_PQ_same q2, k_CI_same (k_PQ_same q2) (k_PQ_162 q2) hB hCI⟩, t, DS, ht, rfl, c_F_G q2.1, Or.inl ⟨rfl, (y_is_0 hv2).mp c38⟩⟩
theorem f_needs {V : x_E} (hV : y_V V) {n : Nat} {L : List Nat} {D : y_D} (hL : y_ok L) {p q x y hl : Int32} (hB : k_B D L) (hCI : k_CI D) : y_Fi V yX10_needs cX10_needs 6 (some .boolean) 8 3 18 [.ref 64, .int p, .int q, .int x, .int y, .int hl] n L D (fun v D2 => (k_same D D2 ∧ k_CI D2) ∧ ∃ w t s f DS, w < q_n (D 73).1 4 ∧ t < q_n (D 73).1 2 ∧ s ≤ 300 ∧ f < 16 ∧ p = nI w ∧ q = nI t ∧ x = nI s ∧ y = nI f ∧ c_G (c_per D (q_n (D 74).1 2)) DS (k_rt D t) (-1) (k_rm D t) ∧ v = y_b (y_bit (k_met DS (k_wt D w) (k_wl D w) s hl) f)) (fun E9 => ((¬ (0 ≤ p ∧ p < (D 73).1 4) ∨ ¬ (0 ≤ q ∧ q < (D 73).1 2)) ∧ E9 = y_IOB) ∨ (¬ (¬ (0 ≤ p ∧ p < (D 73).1 4) ∨ ¬ (0 ≤ q ∧ q < (D 73).1 2)) ∧ ¬ ((0 ≤ x ∧ x ≤ 300) ∧ 0 ≤ y ∧ y ≤ 15) ∧ E9 = y_IAE)) := by
  refine x_cx (by decide) hV.1 (fun a0 S0 h => by rw [h.1]; exact Nat.le_of_ble_eq_true rfl) (fun a0 S0 h E EX hX => ?_)
  obtain ⟨rfl, rfl⟩ := h
  have hE := hX.x
  change E 0 0 0 [(0, .ref 64), (1, .int p), (2, .int q), (3, .int x), (4, .int y), (5, .int hl)] [] (y_mk n L D)
  refine r_iload_n hE dX10_needs_0 rfl ?_
  refine r_aload_n hE dX10_needs_1 rfl ?_
  refine t_getr hE f_X10_23 y_R_64_3 dX10_needs_2 (hL 64 (by decide)) ?_
  refine t_geti hE f_X10_108 y_I_73_4 dX10_needs_5 (hL 73 (by decide)) ?_
  refine t_demandRow hX hV [.int p, .int ((D 73).1 4)] dX10_needs_8 m_X10_125 rfl (by decide) ⟨by decide, by decide⟩ (Nat.le_of_ble_eq_true rfl) (fun c8 => ?_) (fun c8 n2 hn2 => r_out hX ⟨by first | exact Or.inl ⟨Or.inl c8, rfl⟩ | exact Or.inl ⟨Or.inr c19, rfl⟩ | exact Or.inr ⟨fun z => z.elim (fun z => z c8) (fun z => z c19), by first | exact fun z => c30 z.1 | exact fun z => c41 z.2, rfl⟩, n2, hn2, rfl⟩ (by decide) (by decide))
  show E 1 6 11 [(0, .ref 64), (1, .int p), (2, .int q), (3, .int x), (4, .int y), (5, .int hl)] [] (y_mk n L D)
  refine r_iload_n hE dX10_needs_11 rfl ?_
  refine r_aload_n hE dX10_needs_12 rfl ?_
  refine t_getr hE f_X10_23 y_R_64_3 dX10_needs_13 (hL 64 (by decide)) ?_
  refine t_geti hE f_X10_97 y_I_73_2 dX10_needs_16 (hL 73 (by decide)) ?_
  refine t_demandRow hX hV [.int q, .int ((D 73).1 2)] dX10_needs_19 m_X10_125 rfl (by decide) ⟨by decide, by decide⟩ (Nat.le_of_ble_eq_true rfl) (fun c19 => ?_) (fun c19 n2 hn2 => r_out hX ⟨by first | exact Or.inl ⟨Or.inl c8, rfl⟩ | exact Or.inl ⟨Or.inr c19, rfl⟩ | exact Or.inr ⟨fun z => z.elim (fun z => z c8) (fun z => z c19), by first | exact fun z => c30 z.1 | exact fun z => c41 z.2, rfl⟩, n2, hn2, rfl⟩ (by decide) (by decide))
  show E 2 12 22 [(0, .ref 64), (1, .int p), (2, .int q), (3, .int x), (4, .int y), (5, .int hl)] [] (y_mk n L D)
  refine r_iload_n hE dX10_needs_22 rfl ?_
  refine r_iconst (v := 0) hE dX10_needs_23 (by decide) ?_
  refine r_sipush (v := 300) hE dX10_needs_24 (by decide) ?_
  refine t_invs (r := (some (.int (y_b (0 ≤ x ∧ x ≤ 300))))) (S2 := (y_mk n L D)) hE [.int x, .int 0, .int 300] (k_isBetween) s_yX10_isBetween m_X10_65 dX10_needs_27 rfl (by decide) ⟨by decide, by decide⟩ (Nat.le_of_ble_eq_true rfl) ?_
  show E 2 12 30 [(0, .ref 64), (1, .int p), (2, .int q), (3, .int x), (4, .int y), (5, .int hl)] [.int (y_b (0 ≤ x ∧ x ≤ 300))] (y_mk n L D)
  refine r_ifb_eq (tgt := 48) hE dX10_needs_30 (by decide) (fun c30 => ?_) (fun c30 => ?_)
  · refine r_iconst (v := 0) hE dX10_needs_48 (by decide) ?_
    refine t_demand (p := False) hX hV [.int 0] dX10_needs_49 m_X10_69 rfl (by decide) ⟨by decide, by decide⟩ (Nat.le_of_ble_eq_true rfl) (fun c49 => c49.elim) (fun c49 n2 hn2 => r_out hX ⟨by first | exact Or.inl ⟨Or.inl c8, rfl⟩ | exact Or.inl ⟨Or.inr c19, rfl⟩ | exact Or.inr ⟨fun z => z.elim (fun z => z c8) (fun z => z c19), by first | exact fun z => c30 z.1 | exact fun z => c41 z.2, rfl⟩, n2, hn2, rfl⟩ (by decide) (by decide))
  · refine r_iload hE dX10_needs_33 rfl ?_
    refine r_iconst (v := 0) hE dX10_needs_35 (by decide) ?_
    refine r_bipush (v := 15) hE dX10_needs_36 (by decide) ?_
    refine t_invs (r := (some (.int (y_b (0 ≤ y ∧ y ≤ 15))))) (S2 := (y_mk n L D)) hE [.int y, .int 0, .int 15] (k_isBetween) s_yX10_isBetween m_X10_65 dX10_needs_38 rfl (by decide) ⟨by decide, by decide⟩ (Nat.le_of_ble_eq_true rfl) ?_
    show E 2 12 41 [(0, .ref 64), (1, .int p), (2, .int q), (3, .int x), (4, .int y), (5, .int hl)] [.int (y_b (0 ≤ y ∧ y ≤ 15))] (y_mk n L D)
    refine r_ifb_eq (tgt := 48) hE dX10_needs_41 (by decide) (fun c41 => ?_) (fun c41 => ?_)
    · refine r_iconst (v := 0) hE dX10_needs_48 (by decide) ?_
      refine t_demand (p := False) hX hV [.int 0] dX10_needs_49 m_X10_69 rfl (by decide) ⟨by decide, by decide⟩ (Nat.le_of_ble_eq_true rfl) (fun c49 => c49.elim) (fun c49 n2 hn2 => r_out hX ⟨by first | exact Or.inl ⟨Or.inl c8, rfl⟩ | exact Or.inl ⟨Or.inr c19, rfl⟩ | exact Or.inr ⟨fun z => z.elim (fun z => z c8) (fun z => z c19), by first | exact fun z => c30 z.1 | exact fun z => c41 z.2, rfl⟩, n2, hn2, rfl⟩ (by decide) (by decide))
    · refine r_iconst (v := 1) hE dX10_needs_44 (by decide) ?_
      refine r_goto (tgt := 49) hE dX10_needs_45 (by decide) ?_
      refine t_demand (p := True) hX hV [.int 1] dX10_needs_49 m_X10_69 rfl (by decide) ⟨by decide, by decide⟩ (Nat.le_of_ble_eq_true rfl) (fun c49 => ?_) (fun c49 _ _ => absurd trivial c49)
      show E 3 18 52 [(0, .ref 64), (1, .int p), (2, .int q), (3, .int x), (4, .int y), (5, .int hl)] [] (y_mk n L D)
      obtain ⟨w, hw, rfl⟩ := y_rngR (k := q_n (D 73).1 4) (by have := hB.2.1.2; omega) (by rw [← hB.2.1.1]; exact c8)
      obtain ⟨t, ht, rfl⟩ := y_rngR (k := q_n (D 73).1 2) (by have := hB.1.2; omega) (by rw [← hB.1.1]; exact c19)
      obtain ⟨s, hs, rfl⟩ := y_rng2 (k := 300) (by decide) c30
      obtain ⟨f, hf, rfl⟩ := y_rng2 (k := 15) (by decide) c41
      have hRU := hB.2.2.2.2.2.1 t (by have := hB.1.2; omega)
      have hWA := hB.2.2.2.2.2.2.1 w (by have := hB.2.1.2; omega)
      obtain ⟨r8, hr8⟩ : ∃ z, z = k_rh D t := ⟨_, rfl⟩
      obtain ⟨s8, hs8⟩ : ∃ z, z = k_rr D t := ⟨_, rfl⟩
      obtain ⟨r9, hr9⟩ : ∃ z, z = k_wh D w := ⟨_, rfl⟩
      obtain ⟨s9, hs9⟩ : ∃ z, z = k_wr D w := ⟨_, rfl⟩
      have hm_r8 : r8 ∈ L := by rw [hr8]; exact hRU.2.1
      have hm_r9 : r9 ∈ L := by rw [hr9]; exact hWA.2.1
      refine r_aload_n hE dX10_needs_52 rfl ?_
      refine t_getr hE f_X10_35 y_R_64_6 dX10_needs_53 (hL 64 (by decide)) ?_
      refine t_getr hE f_X10_132 y_R_151_1 dX10_needs_56 (hL 151 (by decide)) ?_
      refine r_aload_n hE dX10_needs_59 rfl ?_
      refine t_getr hE f_X10_23 y_R_64_3 dX10_needs_60 (hL 64 (by decide)) ?_
      refine t_getr hE f_X10_136 y_R_73_1 dX10_needs_63 (hL 73 (by decide)) ?_
      refine r_iload_n hE dX10_needs_66 rfl ?_
      refine t_aaldN (e := t) (h2 := r8) hE y_Q_76 (by decide) dX10_needs_67 (hL 76 (by decide)) (by have := hB.1.2; omega) (by decide) (by rw [hr8]; exact hRU.1) ?_
      refine r_iconst (v := (-1)) hE dX10_needs_68 (by decide) ?_
      refine r_aload_n hE dX10_needs_69 rfl ?_
      refine t_getr hE f_X10_23 y_R_64_3 dX10_needs_70 (hL 64 (by decide)) ?_
      refine t_getr hE f_X10_73 y_R_73_0 dX10_needs_73 (hL 73 (by decide)) ?_
      refine t_invv (r := none) (S2 := (y_mk n L (y_stl (y_st0 D) (D s8).1 (-1) (q_n (D 74).1 2) (k_rm D t)))) hE [.ref r8, .int (-1), .ref 74] (k_settle (D := D) (k := q_n (D 74).1 2) (m := k_rm D t) (r := r8) (s := s8) (wo := (-1)) hL hB.2.2.1.1.1 hB.2.2.1.2 hB.2.2.1.1.2 hm_r8 (by rw [hr8]; exact hRU.2.2.1) (by rw [hr8]; exact hRU.2.2.2.1) (by rw [hr8, hs8]; exact hRU.2.2.2.2.1) (by rw [hs8]; exact hRU.2.2.2.2.2.1) (by rw [hs8]; exact hRU.2.2.2.2.2.2.1) (by rw [hs8]; exact hRU.2.2.2.2.2.2.2.1) (by rw [hs8]; exact hRU.2.2.2.2.2.2.2.2.1) hRU.2.2.2.2.2.2.2.2.2.1 (by rw [hs8]; exact c_wl_wf hRU.2.2.2.2.2.2.2.2.2.2)) v_yX6_settle m_X10_140 dX10_needs_76 rfl (hL 152 (by decide)) (y_l_152 (D 152)) rfl (by decide) ⟨by decide, by decide⟩ (Nat.le_of_ble_eq_true rfl) ?_
      show E 3 18 79 [(0, .ref 64), (1, .int (nI w)), (2, .int (nI t)), (3, .int (nI s)), (4, .int (nI f)), (5, .int hl)] [] (y_mk n L (y_stl (y_st0 D) (D s8).1 (-1) (q_n (D 74).1 2) (k_rm D t)))
      obtain ⟨DS, hDS⟩ : ∃ Z, Z = y_stl (y_st0 D) (D s8).1 (-1) (q_n (D 74).1 2) (k_rm D t) := ⟨_, rfl⟩
      rw [← hDS]
      have hF : c_F D DS (k_rt D t) (-1) (q_n (D 74).1 2) (k_rm D t) := by rw [hDS, hs8]; exact c_F_stl hRU.2.2.2.2.2.2.2.2.2.2 _ (Nat.le_refl _)
      have e1 : DS r9 = D r9 := hF.1 r9 (by rw [hr9]; exact (y_dh_ne hWA.2.2.1).2.1)
      have e2 : DS s9 = D s9 := hF.1 s9 (by rw [hs9]; exact (y_dh_ne hWA.2.2.2.2.2.2.1).2.1)
      have b154 : ∀ q, q < 4 → y_bd ((DS 154).1 q) 1000 := fun q hq => by rw [hF.2.2.2.2.2.2.1 q hq]; exact k_pkn hB _
      have b156 : ∀ q, q < 4 → y_bd ((DS 156).1 q) 1000 := fun q hq => by
        rw [hF.2.2.2.2.2.2.2.2 q hq]
        split
        · exact y_bd_n (a := 99) (by decide) (by decide)
        · exact s_by_bd _ (fun i hi => (hRU.2.2.2.2.2.2.2.2.2.2 i hi).2.2.2.1)
      have smS : k_same D DS := ⟨fun j hj => hF.1 j (by simp only [List.mem_cons, List.not_mem_nil, or_false, not_or] at hj; omega), trivial⟩
      refine r_aload_n hE dX10_needs_79 rfl ?_
      refine t_getr hE f_X10_35 y_R_64_6 dX10_needs_80 (hL 64 (by decide)) ?_
      refine t_getr hE f_X10_132 y_R_151_1 dX10_needs_83 (hL 151 (by decide)) ?_
      refine r_aload_n hE dX10_needs_86 rfl ?_
      refine t_getr hE f_X10_23 y_R_64_3 dX10_needs_87 (hL 64 (by decide)) ?_
      refine t_getr hE f_X10_164 y_R_73_3 dX10_needs_90 (hL 73 (by decide)) ?_
      refine r_iload_n hE dX10_needs_93 rfl ?_
      refine t_aaldN (e := w) (h2 := r9) hE y_Q_77 (by decide) dX10_needs_94 (hL 77 (by decide)) (by have := hB.2.1.2; omega) (by decide) (by rw [hF.1 77 (by decide), hr9]; exact hWA.1) ?_
      refine r_iload_n hE dX10_needs_95 rfl ?_
      refine r_iload hE dX10_needs_96 rfl ?_
      refine t_invvRi hE [.ref r9, .int (nI s), .int hl] (k_setsThatMeet (D := DS) (x := s) (w := r9) (s := s9) (len := k_wl D w) (hl := hl) hV hL (by omega) hm_r9 (by rw [hr9]; exact hWA.2.2.1) (by rw [e1, hr9]; exact hWA.2.2.2.1) (by rw [e1, hr9, hs9]; exact hWA.2.2.2.2.1) (by rw [hs9]; exact hWA.2.2.2.2.2.1) (by rw [hs9]; exact hWA.2.2.2.2.2.2.1) (by rw [e2, hs9]; exact hWA.2.2.2.2.2.2.2.1) (by rw [e2, hs9]) hWA.2.2.2.2.2.2.2.2.1 (by rw [e2, hs9]; exact hWA.2.2.2.2.2.2.2.2.2.1) b154 b156) v_yX6_setsThatMeet m_X10_168 dX10_needs_98 rfl (hL 152 (by decide)) (y_l_152 (DS 152)) rfl (by decide) ⟨by decide, by decide⟩ (Nat.le_of_ble_eq_true rfl) (fun r98 D98 q98 => ?_)
      obtain ⟨rfl, U, f2, hxU, hU, rfl, hm⟩ := q98
      rw [e2, hs9, k_met_ok hWA.2.2.2.2.2.2.2.2.2.2.1]
      show E 3 18 101 [(0, .ref 64), (1, .int (nI w)), (2, .int (nI t)), (3, .int (nI s)), (4, .int (nI f)), (5, .int hl)] [.int (k_met DS (k_wt D w) (k_wl D w) s hl)] (y_mk n L (y_si (y_sw DS 157 f2) 152 8 (nI U)))
      refine r_iload hE dX10_needs_101 rfl ?_
      refine t_invs (r := (some (.int (y_b (y_bit (k_met DS (k_wt D w) (k_wl D w) s hl) f))))) (S2 := (y_mk n L (y_si (y_sw DS 157 f2) 152 8 (nI U)))) hE [.int (k_met DS (k_wt D w) (k_wl D w) s hl), .int (nI f)] (k_hasBit) s_yX10_hasBit m_X10_172 dX10_needs_103 rfl (by decide) ⟨by decide, by decide⟩ (Nat.le_of_ble_eq_true rfl) ?_
      show E 3 18 106 [(0, .ref 64), (1, .int (nI w)), (2, .int (nI t)), (3, .int (nI s)), (4, .int (nI f)), (5, .int hl)] [.int (y_b (y_bit (k_met DS (k_wt D w) (k_wl D w) s hl) f))] (y_mk n L (y_si (y_sw DS 157 f2) 152 8 (nI U)))
      refine r_ireturn hE dX10_needs_106 rfl (by first | rfl | exact y_nb _) (by decide) (by decide) ?_
      exact ⟨_, _, rfl, rfl, ⟨⟨fun j hj => by rw [y_si_ne (fun q => hj (by rw [q]; decide)), y_sw_ne (fun q => hj (by rw [q]; decide)), smS.1 j hj], trivial⟩, k_CI_same ⟨fun j hj => by rw [y_si_ne (fun q => hj (by rw [q]; decide)), y_sw_ne (fun q => hj (by rw [q]; decide)), smS.1 j hj], trivial⟩ (by rw [y_si_ne (by decide), y_sw_ne (by decide), hF.1 162 (by decide)]) hB hCI⟩, w, t, s, f, DS, hw, ht, hs, by omega, rfl, rfl, rfl, rfl, c_F_G hF, rfl⟩

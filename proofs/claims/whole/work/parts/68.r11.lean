theorem k_reckonOdds {V : x_E} {n : Nat} {L : List Nat} {D : y_D} (hV : y_V V) {nn : Nat} (hL : y_ok L) (hB : k_B D L) (hCI : k_CI D) (hO : k_BO D) (hnn : nn ≤ (q_n (D 86).1 2)) : y_Rv V yX10_reckonOdds cX10_reckonOdds 4 none 6 [.ref 64, .int (nI nn)] n L D (fun D2 => k_sB D D2 ∧ k_CI D2 ∧ ∃ F, (∀ k, k < (q_n (D 84).1 2) → ∀ n, n < nn → k_FAC D k n (F k n)) ∧ ∀ k, k < (q_n (D 84).1 2) → (D2 167).1 k = nI (o_od (fun k => q_n (D 85).1 (k * 3 + 0)) F (q_n (D 84).1 2) nn k)) := by
  refine y_rv (by decide) (Nat.le_of_ble_eq_true rfl) (fun E hE => ?_)
  change E 0 0 0 [(0, .ref 64), (1, .int (nI nn))] [] (y_mk n L D)
  have hn12 : (q_n (D 86).1 2) ≤ 12 := hO.2.2.1.1.2
  have hs5 : (q_n (D 84).1 2) ≤ 5 := hO.2.1.1.2
  have hw1 : ∀ k, k < (q_n (D 84).1 2) → 1 ≤ (fun k => q_n (D 85).1 (k * 3 + 0)) k := fun k hk => (hO.2.2.2.2.1 k hk).1.2
  have hA1 : o_sum (fun k => q_n (D 85).1 (k * 3 + 0)) (q_n (D 84).1 2) < 2 ^ 48 := Nat.lt_of_le_of_lt (o_sum_b (B := 99) (fun k hk => (hO.2.2.2.2.1 k hk).1.1.2)) (by omega)
  have l2 : ∀ (i : Nat) (F : Nat → Nat → Nat) (D8 : y_D), i ≤ nn → k_sB D D8 → k_CI D8 → (∀ k, k < (q_n (D 84).1 2) → ∀ n, n < i → k_FAC D k n (F k n)) → (∀ k, k < (q_n (D 84).1 2) → (D8 167).1 k = nI (o_od (fun k => q_n (D 85).1 (k * 3 + 0)) F (q_n (D 84).1 2) i k)) → E 0 0 47 [(0, .ref 64), (1, .int (nI nn)), (2, .int (nI i))] [] (y_mk n L D8) := by
    intro i F D8
    induction hm9 : (nn - i) using Nat.strongRecOn generalizing i F D8 with
    | _ m9 ih =>
      intro hi sb ci hF od
      subst hm9
      refine r_iload_n hE dX10_reckonOdds_47 rfl ?_
      refine r_iload_n hE dX10_reckonOdds_48 rfl ?_
      refine r_icmp_geN (a := i) (b := nn) (tgt := 104) hE dX10_reckonOdds_49 (by decide) (by omega) (by omega) (fun c49 => ?_) (fun c49 => ?_)
      · refine r_return hE dX10_reckonOdds_104 rfl (Nat.zero_le _) (Nat.zero_le _) ?_
        rw [show i = nn by omega] at hF od
        exact ⟨_, rfl, rfl, sb, ci, F, hF, od⟩
      · refine r_iconst (v := 0) hE dX10_reckonOdds_52 (by decide) ?_
        refine r_istore_n (ls2 := [(0, .ref 64), (1, .int (nI nn)), (2, .int (nI i)), (3, .int 0)]) hE dX10_reckonOdds_53 (by decide) rfl ?_
        have ihi := ih
        have l3 : ∀ (k : Nat) (g : Nat → Nat) (D8 : y_D), k ≤ (q_n (D 84).1 2) → k_sB D D8 → k_CI D8 → (∀ k, k < (q_n (D 84).1 2) → (D8 167).1 k = nI (o_od (fun k => q_n (D 85).1 (k * 3 + 0)) F (q_n (D 84).1 2) i k)) → (∀ j, j < k → k_FAC D j i (g j) ∧ (D8 166).2.1 j = lN (o_od (fun k => q_n (D 85).1 (k * 3 + 0)) F (q_n (D 84).1 2) i j * g j)) → E 0 0 54 [(0, .ref 64), (1, .int (nI nn)), (2, .int (nI i)), (3, .int (nI k))] [] (y_mk n L D8) := by
          intro k g D8
          induction hm9 : ((q_n (D 84).1 2) - k) using Nat.strongRecOn generalizing k g D8 with
          | _ m9 ih =>
            intro hk sb ci od by_
            subst hm9
            refine r_iload_n hE dX10_reckonOdds_54 rfl ?_
            refine r_aload_n hE dX10_reckonOdds_55 rfl ?_
            refine t_getr hE f_X10_23 y_R_64_3 dX10_reckonOdds_56 (hL 64 (by decide)) ?_
            refine t_getr hE f_X10_219 y_R_73_8 dX10_reckonOdds_59 (hL 73 (by decide)) ?_
            refine t_geti hE f_X10_176 y_I_84_2 dX10_reckonOdds_62 (hL 84 (by decide)) ?_
            refine r_top (y := (nI (q_n (D 84).1 2))) (by rw [(sb 84 (by decide) (by decide) (by decide))]; exact hO.2.1.1.1) ?_
            refine r_icmp_geN (a := k) (b := (q_n (D 84).1 2)) (tgt := 94) hE dX10_reckonOdds_65 (by decide) (by omega) (by omega) (fun c65 => ?_) (fun c65 => ?_)
            · have hA2 : o_sum (fun k => o_od (fun k => q_n (D 85).1 (k * 3 + 0)) F (q_n (D 84).1 2) i k * g k) (q_n (D 84).1 2) < 2 ^ 48 := by
                refine Nat.lt_of_le_of_lt (o_sum_b (B := 10000 * 3486784401) (fun k hk => Nat.mul_le_mul (o_od_b (by omega) hw1 (fun k hk j hj => (k_FAC_b hB hO (hF k hk j hj)).1) hk) (k_FAC_b hB hO (by_ k (by omega)).1).2)) ?_
                omega
              refine r_aload_n hE dX10_reckonOdds_94 rfl ?_
              refine t_invvRv hE [] (k_sharesToOdds (D := D8) (b := (fun k => o_od (fun k => q_n (D 85).1 (k * 3 + 0)) F (q_n (D 84).1 2) i k * g k)) hL (by rw [(sb 84 (by decide) (by decide) (by decide))]; exact hO.2.1.1) (by rw [(sb 84 (by decide) (by decide) (by decide))]; exact fun k hk => (by_ k (by omega)).2) (by rw [(sb 84 (by decide) (by decide) (by decide))]; exact hA2)) v_yX10_sharesToOdds m_X10_332 dX10_reckonOdds_95 rfl (hL 64 (by decide)) (y_l_64 (D8 64)) rfl (by decide) ⟨Nat.le_refl _, Nat.le_refl _⟩ (Nat.le_of_ble_eq_true rfl) (fun D9 q9 => ?_)
              rw [(sb 84 (by decide) (by decide) (by decide))] at q9
              show E 0 0 98 [(0, .ref 64), (1, .int (nI nn)), (2, .int (nI i)), (3, .int (nI k))] [] (y_mk n L D9)
              refine r_iincN (a := i) (b := 1) (ls2 := [(0, .ref 64), (1, .int (nI nn)), (2, .int (nI (i + 1))), (3, .int (nI k))]) hE dX10_reckonOdds_98 rfl rfl (by decide) rfl ?_
              refine r_goto (tgt := 47) hE dX10_reckonOdds_101 (by decide) ?_
              obtain ⟨F2, hF2⟩ : ∃ z, z = (fun k n => if n = i then g k else F k n) := ⟨_, rfl⟩
              have hF3 : (∀ k, k < (q_n (D 84).1 2) → ∀ n, n < (i + 1) → k_FAC D k n (F2 k n)) := by
                intro k hk n hn
                rw [hF2]
                dsimp only
                by_cases c : n = i
                · rw [if_pos c, c]; exact (by_ k (by omega)).1
                · rw [if_neg c]; exact hF k hk n (by omega)
              have hod : ∀ k, k < (q_n (D 84).1 2) → o_od (fun k => q_n (D 85).1 (k * 3 + 0)) F2 (q_n (D 84).1 2) (i + 1) k = o_sh (fun k => o_od (fun k => q_n (D 85).1 (k * 3 + 0)) F (q_n (D 84).1 2) i k * g k) (q_n (D 84).1 2) k := by
                intro k hk
                show o_sh (fun k => o_od (fun k => q_n (D 85).1 (k * 3 + 0)) F2 (q_n (D 84).1 2) i k * F2 k i) (q_n (D 84).1 2) k = _
                refine o_sh_c (fun k2 hk2 => ?_) hk
                rw [o_od_c (F := F2) (G := F) (fun _ _ => rfl) i (fun k3 hk3 j hj => by rw [hF2]; dsimp only; rw [if_neg (by omega)]) k2 hk2, hF2]
                dsimp only
                rw [if_pos rfl]
              rcases q9 with ⟨z1, rfl⟩ | ⟨z1, z2, z3⟩
              · refine r_locs hE (ls2 := [(0, .ref 64), (1, .int (nI nn)), (2, .int (nI (i + 1)))]) ?_ (ihi (nn - (i + 1)) (by omega) (i + 1) F2 _ rfl (by omega) sb ci hF3 (fun k hk => ?_))
                · simp [x_lk]
                · exfalso
                  have := (o_od_sum (wt := (fun k => q_n (D 85).1 (k * 3 + 0))) (F := F2) (n := (q_n (D 84).1 2)) (by omega) hw1 (i + 1) (fun k hk j hj => (k_FAC_b hB hO (hF3 k hk j hj)).1)).2
                  have e9 : o_sum (fun k => o_od (fun k => q_n (D 85).1 (k * 3 + 0)) F2 (q_n (D 84).1 2) i k * F2 k i) (q_n (D 84).1 2) = o_sum (fun k => o_od (fun k => q_n (D 85).1 (k * 3 + 0)) F (q_n (D 84).1 2) i k * g k) (q_n (D 84).1 2) := o_sum_c (fun k2 hk2 => by
                    rw [o_od_c (F := F2) (G := F) (fun _ _ => rfl) i (fun k3 hk3 j hj => by rw [hF2]; dsimp only; rw [if_neg (by omega)]) k2 hk2, hF2]
                    dsimp only
                    rw [if_pos rfl])
                  dsimp only at this
                  rw [e9, z1] at this
                  omega
              · refine r_locs hE (ls2 := [(0, .ref 64), (1, .int (nI nn)), (2, .int (nI (i + 1)))]) ?_ (ihi (nn - (i + 1)) (by omega) (i + 1) F2 _ rfl (by omega) (k_sB_o sb z2 (by decide)) (k_CI_sB (k_sB_o k_sB_r z2 (by decide)) (z2 162 (by decide)) (k_B_sB sb hB).1 ci) hF3 (fun k hk => ?_))
                · simp [x_lk]
                · rw [hod k hk]; exact z3 k hk
            · refine r_aload_n hE dX10_reckonOdds_68 rfl ?_
              refine t_getr hE f_X10_46 y_R_64_8 dX10_reckonOdds_69 (hL 64 (by decide)) ?_
              refine r_iload_n hE dX10_reckonOdds_72 rfl ?_
              refine r_aload_n hE dX10_reckonOdds_73 rfl ?_
              refine t_getr hE f_X10_50 y_R_64_9 dX10_reckonOdds_74 (hL 64 (by decide)) ?_
              refine r_iload_n hE dX10_reckonOdds_77 rfl ?_
              refine t_ialdN (e := k) hE y_A_167 dX10_reckonOdds_78 (hL 167 (by decide)) (by omega) (by decide) ?_
              refine r_top (y := (nI (o_od (fun k => q_n (D 85).1 (k * 3 + 0)) F (q_n (D 84).1 2) i k))) (od k (by omega)) ?_
              have ho9 : o_od (fun k => q_n (D 85).1 (k * 3 + 0)) F (q_n (D 84).1 2) i k ≤ 10000 := o_od_b (by omega) hw1 (fun k hk j hj => (k_FAC_b hB hO (hF k hk j hj)).1) (by omega)
              refine r_i2l hE dX10_reckonOdds_79 ?_
              refine r_topL (y := lN (o_od (fun k => q_n (D 85).1 (k * 3 + 0)) F (q_n (D 84).1 2) i k)) (nI_l (by omega)) ?_
              refine r_aload_n hE dX10_reckonOdds_80 rfl ?_
              refine r_iload_n hE dX10_reckonOdds_81 rfl ?_
              refine r_iload_n hE dX10_reckonOdds_82 rfl ?_
              refine t_invvRj hE [.int (nI k), .int (nI i)] (k_allFactors (D := D8) (k := k) (n9 := i) hV hL (k_B_sB sb hB).1 ci (k_BO_s sb hO) (by rw [(sb 84 (by decide) (by decide) (by decide))]; omega) (by rw [sb 86 (by decide) (by decide) (by decide)]; omega)) v_yX10_allFactors m_X10_231 dX10_reckonOdds_83 rfl (hL 64 (by decide)) (y_l_64 (D8 64)) rfl (by decide) ⟨Nat.le_refl _, Nat.le_refl _⟩ (Nat.le_of_ble_eq_true rfl) (fun v7 D7 q7 => ?_)
              obtain ⟨⟨sm7, ci7⟩, f, hf, q7⟩ := q7
              rw [hf]
              have q7 := k_FAC_sB sb hB hO (by omega) q7
              have hf9 := k_FAC_b hB hO q7
              show E 0 0 86 [(0, .ref 64), (1, .int (nI nn)), (2, .int (nI i)), (3, .int (nI k))] [.long (lN f), .long (lN (o_od (fun k => q_n (D 85).1 (k * 3 + 0)) F (q_n (D 84).1 2) i k)), .int (nI k), .ref 166] (y_mk n L D7)
              refine r_lmul hE dX10_reckonOdds_86 ?_
              refine r_topL (y := lN ((o_od (fun k => q_n (D 85).1 (k * 3 + 0)) F (q_n (D 84).1 2) i k) * f)) (lN_mul (o_od (fun k => q_n (D 85).1 (k * 3 + 0)) F (q_n (D 84).1 2) i k) f) ?_
              refine t_lastN (e := k) hE y_J_166 dX10_reckonOdds_87 (hL 166 (by decide)) (by omega) (by decide) ?_
              refine r_iincN (a := k) (b := 1) (ls2 := [(0, .ref 64), (1, .int (nI nn)), (2, .int (nI i)), (3, .int (nI (k + 1)))]) hE dX10_reckonOdds_88 rfl rfl (by decide) rfl ?_
              refine r_goto (tgt := 54) hE dX10_reckonOdds_91 (by decide) ?_
              refine r_locs hE (ls2 := [(0, .ref 64), (1, .int (nI nn)), (2, .int (nI i)), (3, .int (nI (k + 1)))]) ?_ (ih ((q_n (D 84).1 2) - (k + 1)) (by omega) (k + 1) (fun j => if j = k then f else g j) _ rfl (by omega) (k_sB_o (k_sB_t sb (k_sB_k sm7)) (fun j hj => y_sl_ne hj) (by decide)) (k_CI_sB (k_sB_o k_sB_r (fun j hj => y_sl_ne hj) (by decide)) (y_sl_ne (by decide)) (k_B_same sm7 (k_B_sB sb hB).1) ci7) (by rw [y_sl_ne (by decide), sm7.1 167 (by decide)]; exact od) (fun j hj => ?_))
              · simp [x_lk]
              · rw [y_sl_1, sm7.1 166 (by decide)]
                by_cases c : j = k
                · rw [if_pos c, if_pos c, c]
                  exact ⟨q7, rfl⟩
                · rw [if_neg c, if_neg c]
                  exact by_ j (by omega)
        exact l3 0 (fun _ => 0) _ (by omega) sb ci od (fun j hj => absurd hj (by omega))
  have l1 : ∀ (i : Nat) (D8 : y_D), i ≤ (q_n (D 84).1 2) → k_sB D D8 → k_CI D8 → (∀ k, k < i → (D8 166).2.1 k = lN (q_n (D 85).1 (k * 3 + 0))) → E 0 0 2 [(0, .ref 64), (1, .int (nI nn)), (2, .int (nI i))] [] (y_mk n L D8) := by
    intro i D8
    induction hm9 : ((q_n (D 84).1 2) - i) using Nat.strongRecOn generalizing i D8 with
    | _ m9 ih =>
      intro hi sb ci inv
      subst hm9
      refine r_iload_n hE dX10_reckonOdds_2 rfl ?_
      refine r_aload_n hE dX10_reckonOdds_3 rfl ?_
      refine t_getr hE f_X10_23 y_R_64_3 dX10_reckonOdds_4 (hL 64 (by decide)) ?_
      refine t_getr hE f_X10_219 y_R_73_8 dX10_reckonOdds_7 (hL 73 (by decide)) ?_
      refine t_geti hE f_X10_176 y_I_84_2 dX10_reckonOdds_10 (hL 84 (by decide)) ?_
      refine r_top (y := (nI (q_n (D 84).1 2))) (by rw [(sb 84 (by decide) (by decide) (by decide))]; exact hO.2.1.1.1) ?_
      refine r_icmp_geN (a := i) (b := (q_n (D 84).1 2)) (tgt := 41) hE dX10_reckonOdds_13 (by decide) (by omega) (by omega) (fun c13 => ?_) (fun c13 => ?_)
      · rw [show i = (q_n (D 84).1 2) by omega] at inv
        refine r_aload_n hE dX10_reckonOdds_41 rfl ?_
        refine t_invvRv hE [] (k_sharesToOdds (D := D8) (b := (fun k => q_n (D 85).1 (k * 3 + 0))) hL (by rw [(sb 84 (by decide) (by decide) (by decide))]; exact hO.2.1.1) (by rw [(sb 84 (by decide) (by decide) (by decide))]; exact inv) (by rw [(sb 84 (by decide) (by decide) (by decide))]; exact hA1)) v_yX10_sharesToOdds m_X10_332 dX10_reckonOdds_42 rfl (hL 64 (by decide)) (y_l_64 (D8 64)) rfl (by decide) ⟨Nat.le_refl _, Nat.le_refl _⟩ (Nat.le_of_ble_eq_true rfl) (fun D9 q9 => ?_)
        rw [(sb 84 (by decide) (by decide) (by decide))] at q9
        show E 0 0 45 [(0, .ref 64), (1, .int (nI nn)), (2, .int (nI i))] [] (y_mk n L D9)
        refine r_iconst (v := 0) hE dX10_reckonOdds_45 (by decide) ?_
        refine r_istore_n (ls2 := [(0, .ref 64), (1, .int (nI nn)), (2, .int 0)]) hE dX10_reckonOdds_46 (by decide) rfl ?_
        rcases q9 with ⟨z1, rfl⟩ | ⟨z1, z2, z3⟩
        · refine l2 0 (fun _ _ => 1) _ (by omega) sb ci (fun k hk n hn => absurd hn (by omega)) (fun k hk => ?_)
          have h1 : q_n (D 85).1 (k * 3 + 0) ≤ o_sum (fun k => q_n (D 85).1 (k * 3 + 0)) (q_n (D 84).1 2) := o_sum_ge (b := (fun k => q_n (D 85).1 (k * 3 + 0))) hk
          have h2 : 1 ≤ q_n (D 85).1 (k * 3 + 0) := hw1 k hk
          rw [z1] at h1
          omega
        · exact l2 0 (fun _ _ => 1) _ (by omega) (k_sB_o sb z2 (by decide)) (k_CI_sB (k_sB_o k_sB_r z2 (by decide)) (z2 162 (by decide)) (k_B_sB sb hB).1 ci) (fun k hk n hn => absurd hn (by omega)) z3
      · refine r_aload_n hE dX10_reckonOdds_16 rfl ?_
        refine t_getr hE f_X10_46 y_R_64_8 dX10_reckonOdds_17 (hL 64 (by decide)) ?_
        refine r_iload_n hE dX10_reckonOdds_20 rfl ?_
        refine r_aload_n hE dX10_reckonOdds_21 rfl ?_
        refine t_getr hE f_X10_23 y_R_64_3 dX10_reckonOdds_22 (hL 64 (by decide)) ?_
        refine t_getr hE f_X10_219 y_R_73_8 dX10_reckonOdds_25 (hL 73 (by decide)) ?_
        refine r_iload_n hE dX10_reckonOdds_28 rfl ?_
        refine r_iconst (v := 0) hE dX10_reckonOdds_29 (by decide) ?_
        refine t_invv (r := (some (.int (if i < (q_n (D 84).1 2) ∧ 0 < 3 then (D8 85).1 (i * 3 + 0) else 0)))) (S2 := (y_mk n L D8)) hE [.int (nI i), .int 0] (k_get (D := D8) (k := (q_n (D 84).1 2)) (wd := 3) y_T_84 (hL 84 (by decide)) (hL 85 (by decide)) (by rw [(sb 84 (by decide) (by decide) (by decide))]; exact hO.2.1.1.1) (by rw [(sb 84 (by decide) (by decide) (by decide))]; exact hO.2.1.2) (by omega) (by decide) (by decide) (r := i) (c := 0) (by omega) (by decide) (by omega)) v_yX7_get m_X10_246 dX10_reckonOdds_30 rfl (hL 84 (by decide)) (y_l_84 (D8 84)) rfl (by decide) ⟨Nat.le_refl _, Nat.le_refl _⟩ (Nat.le_of_ble_eq_true rfl) ?_
        show E 0 0 33 [(0, .ref 64), (1, .int (nI nn)), (2, .int (nI i))] [.int (if i < (q_n (D 84).1 2) ∧ 0 < 3 then (D8 85).1 (i * 3 + 0) else 0), .int (nI i), .ref 166] (y_mk n L D8)
        refine r_top (y := (nI (q_n (D 85).1 (i * 3 + 0)))) (by rw [if_pos ⟨by omega, by decide⟩, sb 85 (by decide) (by decide) (by decide)]; exact (hO.2.2.2.2.1 i (by omega)).1.1.1) ?_
        have hw9 : q_n (D 85).1 (i * 3 + 0) ≤ 99 := (hO.2.2.2.2.1 i (by omega)).1.1.2
        refine r_i2l hE dX10_reckonOdds_33 ?_
        refine r_topL (y := lN (q_n (D 85).1 (i * 3 + 0))) (nI_l (by omega)) ?_
        refine t_lastN (e := i) hE y_J_166 dX10_reckonOdds_34 (hL 166 (by decide)) (by omega) (by decide) ?_
        refine r_iincN (a := i) (b := 1) (ls2 := [(0, .ref 64), (1, .int (nI nn)), (2, .int (nI (i + 1)))]) hE dX10_reckonOdds_35 rfl rfl (by decide) rfl ?_
        refine r_goto (tgt := 2) hE dX10_reckonOdds_38 (by decide) ?_
        refine ih ((q_n (D 84).1 2) - (i + 1)) (by omega) (i + 1) _ rfl (by omega) (k_sB_o sb (fun j hj => y_sl_ne hj) (by decide)) (k_CI_sB (k_sB_o k_sB_r (fun j hj => y_sl_ne hj) (by decide)) (y_sl_ne (by decide)) (k_B_sB sb hB).1 ci) (fun k hk => ?_)
        rw [y_sl_1]
        by_cases c : k = i
        · rw [if_pos c, c]
        · rw [if_neg c]; exact inv k (by omega)
  refine r_iconst (v := 0) hE dX10_reckonOdds_0 (by decide) ?_
  refine r_istore_n (ls2 := [(0, .ref 64), (1, .int (nI nn)), (2, .int 0)]) hE dX10_reckonOdds_1 (by decide) rfl ?_
  exact l1 0 _ (by omega) k_sB_r hCI (fun k hk => absurd hk (by omega))
theorem f_odds {V : x_E} (hV : y_V V) {n : Nat} {L : List Nat} {D : y_D} (hL : y_ok L) {p : Int32} (hB : k_B D L) (hCI : k_CI D) (hO : k_BO D) : y_Fi V yX10_odds cX10_odds 2 (some .int) 8 1 6 [.ref 64, .int p] n L D (fun v D2 => (k_sB D D2 ∧ k_CI D2) ∧ ∃ k, k < (q_n (D 84).1 2) ∧ p = nI k ∧ ∃ F, (∀ k, k < (q_n (D 84).1 2) → ∀ n, n < (q_n (D 86).1 2) → k_FAC D k n (F k n)) ∧ v = nI (o_od (fun k => q_n (D 85).1 (k * 3 + 0)) F (q_n (D 84).1 2) (q_n (D 86).1 2) k)) (fun E9 => ¬ (0 ≤ p ∧ p < (D 84).1 2) ∧ E9 = y_IOB) := by
  refine x_cx (by decide) hV.1 (fun a0 S0 h => by rw [h.1]; exact Nat.le_of_ble_eq_true rfl) (fun a0 S0 h E EX hX => ?_)
  obtain ⟨rfl, rfl⟩ := h
  have hE := hX.x
  change E 0 0 0 [(0, .ref 64), (1, .int p)] [] (y_mk n L D)
  refine r_iload_n hE dX10_odds_0 rfl ?_
  refine r_aload_n hE dX10_odds_1 rfl ?_
  refine t_getr hE f_X10_23 y_R_64_3 dX10_odds_2 (hL 64 (by decide)) ?_
  refine t_getr hE f_X10_219 y_R_73_8 dX10_odds_5 (hL 73 (by decide)) ?_
  refine t_geti hE f_X10_176 y_I_84_2 dX10_odds_8 (hL 84 (by decide)) ?_
  refine t_demandRow hX hV [.int p, .int ((D 84).1 2)] dX10_odds_11 m_X10_125 rfl (by decide) ⟨by decide, by decide⟩ (Nat.le_of_ble_eq_true rfl) (fun c11 => ?_) (fun c11 n2 hn2 => r_out hX ⟨by exact ⟨c11, rfl⟩, n2, hn2, rfl⟩ (by decide) (by decide))
  show E 1 6 14 [(0, .ref 64), (1, .int p)] [] (y_mk n L D)
  obtain ⟨k, hk, rfl⟩ := y_rngR (k := (q_n (D 84).1 2)) (by have := hO.2.1.1.2; omega) (by rw [← hO.2.1.1.1]; exact c11)
  refine r_aload_n hE dX10_odds_14 rfl ?_
  refine r_aload_n hE dX10_odds_15 rfl ?_
  refine t_getr hE f_X10_23 y_R_64_3 dX10_odds_16 (hL 64 (by decide)) ?_
  refine t_getr hE f_X10_225 y_R_73_9 dX10_odds_19 (hL 73 (by decide)) ?_
  refine t_geti hE f_X10_176 y_I_86_2 dX10_odds_22 (hL 86 (by decide)) ?_
  refine r_top (y := (nI (q_n (D 86).1 2))) hO.2.2.1.1.1 ?_
  refine t_invvRv hE [.int (nI (q_n (D 86).1 2))] (k_reckonOdds (nn := (q_n (D 86).1 2)) hV hL hB hCI hO (by first | exact Nat.le_refl _ | omega)) v_yX10_reckonOdds m_X10_228 dX10_odds_25 rfl (hL 64 (by decide)) (y_l_64 (D 64)) rfl (by decide) ⟨by decide, by decide⟩ (Nat.le_of_ble_eq_true rfl) (fun D5 q5 => ?_)
  obtain ⟨sb, ci, F, hF, od⟩ := q5
  show E 1 6 28 [(0, .ref 64), (1, .int (nI k))] [] (y_mk n L D5)
  refine r_aload_n hE dX10_odds_28 rfl ?_
  refine t_getr hE f_X10_50 y_R_64_9 dX10_odds_29 (hL 64 (by decide)) ?_
  refine r_iload_n hE dX10_odds_32 rfl ?_
  refine t_ialdN (e := k) hE y_A_167 dX10_odds_33 (hL 167 (by decide)) (by have := hO.2.1.1.2; omega) (by decide) ?_
  refine r_top (y := (nI (o_od (fun k => q_n (D 85).1 (k * 3 + 0)) F (q_n (D 84).1 2) (q_n (D 86).1 2) k))) (od k hk) ?_
  refine r_ireturn hE dX10_odds_34 rfl rfl (by decide) (by decide) ?_
  exact ⟨_, _, rfl, rfl, ⟨sb, ci⟩, k, hk, rfl, F, hF, rfl⟩
theorem f_oddsBy {V : x_E} (hV : y_V V) {n : Nat} {L : List Nat} {D : y_D} (hL : y_ok L) {p x : Int32} (hB : k_B D L) (hCI : k_CI D) (hO : k_BO D) : y_Fi V yX10_oddsBy cX10_oddsBy 3 (some .int) 8 2 12 [.ref 64, .int p, .int x] n L D (fun v D2 => (k_sB D D2 ∧ k_CI D2) ∧ ∃ k nn, k < (q_n (D 84).1 2) ∧ nn ≤ (q_n (D 86).1 2) ∧ p = nI k ∧ x = nI nn ∧ ∃ F, (∀ k, k < (q_n (D 84).1 2) → ∀ n, n < nn → k_FAC D k n (F k n)) ∧ v = nI (o_od (fun k => q_n (D 85).1 (k * 3 + 0)) F (q_n (D 84).1 2) nn k)) (fun E9 => (¬ (0 ≤ p ∧ p < (D 84).1 2) ∧ E9 = y_IOB) ∨ (¬ ¬ (0 ≤ p ∧ p < (D 84).1 2) ∧ ¬ (0 ≤ x ∧ x ≤ (D 86).1 2) ∧ E9 = y_IAE)) := by
  refine x_cx (by decide) hV.1 (fun a0 S0 h => by rw [h.1]; exact Nat.le_of_ble_eq_true rfl) (fun a0 S0 h E EX hX => ?_)
  obtain ⟨rfl, rfl⟩ := h
  have hE := hX.x
  change E 0 0 0 [(0, .ref 64), (1, .int p), (2, .int x)] [] (y_mk n L D)
  refine r_iload_n hE dX10_oddsBy_0 rfl ?_
  refine r_aload_n hE dX10_oddsBy_1 rfl ?_
  refine t_getr hE f_X10_23 y_R_64_3 dX10_oddsBy_2 (hL 64 (by decide)) ?_
  refine t_getr hE f_X10_219 y_R_73_8 dX10_oddsBy_5 (hL 73 (by decide)) ?_
  refine t_geti hE f_X10_176 y_I_84_2 dX10_oddsBy_8 (hL 84 (by decide)) ?_
  refine t_demandRow hX hV [.int p, .int ((D 84).1 2)] dX10_oddsBy_11 m_X10_125 rfl (by decide) ⟨by decide, by decide⟩ (Nat.le_of_ble_eq_true rfl) (fun c11 => ?_) (fun c11 n2 hn2 => r_out hX ⟨by first | exact Or.inl ⟨c11, rfl⟩ | exact Or.inr ⟨fun q => q c11, c29, rfl⟩, n2, hn2, rfl⟩ (by decide) (by decide))
  show E 1 6 14 [(0, .ref 64), (1, .int p), (2, .int x)] [] (y_mk n L D)
  refine r_iload_n hE dX10_oddsBy_14 rfl ?_
  refine r_iconst (v := 0) hE dX10_oddsBy_15 (by decide) ?_
  refine r_aload_n hE dX10_oddsBy_16 rfl ?_
  refine t_getr hE f_X10_23 y_R_64_3 dX10_oddsBy_17 (hL 64 (by decide)) ?_
  refine t_getr hE f_X10_225 y_R_73_9 dX10_oddsBy_20 (hL 73 (by decide)) ?_
  refine t_geti hE f_X10_176 y_I_86_2 dX10_oddsBy_23 (hL 86 (by decide)) ?_
  refine t_invs (r := (some (.int (y_b (0 ≤ x ∧ x ≤ (D 86).1 2))))) (S2 := (y_mk n L D)) hE [.int x, .int 0, .int ((D 86).1 2)] (k_isBetween) s_yX10_isBetween m_X10_65 dX10_oddsBy_26 rfl (by decide) ⟨by decide, by decide⟩ (Nat.le_of_ble_eq_true rfl) ?_
  show E 1 6 29 [(0, .ref 64), (1, .int p), (2, .int x)] [.int (y_b (0 ≤ x ∧ x ≤ (D 86).1 2))] (y_mk n L D)
  refine t_demand hX hV [.int (y_b (0 ≤ x ∧ x ≤ (D 86).1 2))] dX10_oddsBy_29 m_X10_69 rfl (by decide) ⟨by decide, by decide⟩ (Nat.le_of_ble_eq_true rfl) (fun c29 => ?_) (fun c29 n2 hn2 => r_out hX ⟨by first | exact Or.inl ⟨c11, rfl⟩ | exact Or.inr ⟨fun q => q c11, c29, rfl⟩, n2, hn2, rfl⟩ (by decide) (by decide))
  show E 2 12 32 [(0, .ref 64), (1, .int p), (2, .int x)] [] (y_mk n L D)
  obtain ⟨k, hk, rfl⟩ := y_rngR (k := (q_n (D 84).1 2)) (by have := hO.2.1.1.2; omega) (by rw [← hO.2.1.1.1]; exact c11)
  obtain ⟨nn, hnn, rfl⟩ := y_rng2 (k := (q_n (D 86).1 2)) (by have := hO.2.2.1.1.2; omega) (by rw [← hO.2.2.1.1.1]; exact c29)
  refine r_aload_n hE dX10_oddsBy_32 rfl ?_
  refine r_iload_n hE dX10_oddsBy_33 rfl ?_
  refine t_invvRv hE [.int (nI nn)] (k_reckonOdds (nn := nn) hV hL hB hCI hO (by first | exact Nat.le_refl _ | omega)) v_yX10_reckonOdds m_X10_228 dX10_oddsBy_34 rfl (hL 64 (by decide)) (y_l_64 (D 64)) rfl (by decide) ⟨by decide, by decide⟩ (Nat.le_of_ble_eq_true rfl) (fun D5 q5 => ?_)
  obtain ⟨sb, ci, F, hF, od⟩ := q5
  show E 2 12 37 [(0, .ref 64), (1, .int (nI k)), (2, .int (nI nn))] [] (y_mk n L D5)
  refine r_aload_n hE dX10_oddsBy_37 rfl ?_
  refine t_getr hE f_X10_50 y_R_64_9 dX10_oddsBy_38 (hL 64 (by decide)) ?_
  refine r_iload_n hE dX10_oddsBy_41 rfl ?_
  refine t_ialdN (e := k) hE y_A_167 dX10_oddsBy_42 (hL 167 (by decide)) (by have := hO.2.1.1.2; omega) (by decide) ?_
  refine r_top (y := (nI (o_od (fun k => q_n (D 85).1 (k * 3 + 0)) F (q_n (D 84).1 2) nn k))) (od k hk) ?_
  refine r_ireturn hE dX10_oddsBy_43 rfl rfl (by decide) (by decide) ?_
  exact ⟨_, _, rfl, rfl, ⟨sb, ci⟩, k, nn, hk, hnn, rfl, rfl, F, hF, rfl⟩
theorem f_factor {V : x_E} (hV : y_V V) {n : Nat} {L : List Nat} {D : y_D} (hL : y_ok L) {p x : Int32} (hB : k_B D L) (hCI : k_CI D) (hO : k_BO D) : y_Fj V yX10_factor cX10_factor 3 (some .long) 8 2 12 [.ref 64, .int p, .int x] n L D (fun v D2 => (k_sB D D2 ∧ k_CI D2) ∧ ∃ k n9, k < (q_n (D 84).1 2) ∧ n9 < (q_n (D 86).1 2) ∧ p = nI k ∧ x = nI n9 ∧ ∃ f, k_FAC D k n9 f ∧ v = lN f) (fun E9 => (¬ (0 ≤ p ∧ p < (D 84).1 2) ∨ ¬ (0 ≤ x ∧ x < (D 86).1 2)) ∧ E9 = y_IOB) := by
  refine x_cx (by decide) hV.1 (fun a0 S0 h => by rw [h.1]; exact Nat.le_of_ble_eq_true rfl) (fun a0 S0 h E EX hX => ?_)
  obtain ⟨rfl, rfl⟩ := h
  have hE := hX.x
  change E 0 0 0 [(0, .ref 64), (1, .int p), (2, .int x)] [] (y_mk n L D)
  refine r_iload_n hE dX10_factor_0 rfl ?_
  refine r_aload_n hE dX10_factor_1 rfl ?_
  refine t_getr hE f_X10_23 y_R_64_3 dX10_factor_2 (hL 64 (by decide)) ?_
  refine t_getr hE f_X10_219 y_R_73_8 dX10_factor_5 (hL 73 (by decide)) ?_
  refine t_geti hE f_X10_176 y_I_84_2 dX10_factor_8 (hL 84 (by decide)) ?_
  refine t_demandRow hX hV [.int p, .int ((D 84).1 2)] dX10_factor_11 m_X10_125 rfl (by decide) ⟨by decide, by decide⟩ (Nat.le_of_ble_eq_true rfl) (fun c11 => ?_) (fun c11 n2 hn2 => r_out hX ⟨by first | exact ⟨Or.inl c11, rfl⟩ | exact ⟨Or.inr c25, rfl⟩, n2, hn2, rfl⟩ (by decide) (by decide))
  show E 1 6 14 [(0, .ref 64), (1, .int p), (2, .int x)] [] (y_mk n L D)
  refine r_iload_n hE dX10_factor_14 rfl ?_
  refine r_aload_n hE dX10_factor_15 rfl ?_
  refine t_getr hE f_X10_23 y_R_64_3 dX10_factor_16 (hL 64 (by decide)) ?_
  refine t_getr hE f_X10_225 y_R_73_9 dX10_factor_19 (hL 73 (by decide)) ?_
  refine t_geti hE f_X10_176 y_I_86_2 dX10_factor_22 (hL 86 (by decide)) ?_
  refine t_demandRow hX hV [.int x, .int ((D 86).1 2)] dX10_factor_25 m_X10_125 rfl (by decide) ⟨by decide, by decide⟩ (Nat.le_of_ble_eq_true rfl) (fun c25 => ?_) (fun c25 n2 hn2 => r_out hX ⟨by first | exact ⟨Or.inl c11, rfl⟩ | exact ⟨Or.inr c25, rfl⟩, n2, hn2, rfl⟩ (by decide) (by decide))
  show E 2 12 28 [(0, .ref 64), (1, .int p), (2, .int x)] [] (y_mk n L D)
  obtain ⟨k, hk, rfl⟩ := y_rngR (k := (q_n (D 84).1 2)) (by have := hO.2.1.1.2; omega) (by rw [← hO.2.1.1.1]; exact c11)
  obtain ⟨n9, hn9, rfl⟩ := y_rngR (k := (q_n (D 86).1 2)) (by have := hO.2.2.1.1.2; omega) (by rw [← hO.2.2.1.1.1]; exact c25)
  refine r_aload_n hE dX10_factor_28 rfl ?_
  refine r_iload_n hE dX10_factor_29 rfl ?_
  refine r_iload_n hE dX10_factor_30 rfl ?_
  refine t_invvRj hE [.int (nI k), .int (nI n9)] (k_allFactors (k := k) (n9 := n9) hV hL hB hCI hO hk hn9) v_yX10_allFactors m_X10_231 dX10_factor_31 rfl (hL 64 (by decide)) (y_l_64 (D 64)) rfl (by decide) ⟨by decide, by decide⟩ (Nat.le_of_ble_eq_true rfl) (fun v7 D7 q7 => ?_)
  obtain ⟨⟨sm7, ci7⟩, f, hf, q7⟩ := q7
  rw [hf]
  show E 2 12 34 [(0, .ref 64), (1, .int (nI k)), (2, .int (nI n9))] [.long (lN f)] (y_mk n L D7)
  refine r_lreturn hE dX10_factor_34 rfl (by decide) (by decide) ?_
  exact ⟨_, _, rfl, rfl, ⟨k_sB_k sm7, ci7⟩, k, n9, hk, hn9, rfl, rfl, f, q7, rfl⟩
theorem f_says {V : x_E} (hV : y_V V) {n : Nat} {L : List Nat} {D : y_D} (hL : y_ok L) {p : Int32} (hB : k_B D L) (hCI : k_CI D) (hO : k_BO D) : y_Fj V yX10_says cX10_says 7 (some .long) 8 1 6 [.ref 64, .int p] n L D (fun v D2 => (k_sB D D2 ∧ k_CI D2) ∧ ∃ t, t < (q_n (D 82).1 2) ∧ p = nI t ∧ ∃ F, (∀ k, k < (q_n (D 84).1 2) → ∀ n, n < (q_n (D 86).1 2) → k_FAC D k n (F k n)) ∧ v = o_say (o_od (fun k => q_n (D 85).1 (k * 3 + 0)) F (q_n (D 84).1 2) (q_n (D 86).1 2)) (fun k => k_spr D k t) (lN (o_sum (fun k => o_od (fun k => q_n (D 85).1 (k * 3 + 0)) F (q_n (D 84).1 2) (q_n (D 86).1 2) k * k_spr D k t) (q_n (D 84).1 2))) (q_n (D 84).1 2) / 10000) (fun E9 => ¬ (0 ≤ p ∧ p < (D 82).1 2) ∧ E9 = y_IOB) := by
  refine x_cx (by decide) hV.1 (fun a0 S0 h => by rw [h.1]; exact Nat.le_of_ble_eq_true rfl) (fun a0 S0 h E EX hX => ?_)
  obtain ⟨rfl, rfl⟩ := h
  have hE := hX.x
  change E 0 0 0 [(0, .ref 64), (1, .int p)] [] (y_mk n L D)
  refine r_iload_n hE dX10_says_0 rfl ?_
  refine r_aload_n hE dX10_says_1 rfl ?_
  refine t_getr hE f_X10_23 y_R_64_3 dX10_says_2 (hL 64 (by decide)) ?_
  refine t_getr hE f_X10_216 y_R_73_7 dX10_says_5 (hL 73 (by decide)) ?_
  refine t_geti hE f_X10_176 y_I_82_2 dX10_says_8 (hL 82 (by decide)) ?_
  refine t_demandRow hX hV [.int p, .int ((D 82).1 2)] dX10_says_11 m_X10_125 rfl (by decide) ⟨by decide, by decide⟩ (Nat.le_of_ble_eq_true rfl) (fun c11 => ?_) (fun c11 n2 hn2 => r_out hX ⟨by exact ⟨c11, rfl⟩, n2, hn2, rfl⟩ (by decide) (by decide))
  show E 1 6 14 [(0, .ref 64), (1, .int p)] [] (y_mk n L D)
  obtain ⟨t, ht, rfl⟩ := y_rngR (k := (q_n (D 82).1 2)) (by have := hO.1.1.2; omega) (by rw [← hO.1.1.1]; exact c11)
  refine r_aload_n hE dX10_says_14 rfl ?_
  refine r_aload_n hE dX10_says_15 rfl ?_
  refine t_getr hE f_X10_23 y_R_64_3 dX10_says_16 (hL 64 (by decide)) ?_
  refine t_getr hE f_X10_225 y_R_73_9 dX10_says_19 (hL 73 (by decide)) ?_
  refine t_geti hE f_X10_176 y_I_86_2 dX10_says_22 (hL 86 (by decide)) ?_
  refine r_top (y := (nI (q_n (D 86).1 2))) hO.2.2.1.1.1 ?_
  refine t_invvRv hE [.int (nI (q_n (D 86).1 2))] (k_reckonOdds (nn := (q_n (D 86).1 2)) hV hL hB hCI hO (by first | exact Nat.le_refl _ | omega)) v_yX10_reckonOdds m_X10_228 dX10_says_25 rfl (hL 64 (by decide)) (y_l_64 (D 64)) rfl (by decide) ⟨by decide, by decide⟩ (Nat.le_of_ble_eq_true rfl) (fun D5 q5 => ?_)
  obtain ⟨sb, ci, F, hF, od⟩ := q5
  show E 1 6 28 [(0, .ref 64), (1, .int (nI t))] [] (y_mk n L D5)
  refine r_lconst (v := 0) hE dX10_says_28 (by decide) ?_
  refine r_lstore_n (ls2 := [(0, .ref 64), (1, .int (nI t)), (2, .long 0)]) hE dX10_says_29 (by decide) rfl ?_
  refine r_iconst (v := 0) hE dX10_says_30 (by decide) ?_
  refine r_istore (ls2 := [(0, .ref 64), (1, .int (nI t)), (2, .long 0), (4, .int 0)]) hE dX10_says_31 (by decide) rfl ?_
  have hs5 : (q_n (D 84).1 2) ≤ 5 := hO.2.1.1.2
  have hw1 : ∀ k, k < (q_n (D 84).1 2) → 1 ≤ (fun k => q_n (D 85).1 (k * 3 + 0)) k := fun k hk => (hO.2.2.2.2.1 k hk).1.2
  have l1 : ∀ (i : Nat), i ≤ (q_n (D 84).1 2) → E 1 6 33 [(0, .ref 64), (1, .int (nI t)), (2, .long (lN (o_sum (fun k => o_od (fun k => q_n (D 85).1 (k * 3 + 0)) F (q_n (D 84).1 2) (q_n (D 86).1 2) k * k_spr D k t) i))), (4, .int (nI i))] [] (y_mk n L D5) := by
    intro i
    induction hm9 : ((q_n (D 84).1 2) - i) using Nat.strongRecOn generalizing i with
    | _ m9 ih =>
      intro hi
      subst hm9
      refine r_iload hE dX10_says_33 rfl ?_
      refine r_aload_n hE dX10_says_35 rfl ?_
      refine t_getr hE f_X10_23 y_R_64_3 dX10_says_36 (hL 64 (by decide)) ?_
      refine t_getr hE f_X10_219 y_R_73_8 dX10_says_39 (hL 73 (by decide)) ?_
      refine t_geti hE f_X10_176 y_I_84_2 dX10_says_42 (hL 84 (by decide)) ?_
      refine r_top (y := (nI (q_n (D 84).1 2))) (by rw [sb 84 (by decide) (by decide) (by decide)]; exact hO.2.1.1.1) ?_
      refine r_icmp_geN (a := i) (b := (q_n (D 84).1 2)) (tgt := 74) hE dX10_says_45 (by decide) (by omega) (by omega) (fun c45 => ?_) (fun c45 => ?_)
      · refine r_lconst (v := 0) hE dX10_says_74 (by decide) ?_
        refine r_lstore (ls2 := [(0, .ref 64), (1, .int (nI t)), (2, .long (lN (o_sum (fun k => o_od (fun k => q_n (D 85).1 (k * 3 + 0)) F (q_n (D 84).1 2) (q_n (D 86).1 2) k * k_spr D k t) i))), (4, .long 0)]) hE dX10_says_75 (by decide) rfl ?_
        refine r_iconst (v := 0) hE dX10_says_77 (by decide) ?_
        refine r_istore (ls2 := [(0, .ref 64), (1, .int (nI t)), (2, .long (lN (o_sum (fun k => o_od (fun k => q_n (D 85).1 (k * 3 + 0)) F (q_n (D 84).1 2) (q_n (D 86).1 2) k * k_spr D k t) i))), (4, .long 0), (6, .int 0)]) hE dX10_says_78 (by decide) rfl ?_
        rw [show i = (q_n (D 84).1 2) by omega]
        have l2 : ∀ (i : Nat), i ≤ (q_n (D 84).1 2) → E 1 6 80 [(0, .ref 64), (1, .int (nI t)), (2, .long (lN (o_sum (fun k => o_od (fun k => q_n (D 85).1 (k * 3 + 0)) F (q_n (D 84).1 2) (q_n (D 86).1 2) k * k_spr D k t) (q_n (D 84).1 2)))), (4, .long (o_say (o_od (fun k => q_n (D 85).1 (k * 3 + 0)) F (q_n (D 84).1 2) (q_n (D 86).1 2)) (fun k => k_spr D k t) (lN (o_sum (fun k => o_od (fun k => q_n (D 85).1 (k * 3 + 0)) F (q_n (D 84).1 2) (q_n (D 86).1 2) k * k_spr D k t) (q_n (D 84).1 2))) i)), (6, .int (nI i))] [] (y_mk n L D5) := by
          intro i
          induction hm9 : ((q_n (D 84).1 2) - i) using Nat.strongRecOn generalizing i with
          | _ m9 ih =>
            intro hi
            subst hm9
            refine r_iload hE dX10_says_80 rfl ?_
            refine r_aload_n hE dX10_says_82 rfl ?_
            refine t_getr hE f_X10_23 y_R_64_3 dX10_says_83 (hL 64 (by decide)) ?_
            refine t_getr hE f_X10_219 y_R_73_8 dX10_says_86 (hL 73 (by decide)) ?_
            refine t_geti hE f_X10_176 y_I_84_2 dX10_says_89 (hL 84 (by decide)) ?_
            refine r_top (y := (nI (q_n (D 84).1 2))) (by rw [sb 84 (by decide) (by decide) (by decide)]; exact hO.2.1.1.1) ?_
            refine r_icmp_geN (a := i) (b := (q_n (D 84).1 2)) (tgt := 132) hE dX10_says_92 (by decide) (by omega) (by omega) (fun c92 => ?_) (fun c92 => ?_)
            · refine r_lload hE dX10_says_132 rfl ?_
              refine r_ldc2 (v := 10000) hE dX10_says_134 (x_gin (List.mem_append_right _ (tb_5 _ (List.mem_of_getElem? (i := 142) rfl))) rfl) ?_
              refine r_ldiv hE dX10_says_137 (by decide) ?_
              refine r_lreturn hE dX10_says_138 rfl (by decide) (by decide) ?_
              rw [show i = (q_n (D 84).1 2) by omega]
              exact ⟨_, _, rfl, rfl, ⟨sb, ci⟩, t, ht, rfl, F, hF, rfl⟩
            · refine r_lload hE dX10_says_95 rfl ?_
              refine r_aload_n hE dX10_says_97 rfl ?_
              refine t_getr hE f_X10_50 y_R_64_9 dX10_says_98 (hL 64 (by decide)) ?_
              refine r_iload hE dX10_says_101 rfl ?_
              refine t_ialdN (e := i) hE y_A_167 dX10_says_103 (hL 167 (by decide)) (by omega) (by decide) ?_
              refine r_top (y := (nI (o_od (fun k => q_n (D 85).1 (k * 3 + 0)) F (q_n (D 84).1 2) (q_n (D 86).1 2) i))) (od i (by omega)) ?_
              have ho9 : o_od (fun k => q_n (D 85).1 (k * 3 + 0)) F (q_n (D 84).1 2) (q_n (D 86).1 2) i ≤ 10000 := o_od_b (by omega) hw1 (fun k hk j hj => (k_FAC_b hB hO (hF k hk j hj)).1) (by omega)
              refine r_i2l hE dX10_says_104 ?_
              refine r_topL (y := lN (o_od (fun k => q_n (D 85).1 (k * 3 + 0)) F (q_n (D 84).1 2) (q_n (D 86).1 2) i)) (nI_l (by omega)) ?_
              refine r_ldc2 (v := 10000) hE dX10_says_105 (x_gin (List.mem_append_right _ (tb_5 _ (List.mem_of_getElem? (i := 142) rfl))) rfl) ?_
              refine r_aload_n hE dX10_says_108 rfl ?_
              refine r_iload_n hE dX10_says_109 rfl ?_
              refine r_iload hE dX10_says_110 rfl ?_
              refine t_invv (r := (some (.int (nI (k_spr D5 i t))))) (S2 := (y_mk n L D5)) hE [.int (nI t), .int (nI i)] (k_springs (D := D5) (k := i) (t := t) hL (k_BO_s sb hO) (by rw [sb 84 (by decide) (by decide) (by decide)]; omega) (by rw [sb 82 (by decide) (by decide) (by decide)]; exact ht)) v_yX10_springs m_X10_235 dX10_says_112 rfl (hL 64 (by decide)) (y_l_64 (D5 64)) rfl (by decide) ⟨by decide, by decide⟩ (Nat.le_of_ble_eq_true rfl) ?_
              show E 1 6 115 [(0, .ref 64), (1, .int (nI t)), (2, .long (lN (o_sum (fun k => o_od (fun k => q_n (D 85).1 (k * 3 + 0)) F (q_n (D 84).1 2) (q_n (D 86).1 2) k * k_spr D k t) (q_n (D 84).1 2)))), (4, .long (o_say (o_od (fun k => q_n (D 85).1 (k * 3 + 0)) F (q_n (D 84).1 2) (q_n (D 86).1 2)) (fun k => k_spr D k t) (lN (o_sum (fun k => o_od (fun k => q_n (D 85).1 (k * 3 + 0)) F (q_n (D 84).1 2) (q_n (D 86).1 2) k * k_spr D k t) (q_n (D 84).1 2))) i)), (6, .int (nI i))] [.int (nI (k_spr D5 i t)), .long 10000, .long (lN (o_od (fun k => q_n (D 85).1 (k * 3 + 0)) F (q_n (D 84).1 2) (q_n (D 86).1 2) i)), .long (o_say (o_od (fun k => q_n (D 85).1 (k * 3 + 0)) F (q_n (D 84).1 2) (q_n (D 86).1 2)) (fun k => k_spr D k t) (lN (o_sum (fun k => o_od (fun k => q_n (D 85).1 (k * 3 + 0)) F (q_n (D 84).1 2) (q_n (D 86).1 2) k * k_spr D k t) (q_n (D 84).1 2))) i)] (y_mk n L D5)
              refine r_top (y := (nI (k_spr D i t))) (by rw [k_spr_s sb]) ?_
              have hs9 := k_spr_b (k := i) hO ht
              refine r_i2l hE dX10_says_115 ?_
              refine r_topL (y := lN (k_spr D i t)) (nI_l (by omega)) ?_
              refine r_lmul hE dX10_says_116 ?_
              refine r_topL (y := lN (10000 * (k_spr D i t))) (lN_mul 10000 (k_spr D i t)) ?_
              refine r_lload_n hE dX10_says_117 rfl ?_
              refine r_lsub hE dX10_says_118 ?_
              refine r_mabsL hE m_X10_240 dX10_says_119 (by decide) (Nat.le_of_ble_eq_true rfl) ⟨by decide, by decide⟩ ?_
              refine r_lmul hE dX10_says_122 ?_
              refine r_ladd hE dX10_says_123 ?_
              refine r_lstore (ls2 := [(0, .ref 64), (1, .int (nI t)), (2, .long (lN (o_sum (fun k => o_od (fun k => q_n (D 85).1 (k * 3 + 0)) F (q_n (D 84).1 2) (q_n (D 86).1 2) k * k_spr D k t) (q_n (D 84).1 2)))), (4, .long ((o_say (o_od (fun k => q_n (D 85).1 (k * 3 + 0)) F (q_n (D 84).1 2) (q_n (D 86).1 2)) (fun k => k_spr D k t) (lN (o_sum (fun k => o_od (fun k => q_n (D 85).1 (k * 3 + 0)) F (q_n (D 84).1 2) (q_n (D 86).1 2) k * k_spr D k t) (q_n (D 84).1 2))) i) + ((lN (o_od (fun k => q_n (D 85).1 (k * 3 + 0)) F (q_n (D 84).1 2) (q_n (D 86).1 2) i)) * (if 0 < ((lN (10000 * (k_spr D i t))) - (lN (o_sum (fun k => o_od (fun k => q_n (D 85).1 (k * 3 + 0)) F (q_n (D 84).1 2) (q_n (D 86).1 2) k * k_spr D k t) (q_n (D 84).1 2)))) then ((lN (10000 * (k_spr D i t))) - (lN (o_sum (fun k => o_od (fun k => q_n (D 85).1 (k * 3 + 0)) F (q_n (D 84).1 2) (q_n (D 86).1 2) k * k_spr D k t) (q_n (D 84).1 2)))) else -((lN (10000 * (k_spr D i t))) - (lN (o_sum (fun k => o_od (fun k => q_n (D 85).1 (k * 3 + 0)) F (q_n (D 84).1 2) (q_n (D 86).1 2) k * k_spr D k t) (q_n (D 84).1 2)))))))), (6, .int (nI i))]) hE dX10_says_124 (by decide) rfl ?_
              refine r_iincN (a := i) (b := 1) (ls2 := [(0, .ref 64), (1, .int (nI t)), (2, .long (lN (o_sum (fun k => o_od (fun k => q_n (D 85).1 (k * 3 + 0)) F (q_n (D 84).1 2) (q_n (D 86).1 2) k * k_spr D k t) (q_n (D 84).1 2)))), (4, .long ((o_say (o_od (fun k => q_n (D 85).1 (k * 3 + 0)) F (q_n (D 84).1 2) (q_n (D 86).1 2)) (fun k => k_spr D k t) (lN (o_sum (fun k => o_od (fun k => q_n (D 85).1 (k * 3 + 0)) F (q_n (D 84).1 2) (q_n (D 86).1 2) k * k_spr D k t) (q_n (D 84).1 2))) i) + ((lN (o_od (fun k => q_n (D 85).1 (k * 3 + 0)) F (q_n (D 84).1 2) (q_n (D 86).1 2) i)) * (if 0 < ((lN (10000 * (k_spr D i t))) - (lN (o_sum (fun k => o_od (fun k => q_n (D 85).1 (k * 3 + 0)) F (q_n (D 84).1 2) (q_n (D 86).1 2) k * k_spr D k t) (q_n (D 84).1 2)))) then ((lN (10000 * (k_spr D i t))) - (lN (o_sum (fun k => o_od (fun k => q_n (D 85).1 (k * 3 + 0)) F (q_n (D 84).1 2) (q_n (D 86).1 2) k * k_spr D k t) (q_n (D 84).1 2)))) else -((lN (10000 * (k_spr D i t))) - (lN (o_sum (fun k => o_od (fun k => q_n (D 85).1 (k * 3 + 0)) F (q_n (D 84).1 2) (q_n (D 86).1 2) k * k_spr D k t) (q_n (D 84).1 2)))))))), (6, .int (nI (i + 1)))]) hE dX10_says_126 rfl rfl (by decide) rfl ?_
              refine r_goto (tgt := 80) hE dX10_says_129 (by decide) ?_
              refine r_locs hE (ls2 := [(0, .ref 64), (1, .int (nI t)), (2, .long (lN (o_sum (fun k => o_od (fun k => q_n (D 85).1 (k * 3 + 0)) F (q_n (D 84).1 2) (q_n (D 86).1 2) k * k_spr D k t) (q_n (D 84).1 2)))), (4, .long (o_say (o_od (fun k => q_n (D 85).1 (k * 3 + 0)) F (q_n (D 84).1 2) (q_n (D 86).1 2)) (fun k => k_spr D k t) (lN (o_sum (fun k => o_od (fun k => q_n (D 85).1 (k * 3 + 0)) F (q_n (D 84).1 2) (q_n (D 86).1 2) k * k_spr D k t) (q_n (D 84).1 2))) (i + 1))), (6, .int (nI (i + 1)))]) ?_ (ih ((q_n (D 84).1 2) - (i + 1)) (by omega) (i + 1) rfl (by omega))
              show ∀ q ∈ _, _
              rw [show o_say (o_od (fun k => q_n (D 85).1 (k * 3 + 0)) F (q_n (D 84).1 2) (q_n (D 86).1 2)) (fun k => k_spr D k t) (lN (o_sum (fun k => o_od (fun k => q_n (D 85).1 (k * 3 + 0)) F (q_n (D 84).1 2) (q_n (D 86).1 2) k * k_spr D k t) (q_n (D 84).1 2))) (i + 1) = o_say (o_od (fun k => q_n (D 85).1 (k * 3 + 0)) F (q_n (D 84).1 2) (q_n (D 86).1 2)) (fun k => k_spr D k t) (lN (o_sum (fun k => o_od (fun k => q_n (D 85).1 (k * 3 + 0)) F (q_n (D 84).1 2) (q_n (D 86).1 2) k * k_spr D k t) (q_n (D 84).1 2))) i + lN (o_od (fun k => q_n (D 85).1 (k * 3 + 0)) F (q_n (D 84).1 2) (q_n (D 86).1 2) i) * (if 0 < lN (10000 * k_spr D i t) - lN (o_sum (fun k => o_od (fun k => q_n (D 85).1 (k * 3 + 0)) F (q_n (D 84).1 2) (q_n (D 86).1 2) k * k_spr D k t) (q_n (D 84).1 2)) then lN (10000 * k_spr D i t) - lN (o_sum (fun k => o_od (fun k => q_n (D 85).1 (k * 3 + 0)) F (q_n (D 84).1 2) (q_n (D 86).1 2) k * k_spr D k t) (q_n (D 84).1 2)) else -(lN (10000 * k_spr D i t) - lN (o_sum (fun k => o_od (fun k => q_n (D 85).1 (k * 3 + 0)) F (q_n (D 84).1 2) (q_n (D 86).1 2) k * k_spr D k t) (q_n (D 84).1 2)))) from rfl]
              simp [x_lk]
        exact l2 0 (by omega)
      · refine r_lload_n hE dX10_says_48 rfl ?_
        refine r_aload_n hE dX10_says_49 rfl ?_
        refine t_getr hE f_X10_50 y_R_64_9 dX10_says_50 (hL 64 (by decide)) ?_
        refine r_iload hE dX10_says_53 rfl ?_
        refine t_ialdN (e := i) hE y_A_167 dX10_says_55 (hL 167 (by decide)) (by omega) (by decide) ?_
        refine r_top (y := (nI (o_od (fun k => q_n (D 85).1 (k * 3 + 0)) F (q_n (D 84).1 2) (q_n (D 86).1 2) i))) (od i (by omega)) ?_
        have ho9 : o_od (fun k => q_n (D 85).1 (k * 3 + 0)) F (q_n (D 84).1 2) (q_n (D 86).1 2) i ≤ 10000 := o_od_b (by omega) hw1 (fun k hk j hj => (k_FAC_b hB hO (hF k hk j hj)).1) (by omega)
        refine r_i2l hE dX10_says_56 ?_
        refine r_topL (y := lN (o_od (fun k => q_n (D 85).1 (k * 3 + 0)) F (q_n (D 84).1 2) (q_n (D 86).1 2) i)) (nI_l (by omega)) ?_
        refine r_aload_n hE dX10_says_57 rfl ?_
        refine r_iload_n hE dX10_says_58 rfl ?_
        refine r_iload hE dX10_says_59 rfl ?_
        refine t_invv (r := (some (.int (nI (k_spr D5 i t))))) (S2 := (y_mk n L D5)) hE [.int (nI t), .int (nI i)] (k_springs (D := D5) (k := i) (t := t) hL (k_BO_s sb hO) (by rw [sb 84 (by decide) (by decide) (by decide)]; omega) (by rw [sb 82 (by decide) (by decide) (by decide)]; exact ht)) v_yX10_springs m_X10_235 dX10_says_61 rfl (hL 64 (by decide)) (y_l_64 (D5 64)) rfl (by decide) ⟨by decide, by decide⟩ (Nat.le_of_ble_eq_true rfl) ?_
        show E 1 6 64 [(0, .ref 64), (1, .int (nI t)), (2, .long (lN (o_sum (fun k => o_od (fun k => q_n (D 85).1 (k * 3 + 0)) F (q_n (D 84).1 2) (q_n (D 86).1 2) k * k_spr D k t) i))), (4, .int (nI i))] [.int (nI (k_spr D5 i t)), .long (lN (o_od (fun k => q_n (D 85).1 (k * 3 + 0)) F (q_n (D 84).1 2) (q_n (D 86).1 2) i)), .long (lN (o_sum (fun k => o_od (fun k => q_n (D 85).1 (k * 3 + 0)) F (q_n (D 84).1 2) (q_n (D 86).1 2) k * k_spr D k t) i))] (y_mk n L D5)
        refine r_top (y := (nI (k_spr D i t))) (by rw [k_spr_s sb]) ?_
        have hs9 := k_spr_b (k := i) hO ht
        refine r_i2l hE dX10_says_64 ?_
        refine r_topL (y := lN (k_spr D i t)) (nI_l (by omega)) ?_
        refine r_lmul hE dX10_says_65 ?_
        refine r_topL (y := lN ((o_od (fun k => q_n (D 85).1 (k * 3 + 0)) F (q_n (D 84).1 2) (q_n (D 86).1 2) i) * (k_spr D i t))) (lN_mul (o_od (fun k => q_n (D 85).1 (k * 3 + 0)) F (q_n (D 84).1 2) (q_n (D 86).1 2) i) (k_spr D i t)) ?_
        refine r_ladd hE dX10_says_66 ?_
        refine r_topL (y := lN ((o_sum (fun k => o_od (fun k => q_n (D 85).1 (k * 3 + 0)) F (q_n (D 84).1 2) (q_n (D 86).1 2) k * k_spr D k t) i) + ((o_od (fun k => q_n (D 85).1 (k * 3 + 0)) F (q_n (D 84).1 2) (q_n (D 86).1 2) i) * (k_spr D i t)))) (lN_add (o_sum (fun k => o_od (fun k => q_n (D 85).1 (k * 3 + 0)) F (q_n (D 84).1 2) (q_n (D 86).1 2) k * k_spr D k t) i) ((o_od (fun k => q_n (D 85).1 (k * 3 + 0)) F (q_n (D 84).1 2) (q_n (D 86).1 2) i) * (k_spr D i t))) ?_
        refine r_lstore_n (ls2 := [(0, .ref 64), (1, .int (nI t)), (2, .long (lN ((o_sum (fun k => o_od (fun k => q_n (D 85).1 (k * 3 + 0)) F (q_n (D 84).1 2) (q_n (D 86).1 2) k * k_spr D k t) i) + ((o_od (fun k => q_n (D 85).1 (k * 3 + 0)) F (q_n (D 84).1 2) (q_n (D 86).1 2) i) * (k_spr D i t))))), (4, .int (nI i))]) hE dX10_says_67 (by decide) rfl ?_
        refine r_iincN (a := i) (b := 1) (ls2 := [(0, .ref 64), (1, .int (nI t)), (2, .long (lN ((o_sum (fun k => o_od (fun k => q_n (D 85).1 (k * 3 + 0)) F (q_n (D 84).1 2) (q_n (D 86).1 2) k * k_spr D k t) i) + ((o_od (fun k => q_n (D 85).1 (k * 3 + 0)) F (q_n (D 84).1 2) (q_n (D 86).1 2) i) * (k_spr D i t))))), (4, .int (nI (i + 1)))]) hE dX10_says_68 rfl rfl (by decide) rfl ?_
        refine r_goto (tgt := 33) hE dX10_says_71 (by decide) ?_
        exact ih ((q_n (D 84).1 2) - (i + 1)) (by omega) (i + 1) rfl (by omega)
  exact l1 0 (by omega)

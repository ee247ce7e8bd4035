theorem k_sharesToOdds {V : x_E} {n : Nat} {L : List Nat} {D : y_D} {b : Nat → Nat} (hL : y_ok L) (hs6 : q_ok (D 84).1 2 5) (hb : ∀ k, k < (q_n (D 84).1 2) → (D 166).2.1 k = lN (b k)) (hA : o_sum b (q_n (D 84).1 2) < 2 ^ 48) : y_Rv V yX10_sharesToOdds cX10_sharesToOdds 6 none 0 [.ref 64] n L D (fun D2 => (o_sum b (q_n (D 84).1 2) = 0 ∧ D2 = D) ∨ (0 < o_sum b (q_n (D 84).1 2) ∧ (∀ j, j ≠ 167 → D2 j = D j) ∧ ∀ k, k < (q_n (D 84).1 2) → (D2 167).1 k = nI (o_sh b (q_n (D 84).1 2) k))) := by
  refine y_rv (by decide) (Nat.le_of_ble_eq_true rfl) (fun E hE => ?_)
  change E 0 0 0 [(0, .ref 64)] [] (y_mk n L D)
  have hs5 : (q_n (D 84).1 2) ≤ 5 := hs6.2
  have l1 : ∀ (i : Nat), i ≤ (q_n (D 84).1 2) → E 0 0 7 [(0, .ref 64), (1, .long (lN (o_sum b i))), (3, .int (nI (o_mx b i))), (4, .int (nI i))] [] (y_mk n L D) := by
    intro i
    induction hm9 : ((q_n (D 84).1 2) - i) using Nat.strongRecOn generalizing i with
    | _ m9 ih =>
      intro hi
      subst hm9
      refine r_iload hE dX10_sharesToOdds_7 rfl ?_
      refine r_aload_n hE dX10_sharesToOdds_9 rfl ?_
      refine t_getr hE f_X10_23 y_R_64_3 dX10_sharesToOdds_10 (hL 64 (by decide)) ?_
      refine t_getr hE f_X10_219 y_R_73_8 dX10_sharesToOdds_13 (hL 73 (by decide)) ?_
      refine t_geti hE f_X10_176 y_I_84_2 dX10_sharesToOdds_16 (hL 84 (by decide)) ?_
      refine r_top (y := (nI (q_n (D 84).1 2))) hs6.1 ?_
      refine r_icmp_geN (a := i) (b := (q_n (D 84).1 2)) (tgt := 58) hE dX10_sharesToOdds_19 (by decide) (by omega) (by omega) (fun c19 => ?_) (fun c19 => ?_)
      · refine r_lload_n hE dX10_sharesToOdds_58 rfl ?_
        refine r_lconst (v := 0) hE dX10_sharesToOdds_59 (by decide) ?_
        refine r_lcmp hE dX10_sharesToOdds_60 ?_
        refine r_if_gt (tgt := 65) hE dX10_sharesToOdds_61 (by decide) (fun c61 => ?_) (fun c61 => ?_)
        · refine r_sipush (v := 10000) hE dX10_sharesToOdds_65 (by decide) ?_
          refine r_istore (ls2 := [(0, .ref 64), (1, .long (lN (o_sum b i))), (3, .int (nI (o_mx b i))), (4, .int 10000)]) hE dX10_sharesToOdds_68 (by decide) rfl ?_
          refine r_iconst (v := 0) hE dX10_sharesToOdds_70 (by decide) ?_
          refine r_istore (ls2 := [(0, .ref 64), (1, .long (lN (o_sum b i))), (3, .int (nI (o_mx b i))), (4, .int 10000), (5, .int 0)]) hE dX10_sharesToOdds_71 (by decide) rfl ?_
          have hA0 : 0 < o_sum b (q_n (D 84).1 2) := by
            rw [show i = (q_n (D 84).1 2) by omega, lg_cmp_gt] at c61
            exact (pk_lLT (a := 0) (by omega) (by omega)).mp c61
          have hn1 : 1 ≤ (q_n (D 84).1 2) := by
            by_cases c : 1 ≤ (q_n (D 84).1 2)
            · exact c
            · rw [show (q_n (D 84).1 2) = 0 by omega] at hA0; exact absurd hA0 (by show ¬ 0 < 0; omega)
          rw [show i = (q_n (D 84).1 2) by omega]
          have l2 : ∀ (i : Nat) (D8 : y_D), i ≤ (q_n (D 84).1 2) → (∀ j, j ≠ 167 → D8 j = D j) → (∀ k, k < i → (D8 167).1 k = nI (10000 * b k / o_sum b (q_n (D 84).1 2))) → E 0 0 73 [(0, .ref 64), (1, .long (lN (o_sum b (q_n (D 84).1 2)))), (3, .int (nI (o_mx b (q_n (D 84).1 2)))), (4, .int (nI (10000 - o_sum (fun j => 10000 * b j / o_sum b (q_n (D 84).1 2)) i))), (5, .int (nI i))] [] (y_mk n L D8) := by
            intro i D8
            induction hm9 : ((q_n (D 84).1 2) - i) using Nat.strongRecOn generalizing i D8 with
            | _ m9 ih =>
              intro hi ot inv
              subst hm9
              refine r_iload hE dX10_sharesToOdds_73 rfl ?_
              refine r_aload_n hE dX10_sharesToOdds_75 rfl ?_
              refine t_getr hE f_X10_23 y_R_64_3 dX10_sharesToOdds_76 (hL 64 (by decide)) ?_
              refine t_getr hE f_X10_219 y_R_73_8 dX10_sharesToOdds_79 (hL 73 (by decide)) ?_
              refine t_geti hE f_X10_176 y_I_84_2 dX10_sharesToOdds_82 (hL 84 (by decide)) ?_
              refine r_top (y := (nI (q_n (D 84).1 2))) (by rw [ot 84 (by decide)]; exact hs6.1) ?_
              refine r_icmp_geN (a := i) (b := (q_n (D 84).1 2)) (tgt := 127) hE dX10_sharesToOdds_85 (by decide) (by omega) (by omega) (fun c85 => ?_) (fun c85 => ?_)
              · have hi9 : i = (q_n (D 84).1 2) := by omega
                have hmx : o_mx b (q_n (D 84).1 2) < (q_n (D 84).1 2) := o_mx_b (by omega)
                refine r_locs hE (ls2 := [(0, .ref 64), (1, .long (lN (o_sum b (q_n (D 84).1 2)))), (3, .int (nI (o_mx b (q_n (D 84).1 2)))), (4, .int (nI (10000 - o_sum (fun j => 10000 * b j / o_sum b (q_n (D 84).1 2)) (q_n (D 84).1 2)))), (5, .int (nI i))]) (by rw [hi9]; simp [x_lk]) ?_
                rw [hi9] at inv
                refine r_aload_n hE dX10_sharesToOdds_127 rfl ?_
                refine t_getr hE f_X10_50 y_R_64_9 dX10_sharesToOdds_128 (hL 64 (by decide)) ?_
                refine r_iload_n hE dX10_sharesToOdds_131 rfl ?_
                refine r_dup2 hE dX10_sharesToOdds_132 rfl rfl ?_
                refine t_ialdN (e := o_mx b (q_n (D 84).1 2)) hE y_A_167 dX10_sharesToOdds_133 (hL 167 (by decide)) (by omega) (by decide) ?_
                refine r_top (y := (nI (10000 * b (o_mx b (q_n (D 84).1 2)) / o_sum b (q_n (D 84).1 2)))) (inv _ (by omega)) ?_
                refine r_iload hE dX10_sharesToOdds_134 rfl ?_
                refine r_iaddN (a := 10000 * b (o_mx b (q_n (D 84).1 2)) / o_sum b (q_n (D 84).1 2)) (b := 10000 - o_sum (fun j => 10000 * b j / o_sum b (q_n (D 84).1 2)) (q_n (D 84).1 2)) hE dX10_sharesToOdds_136 ?_
                refine t_iastN (e := o_mx b (q_n (D 84).1 2)) hE y_A_167 dX10_sharesToOdds_137 (hL 167 (by decide)) (by omega) (by decide) ?_
                refine r_return hE dX10_sharesToOdds_138 rfl (Nat.zero_le _) (Nat.zero_le _) ?_
                refine ⟨_, rfl, rfl, Or.inr ⟨hA0, fun j hj => by rw [y_si_ne hj]; exact ot j hj, fun k hk => ?_⟩⟩
                rw [y_si_1]
                unfold o_sh
                by_cases c : k = o_mx b (q_n (D 84).1 2)
                · rw [if_pos c, if_pos c, c]
                · rw [if_neg c, if_neg c]; exact inv k hk
              · have hbi : b i ≤ o_sum b (q_n (D 84).1 2) := o_sum_ge (by omega)
                have hq1 : o_sum (fun j => 10000 * b j / o_sum b (q_n (D 84).1 2)) i + 10000 * b i / o_sum b (q_n (D 84).1 2) ≤ 10000 := o_sumq_le (b := b) (n := (q_n (D 84).1 2)) (m := i + 1) hA0 (by omega)
                have hqd : 10000 * b i / o_sum b (q_n (D 84).1 2) ≤ 10000 := by omega
                refine r_aload_n hE dX10_sharesToOdds_88 rfl ?_
                refine t_getr hE f_X10_50 y_R_64_9 dX10_sharesToOdds_89 (hL 64 (by decide)) ?_
                refine r_iload hE dX10_sharesToOdds_92 rfl ?_
                refine r_ldc2 (v := 10000) hE dX10_sharesToOdds_94 (x_gin (List.mem_append_right _ (tb_5 _ (List.mem_of_getElem? (i := 142) rfl))) rfl) ?_
                refine r_aload_n hE dX10_sharesToOdds_97 rfl ?_
                refine t_getr hE f_X10_46 y_R_64_8 dX10_sharesToOdds_98 (hL 64 (by decide)) ?_
                refine r_iload hE dX10_sharesToOdds_101 rfl ?_
                refine t_laldN (e := i) hE y_J_166 dX10_sharesToOdds_103 (hL 166 (by decide)) (by omega) (by decide) ?_
                refine r_topL (y := lN (b i)) (by rw [ot 166 (by decide)]; exact hb i (by omega)) ?_
                refine r_lmul hE dX10_sharesToOdds_104 ?_
                refine r_topL (y := lN (10000 * (b i))) (lN_mul 10000 (b i)) ?_
                refine r_lload_n hE dX10_sharesToOdds_105 rfl ?_
                refine r_ldiv hE dX10_sharesToOdds_106 (by intro q; have := (pk_lEQ (a := o_sum b (q_n (D 84).1 2)) (b := 0) (by omega) (by omega)).mp q; omega) ?_
                refine r_topL (y := lN ((10000 * (b i)) / (o_sum b (q_n (D 84).1 2)))) (pk_lDiv (a := 10000 * (b i)) (b := o_sum b (q_n (D 84).1 2)) (by omega) (by omega) (by omega)) ?_
                refine r_l2i hE dX10_sharesToOdds_107 ?_
                refine r_top (y := nI ((10000 * (b i)) / (o_sum b (q_n (D 84).1 2)))) (lN_i _) ?_
                refine t_iastN (e := i) hE y_A_167 dX10_sharesToOdds_108 (hL 167 (by decide)) (by omega) (by decide) ?_
                refine r_iload hE dX10_sharesToOdds_109 rfl ?_
                refine r_aload_n hE dX10_sharesToOdds_111 rfl ?_
                refine t_getr hE f_X10_50 y_R_64_9 dX10_sharesToOdds_112 (hL 64 (by decide)) ?_
                refine r_iload hE dX10_sharesToOdds_115 rfl ?_
                refine t_ialdN (e := i) hE y_A_167 dX10_sharesToOdds_117 (hL 167 (by decide)) (by omega) (by decide) ?_
                refine r_top (y := (nI (10000 * b i / o_sum b (q_n (D 84).1 2)))) (by rw [y_si_1, if_pos rfl]) ?_
                refine r_isubN (a := 10000 - o_sum (fun j => 10000 * b j / o_sum b (q_n (D 84).1 2)) i) (b := 10000 * b i / o_sum b (q_n (D 84).1 2)) hE dX10_sharesToOdds_118 (by omega) ?_
                refine r_istore (ls2 := [(0, .ref 64), (1, .long (lN (o_sum b (q_n (D 84).1 2)))), (3, .int (nI (o_mx b (q_n (D 84).1 2)))), (4, .int (nI ((10000 - o_sum (fun j => 10000 * b j / o_sum b (q_n (D 84).1 2)) i) - (10000 * b i / o_sum b (q_n (D 84).1 2))))), (5, .int (nI i))]) hE dX10_sharesToOdds_119 (by decide) rfl ?_
                refine r_iincN (a := i) (b := 1) (ls2 := [(0, .ref 64), (1, .long (lN (o_sum b (q_n (D 84).1 2)))), (3, .int (nI (o_mx b (q_n (D 84).1 2)))), (4, .int (nI ((10000 - o_sum (fun j => 10000 * b j / o_sum b (q_n (D 84).1 2)) i) - (10000 * b i / o_sum b (q_n (D 84).1 2))))), (5, .int (nI (i + 1)))]) hE dX10_sharesToOdds_121 rfl rfl (by decide) rfl ?_
                refine r_goto (tgt := 73) hE dX10_sharesToOdds_124 (by decide) ?_
                have eq9 : 10000 - o_sum (fun j => 10000 * b j / o_sum b (q_n (D 84).1 2)) (i + 1) = 10000 - o_sum (fun j => 10000 * b j / o_sum b (q_n (D 84).1 2)) i - 10000 * b i / o_sum b (q_n (D 84).1 2) := by
                  show 10000 - (o_sum (fun j => 10000 * b j / o_sum b (q_n (D 84).1 2)) i + 10000 * b i / o_sum b (q_n (D 84).1 2)) = _
                  omega
                refine r_locs hE (ls2 := [(0, .ref 64), (1, .long (lN (o_sum b (q_n (D 84).1 2)))), (3, .int (nI (o_mx b (q_n (D 84).1 2)))), (4, .int (nI (10000 - o_sum (fun j => 10000 * b j / o_sum b (q_n (D 84).1 2)) (i + 1)))), (5, .int (nI (i + 1)))]) ?_ (ih ((q_n (D 84).1 2) - (i + 1)) (by omega) (i + 1) _ rfl (by omega) (fun j hj => by rw [y_si_ne hj]; exact ot j hj) (fun k hk => ?_))
                · rw [eq9]
                  simp [x_lk]
                · rw [y_si_1]
                  by_cases c : k = i
                  · rw [if_pos c, c]
                  · rw [if_neg c]; exact inv k (by omega)
          refine r_locs hE (ls2 := [(0, .ref 64), (1, .long (lN (o_sum b (q_n (D 84).1 2)))), (3, .int (nI (o_mx b (q_n (D 84).1 2)))), (4, .int (nI (10000 - o_sum (fun j => 10000 * b j / o_sum b (q_n (D 84).1 2)) 0))), (5, .int (nI 0))]) ?_ (l2 0 _ (by omega) (fun j hj => rfl) (fun k hk => absurd hk (by omega)))
          rw [show nI (10000 - o_sum (fun j => 10000 * b j / o_sum b (q_n (D 84).1 2)) 0) = 10000 from rfl, nI_0]
          simp [x_lk]
        · refine r_return hE dX10_sharesToOdds_64 rfl (Nat.zero_le _) (Nat.zero_le _) ?_
          have : o_sum b (q_n (D 84).1 2) = 0 := by
            rw [show i = (q_n (D 84).1 2) by omega, lg_cmp_gt] at c61
            have h9 : ¬ 0 < o_sum b (q_n (D 84).1 2) := fun q => c61 ((pk_lLT (a := 0) (b := o_sum b (q_n (D 84).1 2)) (by omega) (by omega)).mpr q)
            omega
          exact ⟨_, rfl, rfl, Or.inl ⟨this, rfl⟩⟩
      · refine r_lload_n hE dX10_sharesToOdds_22 rfl ?_
        refine r_aload_n hE dX10_sharesToOdds_23 rfl ?_
        refine t_getr hE f_X10_46 y_R_64_8 dX10_sharesToOdds_24 (hL 64 (by decide)) ?_
        refine r_iload hE dX10_sharesToOdds_27 rfl ?_
        refine t_laldN (e := i) hE y_J_166 dX10_sharesToOdds_29 (hL 166 (by decide)) (by omega) (by decide) ?_
        refine r_topL (y := lN (b i)) (hb i (by omega)) ?_
        refine r_ladd hE dX10_sharesToOdds_30 ?_
        refine r_topL (y := lN ((o_sum b i) + (b i))) (lN_add (o_sum b i) (b i)) ?_
        refine r_lstore_n (ls2 := [(0, .ref 64), (1, .long (lN ((o_sum b i) + (b i)))), (3, .int (nI (o_mx b i))), (4, .int (nI i))]) hE dX10_sharesToOdds_31 (by decide) rfl ?_
        have hbi : b i ≤ o_sum b (q_n (D 84).1 2) := o_sum_ge (by omega)
        have hmx : o_mx b i < (q_n (D 84).1 2) := by
          by_cases c : 1 ≤ i
          · have := o_mx_b (b := b) c; omega
          · rw [show i = 0 by omega]; show 0 < (q_n (D 84).1 2); omega
        have hbm : b (o_mx b i) ≤ o_sum b (q_n (D 84).1 2) := o_sum_ge hmx
        refine r_aload_n hE dX10_sharesToOdds_32 rfl ?_
        refine t_getr hE f_X10_46 y_R_64_8 dX10_sharesToOdds_33 (hL 64 (by decide)) ?_
        refine r_iload hE dX10_sharesToOdds_36 rfl ?_
        refine t_laldN (e := i) hE y_J_166 dX10_sharesToOdds_38 (hL 166 (by decide)) (by omega) (by decide) ?_
        refine r_topL (y := lN (b i)) (hb i (by omega)) ?_
        refine r_aload_n hE dX10_sharesToOdds_39 rfl ?_
        refine t_getr hE f_X10_46 y_R_64_8 dX10_sharesToOdds_40 (hL 64 (by decide)) ?_
        refine r_iload_n hE dX10_sharesToOdds_43 rfl ?_
        refine t_laldN (e := o_mx b i) hE y_J_166 dX10_sharesToOdds_44 (hL 166 (by decide)) (by omega) (by decide) ?_
        refine r_topL (y := lN (b (o_mx b i))) (hb _ (by omega)) ?_
        refine r_lcmp hE dX10_sharesToOdds_45 ?_
        refine r_if_le (tgt := 52) hE dX10_sharesToOdds_46 (by decide) (fun c46 => ?_) (fun c46 => ?_)
        · refine r_iincN (a := i) (b := 1) (ls2 := [(0, .ref 64), (1, .long (lN ((o_sum b i) + (b i)))), (3, .int (nI (o_mx b i))), (4, .int (nI (i + 1)))]) hE dX10_sharesToOdds_52 rfl rfl (by decide) rfl ?_
          refine r_goto (tgt := 7) hE dX10_sharesToOdds_55 (by decide) ?_
          have emx : o_mx b (i + 1) = o_mx b i := by
            show (if b (o_mx b i) < b i then i else o_mx b i) = _
            rw [if_neg (by have := c46; rw [lg_cmp_le, pk_lLE (by omega) (by omega)] at this; omega)]
          refine r_locs hE (ls2 := [(0, .ref 64), (1, .long (lN (o_sum b (i + 1)))), (3, .int (nI (o_mx b (i + 1)))), (4, .int (nI (i + 1)))]) ?_ (ih ((q_n (D 84).1 2) - (i + 1)) (by omega) (i + 1) rfl (by omega))
          rw [emx, show o_sum b (i + 1) = o_sum b i + b i from rfl]
          simp [x_lk]
        · refine r_iload hE dX10_sharesToOdds_49 rfl ?_
          refine r_istore_n (ls2 := [(0, .ref 64), (1, .long (lN ((o_sum b i) + (b i)))), (3, .int (nI i)), (4, .int (nI i))]) hE dX10_sharesToOdds_51 (by decide) rfl ?_
          refine r_iincN (a := i) (b := 1) (ls2 := [(0, .ref 64), (1, .long (lN ((o_sum b i) + (b i)))), (3, .int (nI i)), (4, .int (nI (i + 1)))]) hE dX10_sharesToOdds_52 rfl rfl (by decide) rfl ?_
          refine r_goto (tgt := 7) hE dX10_sharesToOdds_55 (by decide) ?_
          have emx : o_mx b (i + 1) = i := by
            show (if b (o_mx b i) < b i then i else o_mx b i) = _
            rw [if_pos (by have := c46; rw [lg_cmp_le, pk_lLE (by omega) (by omega)] at this; omega)]
          refine r_locs hE (ls2 := [(0, .ref 64), (1, .long (lN (o_sum b (i + 1)))), (3, .int (nI (o_mx b (i + 1)))), (4, .int (nI (i + 1)))]) ?_ (ih ((q_n (D 84).1 2) - (i + 1)) (by omega) (i + 1) rfl (by omega))
          rw [emx, show o_sum b (i + 1) = o_sum b i + b i from rfl]
          simp [x_lk]
  refine r_lconst (v := 0) hE dX10_sharesToOdds_0 (by decide) ?_
  refine r_lstore_n (ls2 := [(0, .ref 64), (1, .long 0)]) hE dX10_sharesToOdds_1 (by decide) rfl ?_
  refine r_iconst (v := 0) hE dX10_sharesToOdds_2 (by decide) ?_
  refine r_istore_n (ls2 := [(0, .ref 64), (1, .long 0), (3, .int 0)]) hE dX10_sharesToOdds_3 (by decide) rfl ?_
  refine r_iconst (v := 0) hE dX10_sharesToOdds_4 (by decide) ?_
  refine r_istore (ls2 := [(0, .ref 64), (1, .long 0), (3, .int 0), (4, .int 0)]) hE dX10_sharesToOdds_5 (by decide) rfl ?_
  exact l1 0 (by omega)
theorem k_sB_o {D D2 D3 : y_D} {h : Nat} (a : k_sB D D2) (b : ∀ j, j ≠ h → D3 j = D2 j) (hh : h = 166 ∨ h = 167) : k_sB D D3 := fun j h1 h2 h3 => by rw [b j (by omega), a j h1 h2 h3]
/-- what stands of the Course and what it reads -/
def k_sC (D D2 : y_D) : Prop := k_sB D D2 ∧ k_CI D2
theorem k_B_sB {D D2 : y_D} {L : List Nat} (h : k_sB D D2) (hB : k_B D L) : k_B D2 L ∧ k_same D (fun j => if j = 166 ∨ j = 167 then D j else D2 j) := by
  have sm : k_same D (fun j => if j = 166 ∨ j = 167 then D j else D2 j) := by
    refine ⟨fun j hj => ?_, trivial⟩
    simp only [List.mem_cons, List.not_mem_nil, or_false, not_or] at hj
    by_cases c : j = 166 ∨ j = 167
    · exact if_pos c
    · show (if j = 166 ∨ j = 167 then D j else D2 j) = D j
      rw [if_neg c, h j (by omega) (by omega) (by omega)]
  obtain ⟨b1, b2, b3, b4, b5, b6, b7, b8, b9, b10⟩ := hB
  have e : ∀ j, y_dh j → D2 j = D j := fun j hj => by unfold y_dh at hj; exact h j (by omega) (by omega) (by omega)
  refine ⟨⟨?_, ?_, ?_, ?_, ?_, fun i hi => ?_, fun i hi => ?_, ?_, ?_, ?_⟩, sm⟩
  · rw [h 73 (by decide) (by decide) (by decide)]; exact b1
  · rw [h 73 (by decide) (by decide) (by decide)]; exact b2
  · rw [h 74 (by decide) (by decide) (by decide)]; exact b3
  · rw [h 78 (by decide) (by decide) (by decide)]; exact b4
  · rw [h 80 (by decide) (by decide) (by decide)]; exact b5
  · have := b6 i hi
    have e0 : k_rh D2 i = k_rh D i := by unfold k_rh; rw [h 76 (by decide) (by decide) (by decide)]
    have e1 := e _ this.2.2.1
    have e2 : k_rr D2 i = k_rr D i := by unfold k_rr; rw [e0, e1]
    have e3 := e _ this.2.2.2.2.2.2.1
    unfold k_RU k_rt k_rm at this ⊢
    rw [e0, e2, e1, e3, h 76 (by decide) (by decide) (by decide)]
    exact this
  · have := b7 i hi
    have e0 : k_wh D2 i = k_wh D i := by unfold k_wh; rw [h 77 (by decide) (by decide) (by decide)]
    have e1 := e _ this.2.2.1
    have e2 : k_wr D2 i = k_wr D i := by unfold k_wr; rw [e0, e1]
    have e3 := e _ this.2.2.2.2.2.2.1
    unfold k_WA k_wt k_wl at this ⊢
    rw [e0, e2, e1, e3, h 77 (by decide) (by decide) (by decide)]
    exact this
  · rw [h 80 (by decide) (by decide) (by decide), h 81 (by decide) (by decide) (by decide)]; exact b8
  · rw [h 74 (by decide) (by decide) (by decide), h 75 (by decide) (by decide) (by decide)]; exact b9
  · rw [h 78 (by decide) (by decide) (by decide), h 79 (by decide) (by decide) (by decide)]; exact b10
/-- Ev does not read what the weighing writes -/
theorem k_Ev_sB {D D2 : y_D} {L : List Nat} {t : Nat} {u hl v : Int32} (h : k_sB D D2) (hB : k_B D L) (ht : t < 4) (a : k_Ev D t u hl v) : k_Ev D2 t u hl v := by
  have sm := (k_B_sB h hB).2
  have a1 := k_Ev_same sm hB ht a
  have hB1 := k_B_same sm hB
  obtain ⟨DS, h1, h2⟩ := a1
  refine ⟨DS, ?_, ?_⟩
  · have e : ∀ j, j ≠ 166 → j ≠ 167 → (fun j => if j = 166 ∨ j = 167 then D j else D2 j) j = D2 j := fun j h1 h2 => if_neg (by omega)
    have hr : y_dh (k_rh D2 t) := by have := ((k_B_sB h hB).1).2.2.2.2.2.1 t ht; exact this.2.2.1
    have hr2 : y_dh (k_rr D2 t) := by have := ((k_B_sB h hB).1).2.2.2.2.2.1 t ht; exact this.2.2.2.2.2.2.1
    have n1 : ∀ j, y_dh j → j ≠ 166 ∧ j ≠ 167 := fun j hj => by unfold y_dh at hj; omega
    unfold c_per y_pg k_rt k_rm k_rr k_rh at h1 ⊢
    unfold k_rr k_rh at hr2
    unfold k_rh at hr
    rw [e 74 (by decide) (by decide), e 75 (by decide) (by decide), e 76 (by decide) (by decide), e _ (n1 _ hr).1 (n1 _ hr).2, e _ (n1 _ hr2).1 (n1 _ hr2).2] at h1
    exact h1
  · rw [h2]
    have hR := hB1.2.2.2.2.2.1 t ht
    have hB2 := (k_B_sB h hB).1
    have n1 : ∀ j, y_dh j → j ≠ 166 ∧ j ≠ 167 := fun j hj => by unfold y_dh at hj; omega
    have e : ∀ j, j ≠ 166 → j ≠ 167 → (fun j => if j = 166 ∨ j = 167 then D j else D2 j) j = D2 j := fun j h1 h2 => if_neg (by omega)
    obtain ⟨G, hG⟩ : ∃ z, z = (fun j => if j = 166 ∨ j = 167 then D j else D2 j) := ⟨_, rfl⟩
    rw [← hG] at hR hB1 e ⊢
    have f0 : k_rh G t = k_rh D2 t := by unfold k_rh; rw [e 76 (by decide) (by decide)]
    have r1 := hB2.2.2.2.2.2.1 t ht
    have f1 : G (k_rh D2 t) = D2 (k_rh D2 t) := e _ (n1 _ r1.2.2.1).1 (n1 _ r1.2.2.1).2
    have f2 : k_rr G t = k_rr D2 t := by unfold k_rr; rw [f0, f1]
    have f3 : G (k_rr D2 t) = D2 (k_rr D2 t) := e _ (n1 _ r1.2.2.2.2.2.2.1).1 (n1 _ r1.2.2.2.2.2.2.1).2
    have fl : k_last G t (-1) = k_last D2 t (-1) := by unfold k_last k_rt k_rm; rw [f2, f3]
    rw [fl]
    refine c_or_c (fun x hx => ?_)
    unfold k_SS
    rw [e 73 (by decide) (by decide)]
    have hk := hB2.2.1.2
    have hw : ∀ i, i < q_n (D2 73).1 4 → k_WA D2 L i := fun i hi => hB2.2.2.2.2.2.2.1 i (by omega)
    have g0 : ∀ i, i < q_n (D2 73).1 4 → k_wh G i = k_wh D2 i ∧ G (k_wh D2 i) = D2 (k_wh D2 i) ∧ k_wr G i = k_wr D2 i ∧ G (k_wr D2 i) = D2 (k_wr D2 i) := fun i hi => by
      have w1 := hw i hi
      have a0 : k_wh G i = k_wh D2 i := by unfold k_wh; rw [e 77 (by decide) (by decide)]
      have a1 : G (k_wh D2 i) = D2 (k_wh D2 i) := e _ (n1 _ w1.2.2.1).1 (n1 _ w1.2.2.1).2
      have a2 : k_wr G i = k_wr D2 i := by unfold k_wr; rw [a0, a1]
      exact ⟨a0, a1, a2, e _ (n1 _ w1.2.2.2.2.2.2.1).1 (n1 _ w1.2.2.2.2.2.2.1).2⟩
    refine c_S_c (fun i hi => ?_) (fun i hi => ?_) (fun i hi => ?_) _ (fun x _ => rfl) (fun i hi b j hj => ?_) x
    · rw [(g0 i hi).1, (g0 i hi).2.1]
    · rw [(g0 i hi).1, (g0 i hi).2.1]
    · rw [(g0 i hi).1, (g0 i hi).2.1]; exact (hw i hi).2.2.2.2.2.2.2.2.2.2.2.2.2.1
    · unfold k_Z k_chg k_wt k_wl
      rw [(g0 i hi).1, (g0 i hi).2.1, (g0 i hi).2.2.1, (g0 i hi).2.2.2]
theorem k_CI_sB {D D2 : y_D} {L : List Nat} (h : k_sB D D2) (h2 : D2 162 = D 162) (hB : k_B D L) (a : k_CI D) : k_CI D2 := by
  unfold k_CI at a ⊢
  rw [h2, h 73 (by decide) (by decide) (by decide)]
  intro t ht us hus hh hh2
  have := hB.1.2
  rcases a t ht us hus hh hh2 with q | ⟨q1, q2, q⟩
  · exact Or.inl q
  · exact Or.inr ⟨q1, q2, k_Ev_sB h hB (by omega) q⟩
theorem k_sB_sym {D D2 : y_D} (h : k_sB D D2) : k_sB D2 D := fun j h1 h2 h3 => (h j h1 h2 h3).symm
theorem k_sf_sB {D D2 : y_D} {L : List Nat} {kt th : Nat} {u : Int32} (h : k_sB D D2) (hB : k_B D L) : K_setsFor D2 kt th (q_n (D 73).1 4) u = K_setsFor D kt th (q_n (D 73).1 4) u := by
  have hk := hB.2.1.2
  have e : ∀ i, i ≤ q_n (D 73).1 4 → y_gr D2 u i = y_gr D u i := by
    intro i
    induction i with
    | zero => intro _; rfl
    | succ i ih =>
      intro hi
      have hw := hB.2.2.2.2.2.2.1 i (by omega)
      have hw2 := ((k_B_sB h hB).1).2.2.2.2.2.2.1 i (by omega)
      have e0 : k_wh D2 i = k_wh D i := by unfold k_wh; rw [h 77 (by decide) (by decide) (by decide)]
      have ew : y_w D2 i 2 = y_w D i 2 := by
        rw [k_w_eq hw2, k_w_eq hw, e0]
        have hd := hw.2.2.1
        unfold y_dh at hd
        rw [h _ (by omega) (by omega) (by omega)]
      show y_gr1 D2 u i (y_gr D2 u i) = y_gr1 D u i (y_gr D u i)
      unfold y_gr1
      rw [ew, ih (by omega)]
  unfold K_setsFor y_tg
  rw [e _ (Nat.le_refl _), h 79 (by decide) (by decide) (by decide)]
theorem k_FAC_sB {D D2 : y_D} {L : List Nat} {k n f : Nat} (h : k_sB D D2) (hB : k_B D L) (hO : k_BO D) (hn : n < q_n (D 86).1 2) (a : k_FAC D2 k n f) : k_FAC D k n f := by
  obtain ⟨hh, c, h1, h2, h3⟩ := a
  have e73 := h 73 (by decide) (by decide) (by decide)
  have e78 := h 78 (by decide) (by decide) (by decide)
  have e85 := h 85 (by decide) (by decide) (by decide)
  have e87 := h 87 (by decide) (by decide) (by decide)
  have e82 := h 82 (by decide) (by decide) (by decide)
  have ht := (hO.2.2.2.2.2 n hn).2
  have hr4 := hB.1.2
  refine ⟨hh, c, ?_, fun th hth => ?_, ?_⟩
  · unfold k_hp at h1 ⊢
    rw [e85, e87] at h1
    exact h1
  · obtain ⟨v, g1, g2⟩ := h2 th (by rw [e78]; exact hth)
    refine ⟨v, ?_, ?_⟩
    · have := k_Ev_sB (k_sB_sym h) ((k_B_sB h hB).1) (by rw [e87]; omega) g1
      unfold k_us at this ⊢
      rw [e85, e87, e73] at this
      exact this
    · unfold k_us at g2 ⊢
      rw [e85, e73, e78, k_sf_sB h hB] at g2
      exact g2
  · rw [h3, e87, e78, e82, k_spr_s h]

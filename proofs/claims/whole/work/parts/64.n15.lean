theorem c_shares {V : x_E} {n : Nat} {L : List Nat} {D : y_D} {b : Nat → Nat} (hL : y_ok L) (hs6 : q_ok (D 170).1 6 5) (hb : ∀ k, k < (q_n (D 170).1 6) → (D 186).2.1 k = lN (b k)) (hA : o_sum b (q_n (D 170).1 6) < 2 ^ 48) : y_Rv V yX11_shares cX11_shares 7 none 0 [.ref 169] n L D (fun D2 => (o_sum b (q_n (D 170).1 6) = 0 ∧ D2 = D) ∨ (0 < o_sum b (q_n (D 170).1 6) ∧ (∀ j, j ≠ 185 → D2 j = D j) ∧ ∀ k, k < (q_n (D 170).1 6) → (D2 185).1 k = nI (o_sh b (q_n (D 170).1 6) k))) := by
  refine y_rv (by decide) (Nat.le_of_ble_eq_true rfl) (fun E hE => ?_)
  change E 0 0 0 [(0, .ref 169)] [] (y_mk n L D)
  have hs5 : (q_n (D 170).1 6) ≤ 5 := hs6.2
  have l1 : ∀ (i : Nat), i ≤ (q_n (D 170).1 6) → E 0 0 13 [(0, .ref 169), (1, .int (nI (q_n (D 170).1 6))), (2, .long (lN (o_sum b i))), (4, .int (nI i))] [] (y_mk n L D) := by
    intro i
    induction hm9 : ((q_n (D 170).1 6) - i) using Nat.strongRecOn generalizing i with
    | _ m9 ih =>
      intro hi
      subst hm9
      refine r_iload hE dX11_shares_13 rfl ?_
      refine r_iload_n hE dX11_shares_15 rfl ?_
      refine r_icmp_geN (a := i) (b := (q_n (D 170).1 6)) (tgt := 35) hE dX11_shares_16 (by decide) (by omega) (by omega) (fun c16 => ?_) (fun c16 => ?_)
      · refine r_lload_n hE dX11_shares_35 rfl ?_
        refine r_lconst (v := 0) hE dX11_shares_36 (by decide) ?_
        refine r_lcmp hE dX11_shares_37 ?_
        refine r_if_ne (tgt := 42) hE dX11_shares_38 (by decide) (fun c38 => ?_) (fun c38 => ?_)
        · refine r_sipush (v := 10000) hE dX11_shares_42 (by decide) ?_
          refine r_istore (ls2 := [(0, .ref 169), (1, .int (nI (q_n (D 170).1 6))), (2, .long (lN (o_sum b i))), (4, .int 10000)]) hE dX11_shares_45 (by decide) rfl ?_
          refine r_iconst (v := 0) hE dX11_shares_47 (by decide) ?_
          refine r_istore (ls2 := [(0, .ref 169), (1, .int (nI (q_n (D 170).1 6))), (2, .long (lN (o_sum b i))), (4, .int 10000), (5, .int 0)]) hE dX11_shares_48 (by decide) rfl ?_
          refine r_iconst (v := 0) hE dX11_shares_50 (by decide) ?_
          refine r_istore (ls2 := [(0, .ref 169), (1, .int (nI (q_n (D 170).1 6))), (2, .long (lN (o_sum b i))), (4, .int 10000), (5, .int 0), (6, .int 0)]) hE dX11_shares_51 (by decide) rfl ?_
          have hA0 : 0 < o_sum b (q_n (D 170).1 6) := by
            rw [show i = (q_n (D 170).1 6) by omega] at c38
            by_cases c : 0 < o_sum b (q_n (D 170).1 6)
            · exact c
            · exact absurd ((lg_cmp_eq _ _).mpr (by rw [show o_sum b (q_n (D 170).1 6) = 0 by omega]; rfl)) c38
          have hn1 : 1 ≤ (q_n (D 170).1 6) := by
            by_cases c : 1 ≤ (q_n (D 170).1 6)
            · exact c
            · rw [show (q_n (D 170).1 6) = 0 by omega] at hA0; exact absurd hA0 (by show ¬ 0 < 0; omega)
          rw [show i = (q_n (D 170).1 6) by omega]
          have l2 : ∀ (i : Nat) (D8 : y_D), i ≤ (q_n (D 170).1 6) → (∀ j, j ≠ 185 → D8 j = D j) → (∀ k, k < i → (D8 185).1 k = nI (10000 * b k / o_sum b (q_n (D 170).1 6))) → E 0 0 53 [(0, .ref 169), (1, .int (nI (q_n (D 170).1 6))), (2, .long (lN (o_sum b (q_n (D 170).1 6)))), (4, .int (nI (10000 - o_sum (fun j => 10000 * b j / o_sum b (q_n (D 170).1 6)) i))), (5, .int (nI (o_mx b i))), (6, .int (nI i))] [] (y_mk n L D8) := by
            intro i D8
            induction hm9 : ((q_n (D 170).1 6) - i) using Nat.strongRecOn generalizing i D8 with
            | _ m9 ih =>
              intro hi ot inv
              subst hm9
              refine r_iload hE dX11_shares_53 rfl ?_
              refine r_iload_n hE dX11_shares_55 rfl ?_
              refine r_icmp_geN (a := i) (b := (q_n (D 170).1 6)) (tgt := 120) hE dX11_shares_56 (by decide) (by omega) (by omega) (fun c56 => ?_) (fun c56 => ?_)
              · have hi9 : i = (q_n (D 170).1 6) := by omega
                have hmx : o_mx b (q_n (D 170).1 6) < (q_n (D 170).1 6) := o_mx_b (by omega)
                refine r_locs hE (ls2 := [(0, .ref 169), (1, .int (nI (q_n (D 170).1 6))), (2, .long (lN (o_sum b (q_n (D 170).1 6)))), (4, .int (nI (10000 - o_sum (fun j => 10000 * b j / o_sum b (q_n (D 170).1 6)) (q_n (D 170).1 6)))), (5, .int (nI (o_mx b (q_n (D 170).1 6)))), (6, .int (nI i))]) (by rw [hi9]; simp [x_lk]) ?_
                rw [hi9] at inv
                refine r_aload_n hE dX11_shares_120 rfl ?_
                refine t_getr hE f_X11_64 y_R_169_26 dX11_shares_121 (hL 169 (by decide)) ?_
                refine r_iload hE dX11_shares_124 rfl ?_
                refine r_dup2 hE dX11_shares_126 rfl rfl ?_
                refine t_ialdN (e := o_mx b (q_n (D 170).1 6)) hE y_A_185 dX11_shares_127 (hL 185 (by decide)) (by omega) (by decide) ?_
                refine r_top (y := (nI (10000 * b (o_mx b (q_n (D 170).1 6)) / o_sum b (q_n (D 170).1 6)))) (inv _ (by omega)) ?_
                refine r_iload hE dX11_shares_128 rfl ?_
                refine r_iaddN (a := 10000 * b (o_mx b (q_n (D 170).1 6)) / o_sum b (q_n (D 170).1 6)) (b := 10000 - o_sum (fun j => 10000 * b j / o_sum b (q_n (D 170).1 6)) (q_n (D 170).1 6)) hE dX11_shares_130 ?_
                refine t_iastN (e := o_mx b (q_n (D 170).1 6)) hE y_A_185 dX11_shares_131 (hL 185 (by decide)) (by omega) (by decide) ?_
                refine r_return hE dX11_shares_132 rfl (Nat.zero_le _) (Nat.zero_le _) ?_
                refine ⟨_, rfl, rfl, Or.inr ⟨hA0, fun j hj => by rw [y_si_ne hj]; exact ot j hj, fun k hk => ?_⟩⟩
                rw [y_si_1]
                unfold o_sh
                by_cases c : k = o_mx b (q_n (D 170).1 6)
                · rw [if_pos c, if_pos c, c]
                · rw [if_neg c, if_neg c]; exact inv k hk
              · have hbi : b i ≤ o_sum b (q_n (D 170).1 6) := o_sum_ge (by omega)
                have hq1 : o_sum (fun j => 10000 * b j / o_sum b (q_n (D 170).1 6)) i + 10000 * b i / o_sum b (q_n (D 170).1 6) ≤ 10000 := o_sumq_le (b := b) (n := (q_n (D 170).1 6)) (m := i + 1) hA0 (by omega)
                have hqd : 10000 * b i / o_sum b (q_n (D 170).1 6) ≤ 10000 := by omega
                refine r_aload_n hE dX11_shares_59 rfl ?_
                refine t_getr hE f_X11_64 y_R_169_26 dX11_shares_60 (hL 169 (by decide)) ?_
                refine r_iload hE dX11_shares_63 rfl ?_
                refine r_ldc2 (v := 10000) hE dX11_shares_65 (x_gin (List.mem_append_right _ (tb_7 _ (List.mem_of_getElem? (i := 235) rfl))) rfl) ?_
                refine r_aload_n hE dX11_shares_68 rfl ?_
                refine t_getr hE f_X11_67 y_R_169_27 dX11_shares_69 (hL 169 (by decide)) ?_
                refine r_iload hE dX11_shares_72 rfl ?_
                refine t_laldN (e := i) hE y_J_186 dX11_shares_74 (hL 186 (by decide)) (by omega) (by decide) ?_
                refine r_topL (y := lN (b i)) (by rw [ot 186 (by decide)]; exact hb i (by omega)) ?_
                refine r_lmul hE dX11_shares_75 ?_
                refine r_topL (y := lN (10000 * (b i))) (lN_mul 10000 (b i)) ?_
                refine r_lload_n hE dX11_shares_76 rfl ?_
                refine r_ldiv hE dX11_shares_77 (by intro q; have := (pk_lEQ (a := o_sum b (q_n (D 170).1 6)) (b := 0) (by omega) (by omega)).mp q; omega) ?_
                refine r_topL (y := lN ((10000 * (b i)) / (o_sum b (q_n (D 170).1 6)))) (pk_lDiv (a := 10000 * (b i)) (b := o_sum b (q_n (D 170).1 6)) (by omega) (by omega) (by omega)) ?_
                refine r_l2i hE dX11_shares_78 ?_
                refine r_top (y := nI ((10000 * (b i)) / (o_sum b (q_n (D 170).1 6)))) (lN_i _) ?_
                refine t_iastN (e := i) hE y_A_185 dX11_shares_79 (hL 185 (by decide)) (by omega) (by decide) ?_
                refine r_iload hE dX11_shares_80 rfl ?_
                refine r_aload_n hE dX11_shares_82 rfl ?_
                refine t_getr hE f_X11_64 y_R_169_26 dX11_shares_83 (hL 169 (by decide)) ?_
                refine r_iload hE dX11_shares_86 rfl ?_
                refine t_ialdN (e := i) hE y_A_185 dX11_shares_88 (hL 185 (by decide)) (by omega) (by decide) ?_
                refine r_top (y := (nI (10000 * b i / o_sum b (q_n (D 170).1 6)))) (by rw [y_si_1, if_pos rfl]) ?_
                refine r_isubN (a := 10000 - o_sum (fun j => 10000 * b j / o_sum b (q_n (D 170).1 6)) i) (b := 10000 * b i / o_sum b (q_n (D 170).1 6)) hE dX11_shares_89 (by omega) ?_
                refine r_istore (ls2 := [(0, .ref 169), (1, .int (nI (q_n (D 170).1 6))), (2, .long (lN (o_sum b (q_n (D 170).1 6)))), (4, .int (nI ((10000 - o_sum (fun j => 10000 * b j / o_sum b (q_n (D 170).1 6)) i) - (10000 * b i / o_sum b (q_n (D 170).1 6))))), (5, .int (nI (o_mx b i))), (6, .int (nI i))]) hE dX11_shares_90 (by decide) rfl ?_
                have hmx : o_mx b i < (q_n (D 170).1 6) := by
                  by_cases c : 1 ≤ i
                  · have := o_mx_b (b := b) c; omega
                  · rw [show i = 0 by omega]; show 0 < (q_n (D 170).1 6); omega
                have hbm : b (o_mx b i) ≤ o_sum b (q_n (D 170).1 6) := o_sum_ge hmx
                refine r_aload_n hE dX11_shares_92 rfl ?_
                refine t_getr hE f_X11_67 y_R_169_27 dX11_shares_93 (hL 169 (by decide)) ?_
                refine r_iload hE dX11_shares_96 rfl ?_
                refine t_laldN (e := i) hE y_J_186 dX11_shares_98 (hL 186 (by decide)) (by omega) (by decide) ?_
                refine r_topL (y := lN (b i)) (by rw [y_si_ne (by decide), ot 186 (by decide)]; exact hb i (by omega)) ?_
                refine r_aload_n hE dX11_shares_99 rfl ?_
                refine t_getr hE f_X11_67 y_R_169_27 dX11_shares_100 (hL 169 (by decide)) ?_
                refine r_iload hE dX11_shares_103 rfl ?_
                refine t_laldN (e := o_mx b i) hE y_J_186 dX11_shares_105 (hL 186 (by decide)) (by omega) (by decide) ?_
                refine r_topL (y := lN (b (o_mx b i))) (by rw [y_si_ne (by decide), ot 186 (by decide)]; exact hb _ (by omega)) ?_
                refine r_lcmp hE dX11_shares_106 ?_
                refine r_if_le (tgt := 114) hE dX11_shares_107 (by decide) (fun c107 => ?_) (fun c107 => ?_)
                · refine r_iincN (a := i) (b := 1) (ls2 := [(0, .ref 169), (1, .int (nI (q_n (D 170).1 6))), (2, .long (lN (o_sum b (q_n (D 170).1 6)))), (4, .int (nI ((10000 - o_sum (fun j => 10000 * b j / o_sum b (q_n (D 170).1 6)) i) - (10000 * b i / o_sum b (q_n (D 170).1 6))))), (5, .int (nI (o_mx b i))), (6, .int (nI (i + 1)))]) hE dX11_shares_114 rfl rfl (by decide) rfl ?_
                  refine r_goto (tgt := 53) hE dX11_shares_117 (by decide) ?_
                  have emx : o_mx b (i + 1) = o_mx b i := by
                    show (if b (o_mx b i) < b i then i else o_mx b i) = _
                    rw [if_neg (by have := c107; rw [lg_cmp_le, pk_lLE (by omega) (by omega)] at this; omega)]
                  have eq9 : 10000 - o_sum (fun j => 10000 * b j / o_sum b (q_n (D 170).1 6)) (i + 1) = 10000 - o_sum (fun j => 10000 * b j / o_sum b (q_n (D 170).1 6)) i - 10000 * b i / o_sum b (q_n (D 170).1 6) := by
                    show 10000 - (o_sum (fun j => 10000 * b j / o_sum b (q_n (D 170).1 6)) i + 10000 * b i / o_sum b (q_n (D 170).1 6)) = _
                    omega
                  refine r_locs hE (ls2 := [(0, .ref 169), (1, .int (nI (q_n (D 170).1 6))), (2, .long (lN (o_sum b (q_n (D 170).1 6)))), (4, .int (nI (10000 - o_sum (fun j => 10000 * b j / o_sum b (q_n (D 170).1 6)) (i + 1)))), (5, .int (nI (o_mx b (i + 1)))), (6, .int (nI (i + 1)))]) ?_ (ih ((q_n (D 170).1 6) - (i + 1)) (by omega) (i + 1) _ rfl (by omega) (fun j hj => by rw [y_si_ne hj]; exact ot j hj) (fun k hk => ?_))
                  · rw [emx, eq9]
                    simp [x_lk]
                  · rw [y_si_1]
                    by_cases c : k = i
                    · rw [if_pos c, c]
                    · rw [if_neg c]; exact inv k (by omega)
                · refine r_iload hE dX11_shares_110 rfl ?_
                  refine r_istore (ls2 := [(0, .ref 169), (1, .int (nI (q_n (D 170).1 6))), (2, .long (lN (o_sum b (q_n (D 170).1 6)))), (4, .int (nI ((10000 - o_sum (fun j => 10000 * b j / o_sum b (q_n (D 170).1 6)) i) - (10000 * b i / o_sum b (q_n (D 170).1 6))))), (5, .int (nI i)), (6, .int (nI i))]) hE dX11_shares_112 (by decide) rfl ?_
                  refine r_iincN (a := i) (b := 1) (ls2 := [(0, .ref 169), (1, .int (nI (q_n (D 170).1 6))), (2, .long (lN (o_sum b (q_n (D 170).1 6)))), (4, .int (nI ((10000 - o_sum (fun j => 10000 * b j / o_sum b (q_n (D 170).1 6)) i) - (10000 * b i / o_sum b (q_n (D 170).1 6))))), (5, .int (nI i)), (6, .int (nI (i + 1)))]) hE dX11_shares_114 rfl rfl (by decide) rfl ?_
                  refine r_goto (tgt := 53) hE dX11_shares_117 (by decide) ?_
                  have emx : o_mx b (i + 1) = i := by
                    show (if b (o_mx b i) < b i then i else o_mx b i) = _
                    rw [if_pos (by have := c107; rw [lg_cmp_le, pk_lLE (by omega) (by omega)] at this; omega)]
                  have eq9 : 10000 - o_sum (fun j => 10000 * b j / o_sum b (q_n (D 170).1 6)) (i + 1) = 10000 - o_sum (fun j => 10000 * b j / o_sum b (q_n (D 170).1 6)) i - 10000 * b i / o_sum b (q_n (D 170).1 6) := by
                    show 10000 - (o_sum (fun j => 10000 * b j / o_sum b (q_n (D 170).1 6)) i + 10000 * b i / o_sum b (q_n (D 170).1 6)) = _
                    omega
                  refine r_locs hE (ls2 := [(0, .ref 169), (1, .int (nI (q_n (D 170).1 6))), (2, .long (lN (o_sum b (q_n (D 170).1 6)))), (4, .int (nI (10000 - o_sum (fun j => 10000 * b j / o_sum b (q_n (D 170).1 6)) (i + 1)))), (5, .int (nI (o_mx b (i + 1)))), (6, .int (nI (i + 1)))]) ?_ (ih ((q_n (D 170).1 6) - (i + 1)) (by omega) (i + 1) _ rfl (by omega) (fun j hj => by rw [y_si_ne hj]; exact ot j hj) (fun k hk => ?_))
                  · rw [emx, eq9]
                    simp [x_lk]
                  · rw [y_si_1]
                    by_cases c : k = i
                    · rw [if_pos c, c]
                    · rw [if_neg c]; exact inv k (by omega)
          refine r_locs hE (ls2 := [(0, .ref 169), (1, .int (nI (q_n (D 170).1 6))), (2, .long (lN (o_sum b (q_n (D 170).1 6)))), (4, .int (nI (10000 - o_sum (fun j => 10000 * b j / o_sum b (q_n (D 170).1 6)) 0))), (5, .int (nI (o_mx b 0))), (6, .int (nI 0))]) ?_ (l2 0 _ (by omega) (fun j hj => rfl) (fun k hk => absurd hk (by omega)))
          rw [show nI (10000 - o_sum (fun j => 10000 * b j / o_sum b (q_n (D 170).1 6)) 0) = 10000 from rfl, show nI (o_mx b 0) = 0 from rfl, nI_0]
          simp [x_lk]
        · refine r_return hE dX11_shares_41 rfl (Nat.zero_le _) (Nat.zero_le _) ?_
          have : o_sum b (q_n (D 170).1 6) = 0 := by
            rw [show i = (q_n (D 170).1 6) by omega] at c38
            exact (pk_lEQ (b := 0) (by omega) (by omega)).mp ((lg_cmp_eq _ _).mp c38)
          exact ⟨_, rfl, rfl, Or.inl ⟨this, rfl⟩⟩
      · refine r_lload_n hE dX11_shares_19 rfl ?_
        refine r_aload_n hE dX11_shares_20 rfl ?_
        refine t_getr hE f_X11_67 y_R_169_27 dX11_shares_21 (hL 169 (by decide)) ?_
        refine r_iload hE dX11_shares_24 rfl ?_
        refine t_laldN (e := i) hE y_J_186 dX11_shares_26 (hL 186 (by decide)) (by omega) (by decide) ?_
        refine r_topL (y := lN (b i)) (hb i (by omega)) ?_
        refine r_ladd hE dX11_shares_27 ?_
        refine r_topL (y := lN ((o_sum b i) + (b i))) (lN_add (o_sum b i) (b i)) ?_
        refine r_lstore_n (ls2 := [(0, .ref 169), (1, .int (nI (q_n (D 170).1 6))), (2, .long (lN ((o_sum b i) + (b i)))), (4, .int (nI i))]) hE dX11_shares_28 (by decide) rfl ?_
        refine r_iincN (a := i) (b := 1) (ls2 := [(0, .ref 169), (1, .int (nI (q_n (D 170).1 6))), (2, .long (lN ((o_sum b i) + (b i)))), (4, .int (nI (i + 1)))]) hE dX11_shares_29 rfl rfl (by decide) rfl ?_
        refine r_goto (tgt := 13) hE dX11_shares_32 (by decide) ?_
        exact ih ((q_n (D 170).1 6) - (i + 1)) (by omega) (i + 1) rfl (by omega)
  refine r_aload_n hE dX11_shares_0 rfl ?_
  refine t_getr hE f_X11_13 y_R_169_1 dX11_shares_1 (hL 169 (by decide)) ?_
  refine r_bipush (v := 6) hE dX11_shares_4 (by decide) ?_
  refine t_ialdN (e := 6) hE y_A_170 dX11_shares_6 (hL 170 (by decide)) (by omega) (by decide) ?_
  refine r_top (y := (nI (q_n (D 170).1 6))) hs6.1 ?_
  refine r_istore_n (ls2 := [(0, .ref 169), (1, .int (nI (q_n (D 170).1 6)))]) hE dX11_shares_7 (by decide) rfl ?_
  refine r_lconst (v := 0) hE dX11_shares_8 (by decide) ?_
  refine r_lstore_n (ls2 := [(0, .ref 169), (1, .int (nI (q_n (D 170).1 6))), (2, .long 0)]) hE dX11_shares_9 (by decide) rfl ?_
  refine r_iconst (v := 0) hE dX11_shares_10 (by decide) ?_
  refine r_istore (ls2 := [(0, .ref 169), (1, .int (nI (q_n (D 170).1 6))), (2, .long 0), (4, .int 0)]) hE dX11_shares_11 (by decide) rfl ?_
  exact l1 0 (by omega)
/-- what the weighing leaves as it was -/
def m_fB (D D2 : y_D) : Prop := (∀ j, j < 169 ∨ (169 < j ∧ j < 174) ∨ 186 < j → D2 j = D j) ∧ ∀ k, k ≠ 13 → k ≠ 23 → (D2 169).1 k = (D 169).1 k
theorem m_fB_r {D : y_D} : m_fB D D := ⟨fun _ _ => rfl, fun _ _ _ => rfl⟩
theorem m_fB_A {D D2 D3 : y_D} (a : m_fB D D2) (b : m_fA D2 D3) : m_fB D D3 := ⟨fun j hj => by rw [b.1 j (by omega), a.1 j hj], fun k h1 h2 => by rw [b.2 k h1 h2, a.2 k h1 h2]⟩
theorem m_fB_o {D D2 D3 : y_D} {h : Nat} (a : m_fB D D2) (b : ∀ j, j ≠ h → D3 j = D2 j) (hh : 174 ≤ h ∧ h ≤ 186) : m_fB D D3 := ⟨fun j hj => by rw [b j (by omega), a.1 j hj], fun k h1 h2 => by rw [b 169 (by omega), a.2 k h1 h2]⟩
theorem y_sl_ne {D : y_D} {h k j : Nat} {v : Int64} (c : j ≠ h) : y_sl D h k v j = D j := if_neg c
theorem y_sl_1 {D : y_D} {h k j : Nat} {v : Int64} : (y_sl D h k v h).2.1 j = if j = k then v else (D h).2.1 j := by
  unfold y_sl
  rw [if_pos rfl]
  rfl
theorem m_KI_o {W : Nat → Int32} {D D2 : y_D} (h1 : D2 183 = D 183) (h2 : D2 184 = D 184) (a : m_KI W D) : m_KI W D2 := by
  unfold m_KI at a ⊢
  rw [h1, h2]
  exact a
theorem o_sum_b {b : Nat → Nat} {B : Nat} : ∀ {n}, (∀ k, k < n → b k ≤ B) → o_sum b n ≤ B * n
  | 0, _ => Nat.zero_le _
  | n + 1, h => by
    have h1 := o_sum_b (b := b) (B := B) (n := n) (fun k hk => h k (by omega))
    have h2 := h n (by omega)
    show o_sum b n + b n ≤ B * (n + 1)
    rw [Nat.mul_succ]
    omega
theorem c_oddsAfter {V : x_E} {n : Nat} {L : List Nat} {D : y_D} {nn : Nat} (hL : y_ok L) (hW : m_W (D 170).1) (hO : m_WO (D 170).1) (hKI : m_KI (D 170).1 D) (hnn : nn ≤ q_n (D 170).1 7) : y_Rv V yX11_oddsAfter cX11_oddsAfter 4 none 10 [.ref 169, .int (nI nn)] n L D (fun D2 => m_fB D D2 ∧ m_KI (D 170).1 D2 ∧ ∃ F, (∀ k, k < (q_n (D 170).1 6) → ∀ n, n < nn → m_FAC (D 170).1 k n (F k n)) ∧ ∀ k, k < (q_n (D 170).1 6) → (D2 185).1 k = nI (o_od (fun k => q_n (D 170).1 (78 + 3 * k)) F (q_n (D 170).1 6) nn k)) := by
  refine y_rv (by decide) (Nat.le_of_ble_eq_true rfl) (fun E hE => ?_)
  change E 0 0 0 [(0, .ref 169), (1, .int (nI nn))] [] (y_mk n L D)
  have hn12 : (q_n (D 170).1 7) ≤ 12 := hO.2.2.1.2
  have hs5 : (q_n (D 170).1 6) ≤ 5 := hO.2.1.2
  have hw1 : ∀ k, k < (q_n (D 170).1 6) → 1 ≤ (fun k => q_n (D 170).1 (78 + 3 * k)) k := fun k hk => (hO.2.2.2.2.1 k hk).1.2
  have hA1 : o_sum (fun k => q_n (D 170).1 (78 + 3 * k)) (q_n (D 170).1 6) < 2 ^ 48 := Nat.lt_of_le_of_lt (o_sum_b (B := 99) (fun k hk => (hO.2.2.2.2.1 k hk).1.1.2)) (by omega)
  have l2 : ∀ (i : Nat) (F : Nat → Nat → Nat) (D8 : y_D), i ≤ nn → m_fB D D8 → m_KI (D 170).1 D8 → (∀ k, k < (q_n (D 170).1 6) → ∀ n, n < i → m_FAC (D 170).1 k n (F k n)) → (∀ k, k < (q_n (D 170).1 6) → (D8 185).1 k = nI (o_od (fun k => q_n (D 170).1 (78 + 3 * k)) F (q_n (D 170).1 6) i k)) → E 0 0 43 [(0, .ref 169), (1, .int (nI nn)), (2, .int (nI i))] [] (y_mk n L D8) := by
    intro i F D8
    induction hm9 : (nn - i) using Nat.strongRecOn generalizing i F D8 with
    | _ m9 ih =>
      intro hi fB KI hF od
      subst hm9
      refine r_iload_n hE dX11_oddsAfter_43 rfl ?_
      refine r_iload_n hE dX11_oddsAfter_44 rfl ?_
      refine r_icmp_geN (a := i) (b := nn) (tgt := 97) hE dX11_oddsAfter_45 (by decide) (by omega) (by omega) (fun c45 => ?_) (fun c45 => ?_)
      · refine r_return hE dX11_oddsAfter_97 rfl (Nat.zero_le _) (Nat.zero_le _) ?_
        rw [show i = nn by omega] at hF od
        exact ⟨_, rfl, rfl, fB, KI, F, hF, od⟩
      · refine r_iconst (v := 0) hE dX11_oddsAfter_48 (by decide) ?_
        refine r_istore_n (ls2 := [(0, .ref 169), (1, .int (nI nn)), (2, .int (nI i)), (3, .int 0)]) hE dX11_oddsAfter_49 (by decide) rfl ?_
        have ihi := ih
        have l3 : ∀ (k : Nat) (g : Nat → Nat) (D8 : y_D), k ≤ (q_n (D 170).1 6) → m_fB D D8 → m_KI (D 170).1 D8 → (∀ k, k < (q_n (D 170).1 6) → (D8 185).1 k = nI (o_od (fun k => q_n (D 170).1 (78 + 3 * k)) F (q_n (D 170).1 6) i k)) → (∀ j, j < k → m_FAC (D 170).1 j i (g j) ∧ (D8 186).2.1 j = lN (o_od (fun k => q_n (D 170).1 (78 + 3 * k)) F (q_n (D 170).1 6) i j * g j)) → E 0 0 50 [(0, .ref 169), (1, .int (nI nn)), (2, .int (nI i)), (3, .int (nI k))] [] (y_mk n L D8) := by
          intro k g D8
          induction hm9 : ((q_n (D 170).1 6) - k) using Nat.strongRecOn generalizing k g D8 with
          | _ m9 ih =>
            intro hk fB KI od by_
            subst hm9
            refine r_iload_n hE dX11_oddsAfter_50 rfl ?_
            refine r_aload_n hE dX11_oddsAfter_51 rfl ?_
            refine t_getr hE f_X11_13 y_R_169_1 dX11_oddsAfter_52 (hL 169 (by decide)) ?_
            refine r_bipush (v := 6) hE dX11_oddsAfter_55 (by decide) ?_
            refine t_ialdN (e := 6) hE y_A_170 dX11_oddsAfter_57 (hL 170 (by decide)) (by omega) (by decide) ?_
            refine r_top (y := (nI (q_n (D 170).1 6))) (by rw [fB.1 170 (by decide)]; exact hO.2.1.1) ?_
            refine r_icmp_geN (a := k) (b := (q_n (D 170).1 6)) (tgt := 87) hE dX11_oddsAfter_58 (by decide) (by omega) (by omega) (fun c58 => ?_) (fun c58 => ?_)
            · have hA2 : o_sum (fun k => o_od (fun k => q_n (D 170).1 (78 + 3 * k)) F (q_n (D 170).1 6) i k * g k) (q_n (D 170).1 6) < 2 ^ 48 := by
                refine Nat.lt_of_le_of_lt (o_sum_b (B := 10000 * 3486784401) (fun k hk => Nat.mul_le_mul (o_od_b (by omega) hw1 (fun k hk j hj => (m_FAC_b hW hO (hF k hk j hj)).1) hk) (m_FAC_b hW hO (by_ k (by omega)).1).2)) ?_
                omega
              refine r_aload_n hE dX11_oddsAfter_87 rfl ?_
              refine t_invvRv hE [] (c_shares (D := D8) (b := (fun k => o_od (fun k => q_n (D 170).1 (78 + 3 * k)) F (q_n (D 170).1 6) i k * g k)) hL (by rw [fB.1 170 (by decide)]; exact hO.2.1) (by rw [fB.1 170 (by decide)]; exact fun k hk => (by_ k (by omega)).2) (by rw [fB.1 170 (by decide)]; exact hA2)) v_yX11_shares m_X11_358 dX11_oddsAfter_88 rfl (hL 169 (by decide)) (y_l_169 (D8 169)) rfl (by decide) ⟨Nat.le_refl _, Nat.le_refl _⟩ (Nat.le_of_ble_eq_true rfl) (fun D9 q9 => ?_)
              rw [fB.1 170 (by decide)] at q9
              show E 0 0 91 [(0, .ref 169), (1, .int (nI nn)), (2, .int (nI i)), (3, .int (nI k))] [] (y_mk n L D9)
              refine r_iincN (a := i) (b := 1) (ls2 := [(0, .ref 169), (1, .int (nI nn)), (2, .int (nI (i + 1))), (3, .int (nI k))]) hE dX11_oddsAfter_91 rfl rfl (by decide) rfl ?_
              refine r_goto (tgt := 43) hE dX11_oddsAfter_94 (by decide) ?_
              obtain ⟨F2, hF2⟩ : ∃ z, z = (fun k n => if n = i then g k else F k n) := ⟨_, rfl⟩
              have hF3 : (∀ k, k < (q_n (D 170).1 6) → ∀ n, n < (i + 1) → m_FAC (D 170).1 k n (F2 k n)) := by
                intro k hk n hn
                rw [hF2]
                dsimp only
                by_cases c : n = i
                · rw [if_pos c, c]; exact (by_ k (by omega)).1
                · rw [if_neg c]; exact hF k hk n (by omega)
              have hod : ∀ k, k < (q_n (D 170).1 6) → o_od (fun k => q_n (D 170).1 (78 + 3 * k)) F2 (q_n (D 170).1 6) (i + 1) k = o_sh (fun k => o_od (fun k => q_n (D 170).1 (78 + 3 * k)) F (q_n (D 170).1 6) i k * g k) (q_n (D 170).1 6) k := by
                intro k hk
                show o_sh (fun k => o_od (fun k => q_n (D 170).1 (78 + 3 * k)) F2 (q_n (D 170).1 6) i k * F2 k i) (q_n (D 170).1 6) k = _
                refine o_sh_c (fun k2 hk2 => ?_) hk
                rw [o_od_c (F := F2) (G := F) (fun _ _ => rfl) i (fun k3 hk3 j hj => by rw [hF2]; dsimp only; rw [if_neg (by omega)]) k2 hk2, hF2]
                dsimp only
                rw [if_pos rfl]
              rcases q9 with ⟨z1, rfl⟩ | ⟨z1, z2, z3⟩
              · refine r_locs hE (ls2 := [(0, .ref 169), (1, .int (nI nn)), (2, .int (nI (i + 1)))]) ?_ (ihi (nn - (i + 1)) (by omega) (i + 1) F2 _ rfl (by omega) fB KI hF3 (fun k hk => ?_))
                · simp [x_lk]
                · exfalso
                  have := (o_od_sum (wt := (fun k => q_n (D 170).1 (78 + 3 * k))) (F := F2) (n := (q_n (D 170).1 6)) (by omega) hw1 (i + 1) (fun k hk j hj => (m_FAC_b hW hO (hF3 k hk j hj)).1)).2
                  have e9 : o_sum (fun k => o_od (fun k => q_n (D 170).1 (78 + 3 * k)) F2 (q_n (D 170).1 6) i k * F2 k i) (q_n (D 170).1 6) = o_sum (fun k => o_od (fun k => q_n (D 170).1 (78 + 3 * k)) F (q_n (D 170).1 6) i k * g k) (q_n (D 170).1 6) := o_sum_c (fun k2 hk2 => by
                    rw [o_od_c (F := F2) (G := F) (fun _ _ => rfl) i (fun k3 hk3 j hj => by rw [hF2]; dsimp only; rw [if_neg (by omega)]) k2 hk2, hF2]
                    dsimp only
                    rw [if_pos rfl])
                  dsimp only at this
                  rw [e9, z1] at this
                  omega
              · refine r_locs hE (ls2 := [(0, .ref 169), (1, .int (nI nn)), (2, .int (nI (i + 1)))]) ?_ (ihi (nn - (i + 1)) (by omega) (i + 1) F2 _ rfl (by omega) (m_fB_o fB z2 (by decide)) (m_KI_o (z2 183 (by decide)) (z2 184 (by decide)) KI) hF3 (fun k hk => ?_))
                · simp [x_lk]
                · rw [hod k hk]; exact z3 k hk
            · refine r_aload_n hE dX11_oddsAfter_61 rfl ?_
              refine t_getr hE f_X11_67 y_R_169_27 dX11_oddsAfter_62 (hL 169 (by decide)) ?_
              refine r_iload_n hE dX11_oddsAfter_65 rfl ?_
              refine r_aload_n hE dX11_oddsAfter_66 rfl ?_
              refine t_getr hE f_X11_64 y_R_169_26 dX11_oddsAfter_67 (hL 169 (by decide)) ?_
              refine r_iload_n hE dX11_oddsAfter_70 rfl ?_
              refine t_ialdN (e := k) hE y_A_185 dX11_oddsAfter_71 (hL 185 (by decide)) (by omega) (by decide) ?_
              refine r_top (y := (nI (o_od (fun k => q_n (D 170).1 (78 + 3 * k)) F (q_n (D 170).1 6) i k))) (od k (by omega)) ?_
              have ho9 : o_od (fun k => q_n (D 170).1 (78 + 3 * k)) F (q_n (D 170).1 6) i k ≤ 10000 := o_od_b (by omega) hw1 (fun k hk j hj => (m_FAC_b hW hO (hF k hk j hj)).1) (by omega)
              refine r_i2l hE dX11_oddsAfter_72 ?_
              refine r_topL (y := lN (o_od (fun k => q_n (D 170).1 (78 + 3 * k)) F (q_n (D 170).1 6) i k)) (nI_l (by omega)) ?_
              refine r_aload_n hE dX11_oddsAfter_73 rfl ?_
              refine r_iload_n hE dX11_oddsAfter_74 rfl ?_
              refine r_iload_n hE dX11_oddsAfter_75 rfl ?_
              refine t_invvRj hE [.int (nI k), .int (nI i)] (c_factorOf (D := D8) (k := k) (n9 := i) hL (by rw [fB.1 170 (by decide)]; exact hW) (by rw [fB.1 170 (by decide)]; exact hO) (by rw [fB.1 170 (by decide)]; exact KI) (by rw [fB.1 170 (by decide)]; omega) (by rw [fB.1 170 (by decide)]; omega)) v_yX11_factorOf m_X11_361 dX11_oddsAfter_76 rfl (hL 169 (by decide)) (y_l_169 (D8 169)) rfl (by decide) ⟨Nat.le_refl _, Nat.le_refl _⟩ (Nat.le_of_ble_eq_true rfl) (fun v7 D7 q7 => ?_)
              obtain ⟨fA7, KI7, f, hf, q7⟩ := q7
              rw [fB.1 170 (by decide)] at KI7 q7
              rw [hf]
              have hf9 := m_FAC_b hW hO q7
              show E 0 0 79 [(0, .ref 169), (1, .int (nI nn)), (2, .int (nI i)), (3, .int (nI k))] [.long (lN f), .long (lN (o_od (fun k => q_n (D 170).1 (78 + 3 * k)) F (q_n (D 170).1 6) i k)), .int (nI k), .ref 186] (y_mk n L D7)
              refine r_lmul hE dX11_oddsAfter_79 ?_
              refine r_topL (y := lN ((o_od (fun k => q_n (D 170).1 (78 + 3 * k)) F (q_n (D 170).1 6) i k) * f)) (lN_mul (o_od (fun k => q_n (D 170).1 (78 + 3 * k)) F (q_n (D 170).1 6) i k) f) ?_
              refine t_lastN (e := k) hE y_J_186 dX11_oddsAfter_80 (hL 186 (by decide)) (by omega) (by decide) ?_
              refine r_iincN (a := k) (b := 1) (ls2 := [(0, .ref 169), (1, .int (nI nn)), (2, .int (nI i)), (3, .int (nI (k + 1)))]) hE dX11_oddsAfter_81 rfl rfl (by decide) rfl ?_
              refine r_goto (tgt := 50) hE dX11_oddsAfter_84 (by decide) ?_
              refine r_locs hE (ls2 := [(0, .ref 169), (1, .int (nI nn)), (2, .int (nI i)), (3, .int (nI (k + 1)))]) ?_ (ih ((q_n (D 170).1 6) - (k + 1)) (by omega) (k + 1) (fun j => if j = k then f else g j) _ rfl (by omega) (m_fB_o (m_fB_A fB fA7) (fun j hj => y_sl_ne hj) (by decide)) (m_KI_o (y_sl_ne (by decide)) (y_sl_ne (by decide)) KI7) (by rw [y_sl_ne (by decide), fA7.1 185 (by decide)]; exact od) (fun j hj => ?_))
              · simp [x_lk]
              · rw [y_sl_1, fA7.1 186 (by decide)]
                by_cases c : j = k
                · rw [if_pos c, if_pos c, c]
                  exact ⟨q7, rfl⟩
                · rw [if_neg c, if_neg c]
                  exact by_ j (by omega)
        exact l3 0 (fun _ => 0) _ (by omega) fB KI od (fun j hj => absurd hj (by omega))
  have l1 : ∀ (i : Nat) (D8 : y_D), i ≤ (q_n (D 170).1 6) → m_fB D D8 → m_KI (D 170).1 D8 → (∀ k, k < i → (D8 186).2.1 k = lN (q_n (D 170).1 (78 + 3 * k))) → E 0 0 2 [(0, .ref 169), (1, .int (nI nn)), (2, .int (nI i))] [] (y_mk n L D8) := by
    intro i D8
    induction hm9 : ((q_n (D 170).1 6) - i) using Nat.strongRecOn generalizing i D8 with
    | _ m9 ih =>
      intro hi fB KI inv
      subst hm9
      refine r_iload_n hE dX11_oddsAfter_2 rfl ?_
      refine r_aload_n hE dX11_oddsAfter_3 rfl ?_
      refine t_getr hE f_X11_13 y_R_169_1 dX11_oddsAfter_4 (hL 169 (by decide)) ?_
      refine r_bipush (v := 6) hE dX11_oddsAfter_7 (by decide) ?_
      refine t_ialdN (e := 6) hE y_A_170 dX11_oddsAfter_9 (hL 170 (by decide)) (by omega) (by decide) ?_
      refine r_top (y := (nI (q_n (D 170).1 6))) (by rw [fB.1 170 (by decide)]; exact hO.2.1.1) ?_
      refine r_icmp_geN (a := i) (b := (q_n (D 170).1 6)) (tgt := 37) hE dX11_oddsAfter_10 (by decide) (by omega) (by omega) (fun c10 => ?_) (fun c10 => ?_)
      · rw [show i = (q_n (D 170).1 6) by omega] at inv
        refine r_aload_n hE dX11_oddsAfter_37 rfl ?_
        refine t_invvRv hE [] (c_shares (D := D8) (b := (fun k => q_n (D 170).1 (78 + 3 * k))) hL (by rw [fB.1 170 (by decide)]; exact hO.2.1) (by rw [fB.1 170 (by decide)]; exact inv) (by rw [fB.1 170 (by decide)]; exact hA1)) v_yX11_shares m_X11_358 dX11_oddsAfter_38 rfl (hL 169 (by decide)) (y_l_169 (D8 169)) rfl (by decide) ⟨Nat.le_refl _, Nat.le_refl _⟩ (Nat.le_of_ble_eq_true rfl) (fun D9 q9 => ?_)
        rw [fB.1 170 (by decide)] at q9
        show E 0 0 41 [(0, .ref 169), (1, .int (nI nn)), (2, .int (nI i))] [] (y_mk n L D9)
        refine r_iconst (v := 0) hE dX11_oddsAfter_41 (by decide) ?_
        refine r_istore_n (ls2 := [(0, .ref 169), (1, .int (nI nn)), (2, .int 0)]) hE dX11_oddsAfter_42 (by decide) rfl ?_
        rcases q9 with ⟨z1, rfl⟩ | ⟨z1, z2, z3⟩
        · refine l2 0 (fun _ _ => 1) _ (by omega) fB KI (fun k hk n hn => absurd hn (by omega)) (fun k hk => ?_)
          have h1 : q_n (D 170).1 (78 + 3 * k) ≤ o_sum (fun k => q_n (D 170).1 (78 + 3 * k)) (q_n (D 170).1 6) := o_sum_ge (b := (fun k => q_n (D 170).1 (78 + 3 * k))) hk
          have h2 : 1 ≤ q_n (D 170).1 (78 + 3 * k) := hw1 k hk
          rw [z1] at h1
          omega
        · exact l2 0 (fun _ _ => 1) _ (by omega) (m_fB_o fB z2 (by decide)) (m_KI_o (z2 183 (by decide)) (z2 184 (by decide)) KI) (fun k hk n hn => absurd hn (by omega)) z3
      · refine r_aload_n hE dX11_oddsAfter_13 rfl ?_
        refine t_getr hE f_X11_67 y_R_169_27 dX11_oddsAfter_14 (hL 169 (by decide)) ?_
        refine r_iload_n hE dX11_oddsAfter_17 rfl ?_
        refine r_aload_n hE dX11_oddsAfter_18 rfl ?_
        refine t_getr hE f_X11_13 y_R_169_1 dX11_oddsAfter_19 (hL 169 (by decide)) ?_
        refine r_bipush (v := 78) hE dX11_oddsAfter_22 (by decide) ?_
        refine r_iconst (v := 3) hE dX11_oddsAfter_24 (by decide) ?_
        refine r_iload_n hE dX11_oddsAfter_25 rfl ?_
        refine r_imulN (a := 3) (b := i) hE dX11_oddsAfter_26 ?_
        refine r_iaddN (a := 78) (b := 3 * i) hE dX11_oddsAfter_27 ?_
        refine t_ialdN (e := 78 + (3 * i)) hE y_A_170 dX11_oddsAfter_28 (hL 170 (by decide)) (by omega) (by decide) ?_
        refine r_top (y := (nI (q_n (D 170).1 (78 + 3 * i)))) (by rw [fB.1 170 (by decide)]; exact (hO.2.2.2.2.1 i (by omega)).1.1.1) ?_
        have hw9 : q_n (D 170).1 (78 + 3 * i) ≤ 99 := (hO.2.2.2.2.1 i (by omega)).1.1.2
        refine r_i2l hE dX11_oddsAfter_29 ?_
        refine r_topL (y := lN (q_n (D 170).1 (78 + 3 * i))) (nI_l (by omega)) ?_
        refine t_lastN (e := i) hE y_J_186 dX11_oddsAfter_30 (hL 186 (by decide)) (by omega) (by decide) ?_
        refine r_iincN (a := i) (b := 1) (ls2 := [(0, .ref 169), (1, .int (nI nn)), (2, .int (nI (i + 1)))]) hE dX11_oddsAfter_31 rfl rfl (by decide) rfl ?_
        refine r_goto (tgt := 2) hE dX11_oddsAfter_34 (by decide) ?_
        refine ih ((q_n (D 170).1 6) - (i + 1)) (by omega) (i + 1) _ rfl (by omega) (m_fB_o fB (fun j hj => y_sl_ne hj) (by decide)) (m_KI_o (y_sl_ne (by decide)) (y_sl_ne (by decide)) KI) (fun k hk => ?_)
        rw [y_sl_1]
        by_cases c : k = i
        · rw [if_pos c, c]
        · rw [if_neg c]; exact inv k (by omega)
  refine r_iconst (v := 0) hE dX11_oddsAfter_0 (by decide) ?_
  refine r_istore_n (ls2 := [(0, .ref 169), (1, .int (nI nn)), (2, .int 0)]) hE dX11_oddsAfter_1 (by decide) rfl ?_
  exact l1 0 _ (by omega) m_fB_r hKI (fun k hk => absurd hk (by omega))

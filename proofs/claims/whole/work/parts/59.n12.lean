theorem c_out {V : x_E} {n : Nat} {L : List Nat} {D : y_D} {u i9 : Int32} (hL : y_ok L) (hK : m_WK (D 170).1) : y_Ri V yX11_out cX11_out 7 (some .int) 2 [.ref 169, .int u, .int i9] n L D (fun v D2 => m_ot D D2 ∧ (D2 169).1 0 = 0 ∧ ∃ st, st < 2 ^ q_n (D 170).1 9 ∧ u &&& (nI (2 ^ q_n (D 170).1 9) - 1) = nI st ∧ ∃ L, (i9 = 0 ∧ r_L (r_to (m_tn (D 170).1) (m_wt (D 170).1) (q_n (D 170).1 9) st 0) L ∧ v = r_an L) ∨ (¬ i9 = 0 ∧ r_L (r_in (m_tn (D 170).1) (m_wt (D 170).1) (q_n (D 170).1 9) st) L ∧ v = r_an L)) := by
  refine y_ri (by decide) (Nat.le_of_ble_eq_true rfl) (fun E hE => ?_)
  change E 0 0 0 [(0, .ref 169), (1, .int u), (2, .int i9)] [] (y_mk n L D)
  have hk6 : q_n (D 170).1 9 ≤ 6 := hK.1.2
  have hp6 : 2 ^ q_n (D 170).1 9 ≤ 2 ^ 6 := Nat.pow_le_pow_right (by decide) hk6
  have hp7 : (2 : Nat) ^ 6 = 64 := rfl
  have hp8 : 1 ≤ 2 ^ q_n (D 170).1 9 := Nat.one_le_two_pow
  obtain ⟨st, hst, est⟩ := y_mask hk6 u
  refine r_aload_n hE dX11_out_0 rfl ?_
  refine r_iconst (v := 0) hE dX11_out_1 (by decide) ?_
  refine t_puti hE f_X11_3 y_I_169_0 dX11_out_2 (hL 169 (by decide)) rfl rfl ?_
  refine r_iconst (v := 1) hE dX11_out_5 (by decide) ?_
  refine r_aload_n hE dX11_out_6 rfl ?_
  refine t_getr hE f_X11_13 y_R_169_1 dX11_out_7 (hL 169 (by decide)) ?_
  refine r_bipush (v := 9) hE dX11_out_10 (by decide) ?_
  refine t_ialdN (e := 9) hE y_A_170 dX11_out_12 (hL 170 (by decide)) (by omega) (by decide) ?_
  refine r_top (y := (nI (q_n (D 170).1 9))) hK.1.1 ?_
  refine r_shl1N (k := q_n (D 170).1 9) hE dX11_out_13 (by omega) ?_
  refine r_istore_n (ls2 := [(0, .ref 169), (1, .int u), (2, .int i9), (3, .int (nI (2 ^ (q_n (D 170).1 9))))]) hE dX11_out_14 (by decide) rfl ?_
  refine r_iload_n hE dX11_out_15 rfl ?_
  refine r_iload_n hE dX11_out_16 rfl ?_
  refine r_iconst (v := 1) hE dX11_out_17 (by decide) ?_
  refine r_isub hE dX11_out_18 ?_
  refine r_iand hE dX11_out_19 ?_
  refine r_top (y := (nI st)) est ?_
  refine r_istore (ls2 := [(0, .ref 169), (1, .int u), (2, .int i9), (3, .int (nI (2 ^ (q_n (D 170).1 9)))), (4, .int (nI st))]) hE dX11_out_20 (by decide) rfl ?_
  refine r_aload_n hE dX11_out_22 rfl ?_
  refine r_iconst (v := 0) hE dX11_out_23 (by decide) ?_
  refine t_invvRv hE [.int 0] (c_spreads (D := y_si D 169 0 0) (f := 0) hL (by rw [y_si_ne (by decide)]; exact hK) (by omega)) v_yX11_spreads m_X11_389 dX11_out_24 rfl (hL 169 (by decide)) (y_l_169 ((y_si D 169 0 0) 169)) rfl (by decide) ⟨Nat.le_refl _, Nat.le_refl _⟩ (Nat.le_of_ble_eq_true rfl) (fun D1 q1 => ?_)
  obtain ⟨f1, q1⟩ := q1
  rw [y_si_ne (by decide)] at q1
  show E 0 0 27 [(0, .ref 169), (1, .int u), (2, .int i9), (3, .int (nI (2 ^ (q_n (D 170).1 9)))), (4, .int (nI st))] [] (y_mk n L D1)
  refine r_aload_n hE dX11_out_27 rfl ?_
  refine r_iload hE dX11_out_28 rfl ?_
  refine t_invvRi hE [.int (nI st)] (c_leastTo (D := D1) (f := 0) (st := st) hL (by rw [f1.1 170 (by decide), y_si_ne (by decide)]; exact hK) (by rw [f1.1 170 (by decide), y_si_ne (by decide)]; exact hst) (by rw [f1.1 170 (by decide), y_si_ne (by decide)]; exact q1)) v_yX11_leastTo m_X11_392 dX11_out_30 rfl (hL 169 (by decide)) (y_l_169 (D1 169)) rfl (by decide) ⟨Nat.le_refl _, Nat.le_refl _⟩ (Nat.le_of_ble_eq_true rfl) (fun v2 D2 q2 => ?_)
  obtain ⟨⟨m2, hv2, q2⟩, hD2⟩ := q2
  rw [hD2, hv2]
  rw [f1.1 170 (by decide), y_si_ne (by decide)] at q2
  show E 0 0 33 [(0, .ref 169), (1, .int u), (2, .int i9), (3, .int (nI (2 ^ (q_n (D 170).1 9)))), (4, .int (nI st))] [.int (nI m2)] (y_mk n L D1)
  refine r_istore (ls2 := [(0, .ref 169), (1, .int u), (2, .int i9), (3, .int (nI (2 ^ (q_n (D 170).1 9)))), (4, .int (nI st)), (5, .int (nI m2))]) hE dX11_out_33 (by decide) rfl ?_
  refine r_iload_n hE dX11_out_35 rfl ?_
  refine r_if_ne (tgt := 54) hE dX11_out_36 (by decide) (fun c36 => ?_) (fun c36 => ?_)
  · refine r_iconst (v := 0) hE dX11_out_54 (by decide) ?_
    refine r_istore (ls2 := [(0, .ref 169), (1, .int u), (2, .int i9), (3, .int (nI (2 ^ (q_n (D 170).1 9)))), (4, .int (nI st)), (5, .int (nI m2)), (6, .int 0)]) hE dX11_out_55 (by decide) rfl ?_
    have l1 : ∀ (i : Nat) (D8 : y_D), i ≤ 2 ^ q_n (D 170).1 9 → m_ot D D8 → (D8 169).1 0 = 0 → D8 187 = D1 187 → (∀ s, s < i → (D8 188).1 s = (D1 187).1 s) → E 0 0 57 [(0, .ref 169), (1, .int u), (2, .int i9), (3, .int (nI (2 ^ q_n (D 170).1 9))), (4, .int (nI st)), (5, .int (nI m2)), (6, .int (nI i))] [] (y_mk n L D8) := by
      intro i D8
      induction hm9 : (2 ^ q_n (D 170).1 9 - i) using Nat.strongRecOn generalizing i D8 with
      | _ m9 ih =>
        intro hi ot hz h87 inv
        subst hm9
        refine r_iload hE dX11_out_57 rfl ?_
        refine r_iload_n hE dX11_out_59 rfl ?_
        refine r_icmp_geN (a := i) (b := 2 ^ q_n (D 170).1 9) (tgt := 83) hE dX11_out_60 (by decide) (by omega) (by omega) (fun c60 => ?_) (fun c60 => ?_)
        · refine r_ldcw (v := 1000000) hE dX11_out_83 (x_gin (List.mem_append_right _ (tb_8 _ (List.mem_of_getElem? (i := 67) rfl))) rfl) ?_
          refine r_istore (ls2 := [(0, .ref 169), (1, .int u), (2, .int i9), (3, .int (nI (2 ^ q_n (D 170).1 9))), (4, .int (nI st)), (5, .int 1000000), (6, .int (nI i))]) hE dX11_out_86 (by decide) rfl ?_
          refine r_iconst (v := 0) hE dX11_out_88 (by decide) ?_
          refine r_istore (ls2 := [(0, .ref 169), (1, .int u), (2, .int i9), (3, .int (nI (2 ^ q_n (D 170).1 9))), (4, .int (nI st)), (5, .int 1000000), (6, .int 0)]) hE dX11_out_89 (by decide) rfl ?_
          have l2 : ∀ (s m : Nat) (D8 : y_D), s ≤ 2 ^ q_n (D 170).1 9 → m_ot D D8 → (D8 169).1 0 = 0 → (∀ s, s < 2 ^ q_n (D 170).1 9 → q_ok (D8 188).1 s 1000000 ∧ r_L (fun x => ∃ j, r_fw (m_tn (D 170).1) (m_wt (D 170).1) (q_n (D 170).1 9) 0 j s x) (q_n (D8 188).1 (s))) → r_L (fun x => ∃ z, z < s ∧ z ||| st = z ∧ ∃ a b, a + b ≤ x ∧ (∃ j, r_fw (m_tn (D 170).1) (m_wt (D 170).1) (q_n (D 170).1 9) 0 j z a) ∧ ∃ j, r_fw (m_tn (D 170).1) (m_wt (D 170).1) (q_n (D 170).1 9) z j 0 b) m → E 0 0 91 [(0, .ref 169), (1, .int u), (2, .int i9), (3, .int (nI (2 ^ q_n (D 170).1 9))), (4, .int (nI st)), (5, .int (nI m)), (6, .int (nI s))] [] (y_mk n L D8) := by
            intro s m D8
            induction hm9 : (2 ^ q_n (D 170).1 9 - s) using Nat.strongRecOn generalizing s m D8 with
            | _ m9 ih =>
              intro hs ot hz hT hm
              subst hm9
              refine r_iload hE dX11_out_91 rfl ?_
              refine r_iload_n hE dX11_out_93 rfl ?_
              refine r_icmp_geN (a := s) (b := 2 ^ q_n (D 170).1 9) (tgt := 156) hE dX11_out_94 (by decide) (by omega) (by omega) (fun c94 => ?_) (fun c94 => ?_)
              · have ho3 := hm.1
                refine r_iload hE dX11_out_156 rfl ?_
                refine r_ldcw (v := 1000000) hE dX11_out_158 (x_gin (List.mem_append_right _ (tb_8 _ (List.mem_of_getElem? (i := 67) rfl))) rfl) ?_
                refine r_icmp_ltN (a := m) (b := 1000000) (tgt := 168) hE dX11_out_161 (by decide) (by omega) (by decide) (fun c161 => ?_) (fun c161 => ?_)
                · refine r_iload hE dX11_out_168 rfl ?_
                  refine r_ireturn hE dX11_out_170 rfl rfl (Nat.zero_le _) (Nat.zero_le _) ?_
                  rw [show s = 2 ^ q_n (D 170).1 9 by omega] at hm
                  refine ⟨_, _, rfl, rfl, ot, hz, st, hst, est, m, Or.inr ⟨c36, hm, ?_⟩⟩
                  unfold r_an
                  have := hm.1
                  first | rw [if_pos (by omega)] | rw [if_neg (by omega)]
                · refine r_iconst (v := (-1)) hE dX11_out_164 (by decide) ?_
                  refine r_goto (tgt := 170) hE dX11_out_165 (by decide) ?_
                  refine r_ireturn hE dX11_out_170 rfl rfl (Nat.zero_le _) (Nat.zero_le _) ?_
                  rw [show s = 2 ^ q_n (D 170).1 9 by omega] at hm
                  refine ⟨_, _, rfl, rfl, ot, hz, st, hst, est, m, Or.inr ⟨c36, hm, ?_⟩⟩
                  unfold r_an
                  have := hm.1
                  first | rw [if_pos (by omega)] | rw [if_neg (by omega)]
              · refine r_iload hE dX11_out_97 rfl ?_
                refine r_iload hE dX11_out_99 rfl ?_
                refine r_iconst (v := (-1)) hE dX11_out_101 (by decide) ?_
                refine r_ixor hE dX11_out_102 ?_
                refine r_iand hE dX11_out_103 ?_
                refine r_if_ne (tgt := 150) hE dX11_out_104 (by decide) (fun c104 => ?_) (fun c104 => ?_)
                · refine r_iincN (a := s) (b := 1) (ls2 := [(0, .ref 169), (1, .int u), (2, .int i9), (3, .int (nI (2 ^ q_n (D 170).1 9))), (4, .int (nI st)), (5, .int (nI m)), (6, .int (nI (s + 1)))]) hE dX11_out_150 rfl rfl (by decide) rfl ?_
                  refine r_goto (tgt := 91) hE dX11_out_153 (by decide) ?_
                  refine r_locs hE (ls2 := [(0, .ref 169), (1, .int u), (2, .int i9), (3, .int (nI (2 ^ q_n (D 170).1 9))), (4, .int (nI st)), (5, .int (nI m)), (6, .int (nI (s + 1)))]) ?_ (ih (2 ^ q_n (D 170).1 9 - (s + 1)) (by omega) (s + 1) _ _ rfl (by omega) ot hz hT ⟨hm.1, fun h => ?_, fun x hx ⟨z, z1, z2, a, b, z3, z4, z5⟩ => ?_⟩)
                  · simp [x_lk]
                  · obtain ⟨z, z1, z2, z3⟩ := hm.2.1 h
                    exact ⟨z, by omega, z2, z3⟩
                  · by_cases c : z = s
                    · subst c
                      first
                      | exact absurd ((y_sub64 _ (by omega) _ (by omega)).mpr z2) c104
                      | (have u1 := (hT z (by omega)).2.2.2 a (by omega) z4; omega)
                    · exact hm.2.2 x hx ⟨z, by omega, z2, a, b, z3, z4, z5⟩
                · refine r_aload_n hE dX11_out_107 rfl ?_
                  refine t_getr hE f_X11_74 y_R_169_29 dX11_out_108 (hL 169 (by decide)) ?_
                  refine r_iload hE dX11_out_111 rfl ?_
                  refine t_ialdN (e := s) hE y_A_188 dX11_out_113 (hL 188 (by decide)) (by omega) (by decide) ?_
                  refine r_top (y := (nI (q_n (D8 188).1 (s)))) (hT s (by omega)).1.1 ?_
                  have ho1 : q_n (D8 188).1 (s) ≤ 1000000 := (hT s (by omega)).1.2
                  refine r_ldcw (v := 1000000) hE dX11_out_114 (x_gin (List.mem_append_right _ (tb_8 _ (List.mem_of_getElem? (i := 67) rfl))) rfl) ?_
                  refine r_icmp_neN (a := q_n (D8 188).1 (s)) (b := 1000000) (tgt := 123) hE dX11_out_117 (by decide) (by omega) (by decide) (fun c117 => ?_) (fun c117 => ?_)
                  · refine r_aload_n hE dX11_out_123 rfl ?_
                    refine r_iload hE dX11_out_124 rfl ?_
                    refine t_invvRv hE [.int (nI s)] (c_spreads (D := D8) (f := s) hL (by rw [ot.1 170 (by decide)]; exact hK) (by omega)) v_yX11_spreads m_X11_389 dX11_out_126 rfl (hL 169 (by decide)) (y_l_169 (D8 169)) rfl (by decide) ⟨Nat.le_refl _, Nat.le_refl _⟩ (Nat.le_of_ble_eq_true rfl) (fun D9 q9 => ?_)
                    obtain ⟨f9, q9⟩ := q9
                    rw [ot.1 170 (by decide)] at q9
                    show E 0 0 129 [(0, .ref 169), (1, .int u), (2, .int i9), (3, .int (nI (2 ^ q_n (D 170).1 9))), (4, .int (nI st)), (5, .int (nI m)), (6, .int (nI s))] [] (y_mk n L D9)
                    refine r_iload hE dX11_out_129 rfl ?_
                    refine r_aload_n hE dX11_out_131 rfl ?_
                    refine t_getr hE f_X11_74 y_R_169_29 dX11_out_132 (hL 169 (by decide)) ?_
                    refine r_iload hE dX11_out_135 rfl ?_
                    refine t_ialdN (e := s) hE y_A_188 dX11_out_137 (hL 188 (by decide)) (by omega) (by decide) ?_
                    refine r_top (y := (nI (q_n (D8 188).1 (s)))) (by rw [f9.1 188 (by decide)]; exact (hT s (by omega)).1.1) ?_
                    refine r_aload_n hE dX11_out_138 rfl ?_
                    refine t_getr hE f_X11_71 y_R_169_28 dX11_out_139 (hL 169 (by decide)) ?_
                    refine r_iconst (v := 0) hE dX11_out_142 (by decide) ?_
                    refine t_ialdN (e := 0) hE y_A_187 dX11_out_143 (hL 187 (by decide)) (by omega) (by decide) ?_
                    refine r_top (y := (nI (q_n (D9 187).1 (0)))) (q9 0 (by omega)).1.1 ?_
                    refine r_iaddN (a := q_n (D8 188).1 (s)) (b := q_n (D9 187).1 (0)) hE dX11_out_144 ?_
                    have ho2 : q_n (D9 187).1 (0) ≤ 1000000 := (q9 0 (by omega)).1.2
                    have ho3 := hm.1
                    refine r_mmin hE m_X11_386 dX11_out_145 (by decide) (Nat.le_of_ble_eq_true rfl) ⟨Nat.le_refl _, Nat.le_refl _⟩ ?_
                    refine r_top (y := (nI (min m (q_n (D8 188).1 (s) + q_n (D9 187).1 (0))))) (y_minN (by omega) (by omega)) ?_
                    refine r_istore (ls2 := [(0, .ref 169), (1, .int u), (2, .int i9), (3, .int (nI (2 ^ q_n (D 170).1 9))), (4, .int (nI st)), (5, .int (nI (min m (q_n (D8 188).1 (s) + q_n (D9 187).1 (0))))), (6, .int (nI s))]) hE dX11_out_148 (by decide) rfl ?_
                    refine r_iincN (a := s) (b := 1) (ls2 := [(0, .ref 169), (1, .int u), (2, .int i9), (3, .int (nI (2 ^ q_n (D 170).1 9))), (4, .int (nI st)), (5, .int (nI (min m (q_n (D8 188).1 (s) + q_n (D9 187).1 (0))))), (6, .int (nI (s + 1)))]) hE dX11_out_150 rfl rfl (by decide) rfl ?_
                    refine r_goto (tgt := 91) hE dX11_out_153 (by decide) ?_
                    have h8 := (y_sub64 _ (by omega) _ (by omega)).mp c104
                    have t1 := (hT s (by omega)).2
                    have t2 := (q9 0 (by omega)).2
                    refine r_locs hE (ls2 := [(0, .ref 169), (1, .int u), (2, .int i9), (3, .int (nI (2 ^ q_n (D 170).1 9))), (4, .int (nI st)), (5, .int (nI (min m (q_n (D8 188).1 (s) + q_n (D9 187).1 (0))))), (6, .int (nI (s + 1)))]) ?_ (ih (2 ^ q_n (D 170).1 9 - (s + 1)) (by omega) (s + 1) _ _ rfl (by omega) (m_ot_t ot (m_ot_fx f9 (by decide))) (by rw [f9.1 169 (by decide)]; exact hz) (by rw [f9.1 188 (by decide)]; exact hT) ⟨by omega, fun h => ?_, fun x hx ⟨z, z1, z2, a, b, z3, z4, z5⟩ => ?_⟩)
                    · simp [x_lk]
                    · by_cases c : m ≤ q_n (D8 188).1 (s) + q_n (D9 187).1 (0)
                      · rw [Nat.min_eq_left c] at h ⊢
                        obtain ⟨z, z1, z2, z3⟩ := hm.2.1 h
                        exact ⟨z, by omega, z2, z3⟩
                      · rw [Nat.min_eq_right (by omega)] at h ⊢
                        exact ⟨s, by omega, h8, _, _, Nat.le_refl _, t1.2.1 (by omega), t2.2.1 (by omega)⟩
                    · by_cases c : z = s
                      · subst c
                        have u1 := t1.2.2 a (by omega) z4
                        have u2 := t2.2.2 b (by omega) z5
                        omega
                      · have := hm.2.2 x hx ⟨z, by omega, z2, a, b, z3, z4, z5⟩
                        omega
                  · refine r_goto (tgt := 150) hE dX11_out_120 (by decide) ?_
                    refine r_iincN (a := s) (b := 1) (ls2 := [(0, .ref 169), (1, .int u), (2, .int i9), (3, .int (nI (2 ^ q_n (D 170).1 9))), (4, .int (nI st)), (5, .int (nI m)), (6, .int (nI (s + 1)))]) hE dX11_out_150 rfl rfl (by decide) rfl ?_
                    refine r_goto (tgt := 91) hE dX11_out_153 (by decide) ?_
                    refine r_locs hE (ls2 := [(0, .ref 169), (1, .int u), (2, .int i9), (3, .int (nI (2 ^ q_n (D 170).1 9))), (4, .int (nI st)), (5, .int (nI m)), (6, .int (nI (s + 1)))]) ?_ (ih (2 ^ q_n (D 170).1 9 - (s + 1)) (by omega) (s + 1) _ _ rfl (by omega) ot hz hT ⟨hm.1, fun h => ?_, fun x hx ⟨z, z1, z2, a, b, z3, z4, z5⟩ => ?_⟩)
                    · simp [x_lk]
                    · obtain ⟨z, z1, z2, z3⟩ := hm.2.1 h
                      exact ⟨z, by omega, z2, z3⟩
                    · by_cases c : z = s
                      · subst c
                        first
                        | exact absurd ((y_sub64 _ (by omega) _ (by omega)).mpr z2) c104
                        | (have u1 := (hT z (by omega)).2.2.2 a (by omega) z4; omega)
                      · exact hm.2.2 x hx ⟨z, by omega, z2, a, b, z3, z4, z5⟩
          refine r_locs hE (ls2 := [(0, .ref 169), (1, .int u), (2, .int i9), (3, .int (nI (2 ^ q_n (D 170).1 9))), (4, .int (nI st)), (5, .int (nI 1000000)), (6, .int (nI 0))]) ?_ (l2 0 1000000 _ (Nat.zero_le _) ot hz (fun s hs => ?_) ⟨by omega, fun h => absurd h (by omega), fun x hx ⟨z, z1, _⟩ => absurd z1 (by omega)⟩)
          · show ∀ q ∈ _, _
            rw [nI_0, show nI 1000000 = 1000000 from rfl]
            simp [x_lk]
          · have := q1 s hs
            unfold q_ok q_n at this ⊢
            rw [inv s (by omega)]
            exact this
        · refine r_aload_n hE dX11_out_63 rfl ?_
          refine t_getr hE f_X11_74 y_R_169_29 dX11_out_64 (hL 169 (by decide)) ?_
          refine r_iload hE dX11_out_67 rfl ?_
          refine r_aload_n hE dX11_out_69 rfl ?_
          refine t_getr hE f_X11_71 y_R_169_28 dX11_out_70 (hL 169 (by decide)) ?_
          refine r_iload hE dX11_out_73 rfl ?_
          refine t_ialdN (e := i) hE y_A_187 dX11_out_75 (hL 187 (by decide)) (by omega) (by decide) ?_
          refine t_iastN (e := i) hE y_A_188 dX11_out_76 (hL 188 (by decide)) (by omega) (by decide) ?_
          refine r_iincN (a := i) (b := 1) (ls2 := [(0, .ref 169), (1, .int u), (2, .int i9), (3, .int (nI (2 ^ q_n (D 170).1 9))), (4, .int (nI st)), (5, .int (nI m2)), (6, .int (nI (i + 1)))]) hE dX11_out_77 rfl rfl (by decide) rfl ?_
          refine r_goto (tgt := 57) hE dX11_out_80 (by decide) ?_
          refine ih (2 ^ q_n (D 170).1 9 - (i + 1)) (by omega) (i + 1) _ rfl (by omega) (m_ot_t ot (m_ot_fx (y_fx_s (hs := [188]) y_fx_r (by decide)) (by decide))) (by rw [y_si_ne (by decide)]; exact hz) (by rw [y_si_ne (by decide)]; exact h87) (fun s hs => ?_)
          rw [y_si_1]
          by_cases c : s = i
          · rw [if_pos c, c, h87]
          · rw [if_neg c]; exact inv s (by omega)
    exact l1 0 _ (Nat.zero_le _) (m_ot_t (m_ot_0 m_ot_r) (m_ot_fx f1 (by decide))) (by rw [f1.1 169 (by decide), y_si_1, if_pos rfl]) rfl (fun s hs => absurd hs (by omega))
  · have ho2 := q2.1
    refine r_iload hE dX11_out_39 rfl ?_
    refine r_ldcw (v := 1000000) hE dX11_out_41 (x_gin (List.mem_append_right _ (tb_8 _ (List.mem_of_getElem? (i := 67) rfl))) rfl) ?_
    refine r_icmp_neN (a := m2) (b := 1000000) (tgt := 51) hE dX11_out_44 (by decide) (by omega) (by decide) (fun c44 => ?_) (fun c44 => ?_)
    · refine r_iload hE dX11_out_51 rfl ?_
      refine r_ireturn hE dX11_out_53 rfl rfl (Nat.zero_le _) (Nat.zero_le _) ?_
      refine ⟨_, _, rfl, rfl, m_ot_t (m_ot_0 m_ot_r) (m_ot_fx f1 (by decide)), (by rw [f1.1 169 (by decide), y_si_1, if_pos rfl]), st, hst, est, m2, Or.inl ⟨c36, q2, ?_⟩⟩
      unfold r_an
      first | rw [if_pos c44] | rw [if_neg c44]
    · refine r_iconst (v := (-1)) hE dX11_out_47 (by decide) ?_
      refine r_goto (tgt := 53) hE dX11_out_48 (by decide) ?_
      refine r_ireturn hE dX11_out_53 rfl rfl (Nat.zero_le _) (Nat.zero_le _) ?_
      refine ⟨_, _, rfl, rfl, m_ot_t (m_ot_0 m_ot_r) (m_ot_fx f1 (by decide)), (by rw [f1.1 169 (by decide), y_si_1, if_pos rfl]), st, hst, est, m2, Or.inl ⟨c36, q2, ?_⟩⟩
      unfold r_an
      first | rw [if_pos c44] | rw [if_neg c44]
theorem c_first {V : x_E} {n : Nat} {L : List Nat} {D : y_D} {u : Int32} (hL : y_ok L) (hK : m_WK (D 170).1) : y_Ri V yX11_first cX11_first 5 (some .int) 2 [.ref 169, .int u] n L D (fun v D2 => m_ot D D2 ∧ (D2 169).1 0 = 0 ∧ ∃ st, st < 2 ^ q_n (D 170).1 9 ∧ u &&& (nI (2 ^ q_n (D 170).1 9) - 1) = nI st ∧ r_first (m_tn (D 170).1) (m_wt (D 170).1) (q_n (D 170).1 9) st (fun k => q_n (D 170).1 (213 + 4 * k)) v) := by
  refine y_ri (by decide) (Nat.le_of_ble_eq_true rfl) (fun E hE => ?_)
  change E 0 0 0 [(0, .ref 169), (1, .int u)] [] (y_mk n L D)
  have hk6 : q_n (D 170).1 9 ≤ 6 := hK.1.2
  have hp6 : 2 ^ q_n (D 170).1 9 ≤ 2 ^ 6 := Nat.pow_le_pow_right (by decide) hk6
  have hp7 : (2 : Nat) ^ 6 = 64 := rfl
  have hp8 : 1 ≤ 2 ^ q_n (D 170).1 9 := Nat.one_le_two_pow
  obtain ⟨st, hst, est⟩ := y_mask hk6 u
  refine r_aload_n hE dX11_first_0 rfl ?_
  refine r_iconst (v := 0) hE dX11_first_1 (by decide) ?_
  refine t_puti hE f_X11_3 y_I_169_0 dX11_first_2 (hL 169 (by decide)) rfl rfl ?_
  refine r_iload_n hE dX11_first_5 rfl ?_
  refine r_iconst (v := 1) hE dX11_first_6 (by decide) ?_
  refine r_aload_n hE dX11_first_7 rfl ?_
  refine t_getr hE f_X11_13 y_R_169_1 dX11_first_8 (hL 169 (by decide)) ?_
  refine r_bipush (v := 9) hE dX11_first_11 (by decide) ?_
  refine t_ialdN (e := 9) hE y_A_170 dX11_first_13 (hL 170 (by decide)) (by omega) (by decide) ?_
  refine r_top (y := (nI (q_n (D 170).1 9))) hK.1.1 ?_
  refine r_shl1N (k := q_n (D 170).1 9) hE dX11_first_14 (by omega) ?_
  refine r_iconst (v := 1) hE dX11_first_15 (by decide) ?_
  refine r_isub hE dX11_first_16 ?_
  refine r_iand hE dX11_first_17 ?_
  refine r_top (y := (nI st)) est ?_
  refine r_istore_n (ls2 := [(0, .ref 169), (1, .int u), (2, .int (nI st))]) hE dX11_first_18 (by decide) rfl ?_
  refine r_aload_n hE dX11_first_19 rfl ?_
  refine r_iconst (v := 0) hE dX11_first_20 (by decide) ?_
  refine t_invvRv hE [.int 0] (c_spreads (D := y_si D 169 0 0) (f := 0) hL (by rw [y_si_ne (by decide)]; exact hK) (by omega)) v_yX11_spreads m_X11_389 dX11_first_21 rfl (hL 169 (by decide)) (y_l_169 ((y_si D 169 0 0) 169)) rfl (by decide) ⟨Nat.le_refl _, Nat.le_refl _⟩ (Nat.le_of_ble_eq_true rfl) (fun D1 q1 => ?_)
  obtain ⟨f1, q1⟩ := q1
  rw [y_si_ne (by decide)] at q1
  show E 0 0 24 [(0, .ref 169), (1, .int u), (2, .int (nI st))] [] (y_mk n L D1)
  refine r_aload_n hE dX11_first_24 rfl ?_
  refine r_iload_n hE dX11_first_25 rfl ?_
  refine t_invvRi hE [.int (nI st)] (c_leastTo (D := D1) (f := 0) (st := st) hL (by rw [f1.1 170 (by decide), y_si_ne (by decide)]; exact hK) (by rw [f1.1 170 (by decide), y_si_ne (by decide)]; exact hst) (by rw [f1.1 170 (by decide), y_si_ne (by decide)]; exact q1)) v_yX11_leastTo m_X11_392 dX11_first_26 rfl (hL 169 (by decide)) (y_l_169 (D1 169)) rfl (by decide) ⟨Nat.le_refl _, Nat.le_refl _⟩ (Nat.le_of_ble_eq_true rfl) (fun v2 D2 q2 => ?_)
  obtain ⟨⟨m2, hv2, q2⟩, hD2⟩ := q2
  rw [hD2, hv2]
  rw [f1.1 170 (by decide), y_si_ne (by decide)] at q2
  show E 0 0 29 [(0, .ref 169), (1, .int u), (2, .int (nI st))] [.int (nI m2)] (y_mk n L D1)
  refine r_istore_n (ls2 := [(0, .ref 169), (1, .int u), (2, .int (nI st)), (3, .int (nI m2))]) hE dX11_first_29 (by decide) rfl ?_
  have ho2 := q2.1
  refine r_iload_n hE dX11_first_30 rfl ?_
  refine r_if_eq (tgt := 41) hE dX11_first_31 (by decide) (fun c31 => ?_) (fun c31 => ?_)
  · refine r_iconst (v := (-1)) hE dX11_first_41 (by decide) ?_
    refine r_ireturn hE dX11_first_42 rfl rfl (Nat.zero_le _) (Nat.zero_le _) ?_
    refine ⟨_, _, rfl, rfl, m_ot_t (m_ot_0 m_ot_r) (m_ot_fx f1 (by decide)), (by rw [f1.1 169 (by decide), y_si_1, if_pos rfl]), st, hst, est, m2, q2, Or.inl ⟨rfl, ?_⟩⟩
    first
    | exact Or.inl ((nI_eq (b := 0) (by omega) (by decide)).mp c31)
    | exact Or.inr (Or.inl c38)
  · refine r_iload_n hE dX11_first_34 rfl ?_
    refine r_ldcw (v := 1000000) hE dX11_first_35 (x_gin (List.mem_append_right _ (tb_8 _ (List.mem_of_getElem? (i := 67) rfl))) rfl) ?_
    refine r_icmp_neN (a := m2) (b := 1000000) (tgt := 43) hE dX11_first_38 (by decide) (by omega) (by decide) (fun c38 => ?_) (fun c38 => ?_)
    · refine r_iconst (v := 0) hE dX11_first_43 (by decide) ?_
      refine r_istore (ls2 := [(0, .ref 169), (1, .int u), (2, .int (nI st)), (3, .int (nI m2)), (4, .int 0)]) hE dX11_first_44 (by decide) rfl ?_
      have l1 : ∀ (k : Nat) (D8 : y_D), k ≤ q_n (D 170).1 9 → m_ot D D8 → (D8 169).1 0 = 0 → (∀ i, i < k → ¬ r_F (m_tn (D 170).1) (m_wt (D 170).1) (q_n (D 170).1 9) st (fun k => q_n (D 170).1 (213 + 4 * k)) m2 i) → E 0 0 46 [(0, .ref 169), (1, .int u), (2, .int (nI st)), (3, .int (nI m2)), (4, .int (nI k))] [] (y_mk n L D8) := by
        intro k D8
        induction hm9 : (q_n (D 170).1 9 - k) using Nat.strongRecOn generalizing k D8 with
        | _ m9 ih =>
          intro hk ot hz h0
          subst hm9
          refine r_iload hE dX11_first_46 rfl ?_
          refine r_aload_n hE dX11_first_48 rfl ?_
          refine t_getr hE f_X11_13 y_R_169_1 dX11_first_49 (hL 169 (by decide)) ?_
          refine r_bipush (v := 9) hE dX11_first_52 (by decide) ?_
          refine t_ialdN (e := 9) hE y_A_170 dX11_first_54 (hL 170 (by decide)) (by omega) (by decide) ?_
          refine r_top (y := (nI (q_n (D 170).1 9))) (by rw [ot.1 170 (by decide)]; exact hK.1.1) ?_
          refine r_icmp_geN (a := k) (b := q_n (D 170).1 9) (tgt := 111) hE dX11_first_55 (by decide) (by omega) (by omega) (fun c55 => ?_) (fun c55 => ?_)
          · refine r_iconst (v := (-1)) hE dX11_first_111 (by decide) ?_
            refine r_ireturn hE dX11_first_112 rfl rfl (Nat.zero_le _) (Nat.zero_le _) ?_
            exact ⟨_, _, rfl, rfl, ot, hz, st, hst, est, m2, q2, Or.inl ⟨rfl, Or.inr (Or.inr (fun i hi => h0 i (by omega)))⟩⟩
          · refine r_aload_n hE dX11_first_58 rfl ?_
            refine r_iconst (v := 0) hE dX11_first_59 (by decide) ?_
            refine r_iload hE dX11_first_60 rfl ?_
            refine t_invvRi hE [.int 0, .int (nI k)] (c_canTurn (D := D8) (s := 0) (k := k) hL (by rw [ot.1 170 (by decide)]; exact hK) (by rw [ot.1 170 (by decide)]; omega)) v_yX11_canTurn m_X11_383 dX11_first_62 rfl (hL 169 (by decide)) (y_l_169 (D8 169)) rfl (by decide) ⟨Nat.le_refl _, Nat.le_refl _⟩ (Nat.le_of_ble_eq_true rfl) (fun v8 D7 q8 => ?_)
            obtain ⟨q8, hD7⟩ := q8
            rw [hD7]
            rw [ot.1 170 (by decide)] at q8
            show E 0 0 65 [(0, .ref 169), (1, .int u), (2, .int (nI st)), (3, .int (nI m2)), (4, .int (nI k))] [.int v8] (y_mk n L D8)
            refine r_if_ne (tgt := 71) hE dX11_first_65 (by decide) (fun c65 => ?_) (fun c65 => ?_)
            · refine r_aload_n hE dX11_first_71 rfl ?_
              refine r_iconst (v := 1) hE dX11_first_72 (by decide) ?_
              refine r_iload hE dX11_first_73 rfl ?_
              refine r_shl1N (k := k) hE dX11_first_75 (by omega) ?_
              refine t_invvRv hE [.int (nI (2 ^ k))] (c_spreads (D := D8) (f := 2 ^ k) hL (by rw [ot.1 170 (by decide)]; exact hK) (Nat.lt_of_lt_of_le (Nat.pow_lt_pow_right (by decide) (show k < q_n (D 170).1 9 by omega)) (by omega))) v_yX11_spreads m_X11_389 dX11_first_76 rfl (hL 169 (by decide)) (y_l_169 (D8 169)) rfl (by decide) ⟨Nat.le_refl _, Nat.le_refl _⟩ (Nat.le_of_ble_eq_true rfl) (fun D9 q9 => ?_)
              obtain ⟨f9, q9⟩ := q9
              rw [ot.1 170 (by decide)] at q9
              show E 0 0 79 [(0, .ref 169), (1, .int u), (2, .int (nI st)), (3, .int (nI m2)), (4, .int (nI k))] [] (y_mk n L D9)
              refine r_aload_n hE dX11_first_79 rfl ?_
              refine t_getr hE f_X11_13 y_R_169_1 dX11_first_80 (hL 169 (by decide)) ?_
              refine r_sipush (v := 213) hE dX11_first_83 (by decide) ?_
              refine r_iconst (v := 4) hE dX11_first_86 (by decide) ?_
              refine r_iload hE dX11_first_87 rfl ?_
              refine r_imulN (a := 4) (b := k) hE dX11_first_89 ?_
              refine r_iaddN (a := 213) (b := 4 * k) hE dX11_first_90 ?_
              refine t_ialdN (e := 213 + (4 * k)) hE y_A_170 dX11_first_91 (hL 170 (by decide)) (by omega) (by decide) ?_
              refine r_top (y := (nI (q_n (D 170).1 (213 + 4 * k)))) (by rw [f9.1 170 (by decide), ot.1 170 (by decide)]; exact (hK.2.2 k (by omega)).1.1) ?_
              refine r_aload_n hE dX11_first_92 rfl ?_
              refine r_iload_n hE dX11_first_93 rfl ?_
              refine t_invvRi hE [.int (nI st)] (c_leastTo (D := D9) (f := 2 ^ k) (st := st) hL (by rw [f9.1 170 (by decide), ot.1 170 (by decide)]; exact hK) (by rw [f9.1 170 (by decide), ot.1 170 (by decide)]; exact hst) (by rw [f9.1 170 (by decide), ot.1 170 (by decide)]; exact q9)) v_yX11_leastTo m_X11_392 dX11_first_94 rfl (hL 169 (by decide)) (y_l_169 (D9 169)) rfl (by decide) ⟨Nat.le_refl _, Nat.le_refl _⟩ (Nat.le_of_ble_eq_true rfl) (fun v5 D5 q5 => ?_)
              obtain ⟨⟨m5, hv5, q5⟩, hD5⟩ := q5
              rw [hD5, hv5]
              rw [f9.1 170 (by decide), ot.1 170 (by decide)] at q5
              show E 0 0 97 [(0, .ref 169), (1, .int u), (2, .int (nI st)), (3, .int (nI m2)), (4, .int (nI k))] [.int (nI m5), .int (nI (q_n (D 170).1 (213 + 4 * k)))] (y_mk n L D9)
              have ho5 := q5.1
              have ho6 : q_n (D 170).1 (213 + 4 * k) ≤ 99 := (hK.2.2 k (by omega)).1.2
              refine r_iaddN (a := q_n (D 170).1 (213 + 4 * k)) (b := m5) hE dX11_first_97 ?_
              refine r_iload_n hE dX11_first_98 rfl ?_
              refine r_icmp_neN (a := (q_n (D 170).1 (213 + 4 * k)) + m5) (b := m2) (tgt := 105) hE dX11_first_99 (by decide) (by omega) (by omega) (fun c99 => ?_) (fun c99 => ?_)
              · refine r_iincN (a := k) (b := 1) (ls2 := [(0, .ref 169), (1, .int u), (2, .int (nI st)), (3, .int (nI m2)), (4, .int (nI (k + 1)))]) hE dX11_first_105 rfl rfl (by decide) rfl ?_
                refine r_goto (tgt := 46) hE dX11_first_108 (by decide) ?_
                refine ih (q_n (D 170).1 9 - (k + 1)) (by omega) (k + 1) _ rfl (by omega) (m_ot_t ot (m_ot_fx f9 (by decide))) (by rw [f9.1 169 (by decide)]; exact hz) (fun i hi q => ?_)
                by_cases c : i = k
                · subst c
                  obtain ⟨Lk, g1, g2⟩ := q.2; have := r_L_u g1 q5 (fun x => Iff.rfl); rw [this] at g2; exact c99 g2
                · exact h0 i (by omega) q
              · refine r_iload hE dX11_first_102 rfl ?_
                refine r_ireturn hE dX11_first_104 rfl rfl (Nat.zero_le _) (Nat.zero_le _) ?_
                exact ⟨_, _, rfl, rfl, m_ot_t ot (m_ot_fx f9 (by decide)), by rw [f9.1 169 (by decide)]; exact hz, st, hst, est, m2, q2, Or.inr ⟨k, by omega, rfl, fun q => c31 (by rw [q]; rfl), c38, ⟨Classical.not_not.mp (fun q => c65 ((y_is_0 q8).mpr q)), m5, q5, c99⟩, h0⟩⟩
            · refine r_goto (tgt := 105) hE dX11_first_68 (by decide) ?_
              refine r_iincN (a := k) (b := 1) (ls2 := [(0, .ref 169), (1, .int u), (2, .int (nI st)), (3, .int (nI m2)), (4, .int (nI (k + 1)))]) hE dX11_first_105 rfl rfl (by decide) rfl ?_
              refine r_goto (tgt := 46) hE dX11_first_108 (by decide) ?_
              refine ih (q_n (D 170).1 9 - (k + 1)) (by omega) (k + 1) _ rfl (by omega) ot hz (fun i hi q => ?_)
              by_cases c : i = k
              · subst c
                exact (y_is_0 q8).mp c65 q.1
              · exact h0 i (by omega) q
      exact l1 0 _ (by omega) (m_ot_t (m_ot_0 m_ot_r) (m_ot_fx f1 (by decide))) (by rw [f1.1 169 (by decide), y_si_1, if_pos rfl]) (fun i hi => absurd hi (by omega))
    · refine r_iconst (v := (-1)) hE dX11_first_41 (by decide) ?_
      refine r_ireturn hE dX11_first_42 rfl rfl (Nat.zero_le _) (Nat.zero_le _) ?_
      refine ⟨_, _, rfl, rfl, m_ot_t (m_ot_0 m_ot_r) (m_ot_fx f1 (by decide)), (by rw [f1.1 169 (by decide), y_si_1, if_pos rfl]), st, hst, est, m2, q2, Or.inl ⟨rfl, ?_⟩⟩
      first
      | exact Or.inl ((nI_eq (b := 0) (by omega) (by decide)).mp c31)
      | exact Or.inr (Or.inl c38)

/-! the class: look, with -/
theorem k_sw03 (x : Int32) : ((x.toInt < 0 ∨ 3 < x.toInt) ∧ True) ∨ (x = 0 ∧ True) ∨ (x = 1 ∧ True) ∨ (x = 2 ∧ True) ∨ (x = 3 ∧ True) := by
  by_cases c : x.toInt < 0 ∨ 3 < x.toInt
  · exact Or.inl ⟨c, trivial⟩
  · obtain ⟨j, hj, rfl⟩ := nI_of (x := x) (fun h => by
      rw [Int32.lt_iff_toInt_lt] at h
      have h8 : (0 : Int32).toInt = 0 := by decide
      omega)
    rw [nI_toInt hj] at c
    rcases (show j = 0 ∨ j = 1 ∨ j = 2 ∨ j = 3 by omega) with rfl | rfl | rfl | rfl <;> decide
theorem k_sw02 (x : Int32) : ((x.toInt < 0 ∨ 2 < x.toInt) ∧ True) ∨ (x = 0 ∧ True) ∨ (x = 1 ∧ True) ∨ (x = 2 ∧ True) := by
  by_cases c : x.toInt < 0 ∨ 2 < x.toInt
  · exact Or.inl ⟨c, trivial⟩
  · obtain ⟨j, hj, rfl⟩ := nI_of (x := x) (fun h => by
      rw [Int32.lt_iff_toInt_lt] at h
      have h8 : (0 : Int32).toInt = 0 := by decide
      omega)
    rw [nI_toInt hj] at c
    rcases (show j = 0 ∨ j = 1 ∨ j = 2 by omega) with rfl | rfl | rfl <;> decide
def k_look (DS : y_D) (k m c : Nat) : Int32 := if c = 0 then nI k else if c = 1 then y_ls DS k else if c = 2 then nI m else if c = 3 then (DS 152).1 1 else (DS 152).1 2
theorem f_look {V : x_E} (hV : y_V V) {n : Nat} {L : List Nat} {D : y_D} (hL : y_ok L) {p x : Int32} (hB : k_B D L) (hCI : k_CI D) : y_Fi V yX10_look cX10_look 4 (some .int) 8 2 12 [.ref 64, .int p, .int x] n L D (fun v D2 => (k_same D D2 ∧ k_CI D2) ∧ ∃ t c DS, t < q_n (D 73).1 2 ∧ c ≤ 4 ∧ p = nI t ∧ x = nI c ∧ c_G (c_per D (q_n (D 74).1 2)) DS (k_rt D t) (-1) (k_rm D t) ∧ v = k_look DS (s_last (c_p (k_rt D t)) (c_a (k_rt D t)) (-1) (k_rm D t)) (k_rm D t) c) (fun E9 => (¬ (0 ≤ p ∧ p < (D 73).1 2) ∧ E9 = y_IOB) ∨ (¬ ¬ (0 ≤ p ∧ p < (D 73).1 2) ∧ ¬ (0 ≤ x ∧ x ≤ 4) ∧ E9 = y_NSE)) := by
  refine x_cx (by decide) hV.1 (fun a0 S0 h => by rw [h.1]; exact Nat.le_of_ble_eq_true rfl) (fun a0 S0 h E EX hX => ?_)
  obtain ⟨rfl, rfl⟩ := h
  have hE := hX.x
  change E 0 0 0 [(0, .ref 64), (1, .int p), (2, .int x)] [] (y_mk n L D)
  refine r_iload_n hE dX10_look_0 rfl ?_
  refine r_aload_n hE dX10_look_1 rfl ?_
  refine t_getr hE f_X10_23 y_R_64_3 dX10_look_2 (hL 64 (by decide)) ?_
  refine t_geti hE f_X10_97 y_I_73_2 dX10_look_5 (hL 73 (by decide)) ?_
  refine t_demandRow hX hV [.int p, .int ((D 73).1 2)] dX10_look_8 m_X10_125 rfl (by decide) ⟨by decide, by decide⟩ (Nat.le_of_ble_eq_true rfl) (fun c8 => ?_) (fun c8 n2 hn2 => r_out hX ⟨by first | exact Or.inl ⟨c8, rfl⟩ | exact Or.inr ⟨fun z => z c8, c13, rfl⟩, n2, hn2, rfl⟩ (by decide) (by decide))
  show E 1 6 11 [(0, .ref 64), (1, .int p), (2, .int x)] [] (y_mk n L D)
  refine r_iload_n hE dX10_look_11 rfl ?_
  refine r_iconst (v := 4) hE dX10_look_12 (by decide) ?_
  refine t_demandWhat hX hV [.int x, .int 4] dX10_look_13 m_X10_129 rfl (by decide) ⟨by decide, by decide⟩ (Nat.le_of_ble_eq_true rfl) (fun c13 => ?_) (fun c13 n2 hn2 => r_out hX ⟨by first | exact Or.inl ⟨c8, rfl⟩ | exact Or.inr ⟨fun z => z c8, c13, rfl⟩, n2, hn2, rfl⟩ (by decide) (by decide))
  show E 2 12 16 [(0, .ref 64), (1, .int p), (2, .int x)] [] (y_mk n L D)
  obtain ⟨t, ht, rfl⟩ := y_rngR (k := q_n (D 73).1 2) (by have := hB.1.2; omega) (by rw [← hB.1.1]; exact c8)
  obtain ⟨c, hc, rfl⟩ := y_rng2 (k := 4) (by decide) c13
  have hRU := hB.2.2.2.2.2.1 t (by have := hB.1.2; omega)
  obtain ⟨r8, hr8⟩ : ∃ z, z = k_rh D t := ⟨_, rfl⟩
  obtain ⟨s8, hs8⟩ : ∃ z, z = k_rr D t := ⟨_, rfl⟩
  have hm_r8 : r8 ∈ L := by rw [hr8]; exact hRU.2.1
  refine r_aload_n hE dX10_look_16 rfl ?_
  refine t_getr hE f_X10_35 y_R_64_6 dX10_look_17 (hL 64 (by decide)) ?_
  refine t_getr hE f_X10_132 y_R_151_1 dX10_look_20 (hL 151 (by decide)) ?_
  refine r_astore_n (ls2 := [(0, .ref 64), (1, .int (nI t)), (2, .int (nI c)), (3, .ref 152)]) hE dX10_look_23 (by decide) rfl ?_
  refine r_aload_n hE dX10_look_24 rfl ?_
  refine r_aload_n hE dX10_look_25 rfl ?_
  refine t_getr hE f_X10_23 y_R_64_3 dX10_look_26 (hL 64 (by decide)) ?_
  refine t_getr hE f_X10_136 y_R_73_1 dX10_look_29 (hL 73 (by decide)) ?_
  refine r_iload_n hE dX10_look_32 rfl ?_
  refine t_aaldN (e := t) (h2 := r8) hE y_Q_76 (by decide) dX10_look_33 (hL 76 (by decide)) (by have := hB.1.2; omega) (by decide) (by rw [hr8]; exact hRU.1) ?_
  refine r_iconst (v := (-1)) hE dX10_look_34 (by decide) ?_
  refine r_aload_n hE dX10_look_35 rfl ?_
  refine t_getr hE f_X10_23 y_R_64_3 dX10_look_36 (hL 64 (by decide)) ?_
  refine t_getr hE f_X10_73 y_R_73_0 dX10_look_39 (hL 73 (by decide)) ?_
  refine t_invv (r := none) (S2 := (y_mk n L (y_stl (y_st0 D) (D s8).1 (-1) (q_n (D 74).1 2) (k_rm D t)))) hE [.ref r8, .int (-1), .ref 74] (k_settle (D := D) (k := q_n (D 74).1 2) (m := k_rm D t) (r := r8) (s := s8) (wo := (-1)) hL hB.2.2.1.1.1 hB.2.2.1.2 hB.2.2.1.1.2 hm_r8 (by rw [hr8]; exact hRU.2.2.1) (by rw [hr8]; exact hRU.2.2.2.1) (by rw [hr8, hs8]; exact hRU.2.2.2.2.1) (by rw [hs8]; exact hRU.2.2.2.2.2.1) (by rw [hs8]; exact hRU.2.2.2.2.2.2.1) (by rw [hs8]; exact hRU.2.2.2.2.2.2.2.1) (by rw [hs8]; exact hRU.2.2.2.2.2.2.2.2.1) hRU.2.2.2.2.2.2.2.2.2.1 (by rw [hs8]; exact c_wl_wf hRU.2.2.2.2.2.2.2.2.2.2)) v_yX6_settle m_X10_140 dX10_look_42 rfl (hL 152 (by decide)) (y_l_152 (D 152)) rfl (by decide) ⟨by decide, by decide⟩ (Nat.le_of_ble_eq_true rfl) ?_
  show E 2 12 45 [(0, .ref 64), (1, .int (nI t)), (2, .int (nI c)), (3, .ref 152)] [] (y_mk n L (y_stl (y_st0 D) (D s8).1 (-1) (q_n (D 74).1 2) (k_rm D t)))
  obtain ⟨DS, hDS⟩ : ∃ Z, Z = y_stl (y_st0 D) (D s8).1 (-1) (q_n (D 74).1 2) (k_rm D t) := ⟨_, rfl⟩
  rw [← hDS]
  have hF : c_F D DS (k_rt D t) (-1) (q_n (D 74).1 2) (k_rm D t) := by rw [hDS, hs8]; exact c_F_stl hRU.2.2.2.2.2.2.2.2.2.2 _ (Nat.le_refl _)
  have e1 : DS r8 = D r8 := hF.1 r8 (by rw [hr8]; exact (y_dh_ne hRU.2.2.1).2.1)
  have e2 : DS s8 = D s8 := hF.1 s8 (by rw [hs8]; exact (y_dh_ne hRU.2.2.2.2.2.2.1).2.1)
  have hd_r8 : y_dh r8 := by rw [hr8]; exact hRU.2.2.1
  have hk_r8 : (DS r8).2.2.2.1 = 1 := by rw [e1, hr8]; exact hRU.2.2.2.1
  have smS : k_same D DS := ⟨fun j hj => hF.1 j (by simp only [List.mem_cons, List.not_mem_nil, or_false, not_or] at hj; omega), trivial⟩
  have hlast : s_last (c_p (k_rt D t)) (c_a (k_rt D t)) (-1) (k_rm D t) ≤ 301 := Nat.le_trans (k_last_b (wo := (-1)) hRU) (by decide)
  refine r_iload_n hE dX10_look_45 rfl ?_
  rcases k_sw03 (nI c) with ⟨h46, e46⟩ | ⟨h46, e46⟩ | ⟨h46, e46⟩ | ⟨h46, e46⟩ | ⟨h46, e46⟩
  · refine r_tsout (tgt := 104) hE dX10_look_46 h46 (by decide) ?_
    refine r_aload_n hE dX10_look_104 rfl ?_
    refine t_geti hE f_X10_161 y_I_152_2 dX10_look_105 (hL 152 (by decide)) ?_
    refine r_ireturn hE dX10_look_108 rfl rfl (by decide) (by decide) ?_
    have ec : c = 4 := by rw [nI_toInt (by omega)] at h46; omega
    refine ⟨_, _, rfl, rfl, ⟨smS, k_CI_same smS (hF.1 162 (by decide)) hB hCI⟩, t, c, DS, ht, by omega, rfl, rfl, c_F_G hF, ?_⟩
    unfold k_look
    rw [if_neg (by omega), if_neg (by omega), if_neg (by omega), if_neg (by omega)]
  · refine r_top (y := 0) h46 ?_
    refine r_tsin (tgt := 76) hE dX10_look_46 (by decide) (by decide) rfl (by decide) ?_
    refine r_aload_n hE dX10_look_76 rfl ?_
    refine t_geti hE f_X10_146 y_I_152_0 dX10_look_77 (hL 152 (by decide)) ?_
    refine r_ireturn hE dX10_look_80 rfl rfl (by decide) (by decide) ?_
    have ec : c = 0 := (nI_eq (b := 0) (by omega) (by decide)).mp h46
    refine ⟨_, _, rfl, rfl, ⟨smS, k_CI_same smS (hF.1 162 (by decide)) hB hCI⟩, t, c, DS, ht, by omega, rfl, rfl, c_F_G hF, ?_⟩
    unfold k_look
    rw [if_pos ec]
    exact hF.2.2.1
  · refine r_top (y := 1) h46 ?_
    refine r_tsin (tgt := 81) hE dX10_look_46 (by decide) (by decide) rfl (by decide) ?_
    refine r_aload_n hE dX10_look_81 rfl ?_
    refine t_invv (r := (some (.int (y_ls DS (s_last (c_p (k_rt D t)) (c_a (k_rt D t)) (-1) (k_rm D t)))))) (S2 := (y_mk n L DS)) hE [] (k_litSeconds (D := DS) (k := s_last (c_p (k_rt D t)) (c_a (k_rt D t)) (-1) (k_rm D t)) hL hF.2.2.1 hlast) v_yX6_litSeconds m_X10_149 dX10_look_82 rfl (hL 152 (by decide)) (y_l_152 (DS 152)) rfl (by decide) ⟨by decide, by decide⟩ (Nat.le_of_ble_eq_true rfl) ?_
    show E 2 12 85 [(0, .ref 64), (1, .int (nI t)), (2, .int (nI c)), (3, .ref 152)] [.int (y_ls DS (s_last (c_p (k_rt D t)) (c_a (k_rt D t)) (-1) (k_rm D t)))] (y_mk n L DS)
    refine r_ireturn hE dX10_look_85 rfl rfl (by decide) (by decide) ?_
    have ec : c = 1 := (nI_eq (b := 1) (by omega) (by decide)).mp h46
    refine ⟨_, _, rfl, rfl, ⟨smS, k_CI_same smS (hF.1 162 (by decide)) hB hCI⟩, t, c, DS, ht, by omega, rfl, rfl, c_F_G hF, ?_⟩
    unfold k_look
    rw [if_neg (by omega), if_pos ec]
  · refine r_top (y := 2) h46 ?_
    refine r_tsin (tgt := 86) hE dX10_look_46 (by decide) (by decide) rfl (by decide) ?_
    refine r_aload_n hE dX10_look_86 rfl ?_
    refine t_getr hE f_X10_23 y_R_64_3 dX10_look_87 (hL 64 (by decide)) ?_
    refine t_getr hE f_X10_136 y_R_73_1 dX10_look_90 (hL 73 (by decide)) ?_
    refine r_iload_n hE dX10_look_93 rfl ?_
    refine t_aaldN (e := t) (h2 := r8) hE y_Q_76 (by decide) dX10_look_94 (hL 76 (by decide)) (by have := hB.1.2; omega) (by decide) (by rw [hF.1 76 (by decide), hr8]; exact hRU.1) ?_
    refine t_invv (r := (some (.int (nI (3 * k_rm D t / 3))))) (S2 := (y_mk n L DS)) hE [] (k_lineCount (D := DS) (r := r8) (s := s8) (len := 3 * k_rm D t) hm_r8 (by rw [hr8]; exact hRU.2.2.1) (by rw [e1, hr8]; exact hRU.2.2.2.1) (by rw [e1, hr8, hs8]; exact hRU.2.2.2.2.1) (by rw [hs8]; exact hRU.2.2.2.2.2.1) (by rw [hs8]; exact hRU.2.2.2.2.2.2.1) (by rw [e2, hs8]; exact hRU.2.2.2.2.2.2.2.1) (by rw [e2, hs8]; exact hRU.2.2.2.2.2.2.2.2.1) (by have := hRU.2.2.2.2.2.2.2.2.2.1; omega)) v_yX4_lineCount m_X10_153 dX10_look_95 rfl hm_r8 (y_rule_lay hd_r8 (show ((DS) r8).2.2.2.1 = _ from hk_r8)) rfl (by decide) ⟨by decide, by decide⟩ (Nat.le_of_ble_eq_true rfl) ?_
    show E 2 12 98 [(0, .ref 64), (1, .int (nI t)), (2, .int (nI c)), (3, .ref 152)] [.int (nI (3 * k_rm D t / 3))] (y_mk n L DS)
    refine r_ireturn hE dX10_look_98 rfl rfl (by decide) (by decide) ?_
    have ec : c = 2 := (nI_eq (b := 2) (by omega) (by decide)).mp h46
    refine ⟨_, _, rfl, rfl, ⟨smS, k_CI_same smS (hF.1 162 (by decide)) hB hCI⟩, t, c, DS, ht, by omega, rfl, rfl, c_F_G hF, ?_⟩
    unfold k_look
    rw [if_neg (by omega), if_neg (by omega), if_pos ec, Nat.mul_div_cancel_left _ (by decide)]
  · refine r_top (y := 3) h46 ?_
    refine r_tsin (tgt := 99) hE dX10_look_46 (by decide) (by decide) rfl (by decide) ?_
    refine r_aload_n hE dX10_look_99 rfl ?_
    refine t_geti hE f_X10_158 y_I_152_1 dX10_look_100 (hL 152 (by decide)) ?_
    refine r_ireturn hE dX10_look_103 rfl rfl (by decide) (by decide) ?_
    have ec : c = 3 := (nI_eq (b := 3) (by omega) (by decide)).mp h46
    refine ⟨_, _, rfl, rfl, ⟨smS, k_CI_same smS (hF.1 162 (by decide)) hB hCI⟩, t, c, DS, ht, by omega, rfl, rfl, c_F_G hF, ?_⟩
    unfold k_look
    rw [if_neg (by omega), if_neg (by omega), if_neg (by omega), if_pos ec]
theorem f_with {V : x_E} (hV : y_V V) {n : Nat} {L : List Nat} {D : y_D} (hL : y_ok L) {x y : Int32} (hN : q_ok (D 86).1 2 12 ∧ (D 86).1 0 = nI 5) : y_Fi V yX10_with cX10_with 9 (some .int) 8 2 12 [.ref 64, .int x, .int y] n L D (fun v D2 => D2 = D ∧ ∃ p c, p ≤ 7 ∧ c ≤ 3 ∧ x = nI p ∧ y = nI c ∧ v = c_wth (fun i => decide (y_bit ((D 87).1 (i * 5 + 1)) p)) (fun i => decide ((D 87).1 (i * 5 + 2) ≠ 0)) (q_n (D 86).1 2) c) (fun E9 => (¬ (0 ≤ x ∧ x < 8) ∧ E9 = y_IOB) ∨ (¬ ¬ (0 ≤ x ∧ x < 8) ∧ ¬ (0 ≤ y ∧ y ≤ 3) ∧ E9 = y_NSE)) := by
  refine x_cx (by decide) hV.1 (fun a0 S0 h => by rw [h.1]; exact Nat.le_of_ble_eq_true rfl) (fun a0 S0 h E EX hX => ?_)
  obtain ⟨rfl, rfl⟩ := h
  have hE := hX.x
  change E 0 0 0 [(0, .ref 64), (1, .int x), (2, .int y)] [] (y_mk n L D)
  refine r_iload_n hE dX10_with_0 rfl ?_
  refine r_bipush (v := 8) hE dX10_with_1 (by decide) ?_
  refine t_demandRow hX hV [.int x, .int 8] dX10_with_3 m_X10_125 rfl (by decide) ⟨by decide, by decide⟩ (Nat.le_of_ble_eq_true rfl) (fun c3 => ?_) (fun c3 n2 hn2 => r_out hX ⟨by first | exact Or.inl ⟨c3, rfl⟩ | exact Or.inr ⟨fun z => z c3, c8, rfl⟩, n2, hn2, rfl⟩ (by decide) (by decide))
  show E 1 6 6 [(0, .ref 64), (1, .int x), (2, .int y)] [] (y_mk n L D)
  refine r_iload_n hE dX10_with_6 rfl ?_
  refine r_iconst (v := 3) hE dX10_with_7 (by decide) ?_
  refine t_demandWhat hX hV [.int y, .int 3] dX10_with_8 m_X10_129 rfl (by decide) ⟨by decide, by decide⟩ (Nat.le_of_ble_eq_true rfl) (fun c8 => ?_) (fun c8 n2 hn2 => r_out hX ⟨by first | exact Or.inl ⟨c3, rfl⟩ | exact Or.inr ⟨fun z => z c3, c8, rfl⟩, n2, hn2, rfl⟩ (by decide) (by decide))
  show E 2 12 11 [(0, .ref 64), (1, .int x), (2, .int y)] [] (y_mk n L D)
  obtain ⟨p, hp, rfl⟩ := y_rngR (k := 8) (by decide) c3
  obtain ⟨c, hc, rfl⟩ := y_rng2 (k := 3) (by decide) c8
  refine r_iconst (v := 0) hE dX10_with_11 (by decide) ?_
  refine r_istore_n (ls2 := [(0, .ref 64), (1, .int (nI p)), (2, .int (nI c)), (3, .int 0)]) hE dX10_with_12 (by decide) rfl ?_
  refine r_iconst (v := 0) hE dX10_with_13 (by decide) ?_
  refine r_istore (ls2 := [(0, .ref 64), (1, .int (nI p)), (2, .int (nI c)), (3, .int 0), (4, .int 0)]) hE dX10_with_14 (by decide) rfl ?_
  refine r_iconst (v := 0) hE dX10_with_16 (by decide) ?_
  refine r_istore (ls2 := [(0, .ref 64), (1, .int (nI p)), (2, .int (nI c)), (3, .int 0), (4, .int 0), (5, .int 0)]) hE dX10_with_17 (by decide) rfl ?_
  refine r_iconst (v := 0) hE dX10_with_19 (by decide) ?_
  refine r_istore (ls2 := [(0, .ref 64), (1, .int (nI p)), (2, .int (nI c)), (3, .int 0), (4, .int 0), (5, .int 0), (6, .int 0)]) hE dX10_with_20 (by decide) rfl ?_
  have hn12 : q_n (D 86).1 2 ≤ 12 := hN.1.2
  have l1 : ∀ (i b9 w9 s9 : Nat), i ≤ q_n (D 86).1 2 → b9 = c_cn (fun i => (fun i => decide (y_bit ((D 87).1 (i * 5 + 1)) p)) i && (fun i => decide ((D 87).1 (i * 5 + 2) ≠ 0)) i) i → w9 = c_cn (fun i => decide (y_bit ((D 87).1 (i * 5 + 1)) p)) i → s9 = c_cn (fun i => decide ((D 87).1 (i * 5 + 2) ≠ 0)) i → E 2 12 22 [(0, .ref 64), (1, .int (nI p)), (2, .int (nI c)), (3, .int (nI w9)), (4, .int (nI s9)), (5, .int (nI b9)), (6, .int (nI i))] [] (y_mk n L D) := by
    intro i b9 w9 s9
    induction hm9 : (q_n (D 86).1 2 - i) using Nat.strongRecOn generalizing i b9 w9 s9 with
    | _ m9 ih =>
      intro hi e1 e2 e3
      subst hm9
      refine r_iload hE dX10_with_22 rfl ?_
      refine r_aload_n hE dX10_with_24 rfl ?_
      refine t_getr hE f_X10_23 y_R_64_3 dX10_with_25 (hL 64 (by decide)) ?_
      refine t_getr hE f_X10_225 y_R_73_9 dX10_with_28 (hL 73 (by decide)) ?_
      refine t_geti hE f_X10_176 y_I_86_2 dX10_with_31 (hL 86 (by decide)) ?_
      refine r_top (y := (nI (q_n (D 86).1 2))) hN.1.1 ?_
      refine r_icmp_geN (a := i) (b := q_n (D 86).1 2) (tgt := 133) hE dX10_with_34 (by decide) (by omega) (by omega) (fun c34 => ?_) (fun c34 => ?_)
      · refine r_iload_n hE dX10_with_133 rfl ?_
        rcases k_sw02 (nI c) with ⟨h134, e134⟩ | ⟨h134, e134⟩ | ⟨h134, e134⟩ | ⟨h134, e134⟩
        · refine r_tsout (tgt := 168) hE dX10_with_134 h134 (by decide) ?_
          have hb1 : b9 ≤ s9 := by rw [e1, e3]; exact c_cn_and
          have hs1 : s9 ≤ q_n (D 86).1 2 := by rw [e3, show i = q_n (D 86).1 2 by omega]; exact c_cn_le
          have hw1 : w9 ≤ 12 := by rw [e2, show i = q_n (D 86).1 2 by omega]; exact Nat.le_trans c_cn_le hn12
          refine r_aload_n hE dX10_with_168 rfl ?_
          refine r_iload hE dX10_with_169 rfl ?_
          refine r_iload_n hE dX10_with_171 rfl ?_
          refine r_iload hE dX10_with_172 rfl ?_
          refine t_invv (r := (some (.int (c_ws s9 w9 (q_n (D 86).1 2) b9 (s9 + 1 - b9))))) (S2 := (y_mk n L D)) hE [.int (nI b9), .int (nI w9), .int (nI s9)] (k_choicesWithAtLeast (D := D) hL hN.1 hb1 hs1 hw1) v_yX10_choicesWithAtLeast m_X10_249 dX10_with_174 rfl (hL 64 (by decide)) (y_l_64 (D 64)) rfl (by decide) ⟨by decide, by decide⟩ (Nat.le_of_ble_eq_true rfl) ?_
          show E 2 12 177 [(0, .ref 64), (1, .int (nI p)), (2, .int (nI c)), (3, .int (nI w9)), (4, .int (nI s9)), (5, .int (nI b9)), (6, .int (nI i))] [.int (c_ws s9 w9 (q_n (D 86).1 2) b9 (s9 + 1 - b9))] (y_mk n L D)
          refine r_ireturn hE dX10_with_177 rfl rfl (by decide) (by decide) ?_
          have ec : c = 3 := by rw [nI_toInt (by omega)] at h134; omega
          refine ⟨_, _, rfl, rfl, rfl, p, c, by omega, by omega, rfl, rfl, ?_⟩
          unfold c_wth
          rw [show i = q_n (D 86).1 2 by omega] at e1 e2 e3
          rw [if_neg (by omega), if_neg (by omega), if_neg (by omega), ← e1, ← e2, ← e3]
        · refine r_top (y := 0) h134 ?_
          refine r_tsin (tgt := 160) hE dX10_with_134 (by decide) (by decide) rfl (by decide) ?_
          refine r_iload hE dX10_with_160 rfl ?_
          refine r_ireturn hE dX10_with_162 rfl rfl (by decide) (by decide) ?_
          have ec : c = 0 := (nI_eq (b := 0) (by omega) (by decide)).mp h134
          refine ⟨_, _, rfl, rfl, rfl, p, c, by omega, by omega, rfl, rfl, ?_⟩
          unfold c_wth
          rw [show i = q_n (D 86).1 2 by omega] at e1 e2 e3
          rw [if_pos ec, e1]
        · refine r_top (y := 1) h134 ?_
          refine r_tsin (tgt := 163) hE dX10_with_134 (by decide) (by decide) rfl (by decide) ?_
          refine r_iload_n hE dX10_with_163 rfl ?_
          refine r_ireturn hE dX10_with_164 rfl rfl (by decide) (by decide) ?_
          have ec : c = 1 := (nI_eq (b := 1) (by omega) (by decide)).mp h134
          refine ⟨_, _, rfl, rfl, rfl, p, c, by omega, by omega, rfl, rfl, ?_⟩
          unfold c_wth
          rw [show i = q_n (D 86).1 2 by omega] at e1 e2 e3
          rw [if_neg (by omega), if_pos ec, e2]
        · refine r_top (y := 2) h134 ?_
          refine r_tsin (tgt := 165) hE dX10_with_134 (by decide) (by decide) rfl (by decide) ?_
          refine r_iload hE dX10_with_165 rfl ?_
          refine r_ireturn hE dX10_with_167 rfl rfl (by decide) (by decide) ?_
          have ec : c = 2 := (nI_eq (b := 2) (by omega) (by decide)).mp h134
          refine ⟨_, _, rfl, rfl, rfl, p, c, by omega, by omega, rfl, rfl, ?_⟩
          unfold c_wth
          rw [show i = q_n (D 86).1 2 by omega] at e1 e2 e3
          rw [if_neg (by omega), if_neg (by omega), if_pos ec, e3]
      · refine r_aload_n hE dX10_with_37 rfl ?_
        refine t_getr hE f_X10_23 y_R_64_3 dX10_with_38 (hL 64 (by decide)) ?_
        refine t_getr hE f_X10_225 y_R_73_9 dX10_with_41 (hL 73 (by decide)) ?_
        refine r_iload hE dX10_with_44 rfl ?_
        refine r_iconst (v := 1) hE dX10_with_46 (by decide) ?_
        refine t_invv (r := (some (.int (if i < q_n (D 86).1 2 ∧ 1 < 5 then (D 87).1 (i * 5 + 1) else 0)))) (S2 := (y_mk n L D)) hE [.int (nI i), .int 1] (k_get (D := D) (k := q_n (D 86).1 2) (wd := 5) (r := i) (c := 1) y_T_86 (hL 86 (by decide)) (hL 87 (by decide)) hN.1.1 hN.2 (by omega) (by decide) (by decide) (by omega) (by decide) (by omega)) v_yX7_get m_X10_246 dX10_with_47 rfl (hL 86 (by decide)) (y_l_86 (D 86)) rfl (by decide) ⟨by decide, by decide⟩ (Nat.le_of_ble_eq_true rfl) ?_
        show E 2 12 50 [(0, .ref 64), (1, .int (nI p)), (2, .int (nI c)), (3, .int (nI w9)), (4, .int (nI s9)), (5, .int (nI b9)), (6, .int (nI i))] [.int (if i < q_n (D 86).1 2 ∧ 1 < 5 then (D 87).1 (i * 5 + 1) else 0)] (y_mk n L D)
        refine r_top (y := ((D 87).1 (i * 5 + 1))) (if_pos ⟨by omega, by decide⟩) ?_
        refine r_iload_n hE dX10_with_50 rfl ?_
        refine t_invs (r := (some (.int (y_b (y_bit ((D 87).1 (i * 5 + 1)) p))))) (S2 := (y_mk n L D)) hE [.int ((D 87).1 (i * 5 + 1)), .int (nI p)] (k_hasBit (c := p)) s_yX10_hasBit m_X10_172 dX10_with_51 rfl (by decide) ⟨by decide, by decide⟩ (Nat.le_of_ble_eq_true rfl) ?_
        show E 2 12 54 [(0, .ref 64), (1, .int (nI p)), (2, .int (nI c)), (3, .int (nI w9)), (4, .int (nI s9)), (5, .int (nI b9)), (6, .int (nI i))] [.int (y_b (y_bit ((D 87).1 (i * 5 + 1)) p))] (y_mk n L D)
        refine r_istore (ls2 := [(0, .ref 64), (1, .int (nI p)), (2, .int (nI c)), (3, .int (nI w9)), (4, .int (nI s9)), (5, .int (nI b9)), (6, .int (nI i)), (7, .int (y_b (y_bit ((D 87).1 (i * 5 + 1)) p)))]) hE dX10_with_54 (by decide) rfl ?_
        refine r_aload_n hE dX10_with_56 rfl ?_
        refine t_getr hE f_X10_23 y_R_64_3 dX10_with_57 (hL 64 (by decide)) ?_
        refine t_getr hE f_X10_225 y_R_73_9 dX10_with_60 (hL 73 (by decide)) ?_
        refine r_iload hE dX10_with_63 rfl ?_
        refine r_iconst (v := 2) hE dX10_with_65 (by decide) ?_
        refine t_invv (r := (some (.int (if i < q_n (D 86).1 2 ∧ 2 < 5 then (D 87).1 (i * 5 + 2) else 0)))) (S2 := (y_mk n L D)) hE [.int (nI i), .int 2] (k_get (D := D) (k := q_n (D 86).1 2) (wd := 5) (r := i) (c := 2) y_T_86 (hL 86 (by decide)) (hL 87 (by decide)) hN.1.1 hN.2 (by omega) (by decide) (by decide) (by omega) (by decide) (by omega)) v_yX7_get m_X10_246 dX10_with_66 rfl (hL 86 (by decide)) (y_l_86 (D 86)) rfl (by decide) ⟨by decide, by decide⟩ (Nat.le_of_ble_eq_true rfl) ?_
        show E 2 12 69 [(0, .ref 64), (1, .int (nI p)), (2, .int (nI c)), (3, .int (nI w9)), (4, .int (nI s9)), (5, .int (nI b9)), (6, .int (nI i)), (7, .int (y_b (y_bit ((D 87).1 (i * 5 + 1)) p)))] [.int (if i < q_n (D 86).1 2 ∧ 2 < 5 then (D 87).1 (i * 5 + 2) else 0)] (y_mk n L D)
        refine r_top (y := ((D 87).1 (i * 5 + 2))) (if_pos ⟨by omega, by decide⟩) ?_
        refine r_if_eq (tgt := 76) hE dX10_with_69 (by decide) (fun c69 => ?_) (fun c69 => ?_)
        · refine r_iconst (v := 0) hE dX10_with_76 (by decide) ?_
          refine r_istore (ls2 := [(0, .ref 64), (1, .int (nI p)), (2, .int (nI c)), (3, .int (nI w9)), (4, .int (nI s9)), (5, .int (nI b9)), (6, .int (nI i)), (7, .int (y_b (y_bit ((D 87).1 (i * 5 + 1)) p))), (8, .int 0)]) hE dX10_with_77 (by decide) rfl ?_
          refine r_iload_n hE dX10_with_79 rfl ?_
          refine r_iload hE dX10_with_80 rfl ?_
          refine r_ifb_eq (tgt := 89) hE dX10_with_82 (by decide) (fun c82 => ?_) (fun c82 => ?_)
          · refine r_iconst (v := 0) hE dX10_with_89 (by decide) ?_
            refine r_iaddN (a := w9) (b := 0) hE dX10_with_90 ?_
            refine r_istore_n (ls2 := [(0, .ref 64), (1, .int (nI p)), (2, .int (nI c)), (3, .int (nI (w9 + 0))), (4, .int (nI s9)), (5, .int (nI b9)), (6, .int (nI i)), (7, .int (y_b (y_bit ((D 87).1 (i * 5 + 1)) p))), (8, .int 0)]) hE dX10_with_91 (by decide) rfl ?_
            refine r_iload hE dX10_with_92 rfl ?_
            refine r_iload hE dX10_with_94 rfl ?_
            refine r_if_eq (tgt := 103) hE dX10_with_96 (by decide) (fun _ => ?_) (fun c96 => by first | exact absurd c96 (by decide) | exact absurd (by decide) c96)
            refine r_iconst (v := 0) hE dX10_with_103 (by decide) ?_
            refine r_iaddN (a := s9) (b := 0) hE dX10_with_104 ?_
            refine r_istore (ls2 := [(0, .ref 64), (1, .int (nI p)), (2, .int (nI c)), (3, .int (nI (w9 + 0))), (4, .int (nI (s9 + 0))), (5, .int (nI b9)), (6, .int (nI i)), (7, .int (y_b (y_bit ((D 87).1 (i * 5 + 1)) p))), (8, .int 0)]) hE dX10_with_105 (by decide) rfl ?_
            refine r_iload hE dX10_with_107 rfl ?_
            refine r_iload hE dX10_with_109 rfl ?_
            refine r_ifb_eq (tgt := 123) hE dX10_with_111 (by decide) (fun c111 => ?_) (fun c111 => ?_)
            · refine r_iconst (v := 0) hE dX10_with_123 (by decide) ?_
              refine r_iaddN (a := b9) (b := 0) hE dX10_with_124 ?_
              refine r_istore (ls2 := [(0, .ref 64), (1, .int (nI p)), (2, .int (nI c)), (3, .int (nI (w9 + 0))), (4, .int (nI (s9 + 0))), (5, .int (nI (b9 + 0))), (6, .int (nI i)), (7, .int (y_b (y_bit ((D 87).1 (i * 5 + 1)) p))), (8, .int 0)]) hE dX10_with_125 (by decide) rfl ?_
              refine r_iincN (a := i) (b := 1) (ls2 := [(0, .ref 64), (1, .int (nI p)), (2, .int (nI c)), (3, .int (nI (w9 + 0))), (4, .int (nI (s9 + 0))), (5, .int (nI (b9 + 0))), (6, .int (nI (i + 1))), (7, .int (y_b (y_bit ((D 87).1 (i * 5 + 1)) p))), (8, .int 0)]) hE dX10_with_127 rfl rfl (by decide) rfl ?_
              refine r_goto (tgt := 22) hE dX10_with_130 (by decide) ?_
              have hw9 : ¬ (fun i => decide (y_bit ((D 87).1 (i * 5 + 1)) p)) i = true := fun q => c82 (of_decide_eq_true q)
              have hs9 : ¬ (fun i => decide ((D 87).1 (i * 5 + 2) ≠ 0)) i = true := fun q => of_decide_eq_true q c69
              have hb9 : ¬ (fun i => (fun i => decide (y_bit ((D 87).1 (i * 5 + 1)) p)) i && (fun i => decide ((D 87).1 (i * 5 + 2) ≠ 0)) i) i = true := fun q => hw9 (Bool.and_eq_true_iff.mp q).1
              refine r_locs hE (ls2 := [(0, .ref 64), (1, .int (nI p)), (2, .int (nI c)), (3, .int (nI (w9 + 0))), (4, .int (nI (s9 + 0))), (5, .int (nI (b9 + 0))), (6, .int (nI (i + 1)))]) ?_ (ih (q_n (D 86).1 2 - (i + 1)) (by omega) (i + 1) _ _ _ rfl (by omega) (by rw [c_cn_n hb9, ← e1]; rfl) (by rw [c_cn_n hw9, ← e2]; rfl) (by rw [c_cn_n hs9, ← e3]; rfl))
              simp [x_lk]
            · refine r_iload hE dX10_with_114 rfl ?_
              refine r_if_eq (tgt := 123) hE dX10_with_116 (by decide) (fun _ => ?_) (fun c116 => by first | exact absurd c116 (by decide) | exact absurd (by decide) c116)
              refine r_iconst (v := 0) hE dX10_with_123 (by decide) ?_
              refine r_iaddN (a := b9) (b := 0) hE dX10_with_124 ?_
              refine r_istore (ls2 := [(0, .ref 64), (1, .int (nI p)), (2, .int (nI c)), (3, .int (nI (w9 + 0))), (4, .int (nI (s9 + 0))), (5, .int (nI (b9 + 0))), (6, .int (nI i)), (7, .int (y_b (y_bit ((D 87).1 (i * 5 + 1)) p))), (8, .int 0)]) hE dX10_with_125 (by decide) rfl ?_
              refine r_iincN (a := i) (b := 1) (ls2 := [(0, .ref 64), (1, .int (nI p)), (2, .int (nI c)), (3, .int (nI (w9 + 0))), (4, .int (nI (s9 + 0))), (5, .int (nI (b9 + 0))), (6, .int (nI (i + 1))), (7, .int (y_b (y_bit ((D 87).1 (i * 5 + 1)) p))), (8, .int 0)]) hE dX10_with_127 rfl rfl (by decide) rfl ?_
              refine r_goto (tgt := 22) hE dX10_with_130 (by decide) ?_
              have hw9 : ¬ (fun i => decide (y_bit ((D 87).1 (i * 5 + 1)) p)) i = true := fun q => c82 (of_decide_eq_true q)
              have hs9 : ¬ (fun i => decide ((D 87).1 (i * 5 + 2) ≠ 0)) i = true := fun q => of_decide_eq_true q c69
              have hb9 : ¬ (fun i => (fun i => decide (y_bit ((D 87).1 (i * 5 + 1)) p)) i && (fun i => decide ((D 87).1 (i * 5 + 2) ≠ 0)) i) i = true := fun q => hw9 (Bool.and_eq_true_iff.mp q).1
              refine r_locs hE (ls2 := [(0, .ref 64), (1, .int (nI p)), (2, .int (nI c)), (3, .int (nI (w9 + 0))), (4, .int (nI (s9 + 0))), (5, .int (nI (b9 + 0))), (6, .int (nI (i + 1)))]) ?_ (ih (q_n (D 86).1 2 - (i + 1)) (by omega) (i + 1) _ _ _ rfl (by omega) (by rw [c_cn_n hb9, ← e1]; rfl) (by rw [c_cn_n hw9, ← e2]; rfl) (by rw [c_cn_n hs9, ← e3]; rfl))
              simp [x_lk]
          · refine r_iconst (v := 1) hE dX10_with_85 (by decide) ?_
            refine r_goto (tgt := 90) hE dX10_with_86 (by decide) ?_
            refine r_iaddN (a := w9) (b := 1) hE dX10_with_90 ?_
            refine r_istore_n (ls2 := [(0, .ref 64), (1, .int (nI p)), (2, .int (nI c)), (3, .int (nI (w9 + 1))), (4, .int (nI s9)), (5, .int (nI b9)), (6, .int (nI i)), (7, .int (y_b (y_bit ((D 87).1 (i * 5 + 1)) p))), (8, .int 0)]) hE dX10_with_91 (by decide) rfl ?_
            refine r_iload hE dX10_with_92 rfl ?_
            refine r_iload hE dX10_with_94 rfl ?_
            refine r_if_eq (tgt := 103) hE dX10_with_96 (by decide) (fun _ => ?_) (fun c96 => by first | exact absurd c96 (by decide) | exact absurd (by decide) c96)
            refine r_iconst (v := 0) hE dX10_with_103 (by decide) ?_
            refine r_iaddN (a := s9) (b := 0) hE dX10_with_104 ?_
            refine r_istore (ls2 := [(0, .ref 64), (1, .int (nI p)), (2, .int (nI c)), (3, .int (nI (w9 + 1))), (4, .int (nI (s9 + 0))), (5, .int (nI b9)), (6, .int (nI i)), (7, .int (y_b (y_bit ((D 87).1 (i * 5 + 1)) p))), (8, .int 0)]) hE dX10_with_105 (by decide) rfl ?_
            refine r_iload hE dX10_with_107 rfl ?_
            refine r_iload hE dX10_with_109 rfl ?_
            refine r_ifb_eq (tgt := 123) hE dX10_with_111 (by decide) (fun c111 => ?_) (fun c111 => ?_)
            · refine r_iconst (v := 0) hE dX10_with_123 (by decide) ?_
              refine r_iaddN (a := b9) (b := 0) hE dX10_with_124 ?_
              refine r_istore (ls2 := [(0, .ref 64), (1, .int (nI p)), (2, .int (nI c)), (3, .int (nI (w9 + 1))), (4, .int (nI (s9 + 0))), (5, .int (nI (b9 + 0))), (6, .int (nI i)), (7, .int (y_b (y_bit ((D 87).1 (i * 5 + 1)) p))), (8, .int 0)]) hE dX10_with_125 (by decide) rfl ?_
              refine r_iincN (a := i) (b := 1) (ls2 := [(0, .ref 64), (1, .int (nI p)), (2, .int (nI c)), (3, .int (nI (w9 + 1))), (4, .int (nI (s9 + 0))), (5, .int (nI (b9 + 0))), (6, .int (nI (i + 1))), (7, .int (y_b (y_bit ((D 87).1 (i * 5 + 1)) p))), (8, .int 0)]) hE dX10_with_127 rfl rfl (by decide) rfl ?_
              refine r_goto (tgt := 22) hE dX10_with_130 (by decide) ?_
              have hw9 : (fun i => decide (y_bit ((D 87).1 (i * 5 + 1)) p)) i = true := decide_eq_true (by first | exact c82 | grind)
              have hs9 : ¬ (fun i => decide ((D 87).1 (i * 5 + 2) ≠ 0)) i = true := fun q => of_decide_eq_true q c69
              have hb9 : ¬ (fun i => (fun i => decide (y_bit ((D 87).1 (i * 5 + 1)) p)) i && (fun i => decide ((D 87).1 (i * 5 + 2) ≠ 0)) i) i = true := fun q => hs9 (Bool.and_eq_true_iff.mp q).2
              refine r_locs hE (ls2 := [(0, .ref 64), (1, .int (nI p)), (2, .int (nI c)), (3, .int (nI (w9 + 1))), (4, .int (nI (s9 + 0))), (5, .int (nI (b9 + 0))), (6, .int (nI (i + 1)))]) ?_ (ih (q_n (D 86).1 2 - (i + 1)) (by omega) (i + 1) _ _ _ rfl (by omega) (by rw [c_cn_n hb9, ← e1]; rfl) (by rw [c_cn_y hw9, ← e2]) (by rw [c_cn_n hs9, ← e3]; rfl))
              simp [x_lk]
            · refine r_iload hE dX10_with_114 rfl ?_
              refine r_if_eq (tgt := 123) hE dX10_with_116 (by decide) (fun _ => ?_) (fun c116 => by first | exact absurd c116 (by decide) | exact absurd (by decide) c116)
              refine r_iconst (v := 0) hE dX10_with_123 (by decide) ?_
              refine r_iaddN (a := b9) (b := 0) hE dX10_with_124 ?_
              refine r_istore (ls2 := [(0, .ref 64), (1, .int (nI p)), (2, .int (nI c)), (3, .int (nI (w9 + 1))), (4, .int (nI (s9 + 0))), (5, .int (nI (b9 + 0))), (6, .int (nI i)), (7, .int (y_b (y_bit ((D 87).1 (i * 5 + 1)) p))), (8, .int 0)]) hE dX10_with_125 (by decide) rfl ?_
              refine r_iincN (a := i) (b := 1) (ls2 := [(0, .ref 64), (1, .int (nI p)), (2, .int (nI c)), (3, .int (nI (w9 + 1))), (4, .int (nI (s9 + 0))), (5, .int (nI (b9 + 0))), (6, .int (nI (i + 1))), (7, .int (y_b (y_bit ((D 87).1 (i * 5 + 1)) p))), (8, .int 0)]) hE dX10_with_127 rfl rfl (by decide) rfl ?_
              refine r_goto (tgt := 22) hE dX10_with_130 (by decide) ?_
              have hw9 : (fun i => decide (y_bit ((D 87).1 (i * 5 + 1)) p)) i = true := decide_eq_true (by first | exact c82 | grind)
              have hs9 : ¬ (fun i => decide ((D 87).1 (i * 5 + 2) ≠ 0)) i = true := fun q => of_decide_eq_true q c69
              have hb9 : ¬ (fun i => (fun i => decide (y_bit ((D 87).1 (i * 5 + 1)) p)) i && (fun i => decide ((D 87).1 (i * 5 + 2) ≠ 0)) i) i = true := fun q => hs9 (Bool.and_eq_true_iff.mp q).2
              refine r_locs hE (ls2 := [(0, .ref 64), (1, .int (nI p)), (2, .int (nI c)), (3, .int (nI (w9 + 1))), (4, .int (nI (s9 + 0))), (5, .int (nI (b9 + 0))), (6, .int (nI (i + 1)))]) ?_ (ih (q_n (D 86).1 2 - (i + 1)) (by omega) (i + 1) _ _ _ rfl (by omega) (by rw [c_cn_n hb9, ← e1]; rfl) (by rw [c_cn_y hw9, ← e2]) (by rw [c_cn_n hs9, ← e3]; rfl))
              simp [x_lk]
        · refine r_iconst (v := 1) hE dX10_with_72 (by decide) ?_
          refine r_goto (tgt := 77) hE dX10_with_73 (by decide) ?_
          refine r_istore (ls2 := [(0, .ref 64), (1, .int (nI p)), (2, .int (nI c)), (3, .int (nI w9)), (4, .int (nI s9)), (5, .int (nI b9)), (6, .int (nI i)), (7, .int (y_b (y_bit ((D 87).1 (i * 5 + 1)) p))), (8, .int 1)]) hE dX10_with_77 (by decide) rfl ?_
          refine r_iload_n hE dX10_with_79 rfl ?_
          refine r_iload hE dX10_with_80 rfl ?_
          refine r_ifb_eq (tgt := 89) hE dX10_with_82 (by decide) (fun c82 => ?_) (fun c82 => ?_)
          · refine r_iconst (v := 0) hE dX10_with_89 (by decide) ?_
            refine r_iaddN (a := w9) (b := 0) hE dX10_with_90 ?_
            refine r_istore_n (ls2 := [(0, .ref 64), (1, .int (nI p)), (2, .int (nI c)), (3, .int (nI (w9 + 0))), (4, .int (nI s9)), (5, .int (nI b9)), (6, .int (nI i)), (7, .int (y_b (y_bit ((D 87).1 (i * 5 + 1)) p))), (8, .int 1)]) hE dX10_with_91 (by decide) rfl ?_
            refine r_iload hE dX10_with_92 rfl ?_
            refine r_iload hE dX10_with_94 rfl ?_
            refine r_if_eq (tgt := 103) hE dX10_with_96 (by decide) (fun c96 => by first | exact absurd c96 (by decide) | exact absurd (by decide) c96) (fun _ => ?_)
            refine r_iconst (v := 1) hE dX10_with_99 (by decide) ?_
            refine r_goto (tgt := 104) hE dX10_with_100 (by decide) ?_
            refine r_iaddN (a := s9) (b := 1) hE dX10_with_104 ?_
            refine r_istore (ls2 := [(0, .ref 64), (1, .int (nI p)), (2, .int (nI c)), (3, .int (nI (w9 + 0))), (4, .int (nI (s9 + 1))), (5, .int (nI b9)), (6, .int (nI i)), (7, .int (y_b (y_bit ((D 87).1 (i * 5 + 1)) p))), (8, .int 1)]) hE dX10_with_105 (by decide) rfl ?_
            refine r_iload hE dX10_with_107 rfl ?_
            refine r_iload hE dX10_with_109 rfl ?_
            refine r_ifb_eq (tgt := 123) hE dX10_with_111 (by decide) (fun c111 => ?_) (fun c111 => ?_)
            · refine r_iconst (v := 0) hE dX10_with_123 (by decide) ?_
              refine r_iaddN (a := b9) (b := 0) hE dX10_with_124 ?_
              refine r_istore (ls2 := [(0, .ref 64), (1, .int (nI p)), (2, .int (nI c)), (3, .int (nI (w9 + 0))), (4, .int (nI (s9 + 1))), (5, .int (nI (b9 + 0))), (6, .int (nI i)), (7, .int (y_b (y_bit ((D 87).1 (i * 5 + 1)) p))), (8, .int 1)]) hE dX10_with_125 (by decide) rfl ?_
              refine r_iincN (a := i) (b := 1) (ls2 := [(0, .ref 64), (1, .int (nI p)), (2, .int (nI c)), (3, .int (nI (w9 + 0))), (4, .int (nI (s9 + 1))), (5, .int (nI (b9 + 0))), (6, .int (nI (i + 1))), (7, .int (y_b (y_bit ((D 87).1 (i * 5 + 1)) p))), (8, .int 1)]) hE dX10_with_127 rfl rfl (by decide) rfl ?_
              refine r_goto (tgt := 22) hE dX10_with_130 (by decide) ?_
              have hw9 : ¬ (fun i => decide (y_bit ((D 87).1 (i * 5 + 1)) p)) i = true := fun q => c82 (of_decide_eq_true q)
              have hs9 : (fun i => decide ((D 87).1 (i * 5 + 2) ≠ 0)) i = true := decide_eq_true c69
              have hb9 : ¬ (fun i => (fun i => decide (y_bit ((D 87).1 (i * 5 + 1)) p)) i && (fun i => decide ((D 87).1 (i * 5 + 2) ≠ 0)) i) i = true := fun q => hw9 (Bool.and_eq_true_iff.mp q).1
              refine r_locs hE (ls2 := [(0, .ref 64), (1, .int (nI p)), (2, .int (nI c)), (3, .int (nI (w9 + 0))), (4, .int (nI (s9 + 1))), (5, .int (nI (b9 + 0))), (6, .int (nI (i + 1)))]) ?_ (ih (q_n (D 86).1 2 - (i + 1)) (by omega) (i + 1) _ _ _ rfl (by omega) (by rw [c_cn_n hb9, ← e1]; rfl) (by rw [c_cn_n hw9, ← e2]; rfl) (by rw [c_cn_y hs9, ← e3]))
              simp [x_lk]
            · refine r_iload hE dX10_with_114 rfl ?_
              refine r_if_eq (tgt := 123) hE dX10_with_116 (by decide) (fun c116 => by first | exact absurd c116 (by decide) | exact absurd (by decide) c116) (fun _ => ?_)
              refine r_iconst (v := 1) hE dX10_with_119 (by decide) ?_
              refine r_goto (tgt := 124) hE dX10_with_120 (by decide) ?_
              refine r_iaddN (a := b9) (b := 1) hE dX10_with_124 ?_
              refine r_istore (ls2 := [(0, .ref 64), (1, .int (nI p)), (2, .int (nI c)), (3, .int (nI (w9 + 0))), (4, .int (nI (s9 + 1))), (5, .int (nI (b9 + 1))), (6, .int (nI i)), (7, .int (y_b (y_bit ((D 87).1 (i * 5 + 1)) p))), (8, .int 1)]) hE dX10_with_125 (by decide) rfl ?_
              refine r_iincN (a := i) (b := 1) (ls2 := [(0, .ref 64), (1, .int (nI p)), (2, .int (nI c)), (3, .int (nI (w9 + 0))), (4, .int (nI (s9 + 1))), (5, .int (nI (b9 + 1))), (6, .int (nI (i + 1))), (7, .int (y_b (y_bit ((D 87).1 (i * 5 + 1)) p))), (8, .int 1)]) hE dX10_with_127 rfl rfl (by decide) rfl ?_
              refine r_goto (tgt := 22) hE dX10_with_130 (by decide) ?_
              first | exact absurd c111 c82 | exact absurd c82 c111
          · refine r_iconst (v := 1) hE dX10_with_85 (by decide) ?_
            refine r_goto (tgt := 90) hE dX10_with_86 (by decide) ?_
            refine r_iaddN (a := w9) (b := 1) hE dX10_with_90 ?_
            refine r_istore_n (ls2 := [(0, .ref 64), (1, .int (nI p)), (2, .int (nI c)), (3, .int (nI (w9 + 1))), (4, .int (nI s9)), (5, .int (nI b9)), (6, .int (nI i)), (7, .int (y_b (y_bit ((D 87).1 (i * 5 + 1)) p))), (8, .int 1)]) hE dX10_with_91 (by decide) rfl ?_
            refine r_iload hE dX10_with_92 rfl ?_
            refine r_iload hE dX10_with_94 rfl ?_
            refine r_if_eq (tgt := 103) hE dX10_with_96 (by decide) (fun c96 => by first | exact absurd c96 (by decide) | exact absurd (by decide) c96) (fun _ => ?_)
            refine r_iconst (v := 1) hE dX10_with_99 (by decide) ?_
            refine r_goto (tgt := 104) hE dX10_with_100 (by decide) ?_
            refine r_iaddN (a := s9) (b := 1) hE dX10_with_104 ?_
            refine r_istore (ls2 := [(0, .ref 64), (1, .int (nI p)), (2, .int (nI c)), (3, .int (nI (w9 + 1))), (4, .int (nI (s9 + 1))), (5, .int (nI b9)), (6, .int (nI i)), (7, .int (y_b (y_bit ((D 87).1 (i * 5 + 1)) p))), (8, .int 1)]) hE dX10_with_105 (by decide) rfl ?_
            refine r_iload hE dX10_with_107 rfl ?_
            refine r_iload hE dX10_with_109 rfl ?_
            refine r_ifb_eq (tgt := 123) hE dX10_with_111 (by decide) (fun c111 => ?_) (fun c111 => ?_)
            · refine r_iconst (v := 0) hE dX10_with_123 (by decide) ?_
              refine r_iaddN (a := b9) (b := 0) hE dX10_with_124 ?_
              refine r_istore (ls2 := [(0, .ref 64), (1, .int (nI p)), (2, .int (nI c)), (3, .int (nI (w9 + 1))), (4, .int (nI (s9 + 1))), (5, .int (nI (b9 + 0))), (6, .int (nI i)), (7, .int (y_b (y_bit ((D 87).1 (i * 5 + 1)) p))), (8, .int 1)]) hE dX10_with_125 (by decide) rfl ?_
              refine r_iincN (a := i) (b := 1) (ls2 := [(0, .ref 64), (1, .int (nI p)), (2, .int (nI c)), (3, .int (nI (w9 + 1))), (4, .int (nI (s9 + 1))), (5, .int (nI (b9 + 0))), (6, .int (nI (i + 1))), (7, .int (y_b (y_bit ((D 87).1 (i * 5 + 1)) p))), (8, .int 1)]) hE dX10_with_127 rfl rfl (by decide) rfl ?_
              refine r_goto (tgt := 22) hE dX10_with_130 (by decide) ?_
              first | exact absurd c111 c82 | exact absurd c82 c111
            · refine r_iload hE dX10_with_114 rfl ?_
              refine r_if_eq (tgt := 123) hE dX10_with_116 (by decide) (fun c116 => by first | exact absurd c116 (by decide) | exact absurd (by decide) c116) (fun _ => ?_)
              refine r_iconst (v := 1) hE dX10_with_119 (by decide) ?_
              refine r_goto (tgt := 124) hE dX10_with_120 (by decide) ?_
              refine r_iaddN (a := b9) (b := 1) hE dX10_with_124 ?_
              refine r_istore (ls2 := [(0, .ref 64), (1, .int (nI p)), (2, .int (nI c)), (3, .int (nI (w9 + 1))), (4, .int (nI (s9 + 1))), (5, .int (nI (b9 + 1))), (6, .int (nI i)), (7, .int (y_b (y_bit ((D 87).1 (i * 5 + 1)) p))), (8, .int 1)]) hE dX10_with_125 (by decide) rfl ?_
              refine r_iincN (a := i) (b := 1) (ls2 := [(0, .ref 64), (1, .int (nI p)), (2, .int (nI c)), (3, .int (nI (w9 + 1))), (4, .int (nI (s9 + 1))), (5, .int (nI (b9 + 1))), (6, .int (nI (i + 1))), (7, .int (y_b (y_bit ((D 87).1 (i * 5 + 1)) p))), (8, .int 1)]) hE dX10_with_127 rfl rfl (by decide) rfl ?_
              refine r_goto (tgt := 22) hE dX10_with_130 (by decide) ?_
              have hw9 : (fun i => decide (y_bit ((D 87).1 (i * 5 + 1)) p)) i = true := decide_eq_true (by first | exact c82 | grind)
              have hs9 : (fun i => decide ((D 87).1 (i * 5 + 2) ≠ 0)) i = true := decide_eq_true c69
              have hb9 : (fun i => (fun i => decide (y_bit ((D 87).1 (i * 5 + 1)) p)) i && (fun i => decide ((D 87).1 (i * 5 + 2) ≠ 0)) i) i = true := by show ((fun i => decide (y_bit ((D 87).1 (i * 5 + 1)) p)) i && (fun i => decide ((D 87).1 (i * 5 + 2) ≠ 0)) i) = true; rw [hw9, hs9]; rfl
              refine r_locs hE (ls2 := [(0, .ref 64), (1, .int (nI p)), (2, .int (nI c)), (3, .int (nI (w9 + 1))), (4, .int (nI (s9 + 1))), (5, .int (nI (b9 + 1))), (6, .int (nI (i + 1)))]) ?_ (ih (q_n (D 86).1 2 - (i + 1)) (by omega) (i + 1) _ _ _ rfl (by omega) (by rw [c_cn_y hb9, ← e1]) (by rw [c_cn_y hw9, ← e2]) (by rw [c_cn_y hs9, ← e3]))
              simp [x_lk]
  refine r_locs hE (ls2 := [(0, .ref 64), (1, .int (nI p)), (2, .int (nI c)), (3, .int (nI 0)), (4, .int (nI 0)), (5, .int (nI 0)), (6, .int (nI 0))]) ?_ (l1 0 0 0 0 (by omega) rfl rfl rfl)
  simp [x_lk, nI_0]

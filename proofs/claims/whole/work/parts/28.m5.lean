theorem f_night {V : x_E} (hV : y_V V) {n : Nat} {L : List Nat} {D : y_D} (hL : y_ok L) {p q r s t : Int32} {k : Nat} (hs : (D 86).1 2 = nI k) (hw : (D 86).1 0 = nI 5) (hk : k ≤ 12) {kt kp : Nat} (ht : (D 78).1 2 = nI kt) (hkt : kt ≤ 6) (hp : (D 82).1 2 = nI kp) (hkp : kp ≤ 4) : y_Fi V yX10_night cX10_night 6 (some .int) 8 4 24 [.ref 64, .int p, .int q, .int r, .int s, .int t] n L D (fun v D2 => ((0 ≤ p ∧ p < (D 73).1 2) ∧ ((q &&& ((nI (2 ^ 8) - 1) ^^^ (-1)) = 0) ∧ (r &&& ((nI (2 ^ kt) - 1) ^^^ (-1)) = 0)) ∧ ((s &&& ((nI (2 ^ kp) - 1) ^^^ (-1)) = 0) ∧ t &&& (s ^^^ (-1)) = 0)) ∧ k < 12 ∧ v = nI k ∧ D2 = y_Tadd D 86 87 60 k 5 p q r s t) (fun E9 => (¬ (0 ≤ p ∧ p < (D 73).1 2) ∧ E9 = y_IOB) ∨ ((0 ≤ p ∧ p < (D 73).1 2) ∧ ¬ ((q &&& ((nI (2 ^ 8) - 1) ^^^ (-1)) = 0) ∧ (r &&& ((nI (2 ^ kt) - 1) ^^^ (-1)) = 0)) ∧ E9 = y_IAE) ∨ ((0 ≤ p ∧ p < (D 73).1 2) ∧ ((q &&& ((nI (2 ^ 8) - 1) ^^^ (-1)) = 0) ∧ (r &&& ((nI (2 ^ kt) - 1) ^^^ (-1)) = 0)) ∧ ¬ ((s &&& ((nI (2 ^ kp) - 1) ^^^ (-1)) = 0) ∧ t &&& (s ^^^ (-1)) = 0) ∧ E9 = y_IAE) ∨ ((0 ≤ p ∧ p < (D 73).1 2) ∧ ((q &&& ((nI (2 ^ 8) - 1) ^^^ (-1)) = 0) ∧ (r &&& ((nI (2 ^ kt) - 1) ^^^ (-1)) = 0)) ∧ ((s &&& ((nI (2 ^ kp) - 1) ^^^ (-1)) = 0) ∧ t &&& (s ^^^ (-1)) = 0) ∧ k = 12 ∧ E9 = y_UOE)) := by
  refine x_cx (by decide) hV.1 (fun a0 S0 h => by rw [h.1]; exact Nat.le_of_ble_eq_true rfl) (fun a0 S0 h E EX hX => ?_)
  obtain ⟨rfl, rfl⟩ := h
  have hE := hX.x
  change E 0 0 0 [(0, .ref 64), (1, .int p), (2, .int q), (3, .int r), (4, .int s), (5, .int t)] [] (y_mk n L D)
  refine r_iload_n hE dX10_night_0 rfl ?_
  refine r_aload_n hE dX10_night_1 rfl ?_
  refine t_getr hE f_X10_23 y_R_64_3 dX10_night_2 (hL 64 (by decide)) ?_
  refine t_geti hE f_X10_97 y_I_73_2 dX10_night_5 (hL 73 (by decide)) ?_
  refine t_demandRow hX hV [.int p, .int ((D 73).1 2)] dX10_night_8 m_X10_125 rfl (by decide) ⟨by decide, by decide⟩ (Nat.le_of_ble_eq_true rfl) (fun c8 => ?_) (fun c8 n2 hn2 => r_out hX ⟨by grind, n2, hn2, rfl⟩ (by decide) (by decide))
  show E 1 6 11 [(0, .ref 64), (1, .int p), (2, .int q), (3, .int r), (4, .int s), (5, .int t)] [] (y_mk n L D)
  refine r_iload_n hE dX10_night_11 rfl ?_
  refine r_bipush (v := 8) hE dX10_night_12 (by decide) ?_
  refine t_invs (r := (some (.int (y_b (q &&& ((nI (2 ^ 8) - 1) ^^^ (-1)) = 0))))) (S2 := (y_mk n L D)) hE [.int q, .int 8] (k_isOfFirst (by decide)) s_yX10_isOfFirst m_X10_222 dX10_night_14 rfl (by decide) ⟨by decide, by decide⟩ (Nat.le_of_ble_eq_true rfl) ?_
  show E 1 6 17 [(0, .ref 64), (1, .int p), (2, .int q), (3, .int r), (4, .int s), (5, .int t)] [.int (y_b (q &&& ((nI (2 ^ 8) - 1) ^^^ (-1)) = 0))] (y_mk n L D)
  refine r_ifb_eq (tgt := 41) hE dX10_night_17 (by decide) (fun c17 => ?_) (fun c17 => ?_)
  · refine r_iconst (v := 0) hE dX10_night_41 (by decide) ?_
    refine t_demand (p := False) hX hV [.int 0] dX10_night_42 m_X10_69 rfl (by decide) ⟨by decide, by decide⟩ (Nat.le_of_ble_eq_true rfl) (fun c42 => c42.elim) (fun c42 n2 hn2 => r_out hX ⟨by grind, n2, hn2, rfl⟩ (by decide) (by decide))
  · refine r_iload_n hE dX10_night_20 rfl ?_
    refine r_aload_n hE dX10_night_21 rfl ?_
    refine t_getr hE f_X10_23 y_R_64_3 dX10_night_22 (hL 64 (by decide)) ?_
    refine t_getr hE f_X10_122 y_R_73_5 dX10_night_25 (hL 73 (by decide)) ?_
    refine t_geti hE f_X10_176 y_I_78_2 dX10_night_28 (hL 78 (by decide)) ?_
    refine r_top (y := (nI kt)) ht ?_
    refine t_invs (r := (some (.int (y_b (r &&& ((nI (2 ^ kt) - 1) ^^^ (-1)) = 0))))) (S2 := (y_mk n L D)) hE [.int r, .int (nI kt)] (k_isOfFirst (by omega)) s_yX10_isOfFirst m_X10_222 dX10_night_31 rfl (by decide) ⟨by decide, by decide⟩ (Nat.le_of_ble_eq_true rfl) ?_
    show E 1 6 34 [(0, .ref 64), (1, .int p), (2, .int q), (3, .int r), (4, .int s), (5, .int t)] [.int (y_b (r &&& ((nI (2 ^ kt) - 1) ^^^ (-1)) = 0))] (y_mk n L D)
    refine r_ifb_eq (tgt := 41) hE dX10_night_34 (by decide) (fun c34 => ?_) (fun c34 => ?_)
    · refine r_iconst (v := 0) hE dX10_night_41 (by decide) ?_
      refine t_demand (p := False) hX hV [.int 0] dX10_night_42 m_X10_69 rfl (by decide) ⟨by decide, by decide⟩ (Nat.le_of_ble_eq_true rfl) (fun c42 => c42.elim) (fun c42 n2 hn2 => r_out hX ⟨by grind, n2, hn2, rfl⟩ (by decide) (by decide))
    · refine r_iconst (v := 1) hE dX10_night_37 (by decide) ?_
      refine r_goto (tgt := 42) hE dX10_night_38 (by decide) ?_
      refine t_demand (p := True) hX hV [.int 1] dX10_night_42 m_X10_69 rfl (by decide) ⟨by decide, by decide⟩ (Nat.le_of_ble_eq_true rfl) (fun c42 => ?_) (fun c42 _ _ => absurd trivial c42)
      show E 2 12 45 [(0, .ref 64), (1, .int p), (2, .int q), (3, .int r), (4, .int s), (5, .int t)] [] (y_mk n L D)
      refine r_iload hE dX10_night_45 rfl ?_
      refine r_aload_n hE dX10_night_47 rfl ?_
      refine t_getr hE f_X10_23 y_R_64_3 dX10_night_48 (hL 64 (by decide)) ?_
      refine t_getr hE f_X10_216 y_R_73_7 dX10_night_51 (hL 73 (by decide)) ?_
      refine t_geti hE f_X10_176 y_I_82_2 dX10_night_54 (hL 82 (by decide)) ?_
      refine r_top (y := (nI kp)) hp ?_
      refine t_invs (r := (some (.int (y_b (s &&& ((nI (2 ^ kp) - 1) ^^^ (-1)) = 0))))) (S2 := (y_mk n L D)) hE [.int s, .int (nI kp)] (k_isOfFirst (by omega)) s_yX10_isOfFirst m_X10_222 dX10_night_57 rfl (by decide) ⟨by decide, by decide⟩ (Nat.le_of_ble_eq_true rfl) ?_
      show E 2 12 60 [(0, .ref 64), (1, .int p), (2, .int q), (3, .int r), (4, .int s), (5, .int t)] [.int (y_b (s &&& ((nI (2 ^ kp) - 1) ^^^ (-1)) = 0))] (y_mk n L D)
      refine r_ifb_eq (tgt := 77) hE dX10_night_60 (by decide) (fun c60 => ?_) (fun c60 => ?_)
      · refine r_iconst (v := 0) hE dX10_night_77 (by decide) ?_
        refine t_demand (p := False) hX hV [.int 0] dX10_night_78 m_X10_69 rfl (by decide) ⟨by decide, by decide⟩ (Nat.le_of_ble_eq_true rfl) (fun c78 => c78.elim) (fun c78 n2 hn2 => r_out hX ⟨by grind, n2, hn2, rfl⟩ (by decide) (by decide))
      · refine r_iload hE dX10_night_63 rfl ?_
        refine r_iload hE dX10_night_65 rfl ?_
        refine r_iconst (v := (-1)) hE dX10_night_67 (by decide) ?_
        refine r_ixor hE dX10_night_68 ?_
        refine r_iand hE dX10_night_69 ?_
        refine r_if_ne (tgt := 77) hE dX10_night_70 (by decide) (fun c70 => ?_) (fun c70 => ?_)
        · refine r_iconst (v := 0) hE dX10_night_77 (by decide) ?_
          refine t_demand (p := False) hX hV [.int 0] dX10_night_78 m_X10_69 rfl (by decide) ⟨by decide, by decide⟩ (Nat.le_of_ble_eq_true rfl) (fun c78 => c78.elim) (fun c78 n2 hn2 => r_out hX ⟨by grind, n2, hn2, rfl⟩ (by decide) (by decide))
        · refine r_iconst (v := 1) hE dX10_night_73 (by decide) ?_
          refine r_goto (tgt := 78) hE dX10_night_74 (by decide) ?_
          refine t_demand (p := True) hX hV [.int 1] dX10_night_78 m_X10_69 rfl (by decide) ⟨by decide, by decide⟩ (Nat.le_of_ble_eq_true rfl) (fun c78 => ?_) (fun c78 _ _ => absurd trivial c78)
          show E 3 18 81 [(0, .ref 64), (1, .int p), (2, .int q), (3, .int r), (4, .int s), (5, .int t)] [] (y_mk n L D)
          refine r_aload_n hE dX10_night_81 rfl ?_
          refine t_getr hE f_X10_23 y_R_64_3 dX10_night_82 (hL 64 (by decide)) ?_
          refine t_getr hE f_X10_225 y_R_73_9 dX10_night_85 (hL 73 (by decide)) ?_
          refine t_invv (r := (some (.int (y_b ((k + 1) * 5 ≤ 60))))) (S2 := (y_mk n L D)) hE [] (k_hasRoom (k := k) (wd := 5) y_T_86 (hL 86 (by decide)) (hL 87 (by decide)) (by simpa [y_sw, y_si] using hs) (by simpa [y_sw, y_si] using hw) (by omega) (by decide) (by decide)) v_yX7_hasRoom m_X10_77 dX10_night_88 rfl (hL 86 (by decide)) (y_l_86 (D 86)) rfl (by decide) ⟨by decide, by decide⟩ (Nat.le_of_ble_eq_true rfl) ?_
          show E 3 18 91 [(0, .ref 64), (1, .int p), (2, .int q), (3, .int r), (4, .int s), (5, .int t)] [.int (y_b ((k + 1) * 5 ≤ 60))] (y_mk n L D)
          refine t_demandRoom hX hV [.int (y_b ((k + 1) * 5 ≤ 60))] dX10_night_91 m_X10_83 rfl (by decide) ⟨by decide, by decide⟩ (Nat.le_of_ble_eq_true rfl) (fun c91 => ?_) (fun c91 n2 hn2 => r_out hX ⟨by grind, n2, hn2, rfl⟩ (by decide) (by decide))
          show E 4 24 94 [(0, .ref 64), (1, .int p), (2, .int q), (3, .int r), (4, .int s), (5, .int t)] [] (y_mk n L D)
          refine r_aload_n hE dX10_night_94 rfl ?_
          refine t_getr hE f_X10_23 y_R_64_3 dX10_night_95 (hL 64 (by decide)) ?_
          refine t_getr hE f_X10_225 y_R_73_9 dX10_night_98 (hL 73 (by decide)) ?_
          refine r_iload_n hE dX10_night_101 rfl ?_
          refine r_iload_n hE dX10_night_102 rfl ?_
          refine r_iload_n hE dX10_night_103 rfl ?_
          refine r_iload hE dX10_night_104 rfl ?_
          refine r_iload hE dX10_night_106 rfl ?_
          refine t_invv (r := (some (.int (nI k)))) (S2 := (y_mk n L (y_Tadd D 86 87 60 k 5 p q r s t))) hE [.int p, .int q, .int r, .int s, .int t] (k_add (k := k) (wd := 5) y_T_86 (hL 86 (by decide)) (hL 87 (by decide)) (by simpa [y_sw, y_si] using hs) (by simpa [y_sw, y_si] using hw) (by omega) (by decide) (by decide)) v_yX7_add m_X10_89 dX10_night_108 rfl (hL 86 (by decide)) (y_l_86 (D 86)) rfl (by decide) ⟨by decide, by decide⟩ (Nat.le_of_ble_eq_true rfl) ?_
          show E 4 24 111 [(0, .ref 64), (1, .int p), (2, .int q), (3, .int r), (4, .int s), (5, .int t)] [.int (nI k)] (y_mk n L (y_Tadd D 86 87 60 k 5 p q r s t))
          refine r_ireturn hE dX10_night_111 rfl rfl (by decide) (by decide) ?_
          exact ⟨_, _, rfl, rfl, by grind, by omega, rfl, rfl⟩
theorem f_knew {V : x_E} (hV : y_V V) {n : Nat} {L : List Nat} {D : y_D} (hL : y_ok L) {p : Int32} : y_Fv V yX10_knew cX10_knew 2 none 8 1 6 [.ref 64, .int p] n L D (fun D2 => ((p &&& ((nI (2 ^ 8) - 1) ^^^ (-1)) = 0) ∧ ¬ y_bit p 0) ∧ D2 = y_si D 73 12 p) (fun E9 => ¬ ((p &&& ((nI (2 ^ 8) - 1) ^^^ (-1)) = 0) ∧ ¬ y_bit p 0) ∧ E9 = y_IAE) := by
  refine x_cx (by decide) hV.1 (fun a0 S0 h => by rw [h.1]; exact Nat.le_of_ble_eq_true rfl) (fun a0 S0 h E EX hX => ?_)
  obtain ⟨rfl, rfl⟩ := h
  have hE := hX.x
  change E 0 0 0 [(0, .ref 64), (1, .int p)] [] (y_mk n L D)
  refine r_iload_n hE dX10_knew_0 rfl ?_
  refine r_bipush (v := 8) hE dX10_knew_1 (by decide) ?_
  refine t_invs (r := (some (.int (y_b (p &&& ((nI (2 ^ 8) - 1) ^^^ (-1)) = 0))))) (S2 := (y_mk n L D)) hE [.int p, .int 8] (k_isOfFirst (by decide)) s_yX10_isOfFirst m_X10_222 dX10_knew_3 rfl (by decide) ⟨by decide, by decide⟩ (Nat.le_of_ble_eq_true rfl) ?_
  show E 0 0 6 [(0, .ref 64), (1, .int p)] [.int (y_b (p &&& ((nI (2 ^ 8) - 1) ^^^ (-1)) = 0))] (y_mk n L D)
  refine r_ifb_eq (tgt := 21) hE dX10_knew_6 (by decide) (fun c6 => ?_) (fun c6 => ?_)
  · refine r_iconst (v := 0) hE dX10_knew_21 (by decide) ?_
    refine t_demand (p := False) hX hV [.int 0] dX10_knew_22 m_X10_69 rfl (by decide) ⟨by decide, by decide⟩ (Nat.le_of_ble_eq_true rfl) (fun c22 => c22.elim) (fun c22 n2 hn2 => r_out hX ⟨by grind, n2, hn2, rfl⟩ (by decide) (by decide))
  · refine r_iload_n hE dX10_knew_9 rfl ?_
    refine r_iconst (v := 0) hE dX10_knew_10 (by decide) ?_
    refine t_invs (r := (some (.int (y_b (y_bit p 0))))) (S2 := (y_mk n L D)) hE [.int p, .int 0] (k_hasBit) s_yX10_hasBit m_X10_172 dX10_knew_11 rfl (by decide) ⟨by decide, by decide⟩ (Nat.le_of_ble_eq_true rfl) ?_
    show E 0 0 14 [(0, .ref 64), (1, .int p)] [.int (y_b (y_bit p 0))] (y_mk n L D)
    refine r_ifb_ne (tgt := 21) hE dX10_knew_14 (by decide) (fun c14 => ?_) (fun c14 => ?_)
    · refine r_iconst (v := 0) hE dX10_knew_21 (by decide) ?_
      refine t_demand (p := False) hX hV [.int 0] dX10_knew_22 m_X10_69 rfl (by decide) ⟨by decide, by decide⟩ (Nat.le_of_ble_eq_true rfl) (fun c22 => c22.elim) (fun c22 n2 hn2 => r_out hX ⟨by grind, n2, hn2, rfl⟩ (by decide) (by decide))
    · refine r_iconst (v := 1) hE dX10_knew_17 (by decide) ?_
      refine r_goto (tgt := 22) hE dX10_knew_18 (by decide) ?_
      refine t_demand (p := True) hX hV [.int 1] dX10_knew_22 m_X10_69 rfl (by decide) ⟨by decide, by decide⟩ (Nat.le_of_ble_eq_true rfl) (fun c22 => ?_) (fun c22 _ _ => absurd trivial c22)
      show E 1 6 25 [(0, .ref 64), (1, .int p)] [] (y_mk n L D)
      refine r_aload_n hE dX10_knew_25 rfl ?_
      refine t_getr hE f_X10_23 y_R_64_3 dX10_knew_26 (hL 64 (by decide)) ?_
      refine r_iload_n hE dX10_knew_29 rfl ?_
      refine t_puti hE f_X10_253 y_I_73_12 dX10_knew_30 (hL 73 (by decide)) rfl rfl ?_
      refine r_return hE dX10_knew_33 rfl (by decide) (by decide) ?_
      exact ⟨_, rfl, rfl, by grind, rfl⟩
theorem f_rope {V : x_E} (hV : y_V V) {n : Nat} {L : List Nat} {D : y_D} (hL : y_ok L) {p : Int32} : y_Fv V yX10_rope cX10_rope 2 none 8 1 6 [.ref 64, .int p] n L D (fun D2 => (0 ≤ p ∧ p ≤ 50) ∧ D2 = y_si D 73 13 p) (fun E9 => ¬ (0 ≤ p ∧ p ≤ 50) ∧ E9 = y_IAE) := by
  refine x_cx (by decide) hV.1 (fun a0 S0 h => by rw [h.1]; exact Nat.le_of_ble_eq_true rfl) (fun a0 S0 h E EX hX => ?_)
  obtain ⟨rfl, rfl⟩ := h
  have hE := hX.x
  change E 0 0 0 [(0, .ref 64), (1, .int p)] [] (y_mk n L D)
  refine r_iload_n hE dX10_rope_0 rfl ?_
  refine r_iconst (v := 0) hE dX10_rope_1 (by decide) ?_
  refine r_bipush (v := 50) hE dX10_rope_2 (by decide) ?_
  refine t_invs (r := (some (.int (y_b (0 ≤ p ∧ p ≤ 50))))) (S2 := (y_mk n L D)) hE [.int p, .int 0, .int 50] (k_isBetween) s_yX10_isBetween m_X10_65 dX10_rope_4 rfl (by decide) ⟨by decide, by decide⟩ (Nat.le_of_ble_eq_true rfl) ?_
  show E 0 0 7 [(0, .ref 64), (1, .int p)] [.int (y_b (0 ≤ p ∧ p ≤ 50))] (y_mk n L D)
  refine t_demand hX hV [.int (y_b (0 ≤ p ∧ p ≤ 50))] dX10_rope_7 m_X10_69 rfl (by decide) ⟨by decide, by decide⟩ (Nat.le_of_ble_eq_true rfl) (fun c7 => ?_) (fun c7 n2 hn2 => r_out hX ⟨by grind, n2, hn2, rfl⟩ (by decide) (by decide))
  show E 1 6 10 [(0, .ref 64), (1, .int p)] [] (y_mk n L D)
  refine r_aload_n hE dX10_rope_10 rfl ?_
  refine t_getr hE f_X10_23 y_R_64_3 dX10_rope_11 (hL 64 (by decide)) ?_
  refine r_iload_n hE dX10_rope_14 rfl ?_
  refine t_puti hE f_X10_271 y_I_73_13 dX10_rope_15 (hL 73 (by decide)) rfl rfl ?_
  refine r_return hE dX10_rope_18 rfl (by decide) (by decide) ?_
  exact ⟨_, rfl, rfl, by grind, rfl⟩
theorem k_torn {V : x_E} {n : Nat} {L : List Nat} {D : y_D} (hL : y_ok L) : x_Fn V yX10_torn cX10_torn 2 (some .int) 0 [.ref 64] (y_mk n L D) (some (.int ((D 80).1 2))) (y_mk n L (y_si D 80 2 0)) := by
  refine x_fn (by decide) (Nat.le_of_ble_eq_true rfl) (fun E hE => ?_)
  change E 0 0 0 [(0, .ref 64)] [] (y_mk n L D)
  refine r_aload_n hE dX10_torn_0 rfl ?_
  refine t_getr hE f_X10_23 y_R_64_3 dX10_torn_1 (hL 64 (by decide)) ?_
  refine t_getr hE f_X10_179 y_R_73_6 dX10_torn_4 (hL 73 (by decide)) ?_
  refine t_geti hE f_X10_176 y_I_80_2 dX10_torn_7 (hL 80 (by decide)) ?_
  refine r_istore_n (ls2 := [(0, .ref 64), (1, .int ((D 80).1 2))]) hE dX10_torn_10 (by decide) rfl ?_
  refine r_aload_n hE dX10_torn_11 rfl ?_
  refine t_getr hE f_X10_23 y_R_64_3 dX10_torn_12 (hL 64 (by decide)) ?_
  refine t_getr hE f_X10_179 y_R_73_6 dX10_torn_15 (hL 73 (by decide)) ?_
  refine r_iconst (v := 0) hE dX10_torn_18 (by decide) ?_
  refine t_puti hE f_X10_176 y_I_80_2 dX10_torn_19 (hL 80 (by decide)) rfl rfl ?_
  refine r_iload_n hE dX10_torn_22 rfl ?_
  refine r_ireturn hE dX10_torn_23 rfl rfl (Nat.zero_le _) (Nat.zero_le _) ?_
  exact ⟨rfl, rfl⟩
theorem k_fault {V : x_E} {n : Nat} {L : List Nat} {D : y_D} (hL : y_ok L) : x_Fn V yX10_fault cX10_fault 1 (some .int) 0 [.ref 64] (y_mk n L D) (some (.int ((D 66).1 2))) (y_mk n L D) := by
  refine x_fn (by decide) (Nat.le_of_ble_eq_true rfl) (fun E hE => ?_)
  change E 0 0 0 [(0, .ref 64)] [] (y_mk n L D)
  refine r_aload_n hE dX10_fault_0 rfl ?_
  refine t_getr hE f_X10_16 y_R_64_2 dX10_fault_1 (hL 64 (by decide)) ?_
  refine t_geti hE f_X10_119 y_I_66_2 dX10_fault_4 (hL 66 (by decide)) ?_
  refine r_ireturn hE dX10_fault_7 rfl rfl (Nat.zero_le _) (Nat.zero_le _) ?_
  exact ⟨rfl, rfl⟩
def K_end (D : y_D) (p : Int32) : Int32 × y_D := if p < 0 ∨ (D 64).1 1 < p then (0, D) else (1, y_si D 64 1 p)
theorem k_end {V : x_E} {n : Nat} {L : List Nat} {D : y_D} {p : Int32} (hL : y_ok L) : x_Fn V yX10_end cX10_end 2 (some .boolean) 0 [.ref 64, .int p] (y_mk n L D) (some (.int ((K_end D p).1))) (y_mk n L ((K_end D p).2)) := by
  refine x_fn (by decide) (Nat.le_of_ble_eq_true rfl) (fun E hE => ?_)
  change E 0 0 0 [(0, .ref 64), (1, .int p)] [] (y_mk n L D)
  refine r_iload_n hE dX10_end_0 rfl ?_
  refine r_if_lt (tgt := 12) hE dX10_end_1 (by decide) (fun c1 => ?_) (fun c1 => ?_)
  · refine r_iconst (v := 0) hE dX10_end_12 (by decide) ?_
    refine r_ireturn hE dX10_end_13 rfl (by first | rfl | decide) (Nat.zero_le _) (Nat.zero_le _) ?_
    unfold K_end
    first | rw [if_pos (by grind)] | rw [if_neg (by grind)]
    exact ⟨rfl, rfl⟩
  · refine r_iload_n hE dX10_end_4 rfl ?_
    refine r_aload_n hE dX10_end_5 rfl ?_
    refine t_geti hE f_X10_57 y_I_64_1 dX10_end_6 (hL 64 (by decide)) ?_
    refine r_icmp_le (tgt := 14) hE dX10_end_9 (by decide) (fun c9 => ?_) (fun c9 => ?_)
    · refine r_aload_n hE dX10_end_14 rfl ?_
      refine r_iload_n hE dX10_end_15 rfl ?_
      refine t_puti hE f_X10_57 y_I_64_1 dX10_end_16 (hL 64 (by decide)) rfl rfl ?_
      refine r_iconst (v := 1) hE dX10_end_19 (by decide) ?_
      refine r_ireturn hE dX10_end_20 rfl (by first | rfl | decide) (Nat.zero_le _) (Nat.zero_le _) ?_
      unfold K_end
      first | rw [if_pos (by grind)] | rw [if_neg (by grind)]
      exact ⟨rfl, rfl⟩
    · refine r_iconst (v := 0) hE dX10_end_12 (by decide) ?_
      refine r_ireturn hE dX10_end_13 rfl (by first | rfl | decide) (Nat.zero_le _) (Nat.zero_le _) ?_
      unfold K_end
      first | rw [if_pos (by grind)] | rw [if_neg (by grind)]
      exact ⟨rfl, rfl⟩
theorem y_sw10 (p : Int32) : (p.toInt < 0 ∨ 9 < p.toInt) ∨ p = 0 ∨ p = 1 ∨ p = 2 ∨ p = 3 ∨ p = 4 ∨ p = 5 ∨ p = 6 ∨ p = 7 ∨ p = 8 ∨ p = 9 := by
  by_cases h : p.toInt < 0 ∨ 9 < p.toInt
  · exact Or.inl h
  · right
    have h0 : ¬ p < 0 := by rw [Int32.lt_iff_toInt_lt, Int32.toInt_zero]; omega
    have h9 : p ≤ 9 := by
      rw [Int32.le_iff_toInt_le, show (9 : Int32).toInt = 9 from rfl]
      omega
    grind
def K_count (D : y_D) (p : Int32) : Int32 := if p = 0 then (D 74).1 2 else if p = 1 then (D 73).1 2 else if p = 2 then (D 73).1 4 else if p = 3 then (D 78).1 2 else if p = 4 then (D 80).1 2 else if p = 5 then (D 82).1 2 else if p = 6 then (D 84).1 2 else if p = 7 then (D 86).1 2 else if p = 8 then (D 88).1 2 else if p = 9 then (D 90).1 2 else -1
theorem k_count {V : x_E} {n : Nat} {L : List Nat} {D : y_D} {p : Int32} (hL : y_ok L) : x_Fn V yX10_count cX10_count 2 (some .int) 0 [.ref 64, .int p] (y_mk n L D) (some (.int (K_count D p))) (y_mk n L D) := by
  refine x_fn (by decide) (Nat.le_of_ble_eq_true rfl) (fun E hE => ?_)
  change E 0 0 0 [(0, .ref 64), (1, .int p)] [] (y_mk n L D)
  refine r_iload_n hE dX10_count_0 rfl ?_
  rcases y_sw10 p with h9 | rfl | rfl | rfl | rfl | rfl | rfl | rfl | rfl | rfl | rfl
  · refine r_tsout (tgt := 160) hE dX10_count_1 h9 (by decide) ?_
    refine r_iconst (v := (-1)) hE dX10_count_160 (by decide) ?_
    refine r_ireturn hE dX10_count_161 rfl rfl (Nat.zero_le _) (Nat.zero_le _) ?_
    refine ⟨?_, rfl⟩
    have hn : ∀ c : Int32, 0 ≤ c.toInt ∧ c.toInt ≤ 9 → p ≠ c := fun c hc he => by rw [he] at h9; omega
    unfold K_count
    rw [if_neg (hn 0 (by decide)), if_neg (hn 1 (by decide)), if_neg (hn 2 (by decide)), if_neg (hn 3 (by decide)), if_neg (hn 4 (by decide)), if_neg (hn 5 (by decide)), if_neg (hn 6 (by decide)), if_neg (hn 7 (by decide)), if_neg (hn 8 (by decide)), if_neg (hn 9 (by decide))]
  · refine r_tsin (tgt := 56) hE dX10_count_1 (by decide) (by decide) rfl (by decide) ?_
    refine r_aload_n hE dX10_count_56 rfl ?_
    refine t_getr hE f_X10_23 y_R_64_3 dX10_count_57 (hL 64 (by decide)) ?_
    refine t_getr hE f_X10_73 y_R_73_0 dX10_count_60 (hL 73 (by decide)) ?_
    refine t_geti hE f_X10_176 y_I_74_2 dX10_count_63 (hL 74 (by decide)) ?_
    refine r_ireturn hE dX10_count_66 rfl rfl (Nat.zero_le _) (Nat.zero_le _) ?_
    exact ⟨rfl, rfl⟩
  · refine r_tsin (tgt := 67) hE dX10_count_1 (by decide) (by decide) rfl (by decide) ?_
    refine r_aload_n hE dX10_count_67 rfl ?_
    refine t_getr hE f_X10_23 y_R_64_3 dX10_count_68 (hL 64 (by decide)) ?_
    refine t_geti hE f_X10_97 y_I_73_2 dX10_count_71 (hL 73 (by decide)) ?_
    refine r_ireturn hE dX10_count_74 rfl rfl (Nat.zero_le _) (Nat.zero_le _) ?_
    exact ⟨rfl, rfl⟩
  · refine r_tsin (tgt := 75) hE dX10_count_1 (by decide) (by decide) rfl (by decide) ?_
    refine r_aload_n hE dX10_count_75 rfl ?_
    refine t_getr hE f_X10_23 y_R_64_3 dX10_count_76 (hL 64 (by decide)) ?_
    refine t_geti hE f_X10_108 y_I_73_4 dX10_count_79 (hL 73 (by decide)) ?_
    refine r_ireturn hE dX10_count_82 rfl rfl (Nat.zero_le _) (Nat.zero_le _) ?_
    exact ⟨rfl, rfl⟩
  · refine r_tsin (tgt := 83) hE dX10_count_1 (by decide) (by decide) rfl (by decide) ?_
    refine r_aload_n hE dX10_count_83 rfl ?_
    refine t_getr hE f_X10_23 y_R_64_3 dX10_count_84 (hL 64 (by decide)) ?_
    refine t_getr hE f_X10_122 y_R_73_5 dX10_count_87 (hL 73 (by decide)) ?_
    refine t_geti hE f_X10_176 y_I_78_2 dX10_count_90 (hL 78 (by decide)) ?_
    refine r_ireturn hE dX10_count_93 rfl rfl (Nat.zero_le _) (Nat.zero_le _) ?_
    exact ⟨rfl, rfl⟩
  · refine r_tsin (tgt := 94) hE dX10_count_1 (by decide) (by decide) rfl (by decide) ?_
    refine r_aload_n hE dX10_count_94 rfl ?_
    refine t_getr hE f_X10_23 y_R_64_3 dX10_count_95 (hL 64 (by decide)) ?_
    refine t_getr hE f_X10_179 y_R_73_6 dX10_count_98 (hL 73 (by decide)) ?_
    refine t_geti hE f_X10_176 y_I_80_2 dX10_count_101 (hL 80 (by decide)) ?_
    refine r_ireturn hE dX10_count_104 rfl rfl (Nat.zero_le _) (Nat.zero_le _) ?_
    exact ⟨rfl, rfl⟩
  · refine r_tsin (tgt := 105) hE dX10_count_1 (by decide) (by decide) rfl (by decide) ?_
    refine r_aload_n hE dX10_count_105 rfl ?_
    refine t_getr hE f_X10_23 y_R_64_3 dX10_count_106 (hL 64 (by decide)) ?_
    refine t_getr hE f_X10_216 y_R_73_7 dX10_count_109 (hL 73 (by decide)) ?_
    refine t_geti hE f_X10_176 y_I_82_2 dX10_count_112 (hL 82 (by decide)) ?_
    refine r_ireturn hE dX10_count_115 rfl rfl (Nat.zero_le _) (Nat.zero_le _) ?_
    exact ⟨rfl, rfl⟩
  · refine r_tsin (tgt := 116) hE dX10_count_1 (by decide) (by decide) rfl (by decide) ?_
    refine r_aload_n hE dX10_count_116 rfl ?_
    refine t_getr hE f_X10_23 y_R_64_3 dX10_count_117 (hL 64 (by decide)) ?_
    refine t_getr hE f_X10_219 y_R_73_8 dX10_count_120 (hL 73 (by decide)) ?_
    refine t_geti hE f_X10_176 y_I_84_2 dX10_count_123 (hL 84 (by decide)) ?_
    refine r_ireturn hE dX10_count_126 rfl rfl (Nat.zero_le _) (Nat.zero_le _) ?_
    exact ⟨rfl, rfl⟩
  · refine r_tsin (tgt := 127) hE dX10_count_1 (by decide) (by decide) rfl (by decide) ?_
    refine r_aload_n hE dX10_count_127 rfl ?_
    refine t_getr hE f_X10_23 y_R_64_3 dX10_count_128 (hL 64 (by decide)) ?_
    refine t_getr hE f_X10_225 y_R_73_9 dX10_count_131 (hL 73 (by decide)) ?_
    refine t_geti hE f_X10_176 y_I_86_2 dX10_count_134 (hL 86 (by decide)) ?_
    refine r_ireturn hE dX10_count_137 rfl rfl (Nat.zero_le _) (Nat.zero_le _) ?_
    exact ⟨rfl, rfl⟩
  · refine r_tsin (tgt := 138) hE dX10_count_1 (by decide) (by decide) rfl (by decide) ?_
    refine r_aload_n hE dX10_count_138 rfl ?_
    refine t_getr hE f_X10_23 y_R_64_3 dX10_count_139 (hL 64 (by decide)) ?_
    refine t_getr hE f_X10_256 y_R_73_10 dX10_count_142 (hL 73 (by decide)) ?_
    refine t_geti hE f_X10_176 y_I_88_2 dX10_count_145 (hL 88 (by decide)) ?_
    refine r_ireturn hE dX10_count_148 rfl rfl (Nat.zero_le _) (Nat.zero_le _) ?_
    exact ⟨rfl, rfl⟩
  · refine r_tsin (tgt := 149) hE dX10_count_1 (by decide) (by decide) rfl (by decide) ?_
    refine r_aload_n hE dX10_count_149 rfl ?_
    refine t_getr hE f_X10_23 y_R_64_3 dX10_count_150 (hL 64 (by decide)) ?_
    refine t_getr hE f_X10_268 y_R_73_11 dX10_count_153 (hL 73 (by decide)) ?_
    refine t_geti hE f_X10_176 y_I_90_2 dX10_count_156 (hL 90 (by decide)) ?_
    refine r_ireturn hE dX10_count_159 rfl rfl (Nat.zero_le _) (Nat.zero_le _) ?_
    exact ⟨rfl, rfl⟩
theorem f_tale {V : x_E} (hV : y_V V) {n : Nat} {L : List Nat} {D : y_D} (hL : y_ok L) {p q r : Int32} : y_Fi V yX10_tale cX10_tale 7 (some .int) 8 1 6 [.ref 64, .int p, .int q, .int r] n L D (fun v D2 => ((0 ≤ p ∧ p ≤ 9999) ∧ (0 ≤ q ∧ q ≤ 100) ∧ (0 ≤ r ∧ r ≤ 20)) ∧ v = (y_tale q.toInt64 r.toNatClampNeg p.toInt64).toInt32 ∧ D2 = D) (fun E9 => ¬ ((0 ≤ p ∧ p ≤ 9999) ∧ (0 ≤ q ∧ q ≤ 100) ∧ (0 ≤ r ∧ r ≤ 20)) ∧ E9 = y_IAE) := by
  refine x_cx (by decide) hV.1 (fun a0 S0 h => by rw [h.1]; exact Nat.le_of_ble_eq_true rfl) (fun a0 S0 h E EX hX => ?_)
  obtain ⟨rfl, rfl⟩ := h
  have hE := hX.x
  change E 0 0 0 [(0, .ref 64), (1, .int p), (2, .int q), (3, .int r)] [] (y_mk n L D)
  by_cases hc : (0 ≤ p ∧ p ≤ 9999) ∧ (0 ≤ q ∧ q ≤ 100) ∧ (0 ≤ r ∧ r ≤ 20)
  · obtain ⟨k, hk, rfl⟩ : ∃ k : Nat, k ≤ 20 ∧ r = nI k := nI_of2 (M := 20) rfl (by grind) (by grind)
    have lp : ∀ (i : Nat) (v : Int64), i ≤ k → y_tale q.toInt64 (k - i) v = y_tale q.toInt64 k p.toInt64 → E 1 6 46 [(0, .ref 64), (1, .int p), (2, .int q), (3, .int (nI k)), (4, .long v), (6, .int (nI i))] [] (y_mk n L D) := by
      intro i v
      induction hm9 : (k - i) using Nat.strongRecOn generalizing i v with
      | _ m9 ih =>
        intro hi hv
        refine r_iload hE dX10_tale_46 rfl ?_
        refine r_iload_n hE dX10_tale_48 rfl ?_
        refine r_icmp_geN (a := i) (b := k) (tgt := 82) hE dX10_tale_49 (by decide) (by omega) (by omega) (fun c49 => ?_) (fun c49 => ?_)
        · refine r_lload hE dX10_tale_82 rfl ?_
          refine r_l2i hE dX10_tale_84 ?_
          refine r_ireturn hE dX10_tale_85 rfl rfl (by decide) (by decide) ?_
          rw [nI_clamp (by omega)]
          refine ⟨_, _, rfl, rfl, by grind, ?_, rfl⟩
          rw [← hv, show m9 = 0 by omega]
          rfl
        · refine r_lload hE dX10_tale_52 rfl ?_
          refine r_lload hE dX10_tale_54 rfl ?_
          refine r_iload_n hE dX10_tale_56 rfl ?_
          refine r_i2l hE dX10_tale_57 ?_
          refine r_lmul hE dX10_tale_58 ?_
          refine r_ldc2 (v := 99) hE dX10_tale_59 (x_gin (List.mem_append_right _ (tb_6 _ (List.mem_of_getElem? (i := 21) rfl))) rfl) ?_
          refine r_ladd hE dX10_tale_62 ?_
          refine r_ldc2 (v := 100) hE dX10_tale_63 (x_gin (List.mem_append_right _ (tb_6 _ (List.mem_of_getElem? (i := 22) rfl))) rfl) ?_
          refine r_ldiv hE dX10_tale_66 (by decide) ?_
          refine r_ladd hE dX10_tale_67 ?_
          refine r_ldc2 (v := 1000000000) hE dX10_tale_68 (x_gin (List.mem_append_right _ (tb_6 _ (List.mem_of_getElem? (i := 23) rfl))) rfl) ?_
          refine r_mminL hE m_X10_289 dX10_tale_71 (by decide) (Nat.le_of_ble_eq_true rfl) ⟨by decide, by decide⟩ ?_
          refine r_lstore (ls2 := [(0, .ref 64), (1, .int p), (2, .int q), (3, .int (nI k)), (4, .long (if 1000000000 < (v + (((v * q.toInt64) + 99) / 100)) then 1000000000 else (v + (((v * q.toInt64) + 99) / 100)))), (6, .int (nI i))]) hE dX10_tale_74 (by decide) rfl ?_
          refine r_iincN (a := i) (b := 1) (ls2 := [(0, .ref 64), (1, .int p), (2, .int q), (3, .int (nI k)), (4, .long (if 1000000000 < (v + (((v * q.toInt64) + 99) / 100)) then 1000000000 else (v + (((v * q.toInt64) + 99) / 100)))), (6, .int (nI (i + 1)))]) hE dX10_tale_76 rfl rfl (by decide) rfl ?_
          refine r_goto (tgt := 46) hE dX10_tale_79 (by decide) ?_
          refine ih (k - (i + 1)) (by omega) (i + 1) _ rfl (by omega) ?_
          rw [← hv, show m9 = (k - (i + 1)) + 1 by omega]
          show _ = y_tale _ _ (if _ then _ else _)
          congr 1
          grind
    refine r_iload_n hE dX10_tale_0 rfl ?_
    refine r_iconst (v := 0) hE dX10_tale_1 (by decide) ?_
    refine r_sipush (v := 9999) hE dX10_tale_2 (by decide) ?_
    refine t_invs (r := (some (.int (y_b (0 ≤ p ∧ p ≤ 9999))))) (S2 := (y_mk n L D)) hE [.int p, .int 0, .int 9999] (k_isBetween) s_yX10_isBetween m_X10_65 dX10_tale_5 rfl (by decide) ⟨by decide, by decide⟩ (Nat.le_of_ble_eq_true rfl) ?_
    show E 0 0 8 [(0, .ref 64), (1, .int p), (2, .int q), (3, .int (nI k))] [.int (y_b (0 ≤ p ∧ p ≤ 9999))] (y_mk n L D)
    refine r_ifb_eq (tgt := 35) hE dX10_tale_8 (by decide) (fun c8 => ?_) (fun c8 => ?_)
    · refine r_iconst (v := 0) hE dX10_tale_35 (by decide) ?_
      refine t_demand (p := False) hX hV [.int 0] dX10_tale_36 m_X10_69 rfl (by decide) ⟨by decide, by decide⟩ (Nat.le_of_ble_eq_true rfl) (fun c36 => c36.elim) (fun c36 n2 hn2 => r_out hX ⟨by grind, n2, hn2, rfl⟩ (by decide) (by decide))
    · refine r_iload_n hE dX10_tale_11 rfl ?_
      refine r_iconst (v := 0) hE dX10_tale_12 (by decide) ?_
      refine r_bipush (v := 100) hE dX10_tale_13 (by decide) ?_
      refine t_invs (r := (some (.int (y_b (0 ≤ q ∧ q ≤ 100))))) (S2 := (y_mk n L D)) hE [.int q, .int 0, .int 100] (k_isBetween) s_yX10_isBetween m_X10_65 dX10_tale_15 rfl (by decide) ⟨by decide, by decide⟩ (Nat.le_of_ble_eq_true rfl) ?_
      show E 0 0 18 [(0, .ref 64), (1, .int p), (2, .int q), (3, .int (nI k))] [.int (y_b (0 ≤ q ∧ q ≤ 100))] (y_mk n L D)
      refine r_ifb_eq (tgt := 35) hE dX10_tale_18 (by decide) (fun c18 => ?_) (fun c18 => ?_)
      · refine r_iconst (v := 0) hE dX10_tale_35 (by decide) ?_
        refine t_demand (p := False) hX hV [.int 0] dX10_tale_36 m_X10_69 rfl (by decide) ⟨by decide, by decide⟩ (Nat.le_of_ble_eq_true rfl) (fun c36 => c36.elim) (fun c36 n2 hn2 => r_out hX ⟨by grind, n2, hn2, rfl⟩ (by decide) (by decide))
      · refine r_iload_n hE dX10_tale_21 rfl ?_
        refine r_iconst (v := 0) hE dX10_tale_22 (by decide) ?_
        refine r_bipush (v := 20) hE dX10_tale_23 (by decide) ?_
        refine t_invs (r := (some (.int (y_b (0 ≤ (nI k) ∧ (nI k) ≤ 20))))) (S2 := (y_mk n L D)) hE [.int (nI k), .int 0, .int 20] (k_isBetween) s_yX10_isBetween m_X10_65 dX10_tale_25 rfl (by decide) ⟨by decide, by decide⟩ (Nat.le_of_ble_eq_true rfl) ?_
        show E 0 0 28 [(0, .ref 64), (1, .int p), (2, .int q), (3, .int (nI k))] [.int (y_b (0 ≤ (nI k) ∧ (nI k) ≤ 20))] (y_mk n L D)
        refine r_ifb_eq (tgt := 35) hE dX10_tale_28 (by decide) (fun c28 => ?_) (fun c28 => ?_)
        · refine r_iconst (v := 0) hE dX10_tale_35 (by decide) ?_
          refine t_demand (p := False) hX hV [.int 0] dX10_tale_36 m_X10_69 rfl (by decide) ⟨by decide, by decide⟩ (Nat.le_of_ble_eq_true rfl) (fun c36 => c36.elim) (fun c36 n2 hn2 => r_out hX ⟨by grind, n2, hn2, rfl⟩ (by decide) (by decide))
        · refine r_iconst (v := 1) hE dX10_tale_31 (by decide) ?_
          refine r_goto (tgt := 36) hE dX10_tale_32 (by decide) ?_
          refine t_demand (p := True) hX hV [.int 1] dX10_tale_36 m_X10_69 rfl (by decide) ⟨by decide, by decide⟩ (Nat.le_of_ble_eq_true rfl) (fun c36 => ?_) (fun c36 _ _ => absurd trivial c36)
          show E 1 6 39 [(0, .ref 64), (1, .int p), (2, .int q), (3, .int (nI k))] [] (y_mk n L D)
          refine r_iload_n hE dX10_tale_39 rfl ?_
          refine r_i2l hE dX10_tale_40 ?_
          refine r_lstore (ls2 := [(0, .ref 64), (1, .int p), (2, .int q), (3, .int (nI k)), (4, .long p.toInt64)]) hE dX10_tale_41 (by decide) rfl ?_
          refine r_iconst (v := 0) hE dX10_tale_43 (by decide) ?_
          refine r_istore (ls2 := [(0, .ref 64), (1, .int p), (2, .int q), (3, .int (nI k)), (4, .long p.toInt64), (6, .int 0)]) hE dX10_tale_44 (by decide) rfl ?_
          exact lp 0 _ (by omega) rfl
  · refine r_iload_n hE dX10_tale_0 rfl ?_
    refine r_iconst (v := 0) hE dX10_tale_1 (by decide) ?_
    refine r_sipush (v := 9999) hE dX10_tale_2 (by decide) ?_
    refine t_invs (r := (some (.int (y_b (0 ≤ p ∧ p ≤ 9999))))) (S2 := (y_mk n L D)) hE [.int p, .int 0, .int 9999] (k_isBetween) s_yX10_isBetween m_X10_65 dX10_tale_5 rfl (by decide) ⟨by decide, by decide⟩ (Nat.le_of_ble_eq_true rfl) ?_
    show E 0 0 8 [(0, .ref 64), (1, .int p), (2, .int q), (3, .int r)] [.int (y_b (0 ≤ p ∧ p ≤ 9999))] (y_mk n L D)
    refine r_ifb_eq (tgt := 35) hE dX10_tale_8 (by decide) (fun c8 => ?_) (fun c8 => ?_)
    · refine r_iconst (v := 0) hE dX10_tale_35 (by decide) ?_
      refine t_demand (p := False) hX hV [.int 0] dX10_tale_36 m_X10_69 rfl (by decide) ⟨by decide, by decide⟩ (Nat.le_of_ble_eq_true rfl) (fun c36 => c36.elim) (fun c36 n2 hn2 => r_out hX ⟨by grind, n2, hn2, rfl⟩ (by decide) (by decide))
    · refine r_iload_n hE dX10_tale_11 rfl ?_
      refine r_iconst (v := 0) hE dX10_tale_12 (by decide) ?_
      refine r_bipush (v := 100) hE dX10_tale_13 (by decide) ?_
      refine t_invs (r := (some (.int (y_b (0 ≤ q ∧ q ≤ 100))))) (S2 := (y_mk n L D)) hE [.int q, .int 0, .int 100] (k_isBetween) s_yX10_isBetween m_X10_65 dX10_tale_15 rfl (by decide) ⟨by decide, by decide⟩ (Nat.le_of_ble_eq_true rfl) ?_
      show E 0 0 18 [(0, .ref 64), (1, .int p), (2, .int q), (3, .int r)] [.int (y_b (0 ≤ q ∧ q ≤ 100))] (y_mk n L D)
      refine r_ifb_eq (tgt := 35) hE dX10_tale_18 (by decide) (fun c18 => ?_) (fun c18 => ?_)
      · refine r_iconst (v := 0) hE dX10_tale_35 (by decide) ?_
        refine t_demand (p := False) hX hV [.int 0] dX10_tale_36 m_X10_69 rfl (by decide) ⟨by decide, by decide⟩ (Nat.le_of_ble_eq_true rfl) (fun c36 => c36.elim) (fun c36 n2 hn2 => r_out hX ⟨by grind, n2, hn2, rfl⟩ (by decide) (by decide))
      · refine r_iload_n hE dX10_tale_21 rfl ?_
        refine r_iconst (v := 0) hE dX10_tale_22 (by decide) ?_
        refine r_bipush (v := 20) hE dX10_tale_23 (by decide) ?_
        refine t_invs (r := (some (.int (y_b (0 ≤ r ∧ r ≤ 20))))) (S2 := (y_mk n L D)) hE [.int r, .int 0, .int 20] (k_isBetween) s_yX10_isBetween m_X10_65 dX10_tale_25 rfl (by decide) ⟨by decide, by decide⟩ (Nat.le_of_ble_eq_true rfl) ?_
        show E 0 0 28 [(0, .ref 64), (1, .int p), (2, .int q), (3, .int r)] [.int (y_b (0 ≤ r ∧ r ≤ 20))] (y_mk n L D)
        refine r_ifb_eq (tgt := 35) hE dX10_tale_28 (by decide) (fun c28 => ?_) (fun c28 => ?_)
        · refine r_iconst (v := 0) hE dX10_tale_35 (by decide) ?_
          refine t_demand (p := False) hX hV [.int 0] dX10_tale_36 m_X10_69 rfl (by decide) ⟨by decide, by decide⟩ (Nat.le_of_ble_eq_true rfl) (fun c36 => c36.elim) (fun c36 n2 hn2 => r_out hX ⟨by grind, n2, hn2, rfl⟩ (by decide) (by decide))
        · refine r_iconst (v := 1) hE dX10_tale_31 (by decide) ?_
          refine r_goto (tgt := 36) hE dX10_tale_32 (by decide) ?_
          refine t_demand (p := True) hX hV [.int 1] dX10_tale_36 m_X10_69 rfl (by decide) ⟨by decide, by decide⟩ (Nat.le_of_ble_eq_true rfl) (fun c36 => ?_) (fun c36 _ _ => absurd trivial c36)
          show E 1 6 39 [(0, .ref 64), (1, .int p), (2, .int q), (3, .int r)] [] (y_mk n L D)
          refine r_iload_n hE dX10_tale_39 rfl ?_
          refine r_i2l hE dX10_tale_40 ?_
          refine r_lstore (ls2 := [(0, .ref 64), (1, .int p), (2, .int q), (3, .int r), (4, .long p.toInt64)]) hE dX10_tale_41 (by decide) rfl ?_
          refine r_iconst (v := 0) hE dX10_tale_43 (by decide) ?_
          refine r_istore (ls2 := [(0, .ref 64), (1, .int p), (2, .int q), (3, .int r), (4, .long p.toInt64), (6, .int 0)]) hE dX10_tale_44 (by decide) rfl ?_
          exact absurd (by grind) hc

theorem y_idx {r k c wd len : Nat} (h1 : r < k) (h2 : c < wd) (h3 : k * wd ≤ len) : r * wd + c < len := by
  have h9 : (r + 1) * wd ≤ k * wd := Nat.mul_le_mul_right wd h1
  rw [Nat.add_mul] at h9
  omega
theorem k_isBetween {V : x_E} {n : Nat} {L : List Nat} {D : y_D} {v lo hi : Int32} : x_Fn V yX10_isBetween cX10_isBetween 3 (some .boolean) 0 [.int v, .int lo, .int hi] (y_mk n L D) (some (.int (y_b (lo ≤ v ∧ v ≤ hi)))) (y_mk n L D) := by
  refine x_fn (by decide) (Nat.le_of_ble_eq_true rfl) (fun E hE => ?_)
  change E 0 0 0 [(0, .int v), (1, .int lo), (2, .int hi)] [] (y_mk n L D)
  refine r_iload_n hE dX10_isBetween_0 rfl ?_
  refine r_iload_n hE dX10_isBetween_1 rfl ?_
  refine r_icmp_lt (tgt := 14) hE dX10_isBetween_2 (by decide) (fun c2 => ?_) (fun c2 => ?_)
  · refine r_iconst (v := 0) hE dX10_isBetween_14 (by decide) ?_
    refine r_ireturn hE dX10_isBetween_15 rfl (by decide) (Nat.zero_le _) (Nat.zero_le _) ?_
    exact ⟨by grind [y_b], rfl⟩
  · refine r_iload_n hE dX10_isBetween_5 rfl ?_
    refine r_iload_n hE dX10_isBetween_6 rfl ?_
    refine r_icmp_gt (tgt := 14) hE dX10_isBetween_7 (by decide) (fun c7 => ?_) (fun c7 => ?_)
    · refine r_iconst (v := 0) hE dX10_isBetween_14 (by decide) ?_
      refine r_ireturn hE dX10_isBetween_15 rfl (by decide) (Nat.zero_le _) (Nat.zero_le _) ?_
      exact ⟨by grind [y_b], rfl⟩
    · refine r_iconst (v := 1) hE dX10_isBetween_10 (by decide) ?_
      refine r_goto (tgt := 15) hE dX10_isBetween_11 (by decide) ?_
      refine r_ireturn hE dX10_isBetween_15 rfl (by decide) (Nat.zero_le _) (Nat.zero_le _) ?_
      exact ⟨by grind [y_b], rfl⟩
theorem k_firstBits {V : x_E} {n : Nat} {L : List Nat} {D : y_D} {c : Nat} (hc : c < 31) : x_Fn V yX10_firstBits cX10_firstBits 1 (some .int) 0 [.int (nI c)] (y_mk n L D) (some (.int (nI (2 ^ c) - 1))) (y_mk n L D) := by
  refine x_fn (by decide) (Nat.le_of_ble_eq_true rfl) (fun E hE => ?_)
  change E 0 0 0 [(0, .int (nI c))] [] (y_mk n L D)
  refine r_iconst (v := 1) hE dX10_firstBits_0 (by decide) ?_
  refine r_iload_n hE dX10_firstBits_1 rfl ?_
  refine r_shl1N (k := c) hE dX10_firstBits_2 (by omega) ?_
  refine r_iconst (v := 1) hE dX10_firstBits_3 (by decide) ?_
  refine r_isub hE dX10_firstBits_4 ?_
  refine r_ireturn hE dX10_firstBits_5 rfl rfl (Nat.zero_le _) (Nat.zero_le _) ?_
  exact ⟨rfl, rfl⟩
theorem k_isOfFirst {V : x_E} {n : Nat} {L : List Nat} {D : y_D} {s : Int32} {c : Nat} (hc : c < 31) : x_Fn V yX10_isOfFirst cX10_isOfFirst 2 (some .boolean) 1 [.int s, .int (nI c)] (y_mk n L D) (some (.int (y_b (s &&& ((nI (2 ^ c) - 1) ^^^ (-1)) = 0)))) (y_mk n L D) := by
  refine x_fn (by decide) (Nat.le_of_ble_eq_true rfl) (fun E hE => ?_)
  change E 0 0 0 [(0, .int s), (1, .int (nI c))] [] (y_mk n L D)
  refine r_iload_n hE dX10_isOfFirst_0 rfl ?_
  refine r_iload_n hE dX10_isOfFirst_1 rfl ?_
  refine t_invs (r := (some (.int (nI (2 ^ c) - 1)))) (S2 := (y_mk n L D)) hE [.int (nI c)] (k_firstBits (by omega)) s_yX10_firstBits m_X10_329 dX10_isOfFirst_2 rfl (by decide) ⟨Nat.le_refl _, Nat.le_refl _⟩ (Nat.le_of_ble_eq_true rfl) ?_
  show E 0 0 5 [(0, .int s), (1, .int (nI c))] [.int (nI (2 ^ c) - 1), .int s] (y_mk n L D)
  refine r_iconst (v := (-1)) hE dX10_isOfFirst_5 (by decide) ?_
  refine r_ixor hE dX10_isOfFirst_6 ?_
  refine r_iand hE dX10_isOfFirst_7 ?_
  refine r_if_ne (tgt := 15) hE dX10_isOfFirst_8 (by decide) (fun c8 => ?_) (fun c8 => ?_)
  · refine r_iconst (v := 0) hE dX10_isOfFirst_15 (by decide) ?_
    refine r_ireturn hE dX10_isOfFirst_16 rfl (by decide) (Nat.zero_le _) (Nat.zero_le _) ?_
    exact ⟨by grind [y_b], rfl⟩
  · refine r_iconst (v := 1) hE dX10_isOfFirst_11 (by decide) ?_
    refine r_goto (tgt := 16) hE dX10_isOfFirst_12 (by decide) ?_
    refine r_ireturn hE dX10_isOfFirst_16 rfl (by decide) (Nat.zero_le _) (Nat.zero_le _) ?_
    exact ⟨by grind [y_b], rfl⟩
/-- the bit c of x -/
abbrev y_bit (x : Int32) (c : Nat) : Prop := (x >>> (nI c &&& 31)) &&& 1 = 1
theorem k_hasBit {V : x_E} {n : Nat} {L : List Nat} {D : y_D} {x : Int32} {c : Nat} : x_Fn V yX10_hasBit cX10_hasBit 2 (some .boolean) 0 [.int x, .int (nI c)] (y_mk n L D) (some (.int (y_b (y_bit x c)))) (y_mk n L D) := by
  refine x_fn (by decide) (Nat.le_of_ble_eq_true rfl) (fun E hE => ?_)
  change E 0 0 0 [(0, .int x), (1, .int (nI c))] [] (y_mk n L D)
  refine r_iload_n hE dX10_hasBit_0 rfl ?_
  refine r_iload_n hE dX10_hasBit_1 rfl ?_
  refine r_ishr hE dX10_hasBit_2 ?_
  refine r_iconst (v := 1) hE dX10_hasBit_3 (by decide) ?_
  refine r_iand hE dX10_hasBit_4 ?_
  refine r_iconst (v := 1) hE dX10_hasBit_5 (by decide) ?_
  refine r_icmp_ne (tgt := 13) hE dX10_hasBit_6 (by decide) (fun c6 => ?_) (fun c6 => ?_)
  · refine r_iconst (v := 0) hE dX10_hasBit_13 (by decide) ?_
    refine r_ireturn hE dX10_hasBit_14 rfl (by decide) (Nat.zero_le _) (Nat.zero_le _) ?_
    exact ⟨by grind [y_b], rfl⟩
  · refine r_iconst (v := 1) hE dX10_hasBit_9 (by decide) ?_
    refine r_goto (tgt := 14) hE dX10_hasBit_10 (by decide) ?_
    refine r_ireturn hE dX10_hasBit_14 rfl (by decide) (Nat.zero_le _) (Nat.zero_le _) ?_
    exact ⟨by grind [y_b], rfl⟩
/-- tb is a table whose row of cells is tc -/
def y_T (tb tc len : Nat) : Prop := y_I tb 7 0 ∧ y_R tb 7 1 tc ∧ y_I tb 7 2 ∧ y_A tc 0 len ∧ y_K tb 7 ∧ tb ≠ tc
theorem y_T_74 : y_T 74 75 16 := ⟨y_I_74_0, y_R_74_1, y_I_74_2, y_A_75, y_K_74, by decide⟩
theorem y_T_78 : y_T 78 79 18 := ⟨y_I_78_0, y_R_78_1, y_I_78_2, y_A_79, y_K_78, by decide⟩
theorem y_T_80 : y_T 80 81 20 := ⟨y_I_80_0, y_R_80_1, y_I_80_2, y_A_81, y_K_80, by decide⟩
theorem y_T_82 : y_T 82 83 12 := ⟨y_I_82_0, y_R_82_1, y_I_82_2, y_A_83, y_K_82, by decide⟩
theorem y_T_84 : y_T 84 85 15 := ⟨y_I_84_0, y_R_84_1, y_I_84_2, y_A_85, y_K_84, by decide⟩
theorem y_T_86 : y_T 86 87 60 := ⟨y_I_86_0, y_R_86_1, y_I_86_2, y_A_87, y_K_86, by decide⟩
theorem y_T_88 : y_T 88 89 60 := ⟨y_I_88_0, y_R_88_1, y_I_88_2, y_A_89, y_K_88, by decide⟩
theorem y_T_90 : y_T 90 91 24 := ⟨y_I_90_0, y_R_90_1, y_I_90_2, y_A_91, y_K_90, by decide⟩
theorem y_T_113 : y_T 113 114 16 := ⟨y_I_113_0, y_R_113_1, y_I_113_2, y_A_114, y_K_113, by decide⟩
theorem y_T_117 : y_T 117 118 18 := ⟨y_I_117_0, y_R_117_1, y_I_117_2, y_A_118, y_K_117, by decide⟩
theorem y_T_119 : y_T 119 120 20 := ⟨y_I_119_0, y_R_119_1, y_I_119_2, y_A_120, y_K_119, by decide⟩
theorem y_T_121 : y_T 121 122 12 := ⟨y_I_121_0, y_R_121_1, y_I_121_2, y_A_122, y_K_121, by decide⟩
theorem y_T_123 : y_T 123 124 15 := ⟨y_I_123_0, y_R_123_1, y_I_123_2, y_A_124, y_K_123, by decide⟩
theorem y_T_125 : y_T 125 126 60 := ⟨y_I_125_0, y_R_125_1, y_I_125_2, y_A_126, y_K_125, by decide⟩
theorem y_T_127 : y_T 127 128 60 := ⟨y_I_127_0, y_R_127_1, y_I_127_2, y_A_128, y_K_127, by decide⟩
theorem y_T_129 : y_T 129 130 24 := ⟨y_I_129_0, y_R_129_1, y_I_129_2, y_A_130, y_K_129, by decide⟩
theorem k_hasRoom {V : x_E} {n : Nat} {L : List Nat} {D : y_D} {tb tc len k wd : Nat} (hT : y_T tb tc len) (hm_tb : tb ∈ L) (hm_tc : tc ∈ L) (hs : (D tb).1 2 = nI k) (hw : (D tb).1 0 = nI wd) (hk : k ≤ 20) (hwd : wd ≤ 5) (hlen : len < 1000)  : x_Fn V yX7_hasRoom cX7_hasRoom 1 (some .boolean) 0 [.ref tb] (y_mk n L D) (some (.int (y_b ((k + 1) * wd ≤ len)))) (y_mk n L D) := by
  have hT9 := hT
  obtain ⟨yI_tb_0, yR_tb_1, yI_tb_2, yA_tc, yK_tb, hne⟩ := hT
  have hkw : k * wd ≤ 100 := Nat.le_trans (Nat.mul_le_mul hk hwd) (by decide)
  have hkw2 : (k + 1) * wd ≤ 105 := Nat.le_trans (Nat.mul_le_mul (Nat.succ_le_succ hk) hwd) (by decide)
  refine x_fn (by decide) (Nat.le_of_ble_eq_true rfl) (fun E hE => ?_)
  change E 0 0 0 [(0, .ref tb)] [] (y_mk n L D)
  refine r_aload_n hE dX7_hasRoom_0 rfl ?_
  refine t_geti hE f_X7_17 yI_tb_2 dX7_hasRoom_1 hm_tb ?_
  refine r_top (y := (nI k)) hs ?_
  refine r_iconst (v := 1) hE dX7_hasRoom_4 (by decide) ?_
  refine r_iaddN (a := k) (b := 1) hE dX7_hasRoom_5 ?_
  refine r_aload_n hE dX7_hasRoom_6 rfl ?_
  refine t_geti hE f_X7_7 yI_tb_0 dX7_hasRoom_7 hm_tb ?_
  refine r_top (y := (nI wd)) hw ?_
  refine r_imulN (a := k + 1) (b := wd) hE dX7_hasRoom_10 ?_
  refine r_aload_n hE dX7_hasRoom_11 rfl ?_
  refine t_getr hE f_X7_13 yR_tb_1 dX7_hasRoom_12 hm_tb ?_
  refine t_alen (v := nI len) hE yA_tc (by decide) dX7_hasRoom_15 hm_tc rfl ?_
  refine r_icmp_gtN (a := (k + 1) * wd) (b := len) (tgt := 23) hE dX7_hasRoom_16 (by decide) (by omega) (by omega) (fun c16 => ?_) (fun c16 => ?_)
  · refine r_iconst (v := 0) hE dX7_hasRoom_23 (by decide) ?_
    refine r_ireturn hE dX7_hasRoom_24 rfl (by decide) (Nat.zero_le _) (Nat.zero_le _) ?_
    exact ⟨by grind [y_b], rfl⟩
  · refine r_iconst (v := 1) hE dX7_hasRoom_19 (by decide) ?_
    refine r_goto (tgt := 24) hE dX7_hasRoom_20 (by decide) ?_
    refine r_ireturn hE dX7_hasRoom_24 rfl (by decide) (Nat.zero_le _) (Nat.zero_le _) ?_
    exact ⟨by grind [y_b], rfl⟩
def y_Tput (D : y_D) (tc len k wd c : Nat) (v : Int32) : y_D := if c < wd ∧ k * wd + c < len then y_si D tc (k * wd + c) v else D
theorem k_put {V : x_E} {n : Nat} {L : List Nat} {D : y_D} {tb tc len k wd : Nat} (hT : y_T tb tc len) (hm_tb : tb ∈ L) (hm_tc : tc ∈ L) (hs : (D tb).1 2 = nI k) (hw : (D tb).1 0 = nI wd) (hk : k ≤ 20) (hwd : wd ≤ 5) (hlen : len < 1000) {c : Nat} {v : Int32} (hc : c < 5) : x_Fn V yX7_put cX7_put 4 none 0 [.ref tb, .int (nI c), .int v] (y_mk n L D) none (y_mk n L (y_Tput D tc len k wd c v)) := by
  have hT9 := hT
  obtain ⟨yI_tb_0, yR_tb_1, yI_tb_2, yA_tc, yK_tb, hne⟩ := hT
  have hkw : k * wd ≤ 100 := Nat.le_trans (Nat.mul_le_mul hk hwd) (by decide)
  have hkw2 : (k + 1) * wd ≤ 105 := Nat.le_trans (Nat.mul_le_mul (Nat.succ_le_succ hk) hwd) (by decide)
  refine x_fn (by decide) (Nat.le_of_ble_eq_true rfl) (fun E hE => ?_)
  change E 0 0 0 [(0, .ref tb), (1, .int (nI c)), (2, .int v)] [] (y_mk n L D)
  refine r_aload_n hE dX7_put_0 rfl ?_
  refine t_geti hE f_X7_17 yI_tb_2 dX7_put_1 hm_tb ?_
  refine r_top (y := (nI k)) hs ?_
  refine r_aload_n hE dX7_put_4 rfl ?_
  refine t_geti hE f_X7_7 yI_tb_0 dX7_put_5 hm_tb ?_
  refine r_top (y := (nI wd)) hw ?_
  refine r_imulN (a := k) (b := wd) hE dX7_put_8 ?_
  refine r_iload_n hE dX7_put_9 rfl ?_
  refine r_iaddN (a := k * wd) (b := c) hE dX7_put_10 ?_
  refine r_istore_n (ls2 := [(0, .ref tb), (1, .int (nI c)), (2, .int v), (3, .int (nI ((k * wd) + c)))]) hE dX7_put_11 (by decide) rfl ?_
  refine r_iload_n hE dX7_put_12 rfl ?_
  refine r_aload_n hE dX7_put_13 rfl ?_
  refine t_geti hE f_X7_7 yI_tb_0 dX7_put_14 hm_tb ?_
  refine r_top (y := (nI wd)) hw ?_
  refine r_icmp_geN (a := c) (b := wd) (tgt := 36) hE dX7_put_17 (by decide) (by omega) (by omega) (fun c17 => ?_) (fun c17 => ?_)
  · refine r_return hE dX7_put_36 rfl (Nat.zero_le _) (Nat.zero_le _) ?_
    unfold y_Tput
    first | rw [if_pos (by omega)] | rw [if_neg (by omega)]
    exact ⟨rfl, rfl⟩
  · refine r_iload_n hE dX7_put_20 rfl ?_
    refine r_aload_n hE dX7_put_21 rfl ?_
    refine t_getr hE f_X7_13 yR_tb_1 dX7_put_22 hm_tb ?_
    refine t_alen (v := nI len) hE yA_tc (by decide) dX7_put_25 hm_tc rfl ?_
    refine r_icmp_geN (a := (k * wd) + c) (b := len) (tgt := 36) hE dX7_put_26 (by decide) (by omega) (by omega) (fun c26 => ?_) (fun c26 => ?_)
    · refine r_return hE dX7_put_36 rfl (Nat.zero_le _) (Nat.zero_le _) ?_
      unfold y_Tput
      first | rw [if_pos (by omega)] | rw [if_neg (by omega)]
      exact ⟨rfl, rfl⟩
    · refine r_aload_n hE dX7_put_29 rfl ?_
      refine t_getr hE f_X7_13 yR_tb_1 dX7_put_30 hm_tb ?_
      refine r_iload_n hE dX7_put_33 rfl ?_
      refine r_iload_n hE dX7_put_34 rfl ?_
      refine t_iastN (e := (k * wd) + c) hE yA_tc dX7_put_35 hm_tc (by omega) (by omega) ?_
      refine r_return hE dX7_put_36 rfl (Nat.zero_le _) (Nat.zero_le _) ?_
      unfold y_Tput
      first | rw [if_pos (by omega)] | rw [if_neg (by omega)]
      exact ⟨rfl, rfl⟩
theorem k_get {V : x_E} {n : Nat} {L : List Nat} {D : y_D} {tb tc len k wd : Nat} (hT : y_T tb tc len) (hm_tb : tb ∈ L) (hm_tc : tc ∈ L) (hs : (D tb).1 2 = nI k) (hw : (D tb).1 0 = nI wd) (hk : k ≤ 20) (hwd : wd ≤ 5) (hlen : len < 1000) {r c : Nat} (hr : r < 2 ^ 31) (hc : c < 5) (hin : k * wd ≤ len) : x_Fn V yX7_get cX7_get 4 (some .int) 0 [.ref tb, .int (nI r), .int (nI c)] (y_mk n L D) (some (.int (if r < k ∧ c < wd then (D tc).1 (r * wd + c) else 0))) (y_mk n L D) := by
  have hT9 := hT
  obtain ⟨yI_tb_0, yR_tb_1, yI_tb_2, yA_tc, yK_tb, hne⟩ := hT
  have hkw : k * wd ≤ 100 := Nat.le_trans (Nat.mul_le_mul hk hwd) (by decide)
  have hkw2 : (k + 1) * wd ≤ 105 := Nat.le_trans (Nat.mul_le_mul (Nat.succ_le_succ hk) hwd) (by decide)
  refine x_fn (by decide) (Nat.le_of_ble_eq_true rfl) (fun E hE => ?_)
  change E 0 0 0 [(0, .ref tb), (1, .int (nI r)), (2, .int (nI c))] [] (y_mk n L D)
  refine r_iload_n hE dX7_get_0 rfl ?_
  refine r_if_lt (tgt := 28) hE dX7_get_1 (by decide) (fun c1 => absurd c1 (nI_pos (by omega))) (fun _ => ?_)
  refine r_iload_n hE dX7_get_4 rfl ?_
  refine r_aload_n hE dX7_get_5 rfl ?_
  refine t_geti hE f_X7_17 yI_tb_2 dX7_get_6 hm_tb ?_
  refine r_top (y := (nI k)) hs ?_
  refine r_icmp_geN (a := r) (b := k) (tgt := 28) hE dX7_get_9 (by decide) (by omega) (by omega) (fun c9 => ?_) (fun c9 => ?_)
  · refine r_iconst (v := 0) hE dX7_get_28 (by decide) ?_
    refine r_istore_n (ls2 := [(0, .ref tb), (1, .int (nI r)), (2, .int (nI c)), (3, .int 0)]) hE dX7_get_29 (by decide) rfl ?_
    refine r_iload_n hE dX7_get_30 rfl ?_
    refine r_if_eq (tgt := 50) hE dX7_get_31 (by decide) (fun _ => ?_) (fun c31 => by first | exact absurd c31 (by decide) | exact absurd (by decide) c31)
    refine r_iconst (v := 0) hE dX7_get_50 (by decide) ?_
    refine r_ireturn hE dX7_get_51 rfl rfl (Nat.zero_le _) (Nat.zero_le _) ?_
    first | rw [if_pos (by omega)] | rw [if_neg (by omega)]
    exact ⟨rfl, rfl⟩
  · refine r_iload_n hE dX7_get_12 rfl ?_
    refine r_if_lt (tgt := 28) hE dX7_get_13 (by decide) (fun c13 => absurd c13 (nI_pos (by omega))) (fun _ => ?_)
    refine r_iload_n hE dX7_get_16 rfl ?_
    refine r_aload_n hE dX7_get_17 rfl ?_
    refine t_geti hE f_X7_7 yI_tb_0 dX7_get_18 hm_tb ?_
    refine r_top (y := (nI wd)) hw ?_
    refine r_icmp_geN (a := c) (b := wd) (tgt := 28) hE dX7_get_21 (by decide) (by omega) (by omega) (fun c21 => ?_) (fun c21 => ?_)
    · refine r_iconst (v := 0) hE dX7_get_28 (by decide) ?_
      refine r_istore_n (ls2 := [(0, .ref tb), (1, .int (nI r)), (2, .int (nI c)), (3, .int 0)]) hE dX7_get_29 (by decide) rfl ?_
      refine r_iload_n hE dX7_get_30 rfl ?_
      refine r_if_eq (tgt := 50) hE dX7_get_31 (by decide) (fun _ => ?_) (fun c31 => by first | exact absurd c31 (by decide) | exact absurd (by decide) c31)
      refine r_iconst (v := 0) hE dX7_get_50 (by decide) ?_
      refine r_ireturn hE dX7_get_51 rfl rfl (Nat.zero_le _) (Nat.zero_le _) ?_
      first | rw [if_pos (by omega)] | rw [if_neg (by omega)]
      exact ⟨rfl, rfl⟩
    · refine r_iconst (v := 1) hE dX7_get_24 (by decide) ?_
      refine r_goto (tgt := 29) hE dX7_get_25 (by decide) ?_
      refine r_istore_n (ls2 := [(0, .ref tb), (1, .int (nI r)), (2, .int (nI c)), (3, .int 1)]) hE dX7_get_29 (by decide) rfl ?_
      refine r_iload_n hE dX7_get_30 rfl ?_
      refine r_if_eq (tgt := 50) hE dX7_get_31 (by decide) (fun c31 => by first | exact absurd c31 (by decide) | exact absurd (by decide) c31) (fun _ => ?_)
      refine r_aload_n hE dX7_get_34 rfl ?_
      refine t_getr hE f_X7_13 yR_tb_1 dX7_get_35 hm_tb ?_
      refine r_iload_n hE dX7_get_38 rfl ?_
      refine r_aload_n hE dX7_get_39 rfl ?_
      refine t_geti hE f_X7_7 yI_tb_0 dX7_get_40 hm_tb ?_
      refine r_top (y := (nI wd)) hw ?_
      refine r_imulN (a := r) (b := wd) hE dX7_get_43 ?_
      refine r_iload_n hE dX7_get_44 rfl ?_
      refine r_iaddN (a := r * wd) (b := c) hE dX7_get_45 ?_
      refine t_ialdN (e := (r * wd) + c) hE yA_tc dX7_get_46 hm_tc (by exact y_idx c9 c21 hin) (by omega) ?_
      refine r_goto (tgt := 51) hE dX7_get_47 (by decide) ?_
      refine r_ireturn hE dX7_get_51 rfl rfl (Nat.zero_le _) (Nat.zero_le _) ?_
      first | rw [if_pos (by omega)] | rw [if_neg (by omega)]
      exact ⟨rfl, rfl⟩
theorem y_Tput_n {D : y_D} {tc len k wd c j : Nat} {v : Int32} (h : j ≠ tc) : y_Tput D tc len k wd c v j = D j := by
  unfold y_Tput
  split
  · exact y_si_n h
  · rfl
def y_Tadd (D : y_D) (tb tc len k wd : Nat) (a b c d e : Int32) : y_D := y_si (y_Tput (y_Tput (y_Tput (y_Tput (y_Tput D tc len k wd 0 a) tc len k wd 1 b) tc len k wd 2 c) tc len k wd 3 d) tc len k wd 4 e) tb 2 (nI (k + 1))
theorem k_add {V : x_E} {n : Nat} {L : List Nat} {D : y_D} {tb tc len k wd : Nat} (hT : y_T tb tc len) (hm_tb : tb ∈ L) (hm_tc : tc ∈ L) (hs : (D tb).1 2 = nI k) (hw : (D tb).1 0 = nI wd) (hk : k ≤ 20) (hwd : wd ≤ 5) (hlen : len < 1000) {a b c d e : Int32} : x_Fn V yX7_add cX7_add 6 (some .int) 1 [.ref tb, .int a, .int b, .int c, .int d, .int e] (y_mk n L D) (some (.int (nI k))) (y_mk n L (y_Tadd D tb tc len k wd a b c d e)) := by
  have hT9 := hT
  obtain ⟨yI_tb_0, yR_tb_1, yI_tb_2, yA_tc, yK_tb, hne⟩ := hT
  have hkw : k * wd ≤ 100 := Nat.le_trans (Nat.mul_le_mul hk hwd) (by decide)
  have hkw2 : (k + 1) * wd ≤ 105 := Nat.le_trans (Nat.mul_le_mul (Nat.succ_le_succ hk) hwd) (by decide)
  refine x_fn (by decide) (Nat.le_of_ble_eq_true rfl) (fun E hE => ?_)
  change E 0 0 0 [(0, .ref tb), (1, .int a), (2, .int b), (3, .int c), (4, .int d), (5, .int e)] [] (y_mk n L D)
  refine r_aload_n hE dX7_add_0 rfl ?_
  refine r_iconst (v := 0) hE dX7_add_1 (by decide) ?_
  refine r_iload_n hE dX7_add_2 rfl ?_
  refine t_invv (r := none) (S2 := (y_mk n L (y_Tput D tc len k wd 0 a))) hE [.int 0, .int a] (k_put hT9 hm_tb hm_tc (by exact hs) (by exact hw) hk hwd hlen (by decide)) v_yX7_put m_X7_20 dX7_add_3 rfl hm_tb (yK_tb _).choose_spec rfl (by decide) ⟨Nat.le_refl _, Nat.le_refl _⟩ (Nat.le_of_ble_eq_true rfl) ?_
  show E 0 0 6 [(0, .ref tb), (1, .int a), (2, .int b), (3, .int c), (4, .int d), (5, .int e)] [] (y_mk n L (y_Tput D tc len k wd 0 a))
  refine r_aload_n hE dX7_add_6 rfl ?_
  refine r_iconst (v := 1) hE dX7_add_7 (by decide) ?_
  refine r_iload_n hE dX7_add_8 rfl ?_
  refine t_invv (r := none) (S2 := (y_mk n L (y_Tput (y_Tput D tc len k wd 0 a) tc len k wd 1 b))) hE [.int 1, .int b] (k_put hT9 hm_tb hm_tc (by rw [y_Tput_n hne]; exact hs) (by rw [y_Tput_n hne]; exact hw) hk hwd hlen (by decide)) v_yX7_put m_X7_20 dX7_add_9 rfl hm_tb (yK_tb _).choose_spec rfl (by decide) ⟨Nat.le_refl _, Nat.le_refl _⟩ (Nat.le_of_ble_eq_true rfl) ?_
  show E 0 0 12 [(0, .ref tb), (1, .int a), (2, .int b), (3, .int c), (4, .int d), (5, .int e)] [] (y_mk n L (y_Tput (y_Tput D tc len k wd 0 a) tc len k wd 1 b))
  refine r_aload_n hE dX7_add_12 rfl ?_
  refine r_iconst (v := 2) hE dX7_add_13 (by decide) ?_
  refine r_iload_n hE dX7_add_14 rfl ?_
  refine t_invv (r := none) (S2 := (y_mk n L (y_Tput (y_Tput (y_Tput D tc len k wd 0 a) tc len k wd 1 b) tc len k wd 2 c))) hE [.int 2, .int c] (k_put hT9 hm_tb hm_tc (by rw [y_Tput_n hne, y_Tput_n hne]; exact hs) (by rw [y_Tput_n hne, y_Tput_n hne]; exact hw) hk hwd hlen (by decide)) v_yX7_put m_X7_20 dX7_add_15 rfl hm_tb (yK_tb _).choose_spec rfl (by decide) ⟨Nat.le_refl _, Nat.le_refl _⟩ (Nat.le_of_ble_eq_true rfl) ?_
  show E 0 0 18 [(0, .ref tb), (1, .int a), (2, .int b), (3, .int c), (4, .int d), (5, .int e)] [] (y_mk n L (y_Tput (y_Tput (y_Tput D tc len k wd 0 a) tc len k wd 1 b) tc len k wd 2 c))
  refine r_aload_n hE dX7_add_18 rfl ?_
  refine r_iconst (v := 3) hE dX7_add_19 (by decide) ?_
  refine r_iload hE dX7_add_20 rfl ?_
  refine t_invv (r := none) (S2 := (y_mk n L (y_Tput (y_Tput (y_Tput (y_Tput D tc len k wd 0 a) tc len k wd 1 b) tc len k wd 2 c) tc len k wd 3 d))) hE [.int 3, .int d] (k_put hT9 hm_tb hm_tc (by rw [y_Tput_n hne, y_Tput_n hne, y_Tput_n hne]; exact hs) (by rw [y_Tput_n hne, y_Tput_n hne, y_Tput_n hne]; exact hw) hk hwd hlen (by decide)) v_yX7_put m_X7_20 dX7_add_22 rfl hm_tb (yK_tb _).choose_spec rfl (by decide) ⟨Nat.le_refl _, Nat.le_refl _⟩ (Nat.le_of_ble_eq_true rfl) ?_
  show E 0 0 25 [(0, .ref tb), (1, .int a), (2, .int b), (3, .int c), (4, .int d), (5, .int e)] [] (y_mk n L (y_Tput (y_Tput (y_Tput (y_Tput D tc len k wd 0 a) tc len k wd 1 b) tc len k wd 2 c) tc len k wd 3 d))
  refine r_aload_n hE dX7_add_25 rfl ?_
  refine r_iconst (v := 4) hE dX7_add_26 (by decide) ?_
  refine r_iload hE dX7_add_27 rfl ?_
  refine t_invv (r := none) (S2 := (y_mk n L (y_Tput (y_Tput (y_Tput (y_Tput (y_Tput D tc len k wd 0 a) tc len k wd 1 b) tc len k wd 2 c) tc len k wd 3 d) tc len k wd 4 e))) hE [.int 4, .int e] (k_put hT9 hm_tb hm_tc (by rw [y_Tput_n hne, y_Tput_n hne, y_Tput_n hne, y_Tput_n hne]; exact hs) (by rw [y_Tput_n hne, y_Tput_n hne, y_Tput_n hne, y_Tput_n hne]; exact hw) hk hwd hlen (by decide)) v_yX7_put m_X7_20 dX7_add_29 rfl hm_tb (yK_tb _).choose_spec rfl (by decide) ⟨Nat.le_refl _, Nat.le_refl _⟩ (Nat.le_of_ble_eq_true rfl) ?_
  show E 0 0 32 [(0, .ref tb), (1, .int a), (2, .int b), (3, .int c), (4, .int d), (5, .int e)] [] (y_mk n L (y_Tput (y_Tput (y_Tput (y_Tput (y_Tput D tc len k wd 0 a) tc len k wd 1 b) tc len k wd 2 c) tc len k wd 3 d) tc len k wd 4 e))
  refine r_aload_n hE dX7_add_32 rfl ?_
  refine r_dup hE dX7_add_33 rfl ?_
  refine t_geti hE f_X7_17 yI_tb_2 dX7_add_34 hm_tb ?_
  refine r_top (y := (nI k)) (by rw [y_Tput_n hne, y_Tput_n hne, y_Tput_n hne, y_Tput_n hne, y_Tput_n hne]; exact hs) ?_
  refine r_iconst (v := 1) hE dX7_add_37 (by decide) ?_
  refine r_iaddN (a := k) (b := 1) hE dX7_add_38 ?_
  refine t_puti hE f_X7_17 yI_tb_2 dX7_add_39 hm_tb rfl rfl ?_
  refine r_aload_n hE dX7_add_42 rfl ?_
  refine t_geti hE f_X7_17 yI_tb_2 dX7_add_43 hm_tb ?_
  refine r_top (y := (nI (k + 1))) (by rw [y_si_s]; simp [upd]) ?_
  refine r_iconst (v := 1) hE dX7_add_46 (by decide) ?_
  refine r_isubN (a := k + 1) (b := 1) hE dX7_add_47 (by omega) ?_
  refine r_ireturn hE dX7_add_48 rfl rfl (Nat.zero_le _) (Nat.zero_le _) ?_
  exact ⟨rfl, rfl⟩
theorem k_become {V : x_E} {n : Nat} {L : List Nat} {D : y_D} {tb tc ob oc len : Nat} (hT : y_T tb tc len) (hO : y_T ob oc len) (hm_tb : tb ∈ L) (hm_tc : tc ∈ L) (hm_ob : ob ∈ L) (hm_oc : oc ∈ L) (h1 : oc ≠ tc) (h2 : oc ≠ tb) (h3 : tc ≠ tb) (hlen : len < 1000) : x_Fn V yX7_become cX7_become 3 none 0 [.ref tb, .ref ob] (y_mk n L D) none (y_mk n L (y_sw (y_si D tb 2 ((D ob).1 2)) tc (y_cp (D oc).1 (D tc).1 len))) := by
  obtain ⟨yI_tb_0, yR_tb_1, yI_tb_2, yA_tc, yK_tb, hne⟩ := hT
  obtain ⟨yI_ob_0, yR_ob_1, yI_ob_2, yA_oc, yK_ob, hne2⟩ := hO
  refine x_fn (by decide) (Nat.le_of_ble_eq_true rfl) (fun E hE => ?_)
  change E 0 0 0 [(0, .ref tb), (1, .ref ob)] [] (y_mk n L D)
  have lp : ∀ (i : Nat), i ≤ len → E 0 0 10 [(0, .ref tb), (1, .ref ob), (2, .int (nI i))] [] (y_mk n L (y_sw (y_si D tb 2 ((D ob).1 2)) tc (y_cp (D oc).1 (D tc).1 i))) := by
    intro i
    induction hm9 : (len - i) using Nat.strongRecOn generalizing i with
    | _ m9 ih =>
      intro hi
      refine r_iload_n hE dX7_become_10 rfl ?_
      refine r_aload_n hE dX7_become_11 rfl ?_
      refine t_getr hE f_X7_13 yR_tb_1 dX7_become_12 hm_tb ?_
      refine t_alen (v := nI len) hE yA_tc (by decide) dX7_become_15 hm_tc rfl ?_
      refine r_icmp_geN (a := i) (b := len) (tgt := 46) hE dX7_become_16 (by decide) (by omega) (by omega) (fun c16 => ?_) (fun c16 => ?_)
      · refine r_return hE dX7_become_46 rfl (Nat.zero_le _) (Nat.zero_le _) ?_
        have hi2 : i = len := by omega
        subst hi2
        exact ⟨rfl, rfl⟩
      · refine r_iload_n hE dX7_become_19 rfl ?_
        refine r_aload_n hE dX7_become_20 rfl ?_
        refine t_getr hE f_X7_13 yR_ob_1 dX7_become_21 hm_ob ?_
        refine t_alen (v := nI len) hE yA_oc (by decide) dX7_become_24 hm_oc rfl ?_
        refine r_icmp_geN (a := i) (b := len) (tgt := 46) hE dX7_become_25 (by decide) (by omega) (by omega) (fun c25 => ?_) (fun c25 => ?_)
        · refine r_return hE dX7_become_46 rfl (Nat.zero_le _) (Nat.zero_le _) ?_
          have hi2 : i = len := by omega
          subst hi2
          exact ⟨rfl, rfl⟩
        · refine r_aload_n hE dX7_become_28 rfl ?_
          refine t_getr hE f_X7_13 yR_tb_1 dX7_become_29 hm_tb ?_
          refine r_iload_n hE dX7_become_32 rfl ?_
          refine r_aload_n hE dX7_become_33 rfl ?_
          refine t_getr hE f_X7_13 yR_ob_1 dX7_become_34 hm_ob ?_
          refine r_iload_n hE dX7_become_37 rfl ?_
          refine t_ialdN (e := i) hE yA_oc dX7_become_38 hm_oc (by omega) (by omega) ?_
          refine t_iastN (e := i) hE yA_tc dX7_become_39 hm_tc (by omega) (by omega) ?_
          refine r_iincN (a := i) (b := 1) (ls2 := [(0, .ref tb), (1, .ref ob), (2, .int (nI (i + 1)))]) hE dX7_become_40 rfl rfl (by decide) rfl ?_
          refine r_goto (tgt := 10) hE dX7_become_43 (by decide) ?_
          rw [y_si_sw, show (y_sw (y_si D tb 2 ((D ob).1 2)) tc (y_cp (D oc).1 (D tc).1 i) oc).1 i = (D oc).1 i by simp [y_sw, y_si, h1, h2], y_cp_s]
          exact ih (len - (i + 1)) (by omega) (i + 1) rfl (by omega)
  refine r_aload_n hE dX7_become_0 rfl ?_
  refine r_aload_n hE dX7_become_1 rfl ?_
  refine t_geti hE f_X7_17 yI_ob_2 dX7_become_2 hm_ob ?_
  refine t_puti hE f_X7_17 yI_tb_2 dX7_become_5 hm_tb rfl rfl ?_
  refine r_iconst (v := 0) hE dX7_become_8 (by decide) ?_
  refine r_istore_n (ls2 := [(0, .ref tb), (1, .ref ob), (2, .int 0)]) hE dX7_become_9 (by decide) rfl ?_
  have h0 := lp 0 (by omega)
  rw [y_cp_0, show y_sw (y_si D tb 2 ((D ob).1 2)) tc (D tc).1 = y_si D tb 2 ((D ob).1 2) by
    have e9 : (D tc).1 = (y_si D tb 2 ((D ob).1 2) tc).1 := by rw [y_si_n h3]
    rw [e9, y_sw_self]] at h0
  exact h0

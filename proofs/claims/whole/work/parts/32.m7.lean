/-! a book becomes another -/
def y_swq (D : y_D) (h : Nat) (f : Nat → Option Nat) : y_D := fun j => if j = h then ((D h).1, (D h).2.1, f, (D h).2.2.2) else D j
def y_cpq (f g : Nat → Option Nat) (i : Nat) : Nat → Option Nat := fun j => if j < i then f j else g j
theorem y_sq_swq {D : y_D} {h e v : Nat} {f : Nat → Option Nat} : y_sq (y_swq D h f) h e v = y_swq D h (va_up f e (some v)) := by
  funext j
  unfold y_sq y_swq
  by_cases c : j = h
  · rw [if_pos c, if_pos rfl, if_pos c]
  · rw [if_neg c, if_neg c, if_neg c]
theorem y_swq_self {D : y_D} {h : Nat} : y_swq D h (D h).2.2.1 = D := by
  funext j
  unfold y_swq
  by_cases c : j = h
  · rw [if_pos c, c]
  · rw [if_neg c]
theorem y_cpq_0 {f g : Nat → Option Nat} : y_cpq f g 0 = g := by
  funext j
  unfold y_cpq
  rw [if_neg (by omega)]
theorem y_cpq_s {f g : Nat → Option Nat} {i v : Nat} (h : f i = some v) : va_up (y_cpq f g i) i (some v) = y_cpq f g (i + 1) := by
  funext j
  unfold va_up y_cpq
  by_cases c : j = i
  · rw [if_pos c, if_pos (by omega), c, h]
  · rw [if_neg c]
    by_cases c2 : j < i
    · rw [if_pos c2, if_pos (by omega)]
    · rw [if_neg c2, if_neg (by omega)]
theorem y_swq_ne {D : y_D} {h j : Nat} {f : Nat → Option Nat} (c : j ≠ h) : y_swq D h f j = D j := if_neg c
theorem y_si_ne {D : y_D} {h k j : Nat} {v : Int32} (c : j ≠ h) : y_si D h k v j = D j := if_neg c
theorem y_sw_ne {D : y_D} {h j : Nat} {f : Nat → Int32} (c : j ≠ h) : y_sw D h f j = D j := if_neg c
/-- a table becomes another -/
def y_tb (D : y_D) (tb ob len : Nat) : y_D := y_sw (y_si D tb 2 ((D ob).1 2)) (tb + 1) (y_cp (D (ob + 1)).1 (D (tb + 1)).1 len)
theorem y_tb_ne {D : y_D} {tb ob len j : Nat} (c : j ≠ tb) (c2 : j ≠ tb + 1) : y_tb D tb ob len j = D j := by
  unfold y_tb
  rw [y_sw_ne c2, y_si_ne c]
/-- the numbers of RULES and WAYS, and of their rows -/
def y_dh (r : Nat) : Prop := (92 ≤ r ∧ r < 112) ∨ (131 ≤ r ∧ r < 151) ∨ 191 ≤ r
theorem y_dh_lay {r : Nat} (h : y_dh r) (c : y_c) : y_lay r c = y_dyn c := by
  unfold y_dh at h
  rcases h with h | h | h
  · rcases (by omega : r = 92 ∨ r = 93 ∨ r = 94 ∨ r = 95 ∨ r = 96 ∨ r = 97 ∨ r = 98 ∨ r = 99 ∨ r = 100 ∨ r = 101 ∨ r = 102 ∨ r = 103 ∨ r = 104 ∨ r = 105 ∨ r = 106 ∨ r = 107 ∨ r = 108 ∨ r = 109 ∨ r = 110 ∨ r = 111) with rfl | rfl | rfl | rfl | rfl | rfl | rfl | rfl | rfl | rfl | rfl | rfl | rfl | rfl | rfl | rfl | rfl | rfl | rfl | rfl <;> rfl
  · rcases (by omega : r = 131 ∨ r = 132 ∨ r = 133 ∨ r = 134 ∨ r = 135 ∨ r = 136 ∨ r = 137 ∨ r = 138 ∨ r = 139 ∨ r = 140 ∨ r = 141 ∨ r = 142 ∨ r = 143 ∨ r = 144 ∨ r = 145 ∨ r = 146 ∨ r = 147 ∨ r = 148 ∨ r = 149 ∨ r = 150) with rfl | rfl | rfl | rfl | rfl | rfl | rfl | rfl | rfl | rfl | rfl | rfl | rfl | rfl | rfl | rfl | rfl | rfl | rfl | rfl <;> rfl
  · unfold y_lay
    rw [if_neg (by omega), if_pos (by omega)]
theorem y_rule_lay {r : Nat} (h : y_dh r) {c : y_c} (hk : c.2.2.2.1 = 1) : y_lay r c = .inr (4, [va_rf (c.2.2.1 0)]) := by
  rw [y_dh_lay h]
  unfold y_dyn
  rw [if_pos hk]
theorem y_way_lay {r : Nat} (h : y_dh r) {c : y_c} (hk : c.2.2.2.1 = 2) : y_lay r c = .inr (8, [.int (c.1 0), .int (c.1 1), .int (c.1 2), va_rf (c.2.2.1 0)]) := by
  rw [y_dh_lay h]
  unfold y_dyn
  rw [if_neg (by rw [hk]; decide), if_pos hk]
/-- the first len of the row h are things of the kind k -/
def y_rq (D : y_D) (L : List Nat) (h len k : Nat) : Prop := ∀ i, i < len → ∃ r, (D h).2.2.1 i = some r ∧ r ∈ L ∧ y_dh r ∧ (D r).2.2.2.1 = k
def y_bf_i (D : y_D) : y_D := y_si (y_si (y_si (y_si (y_tb (y_tb (y_tb (y_tb (y_tb (y_tb (y_tb (y_tb (D) 113 74 16) 117 78 18) 119 80 20) 121 82 12) 123 84 15) 125 86 60) 127 88 60) 129 90 24) 112 2 ((D 73).1 2)) 112 4 ((D 73).1 4)) 112 12 ((D 73).1 12)) 112 13 ((D 73).1 13)
def y_bec_i (D : y_D) : y_D := y_swq (y_swq (y_bf_i D) 115 (y_cpq (D 76).2.2.1 (D 115).2.2.1 4)) 116 (y_cpq (D 77).2.2.1 (D 116).2.2.1 6)
theorem y_bf_i_ne {D : y_D} {j : Nat} (h : ¬ (112 ≤ j ∧ j < 131)) : y_bf_i D j = D j := by
  unfold y_bf_i
  rw [y_si_ne (by omega), y_si_ne (by omega), y_si_ne (by omega), y_si_ne (by omega)]
  rw [y_tb_ne (by omega) (by omega), y_tb_ne (by omega) (by omega), y_tb_ne (by omega) (by omega), y_tb_ne (by omega) (by omega), y_tb_ne (by omega) (by omega), y_tb_ne (by omega) (by omega), y_tb_ne (by omega) (by omega), y_tb_ne (by omega) (by omega)]
theorem k_bec_i {V : x_E} {n : Nat} {L : List Nat} {D : y_D} (hL : y_ok L) (hR1 : y_rq D L 76 4 1) (hR2 : y_rq D L 77 6 2) : x_Fn V yX0_become cX0_become 3 none 1 [.ref 112, .ref 73] (y_mk n L D) none (y_mk n L (y_bec_i D)) := by
  refine x_fn (by decide) (Nat.le_of_ble_eq_true rfl) (fun E hE => ?_)
  change E 0 0 0 [(0, .ref 112), (1, .ref 73)] [] (y_mk n L D)
  have lp2 : ∀ (i : Nat), i ≤ 6 → E 0 0 147 [(0, .ref 112), (1, .ref 73), (2, .int (nI i))] [] (y_mk n L (y_swq (y_swq (y_bf_i D) 115 (y_cpq (D 76).2.2.1 (D 115).2.2.1 4)) 116 (y_cpq (D 77).2.2.1 (D 116).2.2.1 i))) := by
    intro i
    induction hm9 : (6 - i) using Nat.strongRecOn generalizing i with
    | _ m9 ih =>
      intro hi
      refine r_iload_n hE dX0_become_147 rfl ?_
      refine r_bipush (v := 6) hE dX0_become_148 (by decide) ?_
      refine r_icmp_geN (a := i) (b := 6) (tgt := 171) hE dX0_become_150 (by decide) (by omega) (by decide) (fun c150 => ?_) (fun c150 => ?_)
      · refine r_return hE dX0_become_171 rfl (Nat.zero_le _) (Nat.zero_le _) ?_
        have hi2 : i = 6 := by omega
        subst hi2
        exact ⟨rfl, rfl⟩
      · refine r_aload_n hE dX0_become_153 rfl ?_
        refine t_getr hE f_X0_28 y_R_112_3 dX0_become_154 (hL 112 (by decide)) ?_
        refine r_iload_n hE dX0_become_157 rfl ?_
        refine r_aload_n hE dX0_become_158 rfl ?_
        refine t_getr hE f_X0_28 y_R_73_3 dX0_become_159 (hL 73 (by decide)) ?_
        refine r_iload_n hE dX0_become_162 rfl ?_
        obtain ⟨r, hr, hm_r, hd_r, hk_r⟩ := hR2 i (by omega)
        refine t_aaldN (e := i) (h2 := r) hE y_Q_77 (by decide) dX0_become_163 (hL 77 (by decide)) (by omega) (by decide) hr ?_
        refine t_aastN (e := i) (v := r) hE y_Q_116 (by decide) dX0_become_164 (hL 116 (by decide)) hm_r (y_way_lay hd_r (by rw [y_swq_ne (by unfold y_dh at hd_r; omega), y_swq_ne (by unfold y_dh at hd_r; omega), y_bf_i_ne (by unfold y_dh at hd_r; omega)]; exact hk_r)) (by omega) (by decide) ?_
        refine r_iincN (a := i) (b := 1) (ls2 := [(0, .ref 112), (1, .ref 73), (2, .int (nI (i + 1)))]) hE dX0_become_165 rfl rfl (by decide) rfl ?_
        refine r_goto (tgt := 147) hE dX0_become_168 (by decide) ?_
        rw [y_sq_swq, y_cpq_s hr]
        exact ih (6 - (i + 1)) (by omega) (i + 1) rfl (by omega)
  have lp1 : ∀ (i : Nat), i ≤ 4 → E 0 0 122 [(0, .ref 112), (1, .ref 73), (2, .int (nI i))] [] (y_mk n L (y_swq (y_bf_i D) 115 (y_cpq (D 76).2.2.1 (D 115).2.2.1 i))) := by
    intro i
    induction hm9 : (4 - i) using Nat.strongRecOn generalizing i with
    | _ m9 ih =>
      intro hi
      refine r_iload_n hE dX0_become_122 rfl ?_
      refine r_iconst (v := 4) hE dX0_become_123 (by decide) ?_
      refine r_icmp_geN (a := i) (b := 4) (tgt := 145) hE dX0_become_124 (by decide) (by omega) (by decide) (fun c124 => ?_) (fun c124 => ?_)
      · refine r_iconst (v := 0) hE dX0_become_145 (by decide) ?_
        refine r_istore_n (ls2 := [(0, .ref 112), (1, .ref 73), (2, .int 0)]) hE dX0_become_146 (by decide) rfl ?_
        have hi2 : i = 4 := by omega
        subst hi2
        have h0 := lp2 0 (by omega)
        rw [y_cpq_0, show y_swq (y_swq (y_bf_i D) 115 (y_cpq (D 76).2.2.1 (D 115).2.2.1 4)) 116 (D 116).2.2.1 = y_swq (y_bf_i D) 115 (y_cpq (D 76).2.2.1 (D 115).2.2.1 4) from y_swq_self] at h0
        exact h0
      · refine r_aload_n hE dX0_become_127 rfl ?_
        refine t_getr hE f_X0_22 y_R_112_1 dX0_become_128 (hL 112 (by decide)) ?_
        refine r_iload_n hE dX0_become_131 rfl ?_
        refine r_aload_n hE dX0_become_132 rfl ?_
        refine t_getr hE f_X0_22 y_R_73_1 dX0_become_133 (hL 73 (by decide)) ?_
        refine r_iload_n hE dX0_become_136 rfl ?_
        obtain ⟨r, hr, hm_r, hd_r, hk_r⟩ := hR1 i (by omega)
        refine t_aaldN (e := i) (h2 := r) hE y_Q_76 (by decide) dX0_become_137 (hL 76 (by decide)) (by omega) (by decide) hr ?_
        refine t_aastN (e := i) (v := r) hE y_Q_115 (by decide) dX0_become_138 (hL 115 (by decide)) hm_r (y_rule_lay hd_r (by rw [y_swq_ne (by unfold y_dh at hd_r; omega), y_bf_i_ne (by unfold y_dh at hd_r; omega)]; exact hk_r)) (by omega) (by decide) ?_
        refine r_iincN (a := i) (b := 1) (ls2 := [(0, .ref 112), (1, .ref 73), (2, .int (nI (i + 1)))]) hE dX0_become_139 rfl rfl (by decide) rfl ?_
        refine r_goto (tgt := 122) hE dX0_become_142 (by decide) ?_
        rw [y_sq_swq, y_cpq_s hr]
        exact ih (4 - (i + 1)) (by omega) (i + 1) rfl (by omega)
  refine r_aload_n hE dX0_become_0 rfl ?_
  refine t_getr hE f_X0_14 y_R_112_0 dX0_become_1 (hL 112 (by decide)) ?_
  refine r_aload_n hE dX0_become_4 rfl ?_
  refine t_getr hE f_X0_14 y_R_73_0 dX0_become_5 (hL 73 (by decide)) ?_
  refine t_invv (r := none) (S2 := (y_mk n L (y_tb D 113 74 16))) hE [.ref 74] (k_become y_T_113 y_T_74 (hL 113 (by decide)) (hL 114 (by decide)) (hL 74 (by decide)) (hL 75 (by decide)) (by decide) (by decide) (by decide) (by decide)) v_yX7_become m_X0_96 dX0_become_8 rfl (hL 113 (by decide)) (y_l_113 (D 113)) rfl (by decide) ⟨Nat.le_refl _, Nat.le_refl _⟩ (Nat.le_of_ble_eq_true rfl) ?_
  show E 0 0 11 [(0, .ref 112), (1, .ref 73)] [] (y_mk n L (y_tb D 113 74 16))
  refine r_aload_n hE dX0_become_11 rfl ?_
  refine t_getr hE f_X0_32 y_R_112_5 dX0_become_12 (hL 112 (by decide)) ?_
  refine r_aload_n hE dX0_become_15 rfl ?_
  refine t_getr hE f_X0_32 y_R_73_5 dX0_become_16 (hL 73 (by decide)) ?_
  refine t_invv (r := none) (S2 := (y_mk n L (y_tb (y_tb D 113 74 16) 117 78 18))) hE [.ref 78] (k_become y_T_117 y_T_78 (hL 117 (by decide)) (hL 118 (by decide)) (hL 78 (by decide)) (hL 79 (by decide)) (by decide) (by decide) (by decide) (by decide)) v_yX7_become m_X0_96 dX0_become_19 rfl (hL 117 (by decide)) (y_l_117 ((y_tb D 113 74 16) 117)) rfl (by decide) ⟨Nat.le_refl _, Nat.le_refl _⟩ (Nat.le_of_ble_eq_true rfl) ?_
  show E 0 0 22 [(0, .ref 112), (1, .ref 73)] [] (y_mk n L (y_tb (y_tb D 113 74 16) 117 78 18))
  refine r_aload_n hE dX0_become_22 rfl ?_
  refine t_getr hE f_X0_35 y_R_112_6 dX0_become_23 (hL 112 (by decide)) ?_
  refine r_aload_n hE dX0_become_26 rfl ?_
  refine t_getr hE f_X0_35 y_R_73_6 dX0_become_27 (hL 73 (by decide)) ?_
  refine t_invv (r := none) (S2 := (y_mk n L (y_tb (y_tb (y_tb D 113 74 16) 117 78 18) 119 80 20))) hE [.ref 80] (k_become y_T_119 y_T_80 (hL 119 (by decide)) (hL 120 (by decide)) (hL 80 (by decide)) (hL 81 (by decide)) (by decide) (by decide) (by decide) (by decide)) v_yX7_become m_X0_96 dX0_become_30 rfl (hL 119 (by decide)) (y_l_119 ((y_tb (y_tb D 113 74 16) 117 78 18) 119)) rfl (by decide) ⟨Nat.le_refl _, Nat.le_refl _⟩ (Nat.le_of_ble_eq_true rfl) ?_
  show E 0 0 33 [(0, .ref 112), (1, .ref 73)] [] (y_mk n L (y_tb (y_tb (y_tb D 113 74 16) 117 78 18) 119 80 20))
  refine r_aload_n hE dX0_become_33 rfl ?_
  refine t_getr hE f_X0_38 y_R_112_7 dX0_become_34 (hL 112 (by decide)) ?_
  refine r_aload_n hE dX0_become_37 rfl ?_
  refine t_getr hE f_X0_38 y_R_73_7 dX0_become_38 (hL 73 (by decide)) ?_
  refine t_invv (r := none) (S2 := (y_mk n L (y_tb (y_tb (y_tb (y_tb D 113 74 16) 117 78 18) 119 80 20) 121 82 12))) hE [.ref 82] (k_become y_T_121 y_T_82 (hL 121 (by decide)) (hL 122 (by decide)) (hL 82 (by decide)) (hL 83 (by decide)) (by decide) (by decide) (by decide) (by decide)) v_yX7_become m_X0_96 dX0_become_41 rfl (hL 121 (by decide)) (y_l_121 ((y_tb (y_tb (y_tb D 113 74 16) 117 78 18) 119 80 20) 121)) rfl (by decide) ⟨Nat.le_refl _, Nat.le_refl _⟩ (Nat.le_of_ble_eq_true rfl) ?_
  show E 0 0 44 [(0, .ref 112), (1, .ref 73)] [] (y_mk n L (y_tb (y_tb (y_tb (y_tb D 113 74 16) 117 78 18) 119 80 20) 121 82 12))
  refine r_aload_n hE dX0_become_44 rfl ?_
  refine t_getr hE f_X0_41 y_R_112_8 dX0_become_45 (hL 112 (by decide)) ?_
  refine r_aload_n hE dX0_become_48 rfl ?_
  refine t_getr hE f_X0_41 y_R_73_8 dX0_become_49 (hL 73 (by decide)) ?_
  refine t_invv (r := none) (S2 := (y_mk n L (y_tb (y_tb (y_tb (y_tb (y_tb D 113 74 16) 117 78 18) 119 80 20) 121 82 12) 123 84 15))) hE [.ref 84] (k_become y_T_123 y_T_84 (hL 123 (by decide)) (hL 124 (by decide)) (hL 84 (by decide)) (hL 85 (by decide)) (by decide) (by decide) (by decide) (by decide)) v_yX7_become m_X0_96 dX0_become_52 rfl (hL 123 (by decide)) (y_l_123 ((y_tb (y_tb (y_tb (y_tb D 113 74 16) 117 78 18) 119 80 20) 121 82 12) 123)) rfl (by decide) ⟨Nat.le_refl _, Nat.le_refl _⟩ (Nat.le_of_ble_eq_true rfl) ?_
  show E 0 0 55 [(0, .ref 112), (1, .ref 73)] [] (y_mk n L (y_tb (y_tb (y_tb (y_tb (y_tb D 113 74 16) 117 78 18) 119 80 20) 121 82 12) 123 84 15))
  refine r_aload_n hE dX0_become_55 rfl ?_
  refine t_getr hE f_X0_44 y_R_112_9 dX0_become_56 (hL 112 (by decide)) ?_
  refine r_aload_n hE dX0_become_59 rfl ?_
  refine t_getr hE f_X0_44 y_R_73_9 dX0_become_60 (hL 73 (by decide)) ?_
  refine t_invv (r := none) (S2 := (y_mk n L (y_tb (y_tb (y_tb (y_tb (y_tb (y_tb D 113 74 16) 117 78 18) 119 80 20) 121 82 12) 123 84 15) 125 86 60))) hE [.ref 86] (k_become y_T_125 y_T_86 (hL 125 (by decide)) (hL 126 (by decide)) (hL 86 (by decide)) (hL 87 (by decide)) (by decide) (by decide) (by decide) (by decide)) v_yX7_become m_X0_96 dX0_become_63 rfl (hL 125 (by decide)) (y_l_125 ((y_tb (y_tb (y_tb (y_tb (y_tb D 113 74 16) 117 78 18) 119 80 20) 121 82 12) 123 84 15) 125)) rfl (by decide) ⟨Nat.le_refl _, Nat.le_refl _⟩ (Nat.le_of_ble_eq_true rfl) ?_
  show E 0 0 66 [(0, .ref 112), (1, .ref 73)] [] (y_mk n L (y_tb (y_tb (y_tb (y_tb (y_tb (y_tb D 113 74 16) 117 78 18) 119 80 20) 121 82 12) 123 84 15) 125 86 60))
  refine r_aload_n hE dX0_become_66 rfl ?_
  refine t_getr hE f_X0_47 y_R_112_10 dX0_become_67 (hL 112 (by decide)) ?_
  refine r_aload_n hE dX0_become_70 rfl ?_
  refine t_getr hE f_X0_47 y_R_73_10 dX0_become_71 (hL 73 (by decide)) ?_
  refine t_invv (r := none) (S2 := (y_mk n L (y_tb (y_tb (y_tb (y_tb (y_tb (y_tb (y_tb D 113 74 16) 117 78 18) 119 80 20) 121 82 12) 123 84 15) 125 86 60) 127 88 60))) hE [.ref 88] (k_become y_T_127 y_T_88 (hL 127 (by decide)) (hL 128 (by decide)) (hL 88 (by decide)) (hL 89 (by decide)) (by decide) (by decide) (by decide) (by decide)) v_yX7_become m_X0_96 dX0_become_74 rfl (hL 127 (by decide)) (y_l_127 ((y_tb (y_tb (y_tb (y_tb (y_tb (y_tb D 113 74 16) 117 78 18) 119 80 20) 121 82 12) 123 84 15) 125 86 60) 127)) rfl (by decide) ⟨Nat.le_refl _, Nat.le_refl _⟩ (Nat.le_of_ble_eq_true rfl) ?_
  show E 0 0 77 [(0, .ref 112), (1, .ref 73)] [] (y_mk n L (y_tb (y_tb (y_tb (y_tb (y_tb (y_tb (y_tb D 113 74 16) 117 78 18) 119 80 20) 121 82 12) 123 84 15) 125 86 60) 127 88 60))
  refine r_aload_n hE dX0_become_77 rfl ?_
  refine t_getr hE f_X0_50 y_R_112_11 dX0_become_78 (hL 112 (by decide)) ?_
  refine r_aload_n hE dX0_become_81 rfl ?_
  refine t_getr hE f_X0_50 y_R_73_11 dX0_become_82 (hL 73 (by decide)) ?_
  refine t_invv (r := none) (S2 := (y_mk n L (y_tb (y_tb (y_tb (y_tb (y_tb (y_tb (y_tb (y_tb D 113 74 16) 117 78 18) 119 80 20) 121 82 12) 123 84 15) 125 86 60) 127 88 60) 129 90 24))) hE [.ref 90] (k_become y_T_129 y_T_90 (hL 129 (by decide)) (hL 130 (by decide)) (hL 90 (by decide)) (hL 91 (by decide)) (by decide) (by decide) (by decide) (by decide)) v_yX7_become m_X0_96 dX0_become_85 rfl (hL 129 (by decide)) (y_l_129 ((y_tb (y_tb (y_tb (y_tb (y_tb (y_tb (y_tb D 113 74 16) 117 78 18) 119 80 20) 121 82 12) 123 84 15) 125 86 60) 127 88 60) 129)) rfl (by decide) ⟨Nat.le_refl _, Nat.le_refl _⟩ (Nat.le_of_ble_eq_true rfl) ?_
  show E 0 0 88 [(0, .ref 112), (1, .ref 73)] [] (y_mk n L (y_tb (y_tb (y_tb (y_tb (y_tb (y_tb (y_tb (y_tb D 113 74 16) 117 78 18) 119 80 20) 121 82 12) 123 84 15) 125 86 60) 127 88 60) 129 90 24))
  refine r_aload_n hE dX0_become_88 rfl ?_
  refine r_aload_n hE dX0_become_89 rfl ?_
  refine t_geti hE f_X0_59 y_I_73_2 dX0_become_90 (hL 73 (by decide)) ?_
  refine r_top (y := ((D 73).1 2)) rfl ?_
  refine t_puti hE f_X0_59 y_I_112_2 dX0_become_93 (hL 112 (by decide)) rfl rfl ?_
  refine r_aload_n hE dX0_become_96 rfl ?_
  refine r_aload_n hE dX0_become_97 rfl ?_
  refine t_geti hE f_X0_63 y_I_73_4 dX0_become_98 (hL 73 (by decide)) ?_
  refine r_top (y := ((D 73).1 4)) rfl ?_
  refine t_puti hE f_X0_63 y_I_112_4 dX0_become_101 (hL 112 (by decide)) rfl rfl ?_
  refine r_aload_n hE dX0_become_104 rfl ?_
  refine r_aload_n hE dX0_become_105 rfl ?_
  refine t_geti hE f_X0_100 y_I_73_12 dX0_become_106 (hL 73 (by decide)) ?_
  refine r_top (y := ((D 73).1 12)) rfl ?_
  refine t_puti hE f_X0_100 y_I_112_12 dX0_become_109 (hL 112 (by decide)) rfl rfl ?_
  refine r_aload_n hE dX0_become_112 rfl ?_
  refine r_aload_n hE dX0_become_113 rfl ?_
  refine t_geti hE f_X0_103 y_I_73_13 dX0_become_114 (hL 73 (by decide)) ?_
  refine r_top (y := ((D 73).1 13)) rfl ?_
  refine t_puti hE f_X0_103 y_I_112_13 dX0_become_117 (hL 112 (by decide)) rfl rfl ?_
  refine r_iconst (v := 0) hE dX0_become_120 (by decide) ?_
  refine r_istore_n (ls2 := [(0, .ref 112), (1, .ref 73), (2, .int 0)]) hE dX0_become_121 (by decide) rfl ?_
  have h0 := lp1 0 (by omega)
  rw [y_cpq_0, show y_swq (y_bf_i D) 115 (D 115).2.2.1 = y_bf_i D from y_swq_self] at h0
  exact h0
def y_bf_b (D : y_D) : y_D := y_si (y_si (y_si (y_si (y_tb (y_tb (y_tb (y_tb (y_tb (y_tb (y_tb (y_tb (D) 74 113 16) 78 117 18) 80 119 20) 82 121 12) 84 123 15) 86 125 60) 88 127 60) 90 129 24) 73 2 ((D 112).1 2)) 73 4 ((D 112).1 4)) 73 12 ((D 112).1 12)) 73 13 ((D 112).1 13)
def y_bec_b (D : y_D) : y_D := y_swq (y_swq (y_bf_b D) 76 (y_cpq (D 115).2.2.1 (D 76).2.2.1 4)) 77 (y_cpq (D 116).2.2.1 (D 77).2.2.1 6)
theorem y_bf_b_ne {D : y_D} {j : Nat} (h : ¬ (73 ≤ j ∧ j < 92)) : y_bf_b D j = D j := by
  unfold y_bf_b
  rw [y_si_ne (by omega), y_si_ne (by omega), y_si_ne (by omega), y_si_ne (by omega)]
  rw [y_tb_ne (by omega) (by omega), y_tb_ne (by omega) (by omega), y_tb_ne (by omega) (by omega), y_tb_ne (by omega) (by omega), y_tb_ne (by omega) (by omega), y_tb_ne (by omega) (by omega), y_tb_ne (by omega) (by omega), y_tb_ne (by omega) (by omega)]
theorem k_bec_b {V : x_E} {n : Nat} {L : List Nat} {D : y_D} (hL : y_ok L) (hR1 : y_rq D L 115 4 1) (hR2 : y_rq D L 116 6 2) : x_Fn V yX0_become cX0_become 3 none 1 [.ref 73, .ref 112] (y_mk n L D) none (y_mk n L (y_bec_b D)) := by
  refine x_fn (by decide) (Nat.le_of_ble_eq_true rfl) (fun E hE => ?_)
  change E 0 0 0 [(0, .ref 73), (1, .ref 112)] [] (y_mk n L D)
  have lp2 : ∀ (i : Nat), i ≤ 6 → E 0 0 147 [(0, .ref 73), (1, .ref 112), (2, .int (nI i))] [] (y_mk n L (y_swq (y_swq (y_bf_b D) 76 (y_cpq (D 115).2.2.1 (D 76).2.2.1 4)) 77 (y_cpq (D 116).2.2.1 (D 77).2.2.1 i))) := by
    intro i
    induction hm9 : (6 - i) using Nat.strongRecOn generalizing i with
    | _ m9 ih =>
      intro hi
      refine r_iload_n hE dX0_become_147 rfl ?_
      refine r_bipush (v := 6) hE dX0_become_148 (by decide) ?_
      refine r_icmp_geN (a := i) (b := 6) (tgt := 171) hE dX0_become_150 (by decide) (by omega) (by decide) (fun c150 => ?_) (fun c150 => ?_)
      · refine r_return hE dX0_become_171 rfl (Nat.zero_le _) (Nat.zero_le _) ?_
        have hi2 : i = 6 := by omega
        subst hi2
        exact ⟨rfl, rfl⟩
      · refine r_aload_n hE dX0_become_153 rfl ?_
        refine t_getr hE f_X0_28 y_R_73_3 dX0_become_154 (hL 73 (by decide)) ?_
        refine r_iload_n hE dX0_become_157 rfl ?_
        refine r_aload_n hE dX0_become_158 rfl ?_
        refine t_getr hE f_X0_28 y_R_112_3 dX0_become_159 (hL 112 (by decide)) ?_
        refine r_iload_n hE dX0_become_162 rfl ?_
        obtain ⟨r, hr, hm_r, hd_r, hk_r⟩ := hR2 i (by omega)
        refine t_aaldN (e := i) (h2 := r) hE y_Q_116 (by decide) dX0_become_163 (hL 116 (by decide)) (by omega) (by decide) hr ?_
        refine t_aastN (e := i) (v := r) hE y_Q_77 (by decide) dX0_become_164 (hL 77 (by decide)) hm_r (y_way_lay hd_r (by rw [y_swq_ne (by unfold y_dh at hd_r; omega), y_swq_ne (by unfold y_dh at hd_r; omega), y_bf_b_ne (by unfold y_dh at hd_r; omega)]; exact hk_r)) (by omega) (by decide) ?_
        refine r_iincN (a := i) (b := 1) (ls2 := [(0, .ref 73), (1, .ref 112), (2, .int (nI (i + 1)))]) hE dX0_become_165 rfl rfl (by decide) rfl ?_
        refine r_goto (tgt := 147) hE dX0_become_168 (by decide) ?_
        rw [y_sq_swq, y_cpq_s hr]
        exact ih (6 - (i + 1)) (by omega) (i + 1) rfl (by omega)
  have lp1 : ∀ (i : Nat), i ≤ 4 → E 0 0 122 [(0, .ref 73), (1, .ref 112), (2, .int (nI i))] [] (y_mk n L (y_swq (y_bf_b D) 76 (y_cpq (D 115).2.2.1 (D 76).2.2.1 i))) := by
    intro i
    induction hm9 : (4 - i) using Nat.strongRecOn generalizing i with
    | _ m9 ih =>
      intro hi
      refine r_iload_n hE dX0_become_122 rfl ?_
      refine r_iconst (v := 4) hE dX0_become_123 (by decide) ?_
      refine r_icmp_geN (a := i) (b := 4) (tgt := 145) hE dX0_become_124 (by decide) (by omega) (by decide) (fun c124 => ?_) (fun c124 => ?_)
      · refine r_iconst (v := 0) hE dX0_become_145 (by decide) ?_
        refine r_istore_n (ls2 := [(0, .ref 73), (1, .ref 112), (2, .int 0)]) hE dX0_become_146 (by decide) rfl ?_
        have hi2 : i = 4 := by omega
        subst hi2
        have h0 := lp2 0 (by omega)
        rw [y_cpq_0, show y_swq (y_swq (y_bf_b D) 76 (y_cpq (D 115).2.2.1 (D 76).2.2.1 4)) 77 (D 77).2.2.1 = y_swq (y_bf_b D) 76 (y_cpq (D 115).2.2.1 (D 76).2.2.1 4) from y_swq_self] at h0
        exact h0
      · refine r_aload_n hE dX0_become_127 rfl ?_
        refine t_getr hE f_X0_22 y_R_73_1 dX0_become_128 (hL 73 (by decide)) ?_
        refine r_iload_n hE dX0_become_131 rfl ?_
        refine r_aload_n hE dX0_become_132 rfl ?_
        refine t_getr hE f_X0_22 y_R_112_1 dX0_become_133 (hL 112 (by decide)) ?_
        refine r_iload_n hE dX0_become_136 rfl ?_
        obtain ⟨r, hr, hm_r, hd_r, hk_r⟩ := hR1 i (by omega)
        refine t_aaldN (e := i) (h2 := r) hE y_Q_115 (by decide) dX0_become_137 (hL 115 (by decide)) (by omega) (by decide) hr ?_
        refine t_aastN (e := i) (v := r) hE y_Q_76 (by decide) dX0_become_138 (hL 76 (by decide)) hm_r (y_rule_lay hd_r (by rw [y_swq_ne (by unfold y_dh at hd_r; omega), y_bf_b_ne (by unfold y_dh at hd_r; omega)]; exact hk_r)) (by omega) (by decide) ?_
        refine r_iincN (a := i) (b := 1) (ls2 := [(0, .ref 73), (1, .ref 112), (2, .int (nI (i + 1)))]) hE dX0_become_139 rfl rfl (by decide) rfl ?_
        refine r_goto (tgt := 122) hE dX0_become_142 (by decide) ?_
        rw [y_sq_swq, y_cpq_s hr]
        exact ih (4 - (i + 1)) (by omega) (i + 1) rfl (by omega)
  refine r_aload_n hE dX0_become_0 rfl ?_
  refine t_getr hE f_X0_14 y_R_73_0 dX0_become_1 (hL 73 (by decide)) ?_
  refine r_aload_n hE dX0_become_4 rfl ?_
  refine t_getr hE f_X0_14 y_R_112_0 dX0_become_5 (hL 112 (by decide)) ?_
  refine t_invv (r := none) (S2 := (y_mk n L (y_tb D 74 113 16))) hE [.ref 113] (k_become y_T_74 y_T_113 (hL 74 (by decide)) (hL 75 (by decide)) (hL 113 (by decide)) (hL 114 (by decide)) (by decide) (by decide) (by decide) (by decide)) v_yX7_become m_X0_96 dX0_become_8 rfl (hL 74 (by decide)) (y_l_74 (D 74)) rfl (by decide) ⟨Nat.le_refl _, Nat.le_refl _⟩ (Nat.le_of_ble_eq_true rfl) ?_
  show E 0 0 11 [(0, .ref 73), (1, .ref 112)] [] (y_mk n L (y_tb D 74 113 16))
  refine r_aload_n hE dX0_become_11 rfl ?_
  refine t_getr hE f_X0_32 y_R_73_5 dX0_become_12 (hL 73 (by decide)) ?_
  refine r_aload_n hE dX0_become_15 rfl ?_
  refine t_getr hE f_X0_32 y_R_112_5 dX0_become_16 (hL 112 (by decide)) ?_
  refine t_invv (r := none) (S2 := (y_mk n L (y_tb (y_tb D 74 113 16) 78 117 18))) hE [.ref 117] (k_become y_T_78 y_T_117 (hL 78 (by decide)) (hL 79 (by decide)) (hL 117 (by decide)) (hL 118 (by decide)) (by decide) (by decide) (by decide) (by decide)) v_yX7_become m_X0_96 dX0_become_19 rfl (hL 78 (by decide)) (y_l_78 ((y_tb D 74 113 16) 78)) rfl (by decide) ⟨Nat.le_refl _, Nat.le_refl _⟩ (Nat.le_of_ble_eq_true rfl) ?_
  show E 0 0 22 [(0, .ref 73), (1, .ref 112)] [] (y_mk n L (y_tb (y_tb D 74 113 16) 78 117 18))
  refine r_aload_n hE dX0_become_22 rfl ?_
  refine t_getr hE f_X0_35 y_R_73_6 dX0_become_23 (hL 73 (by decide)) ?_
  refine r_aload_n hE dX0_become_26 rfl ?_
  refine t_getr hE f_X0_35 y_R_112_6 dX0_become_27 (hL 112 (by decide)) ?_
  refine t_invv (r := none) (S2 := (y_mk n L (y_tb (y_tb (y_tb D 74 113 16) 78 117 18) 80 119 20))) hE [.ref 119] (k_become y_T_80 y_T_119 (hL 80 (by decide)) (hL 81 (by decide)) (hL 119 (by decide)) (hL 120 (by decide)) (by decide) (by decide) (by decide) (by decide)) v_yX7_become m_X0_96 dX0_become_30 rfl (hL 80 (by decide)) (y_l_80 ((y_tb (y_tb D 74 113 16) 78 117 18) 80)) rfl (by decide) ⟨Nat.le_refl _, Nat.le_refl _⟩ (Nat.le_of_ble_eq_true rfl) ?_
  show E 0 0 33 [(0, .ref 73), (1, .ref 112)] [] (y_mk n L (y_tb (y_tb (y_tb D 74 113 16) 78 117 18) 80 119 20))
  refine r_aload_n hE dX0_become_33 rfl ?_
  refine t_getr hE f_X0_38 y_R_73_7 dX0_become_34 (hL 73 (by decide)) ?_
  refine r_aload_n hE dX0_become_37 rfl ?_
  refine t_getr hE f_X0_38 y_R_112_7 dX0_become_38 (hL 112 (by decide)) ?_
  refine t_invv (r := none) (S2 := (y_mk n L (y_tb (y_tb (y_tb (y_tb D 74 113 16) 78 117 18) 80 119 20) 82 121 12))) hE [.ref 121] (k_become y_T_82 y_T_121 (hL 82 (by decide)) (hL 83 (by decide)) (hL 121 (by decide)) (hL 122 (by decide)) (by decide) (by decide) (by decide) (by decide)) v_yX7_become m_X0_96 dX0_become_41 rfl (hL 82 (by decide)) (y_l_82 ((y_tb (y_tb (y_tb D 74 113 16) 78 117 18) 80 119 20) 82)) rfl (by decide) ⟨Nat.le_refl _, Nat.le_refl _⟩ (Nat.le_of_ble_eq_true rfl) ?_
  show E 0 0 44 [(0, .ref 73), (1, .ref 112)] [] (y_mk n L (y_tb (y_tb (y_tb (y_tb D 74 113 16) 78 117 18) 80 119 20) 82 121 12))
  refine r_aload_n hE dX0_become_44 rfl ?_
  refine t_getr hE f_X0_41 y_R_73_8 dX0_become_45 (hL 73 (by decide)) ?_
  refine r_aload_n hE dX0_become_48 rfl ?_
  refine t_getr hE f_X0_41 y_R_112_8 dX0_become_49 (hL 112 (by decide)) ?_
  refine t_invv (r := none) (S2 := (y_mk n L (y_tb (y_tb (y_tb (y_tb (y_tb D 74 113 16) 78 117 18) 80 119 20) 82 121 12) 84 123 15))) hE [.ref 123] (k_become y_T_84 y_T_123 (hL 84 (by decide)) (hL 85 (by decide)) (hL 123 (by decide)) (hL 124 (by decide)) (by decide) (by decide) (by decide) (by decide)) v_yX7_become m_X0_96 dX0_become_52 rfl (hL 84 (by decide)) (y_l_84 ((y_tb (y_tb (y_tb (y_tb D 74 113 16) 78 117 18) 80 119 20) 82 121 12) 84)) rfl (by decide) ⟨Nat.le_refl _, Nat.le_refl _⟩ (Nat.le_of_ble_eq_true rfl) ?_
  show E 0 0 55 [(0, .ref 73), (1, .ref 112)] [] (y_mk n L (y_tb (y_tb (y_tb (y_tb (y_tb D 74 113 16) 78 117 18) 80 119 20) 82 121 12) 84 123 15))
  refine r_aload_n hE dX0_become_55 rfl ?_
  refine t_getr hE f_X0_44 y_R_73_9 dX0_become_56 (hL 73 (by decide)) ?_
  refine r_aload_n hE dX0_become_59 rfl ?_
  refine t_getr hE f_X0_44 y_R_112_9 dX0_become_60 (hL 112 (by decide)) ?_
  refine t_invv (r := none) (S2 := (y_mk n L (y_tb (y_tb (y_tb (y_tb (y_tb (y_tb D 74 113 16) 78 117 18) 80 119 20) 82 121 12) 84 123 15) 86 125 60))) hE [.ref 125] (k_become y_T_86 y_T_125 (hL 86 (by decide)) (hL 87 (by decide)) (hL 125 (by decide)) (hL 126 (by decide)) (by decide) (by decide) (by decide) (by decide)) v_yX7_become m_X0_96 dX0_become_63 rfl (hL 86 (by decide)) (y_l_86 ((y_tb (y_tb (y_tb (y_tb (y_tb D 74 113 16) 78 117 18) 80 119 20) 82 121 12) 84 123 15) 86)) rfl (by decide) ⟨Nat.le_refl _, Nat.le_refl _⟩ (Nat.le_of_ble_eq_true rfl) ?_
  show E 0 0 66 [(0, .ref 73), (1, .ref 112)] [] (y_mk n L (y_tb (y_tb (y_tb (y_tb (y_tb (y_tb D 74 113 16) 78 117 18) 80 119 20) 82 121 12) 84 123 15) 86 125 60))
  refine r_aload_n hE dX0_become_66 rfl ?_
  refine t_getr hE f_X0_47 y_R_73_10 dX0_become_67 (hL 73 (by decide)) ?_
  refine r_aload_n hE dX0_become_70 rfl ?_
  refine t_getr hE f_X0_47 y_R_112_10 dX0_become_71 (hL 112 (by decide)) ?_
  refine t_invv (r := none) (S2 := (y_mk n L (y_tb (y_tb (y_tb (y_tb (y_tb (y_tb (y_tb D 74 113 16) 78 117 18) 80 119 20) 82 121 12) 84 123 15) 86 125 60) 88 127 60))) hE [.ref 127] (k_become y_T_88 y_T_127 (hL 88 (by decide)) (hL 89 (by decide)) (hL 127 (by decide)) (hL 128 (by decide)) (by decide) (by decide) (by decide) (by decide)) v_yX7_become m_X0_96 dX0_become_74 rfl (hL 88 (by decide)) (y_l_88 ((y_tb (y_tb (y_tb (y_tb (y_tb (y_tb D 74 113 16) 78 117 18) 80 119 20) 82 121 12) 84 123 15) 86 125 60) 88)) rfl (by decide) ⟨Nat.le_refl _, Nat.le_refl _⟩ (Nat.le_of_ble_eq_true rfl) ?_
  show E 0 0 77 [(0, .ref 73), (1, .ref 112)] [] (y_mk n L (y_tb (y_tb (y_tb (y_tb (y_tb (y_tb (y_tb D 74 113 16) 78 117 18) 80 119 20) 82 121 12) 84 123 15) 86 125 60) 88 127 60))
  refine r_aload_n hE dX0_become_77 rfl ?_
  refine t_getr hE f_X0_50 y_R_73_11 dX0_become_78 (hL 73 (by decide)) ?_
  refine r_aload_n hE dX0_become_81 rfl ?_
  refine t_getr hE f_X0_50 y_R_112_11 dX0_become_82 (hL 112 (by decide)) ?_
  refine t_invv (r := none) (S2 := (y_mk n L (y_tb (y_tb (y_tb (y_tb (y_tb (y_tb (y_tb (y_tb D 74 113 16) 78 117 18) 80 119 20) 82 121 12) 84 123 15) 86 125 60) 88 127 60) 90 129 24))) hE [.ref 129] (k_become y_T_90 y_T_129 (hL 90 (by decide)) (hL 91 (by decide)) (hL 129 (by decide)) (hL 130 (by decide)) (by decide) (by decide) (by decide) (by decide)) v_yX7_become m_X0_96 dX0_become_85 rfl (hL 90 (by decide)) (y_l_90 ((y_tb (y_tb (y_tb (y_tb (y_tb (y_tb (y_tb D 74 113 16) 78 117 18) 80 119 20) 82 121 12) 84 123 15) 86 125 60) 88 127 60) 90)) rfl (by decide) ⟨Nat.le_refl _, Nat.le_refl _⟩ (Nat.le_of_ble_eq_true rfl) ?_
  show E 0 0 88 [(0, .ref 73), (1, .ref 112)] [] (y_mk n L (y_tb (y_tb (y_tb (y_tb (y_tb (y_tb (y_tb (y_tb D 74 113 16) 78 117 18) 80 119 20) 82 121 12) 84 123 15) 86 125 60) 88 127 60) 90 129 24))
  refine r_aload_n hE dX0_become_88 rfl ?_
  refine r_aload_n hE dX0_become_89 rfl ?_
  refine t_geti hE f_X0_59 y_I_112_2 dX0_become_90 (hL 112 (by decide)) ?_
  refine r_top (y := ((D 112).1 2)) rfl ?_
  refine t_puti hE f_X0_59 y_I_73_2 dX0_become_93 (hL 73 (by decide)) rfl rfl ?_
  refine r_aload_n hE dX0_become_96 rfl ?_
  refine r_aload_n hE dX0_become_97 rfl ?_
  refine t_geti hE f_X0_63 y_I_112_4 dX0_become_98 (hL 112 (by decide)) ?_
  refine r_top (y := ((D 112).1 4)) rfl ?_
  refine t_puti hE f_X0_63 y_I_73_4 dX0_become_101 (hL 73 (by decide)) rfl rfl ?_
  refine r_aload_n hE dX0_become_104 rfl ?_
  refine r_aload_n hE dX0_become_105 rfl ?_
  refine t_geti hE f_X0_100 y_I_112_12 dX0_become_106 (hL 112 (by decide)) ?_
  refine r_top (y := ((D 112).1 12)) rfl ?_
  refine t_puti hE f_X0_100 y_I_73_12 dX0_become_109 (hL 73 (by decide)) rfl rfl ?_
  refine r_aload_n hE dX0_become_112 rfl ?_
  refine r_aload_n hE dX0_become_113 rfl ?_
  refine t_geti hE f_X0_103 y_I_112_13 dX0_become_114 (hL 112 (by decide)) ?_
  refine r_top (y := ((D 112).1 13)) rfl ?_
  refine t_puti hE f_X0_103 y_I_73_13 dX0_become_117 (hL 73 (by decide)) rfl rfl ?_
  refine r_iconst (v := 0) hE dX0_become_120 (by decide) ?_
  refine r_istore_n (ls2 := [(0, .ref 73), (1, .ref 112), (2, .int 0)]) hE dX0_become_121 (by decide) rfl ?_
  have h0 := lp1 0 (by omega)
  rw [y_cpq_0, show y_swq (y_bf_b D) 76 (D 76).2.2.1 = y_bf_b D from y_swq_self] at h0
  exact h0
theorem k_image {V : x_E} {n : Nat} {L : List Nat} {D : y_D} (hL : y_ok L) (hR1 : y_rq D L 76 4 1) (hR2 : y_rq D L 77 6 2) : x_Fn V yX10_image cX10_image 1 none 2 [.ref 64] (y_mk n L D) none (y_mk n L (y_si (y_bec_i D) 64 5 1)) := by
  refine x_fn (by decide) (Nat.le_of_ble_eq_true rfl) (fun E hE => ?_)
  change E 0 0 0 [(0, .ref 64)] [] (y_mk n L D)
  refine r_aload_n hE dX10_image_0 rfl ?_
  refine t_getr hE f_X10_27 y_R_64_4 dX10_image_1 (hL 64 (by decide)) ?_
  refine r_aload_n hE dX10_image_4 rfl ?_
  refine t_getr hE f_X10_23 y_R_64_3 dX10_image_5 (hL 64 (by decide)) ?_
  refine t_invv (r := none) (S2 := (y_mk n L (y_bec_i D))) hE [.ref 73] (k_bec_i hL hR1 hR2) v_yX0_become m_X10_300 dX10_image_8 rfl (hL 112 (by decide)) (y_l_112 (D 112)) rfl (by decide) ⟨Nat.le_refl _, Nat.le_refl _⟩ (Nat.le_of_ble_eq_true rfl) ?_
  show E 0 0 11 [(0, .ref 64)] [] (y_mk n L (y_bec_i D))
  refine r_aload_n hE dX10_image_11 rfl ?_
  refine r_iconst (v := 1) hE dX10_image_12 (by decide) ?_
  refine t_puti hE f_X10_303 y_I_64_5 dX10_image_13 (hL 64 (by decide)) rfl rfl ?_
  refine r_return hE dX10_image_16 rfl (Nat.zero_le _) (Nat.zero_le _) ?_
  exact ⟨rfl, rfl⟩
def K_back (D : y_D) : Int32 × y_D := if (D 64).1 5 = 0 then (0, D) else (1, y_sw (y_bec_b D) 162 (y_cp (fun _ => 0) (D 162).1 512))
theorem k_back {V : x_E} {n : Nat} {L : List Nat} {D : y_D} (hL : y_ok L) (hR1 : y_rq D L 115 4 1) (hR2 : y_rq D L 116 6 2) : x_Fn V yX10_back cX10_back 1 (some .boolean) 2 [.ref 64] (y_mk n L D) (some (.int ((K_back D).1))) (y_mk n L ((K_back D).2)) := by
  refine x_fn (by decide) (Nat.le_of_ble_eq_true rfl) (fun E hE => ?_)
  change E 0 0 0 [(0, .ref 64)] [] (y_mk n L D)
  refine r_aload_n hE dX10_back_0 rfl ?_
  refine t_geti hE f_X10_303 y_I_64_5 dX10_back_1 (hL 64 (by decide)) ?_
  refine r_if_ne (tgt := 9) hE dX10_back_4 (by decide) (fun c4 => ?_) (fun c4 => ?_)
  · refine r_aload_n hE dX10_back_9 rfl ?_
    refine t_getr hE f_X10_23 y_R_64_3 dX10_back_10 (hL 64 (by decide)) ?_
    refine r_aload_n hE dX10_back_13 rfl ?_
    refine t_getr hE f_X10_27 y_R_64_4 dX10_back_14 (hL 64 (by decide)) ?_
    refine t_invv (r := none) (S2 := (y_mk n L (y_bec_b D))) hE [.ref 112] (k_bec_b hL hR1 hR2) v_yX0_become m_X10_300 dX10_back_17 rfl (hL 73 (by decide)) (y_l_73 (D 73)) rfl (by decide) ⟨Nat.le_refl _, Nat.le_refl _⟩ (Nat.le_of_ble_eq_true rfl) ?_
    show E 0 0 20 [(0, .ref 64)] [] (y_mk n L (y_bec_b D))
    refine r_aload_n hE dX10_back_20 rfl ?_
    refine t_getr hE f_X10_35 y_R_64_6 dX10_back_21 (hL 64 (by decide)) ?_
    refine t_invv (r := none) (S2 := (y_mk n L (y_sw (y_bec_b D) 162 (y_cp (fun _ => 0) ((y_bec_b D) 162).1 512)))) hE [] (k_forget hL) v_yX1_forget m_X10_86 dX10_back_24 rfl (hL 151 (by decide)) (y_l_151 ((y_bec_b D) 151)) rfl (by decide) ⟨Nat.le_refl _, Nat.le_refl _⟩ (Nat.le_of_ble_eq_true rfl) ?_
    show E 0 0 27 [(0, .ref 64)] [] (y_mk n L (y_sw (y_bec_b D) 162 (y_cp (fun _ => 0) ((y_bec_b D) 162).1 512)))
    refine r_iconst (v := 1) hE dX10_back_27 (by decide) ?_
    refine r_ireturn hE dX10_back_28 rfl (by decide) (Nat.zero_le _) (Nat.zero_le _) ?_
    unfold K_back
    first | rw [if_pos (by assumption)] | rw [if_neg (by assumption)]
    exact ⟨rfl, rfl⟩
  · refine r_iconst (v := 0) hE dX10_back_7 (by decide) ?_
    refine r_ireturn hE dX10_back_8 rfl (by decide) (Nat.zero_le _) (Nat.zero_le _) ?_
    unfold K_back
    first | rw [if_pos (by assumption)] | rw [if_neg (by assumption)]
    exact ⟨rfl, rfl⟩

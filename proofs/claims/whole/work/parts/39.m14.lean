/-! Course.goneThrough, freedBehind -/
theorem y_si_k {D : y_D} {h k : Nat} {v : Int32} : (y_si D h k v h).1 k = v := by
  rw [y_si_s]
  exact pk_us
def y_g5 (D : y_D) (m x : Nat) : Int32 := (D 161).1 x &&& (D 158).1 (m * 301 + x)
def y_g6 (D : y_D) (m x tk : Nat) : Int32 := if x % tk = 0 then y_g5 D m x else (D 190).1 m &&& y_g5 D m x
def y_gA (D : y_D) (m x tk : Nat) : y_D := y_si (y_si D 190 m (y_g6 D m x tk)) 159 (m * 301 + x) (y_g5 D m x)
/-- the last c places ahead of e tell what goes on to e -/
def y_sfx (f : Nat → Int32) (e : Nat) : Nat → Nat → Int32
  | 0 => f
  | c + 1 => upd (y_sfx f e c) (e - (c + 1)) (y_sfx f e c (e - (c + 1)) &&& y_sfx f e c (e - c))
def y_gs (D : y_D) (m x tk : Nat) : y_D := if x % tk < tk - 1 then y_gA D m x tk else y_sw (y_gA D m x tk) 159 (y_sfx (y_gA D m x tk 159).1 (m * 301 + x) (tk - 1))
def y_thv (D : y_D) (m x tk : Nat) : Int32 := if x % tk < tk - 1 then (if x < tk then 0 else y_g6 D m x tk &&& (y_gA D m x tk 159).1 (m * 301 + x - tk + 1)) else y_g6 D m x tk
def K_freed (D : y_D) (m x tk : Nat) : Int32 := if y_thv D m x tk = 0 then 0 else y_fr (y_w D m 0) (y_thv D m x tk) 4
theorem y_gA_ne {D : y_D} {m x tk j : Nat} (h1 : j ≠ 159) (h2 : j ≠ 190) : y_gA D m x tk j = D j := by
  unfold y_gA
  rw [y_si_ne h1, y_si_ne h2]
theorem y_gs_ne {D : y_D} {m x tk j : Nat} (h1 : j ≠ 159) (h2 : j ≠ 190) : y_gs D m x tk j = D j := by
  unfold y_gs
  split
  · exact y_gA_ne h1 h2
  · rw [y_sw_ne h1]
    exact y_gA_ne h1 h2
theorem y_ei {M x c : Nat} (h : c + 1 ≤ x) : M + (x - c - 1) = M + x - (c + 1) ∧ M + (x - c - 1) + 1 = M + x - c := by omega
theorem y_bef {x c tk : Nat} (hc : c + 1 ≤ tk) (hx : tk ≤ x + 1) (hb : x < 1000) : nI (x - c) - 1 ≤ nI x - nI tk ↔ c = tk - 1 := by
  have e : ∀ a b : Nat, a < 2 ^ 30 → b < 2 ^ 30 → (nI a - nI b).toInt = (a : Int) - b := fun a b h1 h2 => pk_sub_toInt h1 h2
  have e1 : nI (x - c) - 1 = nI (x - c) - nI 1 := rfl
  rw [e1, Int32.le_iff_toInt_le, e _ _ (by omega) (by omega), e _ _ (by omega) (by omega)]
  omega
theorem k_goneThrough {V : x_E} {n : Nat} {L : List Nat} {D : y_D} {m x tk : Nat} (hL : y_ok L) (hm : m < 6) (hx : x < 301) (ht1 : 1 ≤ tk) (ht2 : tk < 1000) : x_Fn V yX1_goneThrough cX1_goneThrough 8 (some .int) 0 [.ref 151, .int (nI m), .int (nI x), .int (nI tk)] (y_mk n L D) (some (.int (y_thv D m x tk))) (y_mk n L (y_gs D m x tk)) := by
  refine x_fn (by decide) (Nat.le_of_ble_eq_true rfl) (fun E hE => ?_)
  change E 0 0 0 [(0, .ref 151), (1, .int (nI m)), (2, .int (nI x)), (3, .int (nI tk))] [] (y_mk n L D)
  have hlt : x % tk < tk := Nat.mod_lt _ (by omega)
  have hm0 : nI (x % tk) = 0 ↔ x % tk = 0 := nI_eq (b := 0) (by omega) (by decide)
  have J : E 0 0 55 [(0, .ref 151), (1, .int (nI m)), (2, .int (nI x)), (3, .int (nI tk)), (4, .int (nI (m * 301))), (5, .int (y_g5 D m x)), (6, .int (nI (x % tk)))] [] (y_mk n L (y_si D 190 m (y_g6 D m x tk))) := by
    refine r_aload_n hE dX1_goneThrough_55 rfl ?_
    refine t_getr hE f_X1_22 y_R_151_3 dX1_goneThrough_56 (hL 151 (by decide)) ?_
    refine r_iload hE dX1_goneThrough_59 rfl ?_
    refine r_iload_n hE dX1_goneThrough_61 rfl ?_
    refine r_iaddN (a := m * 301) (b := x) hE dX1_goneThrough_62 ?_
    refine r_iload hE dX1_goneThrough_63 rfl ?_
    refine t_iastN (e := (m * 301) + x) hE y_A_159 dX1_goneThrough_65 (hL 159 (by decide)) (by omega) (by decide) ?_
    refine r_iload hE dX1_goneThrough_66 rfl ?_
    refine r_iload_n hE dX1_goneThrough_68 rfl ?_
    refine r_iconst (v := 1) hE dX1_goneThrough_69 (by decide) ?_
    refine r_isubN (a := tk) (b := 1) hE dX1_goneThrough_70 (by omega) ?_
    refine r_icmp_geN (a := x % tk) (b := tk - 1) (tgt := 104) hE dX1_goneThrough_71 (by decide) (by omega) (by omega) (fun c71 => ?_) (fun c71 => ?_)
    · refine r_iload_n hE dX1_goneThrough_104 rfl ?_
      refine r_iconst (v := 1) hE dX1_goneThrough_105 (by decide) ?_
      refine r_isub hE dX1_goneThrough_106 ?_
      refine r_istore (ls2 := [(0, .ref 151), (1, .int (nI m)), (2, .int (nI x)), (3, .int (nI tk)), (4, .int (nI (m * 301))), (5, .int (y_g5 D m x)), (6, .int (nI (x % tk))), (7, .int ((nI x) - 1))]) hE dX1_goneThrough_107 (by decide) rfl ?_
      have hxm : x % tk ≤ x := Nat.mod_le _ _
      have lp : ∀ (c : Nat) (f : Nat → Int32), c ≤ tk - 1 → f = y_sfx (y_gA D m x tk 159).1 (m * 301 + x) c → E 0 0 109 [(0, .ref 151), (1, .int (nI m)), (2, .int (nI x)), (3, .int (nI tk)), (4, .int (nI (m * 301))), (5, .int (y_g5 D m x)), (6, .int (nI (x % tk))), (7, .int (nI (x - c) - 1))] [] (y_mk n L (y_sw (y_gA D m x tk) 159 f)) := by
        intro c f
        induction hm9 : (tk - 1 - c) using Nat.strongRecOn generalizing c f with
        | _ m9 ih =>
          intro hc hf
          subst hm9
          refine r_iload hE dX1_goneThrough_109 rfl ?_
          refine r_iload_n hE dX1_goneThrough_111 rfl ?_
          refine r_iload_n hE dX1_goneThrough_112 rfl ?_
          refine r_isub hE dX1_goneThrough_113 ?_
          refine r_icmp_le (tgt := 148) hE dX1_goneThrough_114 (by decide) (fun c114 => ?_) (fun c114 => ?_)
          · refine r_aload_n hE dX1_goneThrough_148 rfl ?_
            refine t_getr hE f_X1_25 y_R_151_4 dX1_goneThrough_149 (hL 151 (by decide)) ?_
            refine r_iload_n hE dX1_goneThrough_152 rfl ?_
            refine t_ialdN (e := m) hE y_A_190 dX1_goneThrough_153 (hL 190 (by decide)) (by omega) (by decide) ?_
            refine r_top (y := (y_g6 D m x tk)) (by rw [y_sw_ne (by decide)]; unfold y_gA; rw [y_si_ne (by decide)]; exact y_si_k) ?_
            refine r_ireturn hE dX1_goneThrough_154 rfl rfl (Nat.zero_le _) (Nat.zero_le _) ?_
            have hc2 : c = tk - 1 := (y_bef (by omega) (by omega) (by omega)).mp c114
            refine ⟨congrArg (fun z => some (Value.int z)) ?_, congrArg (y_mk n L) ?_⟩
            · unfold y_thv
              exact (if_neg (show ¬ x % tk < tk - 1 by omega)).symm
            · unfold y_gs
              rw [if_neg (show ¬ x % tk < tk - 1 by omega), ← hc2, ← hf]
          · have hc3 : c ≠ tk - 1 := fun q => c114 ((y_bef (by omega) (by omega) (by omega)).mpr q)
            refine r_aload_n hE dX1_goneThrough_117 rfl ?_
            refine t_getr hE f_X1_22 y_R_151_3 dX1_goneThrough_118 (hL 151 (by decide)) ?_
            refine r_iload hE dX1_goneThrough_121 rfl ?_
            refine r_iload hE dX1_goneThrough_123 rfl ?_
            refine r_top (y := (nI (x - c - 1))) (by rw [show nI (x - c) = nI (x - c - 1) + 1 by rw [nI_1]; congr 1; omega]; grind) ?_
            refine r_iaddN (a := m * 301) (b := x - c - 1) hE dX1_goneThrough_125 ?_
            refine r_dup2 hE dX1_goneThrough_126 rfl rfl ?_
            refine t_ialdN (e := (m * 301) + (x - c - 1)) hE y_A_159 dX1_goneThrough_127 (hL 159 (by decide)) (by omega) (by decide) ?_
            refine r_top (y := (f (m * 301 + (x - c - 1)))) rfl ?_
            refine r_aload_n hE dX1_goneThrough_128 rfl ?_
            refine t_getr hE f_X1_22 y_R_151_3 dX1_goneThrough_129 (hL 151 (by decide)) ?_
            refine r_iload hE dX1_goneThrough_132 rfl ?_
            refine r_iload hE dX1_goneThrough_134 rfl ?_
            refine r_top (y := (nI (x - c - 1))) (by rw [show nI (x - c) = nI (x - c - 1) + 1 by rw [nI_1]; congr 1; omega]; grind) ?_
            refine r_iaddN (a := m * 301) (b := x - c - 1) hE dX1_goneThrough_136 ?_
            refine r_iconst (v := 1) hE dX1_goneThrough_137 (by decide) ?_
            refine r_iaddN (a := (m * 301) + (x - c - 1)) (b := 1) hE dX1_goneThrough_138 ?_
            refine t_ialdN (e := ((m * 301) + (x - c - 1)) + 1) hE y_A_159 dX1_goneThrough_139 (hL 159 (by decide)) (by omega) (by decide) ?_
            refine r_top (y := (f (m * 301 + (x - c - 1) + 1))) rfl ?_
            refine r_iand hE dX1_goneThrough_140 ?_
            refine t_iastN (e := (m * 301) + (x - c - 1)) hE y_A_159 dX1_goneThrough_141 (hL 159 (by decide)) (by omega) (by decide) ?_
            refine r_iinc (v := (nI (x - c) - 1) + (-1)) (ls2 := [(0, .ref 151), (1, .int (nI m)), (2, .int (nI x)), (3, .int (nI tk)), (4, .int (nI (m * 301))), (5, .int (y_g5 D m x)), (6, .int (nI (x % tk))), (7, .int ((nI (x - c) - 1) + (-1)))]) hE dX1_goneThrough_142 rfl rfl (by decide) rfl ?_
            refine r_goto (tgt := 109) hE dX1_goneThrough_145 (by decide) ?_
            rw [y_si_sw]
            obtain ⟨ei, ei2⟩ := y_ei (M := m * 301) (x := x) (c := c) (by omega)
            have e7 : nI (x - c) - 1 + (-1) = nI (x - (c + 1)) - 1 := by
              rw [show nI (x - c) = nI (x - (c + 1)) + 1 by rw [nI_1]; congr 1; omega]
              grind
            rw [ei2, ei, e7]
            refine ih (tk - 1 - (c + 1)) (by omega) (c + 1) _ rfl (by omega) ?_
            rw [hf]
            rfl
      have h0 := lp 0 (y_gA D m x tk 159).1 (by omega) rfl
      rw [y_sw_self] at h0
      exact h0
    · refine r_iload_n hE dX1_goneThrough_74 rfl ?_
      refine r_iload_n hE dX1_goneThrough_75 rfl ?_
      refine r_icmp_geN (a := x) (b := tk) (tgt := 83) hE dX1_goneThrough_76 (by decide) (by omega) (by omega) (fun c76 => ?_) (fun c76 => ?_)
      · refine r_aload_n hE dX1_goneThrough_83 rfl ?_
        refine t_getr hE f_X1_25 y_R_151_4 dX1_goneThrough_84 (hL 151 (by decide)) ?_
        refine r_iload_n hE dX1_goneThrough_87 rfl ?_
        refine t_ialdN (e := m) hE y_A_190 dX1_goneThrough_88 (hL 190 (by decide)) (by omega) (by decide) ?_
        refine r_top (y := (y_g6 D m x tk)) (by rw [y_si_ne (by decide)]; exact y_si_k) ?_
        refine r_aload_n hE dX1_goneThrough_89 rfl ?_
        refine t_getr hE f_X1_22 y_R_151_3 dX1_goneThrough_90 (hL 151 (by decide)) ?_
        refine r_iload hE dX1_goneThrough_93 rfl ?_
        refine r_iload_n hE dX1_goneThrough_95 rfl ?_
        refine r_iaddN (a := m * 301) (b := x) hE dX1_goneThrough_96 ?_
        refine r_iload_n hE dX1_goneThrough_97 rfl ?_
        refine r_isubN (a := (m * 301) + x) (b := tk) hE dX1_goneThrough_98 (by omega) ?_
        refine r_iconst (v := 1) hE dX1_goneThrough_99 (by decide) ?_
        refine r_iaddN (a := ((m * 301) + x) - tk) (b := 1) hE dX1_goneThrough_100 ?_
        refine t_ialdN (e := (((m * 301) + x) - tk) + 1) hE y_A_159 dX1_goneThrough_101 (hL 159 (by decide)) (by omega) (by decide) ?_
        refine r_iand hE dX1_goneThrough_102 ?_
        refine r_ireturn hE dX1_goneThrough_103 rfl rfl (Nat.zero_le _) (Nat.zero_le _) ?_
        refine ⟨congrArg (fun z => some (Value.int z)) ?_, congrArg (y_mk n L) ?_⟩
        · unfold y_thv
          rw [if_pos (show x % tk < tk - 1 by omega)]
          first
          | exact (if_pos (show x < tk by omega)).symm
          | exact (if_neg (show ¬ x < tk by omega)).symm
        · unfold y_gs
          exact (if_pos (show x % tk < tk - 1 by omega)).symm
      · refine r_iconst (v := 0) hE dX1_goneThrough_79 (by decide) ?_
        refine r_goto (tgt := 103) hE dX1_goneThrough_80 (by decide) ?_
        refine r_ireturn hE dX1_goneThrough_103 rfl rfl (Nat.zero_le _) (Nat.zero_le _) ?_
        refine ⟨congrArg (fun z => some (Value.int z)) ?_, congrArg (y_mk n L) ?_⟩
        · unfold y_thv
          rw [if_pos (show x % tk < tk - 1 by omega)]
          first
          | exact (if_pos (show x < tk by omega)).symm
          | exact (if_neg (show ¬ x < tk by omega)).symm
        · unfold y_gs
          exact (if_pos (show x % tk < tk - 1 by omega)).symm
  refine r_iload_n hE dX1_goneThrough_0 rfl ?_
  refine r_sipush (v := 301) hE dX1_goneThrough_1 (by decide) ?_
  refine r_imulN (a := m) (b := 301) hE dX1_goneThrough_4 ?_
  refine r_istore (ls2 := [(0, .ref 151), (1, .int (nI m)), (2, .int (nI x)), (3, .int (nI tk)), (4, .int (nI (m * 301)))]) hE dX1_goneThrough_5 (by decide) rfl ?_
  refine r_aload_n hE dX1_goneThrough_7 rfl ?_
  refine t_getr hE f_X1_31 y_R_151_6 dX1_goneThrough_8 (hL 151 (by decide)) ?_
  refine r_iload_n hE dX1_goneThrough_11 rfl ?_
  refine t_ialdN (e := x) hE y_A_161 dX1_goneThrough_12 (hL 161 (by decide)) (by omega) (by decide) ?_
  refine r_aload_n hE dX1_goneThrough_13 rfl ?_
  refine t_getr hE f_X1_18 y_R_151_2 dX1_goneThrough_14 (hL 151 (by decide)) ?_
  refine r_iload hE dX1_goneThrough_17 rfl ?_
  refine r_iload_n hE dX1_goneThrough_19 rfl ?_
  refine r_iaddN (a := m * 301) (b := x) hE dX1_goneThrough_20 ?_
  refine t_ialdN (e := (m * 301) + x) hE y_A_158 dX1_goneThrough_21 (hL 158 (by decide)) (by omega) (by decide) ?_
  refine r_iand hE dX1_goneThrough_22 ?_
  refine r_top (y := (y_g5 D m x)) rfl ?_
  refine r_istore (ls2 := [(0, .ref 151), (1, .int (nI m)), (2, .int (nI x)), (3, .int (nI tk)), (4, .int (nI (m * 301))), (5, .int (y_g5 D m x))]) hE dX1_goneThrough_23 (by decide) rfl ?_
  refine r_iload_n hE dX1_goneThrough_25 rfl ?_
  refine r_iload_n hE dX1_goneThrough_26 rfl ?_
  refine r_iremN (a := x) (b := tk) hE dX1_goneThrough_27 (by omega) (by omega) (by omega) ?_
  refine r_istore (ls2 := [(0, .ref 151), (1, .int (nI m)), (2, .int (nI x)), (3, .int (nI tk)), (4, .int (nI (m * 301))), (5, .int (y_g5 D m x)), (6, .int (nI (x % tk)))]) hE dX1_goneThrough_28 (by decide) rfl ?_
  refine r_aload_n hE dX1_goneThrough_30 rfl ?_
  refine t_getr hE f_X1_25 y_R_151_4 dX1_goneThrough_31 (hL 151 (by decide)) ?_
  refine r_iload_n hE dX1_goneThrough_34 rfl ?_
  refine r_iload hE dX1_goneThrough_35 rfl ?_
  refine r_if_ne (tgt := 45) hE dX1_goneThrough_37 (by decide) (fun c37 => ?_) (fun c37 => ?_)
  · refine r_aload_n hE dX1_goneThrough_45 rfl ?_
    refine t_getr hE f_X1_25 y_R_151_4 dX1_goneThrough_46 (hL 151 (by decide)) ?_
    refine r_iload_n hE dX1_goneThrough_49 rfl ?_
    refine t_ialdN (e := m) hE y_A_190 dX1_goneThrough_50 (hL 190 (by decide)) (by omega) (by decide) ?_
    refine r_iload hE dX1_goneThrough_51 rfl ?_
    refine r_iand hE dX1_goneThrough_53 ?_
    refine t_iastN (e := m) hE y_A_190 dX1_goneThrough_54 (hL 190 (by decide)) (by omega) (by decide) ?_
    have e9 : y_g6 D m x tk = (((D 190).1 m) &&& (y_g5 D m x)) := by
      unfold y_g6
      first
      | exact if_pos (hm0.mp c37)
      | exact if_pos (hm0.mp (Decidable.not_not.mp c37))
      | exact if_neg (fun q => c37 (hm0.mpr q))
    rw [show y_si D 190 m (((D 190).1 m) &&& (y_g5 D m x)) = y_si D 190 m (y_g6 D m x tk) by rw [e9]]
    exact J
  · refine r_iload hE dX1_goneThrough_40 rfl ?_
    refine r_goto (tgt := 54) hE dX1_goneThrough_42 (by decide) ?_
    refine t_iastN (e := m) hE y_A_190 dX1_goneThrough_54 (hL 190 (by decide)) (by omega) (by decide) ?_
    have e9 : y_g6 D m x tk = (y_g5 D m x) := by
      unfold y_g6
      first
      | exact if_pos (hm0.mp c37)
      | exact if_pos (hm0.mp (Decidable.not_not.mp c37))
      | exact if_neg (fun q => c37 (hm0.mpr q))
    rw [show y_si D 190 m (y_g5 D m x) = y_si D 190 m (y_g6 D m x tk) by rw [e9]]
    exact J
theorem k_freedBehind {V : x_E} {n : Nat} {L : List Nat} {D : y_D} (hV : y_V V) {m x tk : Nat} (hL : y_ok L) (hm : m < 6) (hx : x < 301) (ht : y_w D m 1 = nI tk) (ht1 : 1 ≤ tk) (ht2 : tk < 1000) (hR2 : y_rq D L 77 6 2) : x_Fn V yX1_freedBehind cX1_freedBehind 5 (some .int) 2 [.ref 151, .int (nI m), .int (nI x)] (y_mk n L D) (some (.int (K_freed D m x tk))) (y_mk n L (y_gs D m x tk)) := by
  refine x_fn (by decide) (Nat.le_of_ble_eq_true rfl) (fun E hE => ?_)
  change E 0 0 0 [(0, .ref 151), (1, .int (nI m)), (2, .int (nI x))] [] (y_mk n L D)
  obtain ⟨w, hr, hm_w, hd_w, hk_w⟩ := hR2 m (by omega)
  have hdw : w ≠ 159 := by unfold y_dh at hd_w; omega
  have hdw2 : w ≠ 190 := by unfold y_dh at hd_w; omega
  refine r_aload_n hE dX1_freedBehind_0 rfl ?_
  refine t_getr hE f_X1_37 y_R_151_0 dX1_freedBehind_1 (hL 151 (by decide)) ?_
  refine t_getr hE f_X1_72 y_R_73_3 dX1_freedBehind_4 (hL 73 (by decide)) ?_
  refine r_iload_n hE dX1_freedBehind_7 rfl ?_
  refine t_aaldN (e := m) (h2 := w) hE y_Q_77 (by decide) dX1_freedBehind_8 (hL 77 (by decide)) (by omega) (by decide) hr ?_
  refine r_astore_n (ls2 := [(0, .ref 151), (1, .int (nI m)), (2, .int (nI x)), (3, .ref w)]) hE dX1_freedBehind_9 (by decide) rfl ?_
  refine r_aload_n hE dX1_freedBehind_10 rfl ?_
  refine r_iload_n hE dX1_freedBehind_11 rfl ?_
  refine r_iload_n hE dX1_freedBehind_12 rfl ?_
  refine r_aload_n hE dX1_freedBehind_13 rfl ?_
  refine r_getf hE f_X1_125 dX1_freedBehind_14 hm_w (y_way_lay hd_w (show ((D) w).2.2.2.1 = _ from hk_w)) rfl ?_
  refine r_top (y := (nI tk)) (by rw [y_w_ok hr]; exact ht) ?_
  refine r_iconst (v := 1) hE dX1_freedBehind_17 (by decide) ?_
  refine r_mmax hE m_X1_128 dX1_freedBehind_18 (by decide) (Nat.le_of_ble_eq_true rfl) ⟨Nat.le_refl _, Nat.le_refl _⟩ ?_
  refine r_top (y := (nI tk)) (if_neg (nI_nlt (b := 1) ht1 (by omega))) ?_
  refine t_invv (r := (some (.int (y_thv D m x tk)))) (S2 := (y_mk n L (y_gs D m x tk))) hE [.int (nI m), .int (nI x), .int (nI tk)] (k_goneThrough (tk := tk) hL hm hx ht1 ht2) v_yX1_goneThrough m_X1_133 dX1_freedBehind_21 rfl (hL 151 (by decide)) (y_l_151 (D 151)) rfl (by decide) ⟨Nat.le_refl _, Nat.le_refl _⟩ (Nat.le_of_ble_eq_true rfl) ?_
  show E 0 0 24 [(0, .ref 151), (1, .int (nI m)), (2, .int (nI x)), (3, .ref w)] [.int (y_thv D m x tk)] (y_mk n L (y_gs D m x tk))
  have hk_w : ((y_gs D m x tk) w).2.2.2.1 = 2 := by rw [y_gs_ne hdw hdw2]; exact hk_w
  refine r_istore (ls2 := [(0, .ref 151), (1, .int (nI m)), (2, .int (nI x)), (3, .ref w), (4, .int (y_thv D m x tk))]) hE dX1_freedBehind_24 (by decide) rfl ?_
  refine r_iload hE dX1_freedBehind_26 rfl ?_
  refine r_if_ne (tgt := 35) hE dX1_freedBehind_28 (by decide) (fun c28 => ?_) (fun c28 => ?_)
  · refine r_aload_n hE dX1_freedBehind_35 rfl ?_
    refine r_iload hE dX1_freedBehind_36 rfl ?_
    refine t_invv (r := (some (.int (y_fr ((y_gs D m x tk w).1 0) (y_thv D m x tk) 4)))) (S2 := (y_mk n L (y_gs D m x tk))) hE [.int (y_thv D m x tk)] (k_freed (D := y_gs D m x tk) (s := y_thv D m x tk) hV hm_w hd_w hk_w) v_yX9_freed m_X1_137 dX1_freedBehind_38 rfl hm_w (y_way_lay hd_w (show ((y_gs D m x tk) w).2.2.2.1 = _ from hk_w)) rfl (by decide) ⟨Nat.le_refl _, Nat.le_refl _⟩ (Nat.le_of_ble_eq_true rfl) ?_
    show E 0 0 41 [(0, .ref 151), (1, .int (nI m)), (2, .int (nI x)), (3, .ref w), (4, .int (y_thv D m x tk))] [.int (y_fr ((y_gs D m x tk w).1 0) (y_thv D m x tk) 4)] (y_mk n L (y_gs D m x tk))
    refine r_ireturn hE dX1_freedBehind_41 rfl rfl (Nat.zero_le _) (Nat.zero_le _) ?_
    unfold K_freed
    first
    | (rw [if_pos c28]; exact ⟨rfl, rfl⟩)
    | (rw [if_pos (Decidable.not_not.mp c28)]; exact ⟨rfl, rfl⟩)
    | (rw [if_neg c28, show (y_gs D m x tk w).1 0 = y_w D m 0 by rw [y_gs_ne hdw hdw2, y_w_ok hr]]; exact ⟨rfl, rfl⟩)
  · refine r_iconst (v := 0) hE dX1_freedBehind_31 (by decide) ?_
    refine r_goto (tgt := 41) hE dX1_freedBehind_32 (by decide) ?_
    refine r_ireturn hE dX1_freedBehind_41 rfl rfl (Nat.zero_le _) (Nat.zero_le _) ?_
    unfold K_freed
    first
    | (rw [if_pos c28]; exact ⟨rfl, rfl⟩)
    | (rw [if_pos (Decidable.not_not.mp c28)]; exact ⟨rfl, rfl⟩)
    | (rw [if_neg c28, show (y_gs D m x tk w).1 0 = y_w D m 0 by rw [y_gs_ne hdw hdw2, y_w_ok hr]]; exact ⟨rfl, rfl⟩)

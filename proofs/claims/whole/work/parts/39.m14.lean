/-! Course.freedBehind -/
theorem y_beg {x tk : Nat} (h : tk ≤ x + 1) : nI x - nI tk + 1 = nI (x + 1 - tk) := by
  rw [← pk_sub h, ← nI_add]
  show _ = nI x + 1 - nI tk
  grind
theorem y_beg2 {x tk : Nat} (h : ¬ tk ≤ x + 1) (ht : tk < 1000) : ¬ 0 ≤ nI x - nI tk + 1 := by
  have e1 : nI tk - nI (x + 1) = nI (tk - (x + 1)) := pk_sub (by omega)
  have e2 : nI x + nI 1 = nI (x + 1) := by rw [nI_add]
  have e3 : (1 : Int32) ≤ nI (tk - (x + 1)) := nI_le (a := 1) (by omega) (by omega)
  have e4 : nI (tk - (x + 1)) ≤ (1000 : Int32) := nI_le (b := 1000) (by omega) (by decide)
  have e5 : nI 1 = (1 : Int32) := rfl
  grind
def y_gs (D : y_D) (m x : Nat) : y_D := y_si D 159 (m * 301 + x) ((D 161).1 x &&& (D 158).1 (m * 301 + x))
def y_thf (g : Nat → Int32) : Int32 → Nat → Nat → Int32
  | t, _, 0 => t
  | t, i, c + 1 => y_thf g (t &&& g i) (i + 1) c
theorem y_thf_0 {g : Nat → Int32} {i c : Nat} : y_thf g 0 i c = 0 := by
  induction c generalizing i with
  | zero => rfl
  | succ c ih =>
    show y_thf g (0 &&& g i) (i + 1) c = 0
    rw [show (0 : Int32) &&& g i = 0 from Int32.zero_and, ih]
def y_gg (D : y_D) (m x j : Nat) : Int32 := (y_gs D m x 159).1 (m * 301 + j)
def y_thg (D : y_D) (m x tk : Nat) : Int32 := y_thf (y_gg D m x) (y_gg D m x x) (x + 1 - tk) (x - (x + 1 - tk))
def K_freed (D : y_D) (m x tk : Nat) : Int32 := if tk ≤ x + 1 then y_fr (y_w D m 0) (y_thg D m x tk) 4 else 0
theorem k_freedBehind {V : x_E} {n : Nat} {L : List Nat} {D : y_D} (hV : y_V V) {m x tk : Nat} (hL : y_ok L) (hm : m < 6) (hx : x < 301) (ht : y_w D m 1 = nI tk) (ht1 : 1 ≤ tk) (ht2 : tk < 1000) (hR2 : y_rq D L 77 6 2) : x_Fn V yX1_freedBehind cX1_freedBehind 8 (some .int) 2 [.ref 151, .int (nI m), .int (nI x)] (y_mk n L D) (some (.int (K_freed D m x tk))) (y_mk n L (y_gs D m x)) := by
  refine x_fn (by decide) (Nat.le_of_ble_eq_true rfl) (fun E hE => ?_)
  change E 0 0 0 [(0, .ref 151), (1, .int (nI m)), (2, .int (nI x))] [] (y_mk n L D)
  obtain ⟨w, hr, hm_w, hd_w, hk_w⟩ := hR2 m (by omega)
  have hdw : w ≠ 159 := by unfold y_dh at hd_w; omega
  by_cases hb : tk ≤ x + 1
  · have lp : ∀ (i : Nat) (t : Int32), i ≤ x → x + 1 - tk ≤ i → y_thf (y_gg D m x) t i (x - i) = y_thg D m x tk → E 0 0 74 [(0, .ref 151), (1, .int (nI m)), (2, .int (nI x)), (3, .ref w), (4, .int (nI (m * 301))), (5, .int (nI (x + 1 - tk))), (6, .int t), (7, .int (nI i))] [] (y_mk n L (y_gs D m x)) := by
      intro i t
      induction hm9 : (x - i) using Nat.strongRecOn generalizing i t with
      | _ m9 ih =>
        intro hi hi2 hv
        have hk_w : ((y_gs D m x) w).2.2.2.1 = 2 := by unfold y_gs; rw [y_si_ne hdw]; exact hk_w
        refine r_iload hE dX1_freedBehind_74 rfl ?_
        refine r_iload_n hE dX1_freedBehind_76 rfl ?_
        refine r_icmp_geN (a := i) (b := x) (tgt := 106) hE dX1_freedBehind_77 (by decide) (by omega) (by omega) (fun c77 => ?_) (fun c77 => ?_)
        · refine r_aload_n hE dX1_freedBehind_106 rfl ?_
          refine r_iload hE dX1_freedBehind_107 rfl ?_
          refine t_invv (r := (some (.int (y_fr ((y_gs D m x w).1 0) t 4)))) (S2 := (y_mk n L (y_gs D m x))) hE [.int t] (k_freed (D := y_gs D m x) (s := t) hV hm_w hd_w hk_w) v_yX9_freed m_X1_122 dX1_freedBehind_109 rfl hm_w (y_way_lay hd_w (show ((y_gs D m x) w).2.2.2.1 = _ from hk_w)) rfl (by decide) ⟨Nat.le_refl _, Nat.le_refl _⟩ (Nat.le_of_ble_eq_true rfl) ?_
          show E 0 0 112 [(0, .ref 151), (1, .int (nI m)), (2, .int (nI x)), (3, .ref w), (4, .int (nI (m * 301))), (5, .int (nI (x + 1 - tk))), (6, .int t), (7, .int (nI i))] [.int (y_fr ((y_gs D m x w).1 0) t 4)] (y_mk n L (y_gs D m x))
          refine r_ireturn hE dX1_freedBehind_112 rfl rfl (Nat.zero_le _) (Nat.zero_le _) ?_
          unfold K_freed
          rw [if_pos hb, (show (y_gs D m x w).1 0 = y_w D m 0 by unfold y_gs; rw [y_si_ne hdw, y_w_ok hr]), ← hv]
          first
          | (rw [show m9 = 0 by omega]; exact ⟨rfl, rfl⟩)
          | (rw [c82, y_thf_0]; exact ⟨rfl, rfl⟩)
        · refine r_iload hE dX1_freedBehind_80 rfl ?_
          refine r_if_eq (tgt := 106) hE dX1_freedBehind_82 (by decide) (fun c82 => ?_) (fun c82 => ?_)
          · refine r_aload_n hE dX1_freedBehind_106 rfl ?_
            refine r_iload hE dX1_freedBehind_107 rfl ?_
            refine t_invv (r := (some (.int (y_fr ((y_gs D m x w).1 0) t 4)))) (S2 := (y_mk n L (y_gs D m x))) hE [.int t] (k_freed (D := y_gs D m x) (s := t) hV hm_w hd_w hk_w) v_yX9_freed m_X1_122 dX1_freedBehind_109 rfl hm_w (y_way_lay hd_w (show ((y_gs D m x) w).2.2.2.1 = _ from hk_w)) rfl (by decide) ⟨Nat.le_refl _, Nat.le_refl _⟩ (Nat.le_of_ble_eq_true rfl) ?_
            show E 0 0 112 [(0, .ref 151), (1, .int (nI m)), (2, .int (nI x)), (3, .ref w), (4, .int (nI (m * 301))), (5, .int (nI (x + 1 - tk))), (6, .int t), (7, .int (nI i))] [.int (y_fr ((y_gs D m x w).1 0) t 4)] (y_mk n L (y_gs D m x))
            refine r_ireturn hE dX1_freedBehind_112 rfl rfl (Nat.zero_le _) (Nat.zero_le _) ?_
            unfold K_freed
            rw [if_pos hb, (show (y_gs D m x w).1 0 = y_w D m 0 by unfold y_gs; rw [y_si_ne hdw, y_w_ok hr]), ← hv]
            first
            | (rw [show m9 = 0 by omega]; exact ⟨rfl, rfl⟩)
            | (rw [c82, y_thf_0]; exact ⟨rfl, rfl⟩)
          · refine r_iload hE dX1_freedBehind_85 rfl ?_
            refine r_aload_n hE dX1_freedBehind_87 rfl ?_
            refine t_getr hE f_X1_22 y_R_151_3 dX1_freedBehind_88 (hL 151 (by decide)) ?_
            refine r_iload hE dX1_freedBehind_91 rfl ?_
            refine r_iload hE dX1_freedBehind_93 rfl ?_
            refine r_iaddN (a := m * 301) (b := i) hE dX1_freedBehind_95 ?_
            refine t_ialdN (e := (m * 301) + i) hE y_A_159 dX1_freedBehind_96 (hL 159 (by decide)) (by omega) (by decide) ?_
            refine r_top (y := (y_gg D m x i)) rfl ?_
            refine r_iand hE dX1_freedBehind_97 ?_
            refine r_istore (ls2 := [(0, .ref 151), (1, .int (nI m)), (2, .int (nI x)), (3, .ref w), (4, .int (nI (m * 301))), (5, .int (nI (x + 1 - tk))), (6, .int (t &&& (y_gg D m x i))), (7, .int (nI i))]) hE dX1_freedBehind_98 (by decide) rfl ?_
            refine r_iincN (a := i) (b := 1) (ls2 := [(0, .ref 151), (1, .int (nI m)), (2, .int (nI x)), (3, .ref w), (4, .int (nI (m * 301))), (5, .int (nI (x + 1 - tk))), (6, .int (t &&& (y_gg D m x i))), (7, .int (nI (i + 1)))]) hE dX1_freedBehind_100 rfl rfl (by decide) rfl ?_
            refine r_goto (tgt := 74) hE dX1_freedBehind_103 (by decide) ?_
            refine ih (x - (i + 1)) (by omega) (i + 1) _ rfl (by omega) (by omega) ?_
            rw [← hv, show m9 = (x - (i + 1)) + 1 by omega]
            rfl
    refine r_aload_n hE dX1_freedBehind_0 rfl ?_
    refine t_getr hE f_X1_34 y_R_151_0 dX1_freedBehind_1 (hL 151 (by decide)) ?_
    refine t_getr hE f_X1_69 y_R_73_3 dX1_freedBehind_4 (hL 73 (by decide)) ?_
    refine r_iload_n hE dX1_freedBehind_7 rfl ?_
    refine t_aaldN (e := m) (h2 := w) hE y_Q_77 (by decide) dX1_freedBehind_8 (hL 77 (by decide)) (by omega) (by decide) hr ?_
    refine r_astore_n (ls2 := [(0, .ref 151), (1, .int (nI m)), (2, .int (nI x)), (3, .ref w)]) hE dX1_freedBehind_9 (by decide) rfl ?_
    refine r_iload_n hE dX1_freedBehind_10 rfl ?_
    refine r_sipush (v := 301) hE dX1_freedBehind_11 (by decide) ?_
    refine r_imulN (a := m) (b := 301) hE dX1_freedBehind_14 ?_
    refine r_istore (ls2 := [(0, .ref 151), (1, .int (nI m)), (2, .int (nI x)), (3, .ref w), (4, .int (nI (m * 301)))]) hE dX1_freedBehind_15 (by decide) rfl ?_
    refine r_aload_n hE dX1_freedBehind_17 rfl ?_
    refine t_getr hE f_X1_22 y_R_151_3 dX1_freedBehind_18 (hL 151 (by decide)) ?_
    refine r_iload hE dX1_freedBehind_21 rfl ?_
    refine r_iload_n hE dX1_freedBehind_23 rfl ?_
    refine r_iaddN (a := m * 301) (b := x) hE dX1_freedBehind_24 ?_
    refine r_aload_n hE dX1_freedBehind_25 rfl ?_
    refine t_getr hE f_X1_28 y_R_151_5 dX1_freedBehind_26 (hL 151 (by decide)) ?_
    refine r_iload_n hE dX1_freedBehind_29 rfl ?_
    refine t_ialdN (e := x) hE y_A_161 dX1_freedBehind_30 (hL 161 (by decide)) (by omega) (by decide) ?_
    refine r_aload_n hE dX1_freedBehind_31 rfl ?_
    refine t_getr hE f_X1_18 y_R_151_2 dX1_freedBehind_32 (hL 151 (by decide)) ?_
    refine r_iload hE dX1_freedBehind_35 rfl ?_
    refine r_iload_n hE dX1_freedBehind_37 rfl ?_
    refine r_iaddN (a := m * 301) (b := x) hE dX1_freedBehind_38 ?_
    refine t_ialdN (e := (m * 301) + x) hE y_A_158 dX1_freedBehind_39 (hL 158 (by decide)) (by omega) (by decide) ?_
    refine r_iand hE dX1_freedBehind_40 ?_
    refine t_iastN (e := (m * 301) + x) hE y_A_159 dX1_freedBehind_41 (hL 159 (by decide)) (by omega) (by decide) ?_
    change E 0 0 42 [(0, .ref 151), (1, .int (nI m)), (2, .int (nI x)), (3, .ref w), (4, .int (nI (m * 301)))] [] (y_mk n L (y_gs D m x))
    have hk_w : ((y_gs D m x) w).2.2.2.1 = 2 := by unfold y_gs; rw [y_si_ne hdw]; exact hk_w
    refine r_iload_n hE dX1_freedBehind_42 rfl ?_
    refine r_aload_n hE dX1_freedBehind_43 rfl ?_
    refine r_getf hE f_X1_119 dX1_freedBehind_44 hm_w (y_way_lay hd_w (show ((y_gs D m x) w).2.2.2.1 = _ from hk_w)) rfl ?_
    refine r_top (y := (nI tk)) (by unfold y_gs; rw [y_si_ne hdw, y_w_ok hr]; exact ht) ?_
    refine r_isub hE dX1_freedBehind_47 ?_
    refine r_iconst (v := 1) hE dX1_freedBehind_48 (by decide) ?_
    refine r_iadd hE dX1_freedBehind_49 ?_
    refine r_top (y := (nI (x + 1 - tk))) (y_beg hb) ?_
    refine r_istore (ls2 := [(0, .ref 151), (1, .int (nI m)), (2, .int (nI x)), (3, .ref w), (4, .int (nI (m * 301))), (5, .int (nI (x + 1 - tk)))]) hE dX1_freedBehind_50 (by decide) rfl ?_
    refine r_iload hE dX1_freedBehind_52 rfl ?_
    refine r_if_ge (tgt := 59) hE dX1_freedBehind_54 (by decide) (fun _ => ?_) (fun c54 => absurd (nI_pos' (by omega)) c54)
    refine r_aload_n hE dX1_freedBehind_59 rfl ?_
    refine t_getr hE f_X1_22 y_R_151_3 dX1_freedBehind_60 (hL 151 (by decide)) ?_
    refine r_iload hE dX1_freedBehind_63 rfl ?_
    refine r_iload_n hE dX1_freedBehind_65 rfl ?_
    refine r_iaddN (a := m * 301) (b := x) hE dX1_freedBehind_66 ?_
    refine t_ialdN (e := (m * 301) + x) hE y_A_159 dX1_freedBehind_67 (hL 159 (by decide)) (by omega) (by decide) ?_
    refine r_top (y := (y_gg D m x x)) rfl ?_
    refine r_istore (ls2 := [(0, .ref 151), (1, .int (nI m)), (2, .int (nI x)), (3, .ref w), (4, .int (nI (m * 301))), (5, .int (nI (x + 1 - tk))), (6, .int (y_gg D m x x))]) hE dX1_freedBehind_68 (by decide) rfl ?_
    refine r_iload hE dX1_freedBehind_70 rfl ?_
    refine r_istore (ls2 := [(0, .ref 151), (1, .int (nI m)), (2, .int (nI x)), (3, .ref w), (4, .int (nI (m * 301))), (5, .int (nI (x + 1 - tk))), (6, .int (y_gg D m x x)), (7, .int (nI (x + 1 - tk)))]) hE dX1_freedBehind_72 (by decide) rfl ?_
    exact lp _ _ (by omega) (by omega) rfl
  · refine r_aload_n hE dX1_freedBehind_0 rfl ?_
    refine t_getr hE f_X1_34 y_R_151_0 dX1_freedBehind_1 (hL 151 (by decide)) ?_
    refine t_getr hE f_X1_69 y_R_73_3 dX1_freedBehind_4 (hL 73 (by decide)) ?_
    refine r_iload_n hE dX1_freedBehind_7 rfl ?_
    refine t_aaldN (e := m) (h2 := w) hE y_Q_77 (by decide) dX1_freedBehind_8 (hL 77 (by decide)) (by omega) (by decide) hr ?_
    refine r_astore_n (ls2 := [(0, .ref 151), (1, .int (nI m)), (2, .int (nI x)), (3, .ref w)]) hE dX1_freedBehind_9 (by decide) rfl ?_
    refine r_iload_n hE dX1_freedBehind_10 rfl ?_
    refine r_sipush (v := 301) hE dX1_freedBehind_11 (by decide) ?_
    refine r_imulN (a := m) (b := 301) hE dX1_freedBehind_14 ?_
    refine r_istore (ls2 := [(0, .ref 151), (1, .int (nI m)), (2, .int (nI x)), (3, .ref w), (4, .int (nI (m * 301)))]) hE dX1_freedBehind_15 (by decide) rfl ?_
    refine r_aload_n hE dX1_freedBehind_17 rfl ?_
    refine t_getr hE f_X1_22 y_R_151_3 dX1_freedBehind_18 (hL 151 (by decide)) ?_
    refine r_iload hE dX1_freedBehind_21 rfl ?_
    refine r_iload_n hE dX1_freedBehind_23 rfl ?_
    refine r_iaddN (a := m * 301) (b := x) hE dX1_freedBehind_24 ?_
    refine r_aload_n hE dX1_freedBehind_25 rfl ?_
    refine t_getr hE f_X1_28 y_R_151_5 dX1_freedBehind_26 (hL 151 (by decide)) ?_
    refine r_iload_n hE dX1_freedBehind_29 rfl ?_
    refine t_ialdN (e := x) hE y_A_161 dX1_freedBehind_30 (hL 161 (by decide)) (by omega) (by decide) ?_
    refine r_aload_n hE dX1_freedBehind_31 rfl ?_
    refine t_getr hE f_X1_18 y_R_151_2 dX1_freedBehind_32 (hL 151 (by decide)) ?_
    refine r_iload hE dX1_freedBehind_35 rfl ?_
    refine r_iload_n hE dX1_freedBehind_37 rfl ?_
    refine r_iaddN (a := m * 301) (b := x) hE dX1_freedBehind_38 ?_
    refine t_ialdN (e := (m * 301) + x) hE y_A_158 dX1_freedBehind_39 (hL 158 (by decide)) (by omega) (by decide) ?_
    refine r_iand hE dX1_freedBehind_40 ?_
    refine t_iastN (e := (m * 301) + x) hE y_A_159 dX1_freedBehind_41 (hL 159 (by decide)) (by omega) (by decide) ?_
    change E 0 0 42 [(0, .ref 151), (1, .int (nI m)), (2, .int (nI x)), (3, .ref w), (4, .int (nI (m * 301)))] [] (y_mk n L (y_gs D m x))
    have hk_w : ((y_gs D m x) w).2.2.2.1 = 2 := by unfold y_gs; rw [y_si_ne hdw]; exact hk_w
    refine r_iload_n hE dX1_freedBehind_42 rfl ?_
    refine r_aload_n hE dX1_freedBehind_43 rfl ?_
    refine r_getf hE f_X1_119 dX1_freedBehind_44 hm_w (y_way_lay hd_w (show ((y_gs D m x) w).2.2.2.1 = _ from hk_w)) rfl ?_
    refine r_top (y := (nI tk)) (by unfold y_gs; rw [y_si_ne hdw, y_w_ok hr]; exact ht) ?_
    refine r_isub hE dX1_freedBehind_47 ?_
    refine r_iconst (v := 1) hE dX1_freedBehind_48 (by decide) ?_
    refine r_iadd hE dX1_freedBehind_49 ?_
    refine r_istore (ls2 := [(0, .ref 151), (1, .int (nI m)), (2, .int (nI x)), (3, .ref w), (4, .int (nI (m * 301))), (5, .int (((nI x) - (nI tk)) + 1))]) hE dX1_freedBehind_50 (by decide) rfl ?_
    refine r_iload hE dX1_freedBehind_52 rfl ?_
    refine r_if_ge (tgt := 59) hE dX1_freedBehind_54 (by decide) (fun c54 => ?_) (fun c54 => ?_)
    · exact absurd c54 (y_beg2 hb (by omega))
    · refine r_iconst (v := 0) hE dX1_freedBehind_57 (by decide) ?_
      refine r_ireturn hE dX1_freedBehind_58 rfl rfl (Nat.zero_le _) (Nat.zero_le _) ?_
      unfold K_freed
      rw [if_neg hb]
      exact ⟨rfl, rfl⟩

def y_fl (D : y_D) (h : Nat) (v : Int32) (ln : Nat) : y_D := y_sw D h (y_cp (fun _ => v) (D h).1 ln)
theorem y_fl_ne {D : y_D} {h ln j : Nat} {v : Int32} (c : j ≠ h) : y_fl D h v ln j = D j := if_neg c
def y_st0 (D : y_D) : y_D := y_fl (y_fl (y_fl (y_fl (y_si (y_si (y_si D 152 0 120) 152 1 0) 152 2 0) 153 0 301) 154 0 4) 155 0 4) 156 99 4
theorem y_st0_ne {D : y_D} {j : Nat} (c : ¬ (152 ≤ j ∧ j < 157)) : y_st0 D j = D j := by
  unfold y_st0
  rw [y_fl_ne (by omega), y_fl_ne (by omega), y_fl_ne (by omega), y_fl_ne (by omega), y_si_ne (by omega), y_si_ne (by omega), y_si_ne (by omega)]
theorem y_sln_ne {D : y_D} {k q o j : Nat} {p : Int32} (c : ¬ (152 ≤ j ∧ j < 157)) : y_sln D k p q o j = D j := by
  unfold y_sln
  split
  · rw [y_si_ne (by omega), y_si_ne (by omega), y_si_ne (by omega)]
  · split
    · rw [y_si_ne (by omega), y_si_ne (by omega)]
    · split
      · rw [y_sw_ne (by omega)]
      · rw [y_si_ne (by omega)]
/-- the first lines of a RULE bind -/
def y_stl (D1 : y_D) (t : Nat → Int32) (wo : Int32) (k : Nat) : Nat → y_D
  | 0 => D1
  | i + 1 => if nI i = wo then y_stl D1 t wo k i else y_sln (y_stl D1 t wo k i) k (t (i * 3)) (t (i * 3 + 1)).toNatClampNeg (t (i * 3 + 2)).toNatClampNeg
theorem y_stl_ne {D1 : y_D} {t : Nat → Int32} {wo : Int32} {k i j : Nat} (c : ¬ (152 ≤ j ∧ j < 157)) : y_stl D1 t wo k i j = D1 j := by
  induction i with
  | zero => rfl
  | succ i ih =>
    unfold y_stl
    split
    · exact ih
    · rw [y_sln_ne c, ih]
/-- the lines of a RULE are as they are read -/
def y_wf (t : Nat → Int32) (m : Nat) : Prop := ∀ i, i < m → ∃ q o : Nat, t (i * 3 + 1) = nI q ∧ t (i * 3 + 2) = nI o ∧ (t (i * 3) = 10 ∨ t (i * 3) = 12 → q < 4) ∧ (t (i * 3) = 13 → o ≤ 301) ∧ q < 2 ^ 31 ∧ o < 2 ^ 31
theorem k_settle {V : x_E} {n : Nat} {L : List Nat} {D : y_D} {k m r s : Nat} {wo : Int32} (hL : y_ok L) (hs : (D 74).1 2 = nI k) (hw : (D 74).1 0 = nI 2) (hk : k ≤ 8) (hm_r : r ∈ L) (hd_r : y_dh r) (hk_r : (D r).2.2.2.1 = 1) (hs_r : (D r).2.2.1 0 = some s) (hm_s : s ∈ L) (hd_s : y_dh s) (hk_s : (D s).2.2.2.1 = 0) (hl_s : (D s).2.2.2.2 = 3 * m) (hm3 : m ≤ 10) (hwf : y_wf (D s).1 m) : x_Fn V yX6_settle cX6_settle 6 none 2 [.ref 152, .ref r, .int wo, .ref 74] (y_mk n L D) none (y_mk n L (y_stl (y_st0 D) (D s).1 wo k m)) := by
  refine x_fn (by decide) (Nat.le_of_ble_eq_true rfl) (fun E hE => ?_)
  change E 0 0 0 [(0, .ref 152), (1, .ref r), (2, .int wo), (3, .ref 74)] [] (y_mk n L D)
  have lp : ∀ (i : Nat), i ≤ m → E 0 0 52 [(0, .ref 152), (1, .ref r), (2, .int wo), (3, .ref 74), (4, .int (nI i))] [] (y_mk n L (y_stl (y_st0 D) (D s).1 wo k i)) := by
    intro i
    induction hm9 : (m - i) using Nat.strongRecOn generalizing i with
    | _ m9 ih =>
      intro hi
      have ne : ∀ j, ¬ (152 ≤ j ∧ j < 157) → y_stl (y_st0 D) (D s).1 wo k i j = D j := fun j c => by rw [y_stl_ne c, y_st0_ne c]
      have hds : ¬ (152 ≤ s ∧ s < 157) := by unfold y_dh at hd_s; omega
      have hdr : ¬ (152 ≤ r ∧ r < 157) := by unfold y_dh at hd_r; omega
      have hk_r : ((y_stl (y_st0 D) (D s).1 wo k i) r).2.2.2.1 = 1 := by rw [ne r hdr]; exact hk_r
      have hs_r : ((y_stl (y_st0 D) (D s).1 wo k i) r).2.2.1 0 = some s := by rw [ne r hdr]; exact hs_r
      have hk_s : ((y_stl (y_st0 D) (D s).1 wo k i) s).2.2.2.1 = 0 := by rw [ne s hds]; exact hk_s
      have hl_s : ((y_stl (y_st0 D) (D s).1 wo k i) s).2.2.2.2 = 3 * m := by rw [ne s hds]; exact hl_s
      have hp2 : ((y_stl (y_st0 D) (D s).1 wo k i) 74).1 2 = nI k := by rw [ne 74 (by decide)]; exact hs
      have hw2 : ((y_stl (y_st0 D) (D s).1 wo k i) 74).1 0 = nI 2 := by rw [ne 74 (by decide)]; exact hw
      refine r_iload hE dX6_settle_52 rfl ?_
      refine r_aload_n hE dX6_settle_54 rfl ?_
      refine t_invv (r := (some (.int (nI (3 * m / 3))))) (S2 := (y_mk n L (y_stl (y_st0 D) (D s).1 wo k i))) hE [] (k_lineCount (s := s) (len := 3 * m) hm_r hd_r hk_r hs_r hm_s hd_s hk_s hl_s (by omega)) v_yX4_lineCount m_X6_43 dX6_settle_55 rfl hm_r (y_rule_lay hd_r (show ((y_stl (y_st0 D) (D s).1 wo k i) r).2.2.2.1 = _ from hk_r)) rfl (by decide) ⟨Nat.le_refl _, Nat.le_refl _⟩ (Nat.le_of_ble_eq_true rfl) ?_
      show E 0 0 58 [(0, .ref 152), (1, .ref r), (2, .int wo), (3, .ref 74), (4, .int (nI i))] [.int (nI (3 * m / 3)), .int (nI i)] (y_mk n L (y_stl (y_st0 D) (D s).1 wo k i))
      refine r_icmp_geN (a := i) (b := 3 * m / 3) (tgt := 109) hE dX6_settle_58 (by decide) (by omega) (by omega) (fun c58 => ?_) (fun c58 => ?_)
      · refine r_return hE dX6_settle_109 rfl (Nat.zero_le _) (Nat.zero_le _) ?_
        have hi2 : i = m := by omega
        subst hi2
        exact ⟨rfl, rfl⟩
      · refine r_iload hE dX6_settle_61 rfl ?_
        refine r_iload_n hE dX6_settle_63 rfl ?_
        refine r_icmp_eq (tgt := 103) hE dX6_settle_64 (by decide) (fun c64 => ?_) (fun c64 => ?_)
        · refine r_iincN (a := i) (b := 1) (ls2 := [(0, .ref 152), (1, .ref r), (2, .int wo), (3, .ref 74), (4, .int (nI (i + 1)))]) hE dX6_settle_103 rfl rfl (by decide) rfl ?_
          refine r_goto (tgt := 52) hE dX6_settle_106 (by decide) ?_
          have e9 : y_stl (y_st0 D) (D s).1 wo k (i + 1) = y_stl (y_st0 D) (D s).1 wo k i := by
            exact if_pos c64
          rw [← e9]
          refine r_locs hE (ls2 := [(0, .ref 152), (1, .ref r), (2, .int wo), (3, .ref 74), (4, .int (nI (i + 1)))]) ?_ (ih (m - (i + 1)) (by omega) (i + 1) rfl (by omega))
          simp [x_lk]
        · obtain ⟨q, o, hq1, ho1, hq, ho, hq3, ho3⟩ := hwf i (by omega)
          refine r_iload hE dX6_settle_67 rfl ?_
          refine r_iconst (v := 3) hE dX6_settle_69 (by decide) ?_
          refine r_imulN (a := i) (b := 3) hE dX6_settle_70 ?_
          refine r_istore (ls2 := [(0, .ref 152), (1, .ref r), (2, .int wo), (3, .ref 74), (4, .int (nI i)), (5, .int (nI (i * 3)))]) hE dX6_settle_71 (by decide) rfl ?_
          refine r_aload_n hE dX6_settle_73 rfl ?_
          refine r_aload_n hE dX6_settle_74 rfl ?_
          refine r_getf hE f_X6_49 dX6_settle_75 hm_r (y_rule_lay hd_r (show ((y_stl (y_st0 D) (D s).1 wo k i) r).2.2.2.1 = _ from hk_r)) (show _ = some (Value.ref s) by show some (va_rf (((y_stl (y_st0 D) (D s).1 wo k i) r).2.2.1 0)) = _; rw [hs_r]; rfl) ?_
          refine r_iload hE dX6_settle_78 rfl ?_
          refine t_diald (e := i * 3) (len := (3 * m)) hE hd_s (show ((y_stl (y_st0 D) (D s).1 wo k i) s).2.2.2.1 = _ from hk_s) (show ((y_stl (y_st0 D) (D s).1 wo k i) s).2.2.2.2 = _ from hl_s) dX6_settle_80 hm_s (by omega) (by omega) ?_
          refine r_top (y := ((D s).1 (i * 3))) (by rw [ne s hds]) ?_
          refine r_aload_n hE dX6_settle_81 rfl ?_
          refine r_getf hE f_X6_49 dX6_settle_82 hm_r (y_rule_lay hd_r (show ((y_stl (y_st0 D) (D s).1 wo k i) r).2.2.2.1 = _ from hk_r)) (show _ = some (Value.ref s) by show some (va_rf (((y_stl (y_st0 D) (D s).1 wo k i) r).2.2.1 0)) = _; rw [hs_r]; rfl) ?_
          refine r_iload hE dX6_settle_85 rfl ?_
          refine r_iconst (v := 1) hE dX6_settle_87 (by decide) ?_
          refine r_iaddN (a := i * 3) (b := 1) hE dX6_settle_88 ?_
          refine t_diald (e := (i * 3) + 1) (len := (3 * m)) hE hd_s (show ((y_stl (y_st0 D) (D s).1 wo k i) s).2.2.2.1 = _ from hk_s) (show ((y_stl (y_st0 D) (D s).1 wo k i) s).2.2.2.2 = _ from hl_s) dX6_settle_89 hm_s (by omega) (by omega) ?_
          refine r_top (y := (nI q)) (by rw [ne s hds]; exact hq1) ?_
          refine r_aload_n hE dX6_settle_90 rfl ?_
          refine r_getf hE f_X6_49 dX6_settle_91 hm_r (y_rule_lay hd_r (show ((y_stl (y_st0 D) (D s).1 wo k i) r).2.2.2.1 = _ from hk_r)) (show _ = some (Value.ref s) by show some (va_rf (((y_stl (y_st0 D) (D s).1 wo k i) r).2.2.1 0)) = _; rw [hs_r]; rfl) ?_
          refine r_iload hE dX6_settle_94 rfl ?_
          refine r_iconst (v := 2) hE dX6_settle_96 (by decide) ?_
          refine r_iaddN (a := i * 3) (b := 2) hE dX6_settle_97 ?_
          refine t_diald (e := (i * 3) + 2) (len := (3 * m)) hE hd_s (show ((y_stl (y_st0 D) (D s).1 wo k i) s).2.2.2.1 = _ from hk_s) (show ((y_stl (y_st0 D) (D s).1 wo k i) s).2.2.2.2 = _ from hl_s) dX6_settle_98 hm_s (by omega) (by omega) ?_
          refine r_top (y := (nI o)) (by rw [ne s hds]; exact ho1) ?_
          refine r_aload_n hE dX6_settle_99 rfl ?_
          refine t_invv (r := none) (S2 := (y_mk n L (y_sln (y_stl (y_st0 D) (D s).1 wo k i) k ((D s).1 (i * 3)) q o))) hE [.int ((D s).1 (i * 3)), .int (nI q), .int (nI o), .ref 74] (k_settleLine (D := y_stl (y_st0 D) (D s).1 wo k i) (k := k) (q := q) (o := o) hL hp2 hw2 hk hq ho hq3 ho3) v_yX6_settleLine m_X6_52 dX6_settle_100 rfl (hL 152 (by decide)) (y_l_152 ((y_stl (y_st0 D) (D s).1 wo k i) 152)) rfl (by decide) ⟨Nat.le_refl _, Nat.le_refl _⟩ (Nat.le_of_ble_eq_true rfl) ?_
          show E 0 0 103 [(0, .ref 152), (1, .ref r), (2, .int wo), (3, .ref 74), (4, .int (nI i)), (5, .int (nI (i * 3)))] [] (y_mk n L (y_sln (y_stl (y_st0 D) (D s).1 wo k i) k ((D s).1 (i * 3)) q o))
          refine r_iincN (a := i) (b := 1) (ls2 := [(0, .ref 152), (1, .ref r), (2, .int wo), (3, .ref 74), (4, .int (nI (i + 1))), (5, .int (nI (i * 3)))]) hE dX6_settle_103 rfl rfl (by decide) rfl ?_
          refine r_goto (tgt := 52) hE dX6_settle_106 (by decide) ?_
          have e9 : y_stl (y_st0 D) (D s).1 wo k (i + 1) = y_sln (y_stl (y_st0 D) (D s).1 wo k i) k ((D s).1 (i * 3)) q o := by
            show (if nI i = wo then _ else _) = _
            rw [if_neg c64, hq1, ho1, nI_clamp hq3, nI_clamp ho3]
          rw [← e9]
          refine r_locs hE (ls2 := [(0, .ref 152), (1, .ref r), (2, .int wo), (3, .ref 74), (4, .int (nI (i + 1)))]) ?_ (ih (m - (i + 1)) (by omega) (i + 1) rfl (by omega))
          simp [x_lk]
  refine r_aload_n hE dX6_settle_0 rfl ?_
  refine r_bipush (v := 120) hE dX6_settle_1 (by decide) ?_
  refine t_puti hE f_X6_27 y_I_152_0 dX6_settle_3 (hL 152 (by decide)) rfl rfl ?_
  refine r_aload_n hE dX6_settle_6 rfl ?_
  refine r_iconst (v := 0) hE dX6_settle_7 (by decide) ?_
  refine t_puti hE f_X6_31 y_I_152_1 dX6_settle_8 (hL 152 (by decide)) rfl rfl ?_
  refine r_aload_n hE dX6_settle_11 rfl ?_
  refine r_iconst (v := 0) hE dX6_settle_12 (by decide) ?_
  refine t_puti hE f_X6_34 y_I_152_2 dX6_settle_13 (hL 152 (by decide)) rfl rfl ?_
  refine r_aload_n hE dX6_settle_16 rfl ?_
  refine t_getr hE f_X6_9 y_R_152_3 dX6_settle_17 (hL 152 (by decide)) ?_
  refine r_iconst (v := 0) hE dX6_settle_20 (by decide) ?_
  refine t_invs (r := none) (S2 := (y_mk n L (y_fl (y_si (y_si (y_si D 152 0 120) 152 1 0) 152 2 0) 153 0 301))) hE [.ref 153, .int 0] (k_fill y_A_153 (hL 153 (by decide)) (by decide)) s_yJ7_fill_53178 m_X6_37 dX6_settle_21 rfl (by decide) ⟨Nat.le_refl _, Nat.le_refl _⟩ (Nat.le_of_ble_eq_true rfl) ?_
  show E 0 0 24 [(0, .ref 152), (1, .ref r), (2, .int wo), (3, .ref 74)] [] (y_mk n L (y_fl (y_si (y_si (y_si D 152 0 120) 152 1 0) 152 2 0) 153 0 301))
  refine r_aload_n hE dX6_settle_24 rfl ?_
  refine t_getr hE f_X6_15 y_R_152_4 dX6_settle_25 (hL 152 (by decide)) ?_
  refine r_iconst (v := 0) hE dX6_settle_28 (by decide) ?_
  refine t_invs (r := none) (S2 := (y_mk n L (y_fl (y_fl (y_si (y_si (y_si D 152 0 120) 152 1 0) 152 2 0) 153 0 301) 154 0 4))) hE [.ref 154, .int 0] (k_fill y_A_154 (hL 154 (by decide)) (by decide)) s_yJ7_fill_53178 m_X6_37 dX6_settle_29 rfl (by decide) ⟨Nat.le_refl _, Nat.le_refl _⟩ (Nat.le_of_ble_eq_true rfl) ?_
  show E 0 0 32 [(0, .ref 152), (1, .ref r), (2, .int wo), (3, .ref 74)] [] (y_mk n L (y_fl (y_fl (y_si (y_si (y_si D 152 0 120) 152 1 0) 152 2 0) 153 0 301) 154 0 4))
  refine r_aload_n hE dX6_settle_32 rfl ?_
  refine t_getr hE f_X6_18 y_R_152_5 dX6_settle_33 (hL 152 (by decide)) ?_
  refine r_iconst (v := 0) hE dX6_settle_36 (by decide) ?_
  refine t_invs (r := none) (S2 := (y_mk n L (y_fl (y_fl (y_fl (y_si (y_si (y_si D 152 0 120) 152 1 0) 152 2 0) 153 0 301) 154 0 4) 155 0 4))) hE [.ref 155, .int 0] (k_fill y_A_155 (hL 155 (by decide)) (by decide)) s_yJ7_fill_53178 m_X6_37 dX6_settle_37 rfl (by decide) ⟨Nat.le_refl _, Nat.le_refl _⟩ (Nat.le_of_ble_eq_true rfl) ?_
  show E 0 0 40 [(0, .ref 152), (1, .ref r), (2, .int wo), (3, .ref 74)] [] (y_mk n L (y_fl (y_fl (y_fl (y_si (y_si (y_si D 152 0 120) 152 1 0) 152 2 0) 153 0 301) 154 0 4) 155 0 4))
  refine r_aload_n hE dX6_settle_40 rfl ?_
  refine t_getr hE f_X6_21 y_R_152_6 dX6_settle_41 (hL 152 (by decide)) ?_
  refine r_bipush (v := 99) hE dX6_settle_44 (by decide) ?_
  refine t_invs (r := none) (S2 := (y_mk n L (y_fl (y_fl (y_fl (y_fl (y_si (y_si (y_si D 152 0 120) 152 1 0) 152 2 0) 153 0 301) 154 0 4) 155 0 4) 156 99 4))) hE [.ref 156, .int 99] (k_fill y_A_156 (hL 156 (by decide)) (by decide)) s_yJ7_fill_53178 m_X6_37 dX6_settle_46 rfl (by decide) ⟨Nat.le_refl _, Nat.le_refl _⟩ (Nat.le_of_ble_eq_true rfl) ?_
  show E 0 0 49 [(0, .ref 152), (1, .ref r), (2, .int wo), (3, .ref 74)] [] (y_mk n L (y_fl (y_fl (y_fl (y_fl (y_si (y_si (y_si D 152 0 120) 152 1 0) 152 2 0) 153 0 301) 154 0 4) 155 0 4) 156 99 4))
  refine r_iconst (v := 0) hE dX6_settle_49 (by decide) ?_
  refine r_istore (ls2 := [(0, .ref 152), (1, .ref r), (2, .int wo), (3, .ref 74), (4, .int 0)]) hE dX6_settle_50 (by decide) rfl ?_
  exact lp 0 (by omega)

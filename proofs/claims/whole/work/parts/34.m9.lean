theorem k_addRule {V : x_E} {n : Nat} {L : List Nat} {D : y_D} {k r : Nat} (hL : y_ok L) (hs : (D 73).1 2 = nI k) (hk : k < 4) (hm_r : r ∈ L) (hd_r : y_dh r) (hk_r : (D r).2.2.2.1 = 1) : x_Fn V yX0_addRule cX0_addRule 2 (some .int) 0 [.ref 73, .ref r] (y_mk n L D) (some (.int (nI k))) (y_mk n L (y_si (y_sq D 76 k r) 73 2 (nI (k + 1)))) := by
  refine x_fn (by decide) (Nat.le_of_ble_eq_true rfl) (fun E hE => ?_)
  change E 0 0 0 [(0, .ref 73), (1, .ref r)] [] (y_mk n L D)
  refine r_aload_n hE dX0_addRule_0 rfl ?_
  refine t_getr hE f_X0_22 y_R_73_1 dX0_addRule_1 (hL 73 (by decide)) ?_
  refine r_aload_n hE dX0_addRule_4 rfl ?_
  refine t_geti hE f_X0_59 y_I_73_2 dX0_addRule_5 (hL 73 (by decide)) ?_
  refine r_top (y := (nI k)) hs ?_
  refine r_aload_n hE dX0_addRule_8 rfl ?_
  refine t_aastN (e := k) (v := r) hE y_Q_76 (by decide) dX0_addRule_9 (hL 76 (by decide)) hm_r (y_rule_lay hd_r hk_r) (by omega) (by decide) ?_
  refine r_aload_n hE dX0_addRule_10 rfl ?_
  refine r_dup hE dX0_addRule_11 rfl ?_
  refine t_geti hE f_X0_59 y_I_73_2 dX0_addRule_12 (hL 73 (by decide)) ?_
  refine r_top (y := (nI k)) hs ?_
  refine r_iconst (v := 1) hE dX0_addRule_15 (by decide) ?_
  refine r_iaddN (a := k) (b := 1) hE dX0_addRule_16 ?_
  refine t_puti hE f_X0_59 y_I_73_2 dX0_addRule_17 (hL 73 (by decide)) rfl rfl ?_
  refine r_aload_n hE dX0_addRule_20 rfl ?_
  refine t_geti hE f_X0_59 y_I_73_2 dX0_addRule_21 (hL 73 (by decide)) ?_
  refine r_top (y := (nI (k + 1))) rfl ?_
  refine r_iconst (v := 1) hE dX0_addRule_24 (by decide) ?_
  refine r_isubN (a := k + 1) (b := 1) hE dX0_addRule_25 (by omega) ?_
  refine r_ireturn hE dX0_addRule_26 rfl rfl (Nat.zero_le _) (Nat.zero_le _) ?_
  exact ⟨rfl, rfl⟩
theorem k_addWay {V : x_E} {n : Nat} {L : List Nat} {D : y_D} {k r : Nat} (hL : y_ok L) (hs : (D 73).1 4 = nI k) (hk : k < 6) (hm_r : r ∈ L) (hd_r : y_dh r) (hk_r : (D r).2.2.2.1 = 2) : x_Fn V yX0_addWay cX0_addWay 2 (some .int) 0 [.ref 73, .ref r] (y_mk n L D) (some (.int (nI k))) (y_mk n L (y_si (y_sq D 77 k r) 73 4 (nI (k + 1)))) := by
  refine x_fn (by decide) (Nat.le_of_ble_eq_true rfl) (fun E hE => ?_)
  change E 0 0 0 [(0, .ref 73), (1, .ref r)] [] (y_mk n L D)
  refine r_aload_n hE dX0_addWay_0 rfl ?_
  refine t_getr hE f_X0_28 y_R_73_3 dX0_addWay_1 (hL 73 (by decide)) ?_
  refine r_aload_n hE dX0_addWay_4 rfl ?_
  refine t_geti hE f_X0_63 y_I_73_4 dX0_addWay_5 (hL 73 (by decide)) ?_
  refine r_top (y := (nI k)) hs ?_
  refine r_aload_n hE dX0_addWay_8 rfl ?_
  refine t_aastN (e := k) (v := r) hE y_Q_77 (by decide) dX0_addWay_9 (hL 77 (by decide)) hm_r (y_way_lay hd_r hk_r) (by omega) (by decide) ?_
  refine r_aload_n hE dX0_addWay_10 rfl ?_
  refine r_dup hE dX0_addWay_11 rfl ?_
  refine t_geti hE f_X0_63 y_I_73_4 dX0_addWay_12 (hL 73 (by decide)) ?_
  refine r_top (y := (nI k)) hs ?_
  refine r_iconst (v := 1) hE dX0_addWay_15 (by decide) ?_
  refine r_iaddN (a := k) (b := 1) hE dX0_addWay_16 ?_
  refine t_puti hE f_X0_63 y_I_73_4 dX0_addWay_17 (hL 73 (by decide)) rfl rfl ?_
  refine r_aload_n hE dX0_addWay_20 rfl ?_
  refine t_geti hE f_X0_63 y_I_73_4 dX0_addWay_21 (hL 73 (by decide)) ?_
  refine r_top (y := (nI (k + 1))) rfl ?_
  refine r_iconst (v := 1) hE dX0_addWay_24 (by decide) ?_
  refine r_isubN (a := k + 1) (b := 1) hE dX0_addWay_25 (by omega) ?_
  refine r_ireturn hE dX0_addWay_26 rfl rfl (Nat.zero_le _) (Nat.zero_le _) ?_
  exact ⟨rfl, rfl⟩
theorem k_allWays {V : x_E} {n : Nat} {L : List Nat} {D : y_D} (hV : y_V V) {k : Nat} (hL : y_ok L) (hs : (D 73).1 4 = nI k) (hk : k ≤ 6) : x_Fn V yX0_allWays cX0_allWays 1 (some .int) 1 [.ref 73] (y_mk n L D) (some (.int (nI (2 ^ k) - 1))) (y_mk n L D) := by
  refine x_fn (by decide) (Nat.le_of_ble_eq_true rfl) (fun E hE => ?_)
  change E 0 0 0 [(0, .ref 73)] [] (y_mk n L D)
  refine r_aload_n hE dX0_allWays_0 rfl ?_
  refine t_geti hE f_X0_63 y_I_73_4 dX0_allWays_1 (hL 73 (by decide)) ?_
  refine r_top (y := (nI k)) hs ?_
  refine t_invsN (r := (some (.int (nI (2 ^ k) - 1)))) (S2 := (y_mk n L D)) hE [.int (nI k)] (k_firstBits (by omega)) s_yX10_firstBits (hN_X0_66 hV) dX0_allWays_4 rfl (by decide) ⟨Nat.le_refl _, Nat.le_refl _⟩ (Nat.le_of_ble_eq_true rfl) ?_
  show E 0 0 7 [(0, .ref 73)] [.int (nI (2 ^ k) - 1)] (y_mk n L D)
  refine r_ireturn hE dX0_allWays_7 rfl rfl (Nat.zero_le _) (Nat.zero_le _) ?_
  exact ⟨rfl, rfl⟩
/-- the number k of the WAY j -/
def y_w (D : y_D) (j k : Nat) : Int32 := match (D 77).2.2.1 j with | some r => (D r).1 k | none => 0
theorem y_w_ok {D : y_D} {j k r : Nat} (h : (D 77).2.2.1 j = some r) : (D r).1 k = y_w D j k := by
  unfold y_w
  rw [h]
def y_gr1 (D : y_D) (u : Int32) (i : Nat) (t : Int32) : Int32 := if y_bit u i then (if t < y_w D i 2 then y_w D i 2 else t) else t
def y_gr (D : y_D) (u : Int32) : Nat → Int32
  | 0 => 0
  | i + 1 => y_gr1 D u i (y_gr D u i)
theorem k_greatestReach {V : x_E} {n : Nat} {L : List Nat} {D : y_D} (hV : y_V V) {u : Int32} {k : Nat} (hL : y_ok L) (hs : (D 73).1 4 = nI k) (hk : k ≤ 6) (hR2 : y_rq D L 77 6 2) : x_Fn V yX0_greatestReach cX0_greatestReach 4 (some .int) 1 [.ref 73, .int u] (y_mk n L D) (some (.int (y_gr D u k))) (y_mk n L D) := by
  refine x_fn (by decide) (Nat.le_of_ble_eq_true rfl) (fun E hE => ?_)
  change E 0 0 0 [(0, .ref 73), (1, .int u)] [] (y_mk n L D)
  have lp : ∀ (i : Nat), i ≤ k → E 0 0 4 [(0, .ref 73), (1, .int u), (2, .int (y_gr D u i)), (3, .int (nI i))] [] (y_mk n L D) := by
    intro i
    induction hm9 : (k - i) using Nat.strongRecOn generalizing i with
    | _ m9 ih =>
      intro hi
      refine r_iload_n hE dX0_greatestReach_4 rfl ?_
      refine r_aload_n hE dX0_greatestReach_5 rfl ?_
      refine t_geti hE f_X0_63 y_I_73_4 dX0_greatestReach_6 (hL 73 (by decide)) ?_
      refine r_top (y := (nI k)) hs ?_
      refine r_icmp_geN (a := i) (b := k) (tgt := 40) hE dX0_greatestReach_9 (by decide) (by omega) (by omega) (fun c9 => ?_) (fun c9 => ?_)
      · refine r_iload_n hE dX0_greatestReach_40 rfl ?_
        refine r_ireturn hE dX0_greatestReach_41 rfl rfl (Nat.zero_le _) (Nat.zero_le _) ?_
        have hi2 : i = k := by omega
        subst hi2
        exact ⟨rfl, rfl⟩
      · refine r_iload_n hE dX0_greatestReach_12 rfl ?_
        refine r_iload_n hE dX0_greatestReach_13 rfl ?_
        refine t_invsN (r := (some (.int (y_b (y_bit u i))))) (S2 := (y_mk n L D)) hE [.int u, .int (nI i)] (k_hasBit) s_yX10_hasBit (hN_X0_84 hV) dX0_greatestReach_14 rfl (by decide) ⟨Nat.le_refl _, Nat.le_refl _⟩ (Nat.le_of_ble_eq_true rfl) ?_
        show E 0 0 17 [(0, .ref 73), (1, .int u), (2, .int (y_gr D u i)), (3, .int (nI i))] [.int (y_b (y_bit u i))] (y_mk n L D)
        refine r_ifb_eq (tgt := 34) hE dX0_greatestReach_17 (by decide) (fun c17 => ?_) (fun c17 => ?_)
        · refine r_iincN (a := i) (b := 1) (ls2 := [(0, .ref 73), (1, .int u), (2, .int (y_gr D u i)), (3, .int (nI (i + 1)))]) hE dX0_greatestReach_34 rfl rfl (by decide) rfl ?_
          refine r_goto (tgt := 4) hE dX0_greatestReach_37 (by decide) ?_
          have e9 : y_gr D u (i + 1) = y_gr D u i := by
            show y_gr1 D u i (y_gr D u i) = _
            unfold y_gr1
            first | exact if_pos c17 | exact if_neg c17
          refine r_locs hE (ls2 := [(0, .ref 73), (1, .int u), (2, .int (y_gr D u (i + 1))), (3, .int (nI (i + 1)))]) ?_ (ih (k - (i + 1)) (by omega) (i + 1) rfl (by omega))
          rw [e9]
          simp [x_lk]
        · refine r_iload_n hE dX0_greatestReach_20 rfl ?_
          refine r_aload_n hE dX0_greatestReach_21 rfl ?_
          refine t_getr hE f_X0_28 y_R_73_3 dX0_greatestReach_22 (hL 73 (by decide)) ?_
          refine r_iload_n hE dX0_greatestReach_25 rfl ?_
          obtain ⟨r, hr, hm_r, hd_r, hk_r⟩ := hR2 i (by omega)
          refine t_aaldN (e := i) (h2 := r) hE y_Q_77 (by decide) dX0_greatestReach_26 (hL 77 (by decide)) (by omega) (by decide) hr ?_
          refine r_getf hE f_X0_88 dX0_greatestReach_27 hm_r (y_way_lay hd_r (show ((D) r).2.2.2.1 = _ from hk_r)) rfl ?_
          refine r_top (y := (y_w D i 2)) (y_w_ok hr) ?_
          refine r_mmax hE m_X0_91 dX0_greatestReach_30 (by decide) (Nat.le_of_ble_eq_true rfl) ⟨Nat.le_refl _, Nat.le_refl _⟩ ?_
          refine r_istore_n (ls2 := [(0, .ref 73), (1, .int u), (2, .int (if (y_gr D u i) < (y_w D i 2) then (y_w D i 2) else (y_gr D u i))), (3, .int (nI i))]) hE dX0_greatestReach_33 (by decide) rfl ?_
          refine r_iincN (a := i) (b := 1) (ls2 := [(0, .ref 73), (1, .int u), (2, .int (if (y_gr D u i) < (y_w D i 2) then (y_w D i 2) else (y_gr D u i))), (3, .int (nI (i + 1)))]) hE dX0_greatestReach_34 rfl rfl (by decide) rfl ?_
          refine r_goto (tgt := 4) hE dX0_greatestReach_37 (by decide) ?_
          have e9 : y_gr D u (i + 1) = (if (y_gr D u i) < (y_w D i 2) then (y_w D i 2) else (y_gr D u i)) := by
            show y_gr1 D u i (y_gr D u i) = _
            unfold y_gr1
            first | exact if_pos c17 | exact if_neg c17
          refine r_locs hE (ls2 := [(0, .ref 73), (1, .int u), (2, .int (y_gr D u (i + 1))), (3, .int (nI (i + 1)))]) ?_ (ih (k - (i + 1)) (by omega) (i + 1) rfl (by omega))
          rw [e9]
          simp [x_lk]
  refine r_iconst (v := 0) hE dX0_greatestReach_0 (by decide) ?_
  refine r_istore_n (ls2 := [(0, .ref 73), (1, .int u), (2, .int 0)]) hE dX0_greatestReach_1 (by decide) rfl ?_
  refine r_iconst (v := 0) hE dX0_greatestReach_2 (by decide) ?_
  refine r_istore_n (ls2 := [(0, .ref 73), (1, .int u), (2, .int 0), (3, .int 0)]) hE dX0_greatestReach_3 (by decide) rfl ?_
  exact lp 0 (by omega)
def y_ls (D : y_D) : Nat → Int32
  | 0 => 0
  | i + 1 => y_ls D i + (D 153).1 i
theorem k_litSeconds {V : x_E} {n : Nat} {L : List Nat} {D : y_D} {k : Nat} (hL : y_ok L) (hs : (D 152).1 0 = nI k) (hk : k ≤ 301) : x_Fn V yX6_litSeconds cX6_litSeconds 3 (some .int) 0 [.ref 152] (y_mk n L D) (some (.int (y_ls D k))) (y_mk n L D) := by
  refine x_fn (by decide) (Nat.le_of_ble_eq_true rfl) (fun E hE => ?_)
  change E 0 0 0 [(0, .ref 152)] [] (y_mk n L D)
  have lp : ∀ (i : Nat), i ≤ k → E 0 0 4 [(0, .ref 152), (1, .int (y_ls D i)), (2, .int (nI i))] [] (y_mk n L D) := by
    intro i
    induction hm9 : (k - i) using Nat.strongRecOn generalizing i with
    | _ m9 ih =>
      intro hi
      refine r_iload_n hE dX6_litSeconds_4 rfl ?_
      refine r_aload_n hE dX6_litSeconds_5 rfl ?_
      refine t_geti hE f_X6_27 y_I_152_0 dX6_litSeconds_6 (hL 152 (by decide)) ?_
      refine r_top (y := (nI k)) hs ?_
      refine r_icmp_geN (a := i) (b := k) (tgt := 27) hE dX6_litSeconds_9 (by decide) (by omega) (by omega) (fun c9 => ?_) (fun c9 => ?_)
      · refine r_iload_n hE dX6_litSeconds_27 rfl ?_
        refine r_ireturn hE dX6_litSeconds_28 rfl rfl (Nat.zero_le _) (Nat.zero_le _) ?_
        have hi2 : i = k := by omega
        subst hi2
        exact ⟨rfl, rfl⟩
      · refine r_iload_n hE dX6_litSeconds_12 rfl ?_
        refine r_aload_n hE dX6_litSeconds_13 rfl ?_
        refine t_getr hE f_X6_9 y_R_152_3 dX6_litSeconds_14 (hL 152 (by decide)) ?_
        refine r_iload_n hE dX6_litSeconds_17 rfl ?_
        refine t_ialdN (e := i) hE y_A_153 dX6_litSeconds_18 (hL 153 (by decide)) (by omega) (by decide) ?_
        refine r_iadd hE dX6_litSeconds_19 ?_
        refine r_istore_n (ls2 := [(0, .ref 152), (1, .int ((y_ls D i) + ((D 153).1 i))), (2, .int (nI i))]) hE dX6_litSeconds_20 (by decide) rfl ?_
        refine r_iincN (a := i) (b := 1) (ls2 := [(0, .ref 152), (1, .int ((y_ls D i) + ((D 153).1 i))), (2, .int (nI (i + 1)))]) hE dX6_litSeconds_21 rfl rfl (by decide) rfl ?_
        refine r_goto (tgt := 4) hE dX6_litSeconds_24 (by decide) ?_
        exact ih (k - (i + 1)) (by omega) (i + 1) rfl (by omega)
  refine r_iconst (v := 0) hE dX6_litSeconds_0 (by decide) ?_
  refine r_istore_n (ls2 := [(0, .ref 152), (1, .int 0)]) hE dX6_litSeconds_1 (by decide) rfl ?_
  refine r_iconst (v := 0) hE dX6_litSeconds_2 (by decide) ?_
  refine r_istore_n (ls2 := [(0, .ref 152), (1, .int 0), (2, .int 0)]) hE dX6_litSeconds_3 (by decide) rfl ?_
  exact lp 0 (by omega)
theorem k_isTag {V : x_E} {n : Nat} {L : List Nat} {D : y_D} {p : Int32} : x_Fn V yX6_isTag cX6_isTag 1 (some .boolean) 0 [.int p] (y_mk n L D) (some (.int (y_b (23 ≤ p ∧ p ≤ 28)))) (y_mk n L D) := by
  refine x_fn (by decide) (Nat.le_of_ble_eq_true rfl) (fun E hE => ?_)
  change E 0 0 0 [(0, .int p)] [] (y_mk n L D)
  refine r_iload_n hE dX6_isTag_0 rfl ?_
  refine r_bipush (v := 23) hE dX6_isTag_1 (by decide) ?_
  refine r_icmp_lt (tgt := 16) hE dX6_isTag_3 (by decide) (fun c3 => ?_) (fun c3 => ?_)
  · refine r_iconst (v := 0) hE dX6_isTag_16 (by decide) ?_
    refine r_ireturn hE dX6_isTag_17 rfl (by decide) (Nat.zero_le _) (Nat.zero_le _) ?_
    exact ⟨by grind [y_b], rfl⟩
  · refine r_iload_n hE dX6_isTag_6 rfl ?_
    refine r_bipush (v := 28) hE dX6_isTag_7 (by decide) ?_
    refine r_icmp_gt (tgt := 16) hE dX6_isTag_9 (by decide) (fun c9 => ?_) (fun c9 => ?_)
    · refine r_iconst (v := 0) hE dX6_isTag_16 (by decide) ?_
      refine r_ireturn hE dX6_isTag_17 rfl (by decide) (Nat.zero_le _) (Nat.zero_le _) ?_
      exact ⟨by grind [y_b], rfl⟩
    · refine r_iconst (v := 1) hE dX6_isTag_12 (by decide) ?_
      refine r_goto (tgt := 17) hE dX6_isTag_13 (by decide) ?_
      refine r_ireturn hE dX6_isTag_17 rfl (by decide) (Nat.zero_le _) (Nat.zero_le _) ?_
      exact ⟨by grind [y_b], rfl⟩
theorem y_sw_29_32 (p : Int32) : (p.toInt < 29 ∨ 32 < p.toInt) ∨ p = 29 ∨ p = 30 ∨ p = 31 ∨ p = 32 := by
  by_cases h : p.toInt < 29 ∨ 32 < p.toInt
  · exact Or.inl h
  · right
    have h0 : 29 ≤ p := by
      rw [Int32.le_iff_toInt_le, show (29 : Int32).toInt = 29 from rfl]
      omega
    have h9 : p ≤ 32 := by
      rw [Int32.le_iff_toInt_le, show (32 : Int32).toInt = 32 from rfl]
      omega
    grind
theorem y_sw_23_27 (p : Int32) : (p.toInt < 23 ∨ 27 < p.toInt) ∨ p = 23 ∨ p = 24 ∨ p = 25 ∨ p = 26 ∨ p = 27 := by
  by_cases h : p.toInt < 23 ∨ 27 < p.toInt
  · exact Or.inl h
  · right
    have h0 : 23 ≤ p := by
      rw [Int32.le_iff_toInt_le, show (23 : Int32).toInt = 23 from rfl]
      omega
    have h9 : p ≤ 27 := by
      rw [Int32.le_iff_toInt_le, show (27 : Int32).toInt = 27 from rfl]
      omega
    grind
theorem y_sw_10_13 (p : Int32) : (p.toInt < 10 ∨ 13 < p.toInt) ∨ p = 10 ∨ p = 11 ∨ p = 12 ∨ p = 13 := by
  by_cases h : p.toInt < 10 ∨ 13 < p.toInt
  · exact Or.inl h
  · right
    have h0 : 10 ≤ p := by
      rw [Int32.le_iff_toInt_le, show (10 : Int32).toInt = 10 from rfl]
      omega
    have h9 : p ≤ 13 := by
      rw [Int32.le_iff_toInt_le, show (13 : Int32).toInt = 13 from rfl]
      omega
    grind
def K_partOf (D : y_D) (p : Int32) (q : Nat) (x : Int32) : Int32 := if p = 29 then x else if p = 31 then (D 154).1 q else if p = 32 then (D 156).1 q else nI q
def K_tag (D : y_D) (p : Int32) (q x : Nat) : Int32 := if p = 25 then y_swl q else if p = 23 then (if (D 153).1 x = 0 then 65535 else 0) else if p = 26 then (if y_bit ((D 152).1 1) q then 65535 else 0) else if p = 27 then (if y_bit ((D 152).1 2) q then 65535 else 0) else (if y_bit ((D 152).1 1) q ∧ (D 155).1 q ≤ nI x then 65535 else 0)
theorem k_partOf {V : x_E} {n : Nat} {L : List Nat} {D : y_D} {p : Int32} {q : Nat} {x : Int32} (hL : y_ok L) (hq : p = 31 ∨ p = 32 → q < 4) : x_Fn V yX6_partOf cX6_partOf 4 (some .int) 0 [.ref 152, .int p, .int (nI q), .int x] (y_mk n L D) (some (.int (K_partOf D p q x))) (y_mk n L D) := by
  refine x_fn (by decide) (Nat.le_of_ble_eq_true rfl) (fun E hE => ?_)
  change E 0 0 0 [(0, .ref 152), (1, .int p), (2, .int (nI q)), (3, .int x)] [] (y_mk n L D)
  refine r_iload_n hE dX6_partOf_0 rfl ?_
  rcases y_sw_29_32 p with h9 | rfl | rfl | rfl | rfl
  · refine r_tsout (tgt := 48) hE dX6_partOf_1 h9 (by decide) ?_
    refine r_iload_n hE dX6_partOf_48 rfl ?_
    refine r_ireturn hE dX6_partOf_49 rfl rfl (Nat.zero_le _) (Nat.zero_le _) ?_
    refine ⟨congrArg (fun z => some (Value.int z)) ?_, rfl⟩
    have hn : ∀ c : Int32, 29 ≤ c.toInt ∧ c.toInt ≤ 32 → p ≠ c := fun c hc he => by rw [he] at h9; omega
    unfold K_partOf
    rw [if_neg (hn 29 (by decide)), if_neg (hn 31 (by decide)), if_neg (hn 32 (by decide))]
    all_goals first | rfl | grind
  · refine r_tsin (tgt := 32) hE dX6_partOf_1 (by decide) (by decide) rfl (by decide) ?_
    refine r_iload_n hE dX6_partOf_32 rfl ?_
    refine r_ireturn hE dX6_partOf_33 rfl rfl (Nat.zero_le _) (Nat.zero_le _) ?_
    refine ⟨congrArg (fun z => some (Value.int z)) ?_, rfl⟩
    unfold K_partOf
    first | rfl | grind
  · refine r_tsin (tgt := 48) hE dX6_partOf_1 (by decide) (by decide) rfl (by decide) ?_
    refine r_iload_n hE dX6_partOf_48 rfl ?_
    refine r_ireturn hE dX6_partOf_49 rfl rfl (Nat.zero_le _) (Nat.zero_le _) ?_
    refine ⟨congrArg (fun z => some (Value.int z)) ?_, rfl⟩
    unfold K_partOf
    first | rfl | grind
  · refine r_tsin (tgt := 34) hE dX6_partOf_1 (by decide) (by decide) rfl (by decide) ?_
    refine r_aload_n hE dX6_partOf_34 rfl ?_
    refine t_getr hE f_X6_15 y_R_152_4 dX6_partOf_35 (hL 152 (by decide)) ?_
    refine r_iload_n hE dX6_partOf_38 rfl ?_
    refine t_ialdN (e := q) hE y_A_154 dX6_partOf_39 (hL 154 (by decide)) (by exact hq (Or.inl rfl)) (by decide) ?_
    refine r_ireturn hE dX6_partOf_40 rfl rfl (Nat.zero_le _) (Nat.zero_le _) ?_
    refine ⟨congrArg (fun z => some (Value.int z)) ?_, rfl⟩
    unfold K_partOf
    first | rfl | grind
  · refine r_tsin (tgt := 41) hE dX6_partOf_1 (by decide) (by decide) rfl (by decide) ?_
    refine r_aload_n hE dX6_partOf_41 rfl ?_
    refine t_getr hE f_X6_21 y_R_152_6 dX6_partOf_42 (hL 152 (by decide)) ?_
    refine r_iload_n hE dX6_partOf_45 rfl ?_
    refine t_ialdN (e := q) hE y_A_156 dX6_partOf_46 (hL 156 (by decide)) (by exact hq (Or.inr rfl)) (by decide) ?_
    refine r_ireturn hE dX6_partOf_47 rfl rfl (Nat.zero_le _) (Nat.zero_le _) ?_
    refine ⟨congrArg (fun z => some (Value.int z)) ?_, rfl⟩
    unfold K_partOf
    first | rfl | grind
/-! numbers between bounds -/
theorem y_si_si {D : y_D} {h k : Nat} {u v : Int32} : y_si (y_si D h k u) h k v = y_si D h k v := by
  funext j
  unfold y_si
  by_cases hj : j = h
  · subst hj
    simp only [↓reduceIte]
    congr 1
    funext z
    unfold upd
    split <;> rfl
  · simp only [if_neg hj]
theorem y_si_self {D : y_D} {h k : Nat} {v : Int32} (e : (D h).1 k = v) : y_si D h k v = D := by
  funext j
  unfold y_si
  by_cases hj : j = h
  · subst hj
    rw [if_pos rfl]
    refine Prod.ext ?_ rfl
    funext z
    show upd (D j).1 k v z = _
    unfold upd
    split
    · next q => rw [q, e]
    · rfl
  · rw [if_neg hj]
theorem y_si_com {D : y_D} {h h2 k k2 : Nat} {u v : Int32} (c : h2 ≠ h) : y_si (y_si D h k u) h2 k2 v = y_si (y_si D h2 k2 v) h k u := by
  funext j
  by_cases c1 : j = h
  · subst c1
    rw [y_si_n (h := h2) (fun q => c q.symm), y_si_s, y_si_s, y_si_n (fun q => c q.symm)]
  · by_cases c2 : j = h2
    · subst c2
      rw [y_si_s, y_si_n c1, y_si_n c1, y_si_s]
    · rw [y_si_n c2, y_si_n c1, y_si_n c1, y_si_n c2]
theorem y_si_o {D : y_D} {h k j : Nat} {v : Int32} (c : j ≠ k) : (y_si D h k v h).1 j = (D h).1 j := by
  rw [y_si_s]
  exact if_neg c
theorem y_mnN {a b : Nat} (ha : a < 2 ^ 31) (hb : b < 2 ^ 31) : (if nI b < nI a then nI b else nI a) = nI (min a b) := by
  by_cases h : b < a
  · rw [if_pos (nI_lt h ha), Nat.min_eq_right (by omega)]
  · rw [if_neg (nI_nlt (by omega) hb), Nat.min_eq_left (by omega)]
theorem y_mnT {t : Int32} {x U : Nat} (hx : x < U) (hU : U ≤ 301) (h : ¬ t ≤ nI x) : ∃ U2, (if t < nI U then t else nI U) = nI U2 ∧ x < U2 ∧ U2 ≤ U ∧ ∀ d, x + d < U2 → ¬ t ≤ nI (x + d) := by
  have h0 : (0 : Int32) ≤ nI x := nI_pos' (by omega)
  obtain ⟨j, hj, rfl⟩ := nI_of (x := t) (fun c => h (by grind))
  have h1 : ¬ j ≤ x := fun c => h (nI_le c (by omega))
  refine ⟨min U j, y_mnN (by omega) hj, by omega, by omega, fun d hd c => ?_⟩
  have := (nI_leI hj (by omega)).mp c
  omega
def y_bd (s : Int32) (B : Nat) : Prop := -(B : Int) ≤ s.toInt ∧ s.toInt ≤ (B : Int)
theorem y_bd_up {s : Int32} {A B : Nat} (h : y_bd s A) (hb : A ≤ B) : y_bd s B := by unfold y_bd at *; omega
theorem y_bd_n {a B : Nat} (h : a ≤ B) (hb : B < 2 ^ 31) : y_bd (nI a) B := by unfold y_bd; rw [nI_toInt (by omega)]; omega
theorem y_bd_0 {B : Nat} : y_bd 0 B := by unfold y_bd; rw [Int32.toInt_zero]; omega
theorem y_bd_add {s t : Int32} {A B : Nat} (h : y_bd s A) (g : y_bd t B) (hb : A + B < 2 ^ 31) : (s + t).toInt = s.toInt + t.toInt ∧ y_bd (s + t) (A + B) := by
  unfold y_bd at h g
  have e : (s + t).toInt = s.toInt + t.toInt := by
    rw [Int32.toInt_add]
    apply Int.bmod_eq_of_le <;> omega
  exact ⟨e, by unfold y_bd; rw [e]; omega⟩
theorem y_bd_neg {s : Int32} {A : Nat} (h : y_bd s A) (hb : A < 2 ^ 31) : (-s).toInt = -s.toInt ∧ y_bd (-s) A := by
  unfold y_bd at h
  have e : (-s).toInt = -s.toInt := by
    rw [Int32.toInt_neg]
    apply Int.bmod_eq_of_le <;> omega
  exact ⟨e, by unfold y_bd; rw [e]; omega⟩
theorem y_bd_mul {s : Int32} {A i : Nat} (h : y_bd s A) (hi : i < 2 ^ 31) (hb : A * i < 2 ^ 31) : (s * nI i).toInt = s.toInt * (i : Int) ∧ y_bd (s * nI i) (A * i) := by
  unfold y_bd at h
  have h1 : s.toInt * (i : Int) ≤ (A : Int) * i := Int.mul_le_mul_of_nonneg_right h.2 (Int.natCast_nonneg i)
  have h2 : (-(A : Int)) * i ≤ s.toInt * (i : Int) := Int.mul_le_mul_of_nonneg_right h.1 (Int.natCast_nonneg i)
  rw [Int.neg_mul] at h2
  have h3 : ((A * i : Nat) : Int) = (A : Int) * i := Int.natCast_mul A i
  have e : (s * nI i).toInt = s.toInt * (i : Int) := by
    rw [Int32.toInt_mul, nI_toInt hi]
    apply Int.bmod_eq_of_le <;> omega
  exact ⟨e, by unfold y_bd; rw [e]; omega⟩
theorem y_pos {s : Int32} : 0 < s ↔ 0 < s.toInt := by
  rw [Int32.lt_iff_toInt_lt, Int32.toInt_zero]
/-- Sitting.secondsToTurn -/
def K_stt (s p : Int32) : Int32 := if 0 < s ∧ p < 0 then (s - p - 1) / -p else if s ≤ 0 ∧ 0 < p then -s / p + 1 else 301
theorem y_stt_ok {s p : Int32} (hs : y_bd s 10000000) (hp : y_bd p 10000) : ∃ r : Nat, K_stt s p = nI r ∧ 1 ≤ r ∧ r ≤ 20000000 ∧ ∀ d : Nat, d < r → (0 < s.toInt + p.toInt * (d : Int) ↔ 0 < s.toInt) := by
  unfold K_stt
  by_cases c1 : 0 < s ∧ p < 0
  · rw [if_pos c1]
    obtain ⟨a, ha, rfl⟩ := nI_of (x := s) (by grind)
    obtain ⟨e1, e2⟩ := y_bd_neg hp (by decide)
    have hp0 : p.toInt < 0 := by have := c1.2; rw [Int32.lt_iff_toInt_lt, Int32.toInt_zero] at this; exact this
    obtain ⟨b, hb, eb⟩ := nI_of (x := -p) (by rw [Int32.lt_iff_toInt_lt, Int32.toInt_zero, e1]; omega)
    have eb2 : p = -nI b := by grind
    have eb3 : -p.toInt = (b : Int) := by rw [← e1, eb, nI_toInt hb]
    have ha2 : 0 < a := by have := y_pos.mp c1.1; rw [nI_toInt ha] at this; omega
    unfold y_bd at hs hp
    rw [nI_toInt ha] at hs
    refine ⟨(a + b - 1) / b, ?_, ?_, ?_, fun d hd => ?_⟩
    · rw [eb, eb2, ← pk_div (by omega) (by omega) hb]
      congr 1
      rw [← pk_sub (a := a + b) (b := 1) (by omega), ← nI_add]
      show _ = _ - (1 : Int32)
      grind
    · rw [Nat.le_div_iff_mul_le (by omega)]; omega
    · exact Nat.le_trans (Nat.div_le_self _ _) (by omega)
    · rw [nI_toInt ha]
      have h1 : (d + 1) * b ≤ a + b - 1 := (Nat.le_div_iff_mul_le (by omega)).mp hd
      rw [Nat.add_mul, Nat.one_mul] at h1
      have h2 : p.toInt * (d : Int) = -((d * b : Nat) : Int) := by
        rw [show p.toInt = -(b : Int) by omega, Int.neg_mul, Int.natCast_mul, Int.mul_comm]
      rw [h2]
      omega
  · rw [if_neg c1]
    by_cases c2 : s ≤ 0 ∧ 0 < p
    · rw [if_pos c2]
      obtain ⟨e1, e2⟩ := y_bd_neg hs (by decide)
      have hs0 : s.toInt ≤ 0 := by have := c2.1; rw [Int32.le_iff_toInt_le, Int32.toInt_zero] at this; exact this
      obtain ⟨a, ha, ea⟩ := nI_of (x := -s) (by rw [Int32.lt_iff_toInt_lt, Int32.toInt_zero, e1]; omega)
      obtain ⟨b, hb, rfl⟩ := nI_of (x := p) (by grind)
      have ea3 : -s.toInt = (a : Int) := by rw [← e1, ea, nI_toInt ha]
      have hb0 : 0 < b := by have := y_pos.mp c2.2; rw [nI_toInt hb] at this; omega
      unfold y_bd at hs hp
      have hab : a / b ≤ a := Nat.div_le_self _ _
      have h1 : ∀ d, d ≤ a / b → d * b ≤ a := fun d hd => (Nat.le_div_iff_mul_le hb0).mp hd
      have eq : -s / nI b + 1 = nI (a / b + 1) := by rw [ea, pk_div ha hb0 hb, nI_1]
      generalize a / b = q at hab h1 eq
      refine ⟨q + 1, eq, by omega, by omega, fun d hd => ?_⟩
      rw [nI_toInt hb]
      have h1 := h1 d (by omega)
      have h2 : (b : Int) * (d : Int) = ((d * b : Nat) : Int) := by rw [Int.natCast_mul, Int.mul_comm]
      rw [h2]
      omega
    · rw [if_neg c2]
      refine ⟨301, rfl, by decide, by decide, fun d _ => ?_⟩
      have hd : (0 : Int) ≤ (d : Int) := Int.natCast_nonneg d
      by_cases q : 0 < s
      · have q2 := y_pos.mp q
        have q3 : 0 ≤ p.toInt := by
          have : ¬ p < 0 := fun z => c1 ⟨q, z⟩
          rw [Int32.lt_iff_toInt_lt, Int32.toInt_zero] at this
          omega
        have := Int.mul_nonneg q3 hd
        omega
      · have q2 : ¬ 0 < s.toInt := fun z => q (y_pos.mpr z)
        have q3 : p.toInt ≤ 0 := by
          have : ¬ 0 < p := fun z => c2 ⟨by grind, z⟩
          rw [y_pos] at this
          omega
        have := Int.mul_nonneg (show 0 ≤ -p.toInt by omega) hd
        rw [Int.neg_mul] at this
        omega
theorem k_secondsToTurn {V : x_E} {n : Nat} {L : List Nat} {D : y_D} {s p : Int32} : x_Fn V yX6_secondsToTurn cX6_secondsToTurn 2 (some .int) 0 [.int s, .int p] (y_mk n L D) (some (.int (K_stt s p))) (y_mk n L D) := by
  refine x_fn (by decide) (Nat.le_of_ble_eq_true rfl) (fun E hE => ?_)
  change E 0 0 0 [(0, .int s), (1, .int p)] [] (y_mk n L D)
  refine r_iload_n hE dX6_secondsToTurn_0 rfl ?_
  refine r_if_le (tgt := 17) hE dX6_secondsToTurn_1 (by decide) (fun c1 => ?_) (fun c1 => ?_)
  · refine r_iload_n hE dX6_secondsToTurn_17 rfl ?_
    refine r_if_gt (tgt := 32) hE dX6_secondsToTurn_18 (by decide) (fun c18 => ?_) (fun c18 => ?_)
    · refine r_sipush (v := 301) hE dX6_secondsToTurn_32 (by decide) ?_
      refine r_ireturn hE dX6_secondsToTurn_35 rfl rfl (Nat.zero_le _) (Nat.zero_le _) ?_
      refine ⟨congrArg (fun z => some (Value.int z)) ?_, rfl⟩
      unfold K_stt
      first
      | (rw [if_pos (by grind)]; done)
      | (rw [if_neg (by grind), if_pos (by grind)]; done)
      | (rw [if_neg (by grind), if_neg (by grind)]; done)
    · refine r_iload_n hE dX6_secondsToTurn_21 rfl ?_
      refine r_if_le (tgt := 32) hE dX6_secondsToTurn_22 (by decide) (fun c22 => ?_) (fun c22 => ?_)
      · refine r_sipush (v := 301) hE dX6_secondsToTurn_32 (by decide) ?_
        refine r_ireturn hE dX6_secondsToTurn_35 rfl rfl (Nat.zero_le _) (Nat.zero_le _) ?_
        refine ⟨congrArg (fun z => some (Value.int z)) ?_, rfl⟩
        unfold K_stt
        first
        | (rw [if_pos (by grind)]; done)
        | (rw [if_neg (by grind), if_pos (by grind)]; done)
        | (rw [if_neg (by grind), if_neg (by grind)]; done)
      · refine r_iload_n hE dX6_secondsToTurn_25 rfl ?_
        refine r_ineg hE dX6_secondsToTurn_26 ?_
        refine r_iload_n hE dX6_secondsToTurn_27 rfl ?_
        refine r_idiv hE dX6_secondsToTurn_28 (by grind) ?_
        refine r_iconst (v := 1) hE dX6_secondsToTurn_29 (by decide) ?_
        refine r_iadd hE dX6_secondsToTurn_30 ?_
        refine r_ireturn hE dX6_secondsToTurn_31 rfl rfl (Nat.zero_le _) (Nat.zero_le _) ?_
        refine ⟨congrArg (fun z => some (Value.int z)) ?_, rfl⟩
        unfold K_stt
        first
        | (rw [if_pos (by grind)]; done)
        | (rw [if_neg (by grind), if_pos (by grind)]; done)
        | (rw [if_neg (by grind), if_neg (by grind)]; done)
  · refine r_iload_n hE dX6_secondsToTurn_4 rfl ?_
    refine r_if_ge (tgt := 17) hE dX6_secondsToTurn_5 (by decide) (fun c5 => ?_) (fun c5 => ?_)
    · refine r_iload_n hE dX6_secondsToTurn_17 rfl ?_
      refine r_if_gt (tgt := 32) hE dX6_secondsToTurn_18 (by decide) (fun c18 => ?_) (fun c18 => ?_)
      · refine r_sipush (v := 301) hE dX6_secondsToTurn_32 (by decide) ?_
        refine r_ireturn hE dX6_secondsToTurn_35 rfl rfl (Nat.zero_le _) (Nat.zero_le _) ?_
        refine ⟨congrArg (fun z => some (Value.int z)) ?_, rfl⟩
        unfold K_stt
        first
        | (rw [if_pos (by grind)]; done)
        | (rw [if_neg (by grind), if_pos (by grind)]; done)
        | (rw [if_neg (by grind), if_neg (by grind)]; done)
      · refine r_iload_n hE dX6_secondsToTurn_21 rfl ?_
        refine r_if_le (tgt := 32) hE dX6_secondsToTurn_22 (by decide) (fun c22 => ?_) (fun c22 => ?_)
        · refine r_sipush (v := 301) hE dX6_secondsToTurn_32 (by decide) ?_
          refine r_ireturn hE dX6_secondsToTurn_35 rfl rfl (Nat.zero_le _) (Nat.zero_le _) ?_
          refine ⟨congrArg (fun z => some (Value.int z)) ?_, rfl⟩
          unfold K_stt
          first
          | (rw [if_pos (by grind)]; done)
          | (rw [if_neg (by grind), if_pos (by grind)]; done)
          | (rw [if_neg (by grind), if_neg (by grind)]; done)
        · refine r_iload_n hE dX6_secondsToTurn_25 rfl ?_
          refine r_ineg hE dX6_secondsToTurn_26 ?_
          refine r_iload_n hE dX6_secondsToTurn_27 rfl ?_
          refine r_idiv hE dX6_secondsToTurn_28 (by grind) ?_
          refine r_iconst (v := 1) hE dX6_secondsToTurn_29 (by decide) ?_
          refine r_iadd hE dX6_secondsToTurn_30 ?_
          refine r_ireturn hE dX6_secondsToTurn_31 rfl rfl (Nat.zero_le _) (Nat.zero_le _) ?_
          refine ⟨congrArg (fun z => some (Value.int z)) ?_, rfl⟩
          unfold K_stt
          first
          | (rw [if_pos (by grind)]; done)
          | (rw [if_neg (by grind), if_pos (by grind)]; done)
          | (rw [if_neg (by grind), if_neg (by grind)]; done)
    · refine r_iload_n hE dX6_secondsToTurn_8 rfl ?_
      refine r_iload_n hE dX6_secondsToTurn_9 rfl ?_
      refine r_isub hE dX6_secondsToTurn_10 ?_
      refine r_iconst (v := 1) hE dX6_secondsToTurn_11 (by decide) ?_
      refine r_isub hE dX6_secondsToTurn_12 ?_
      refine r_iload_n hE dX6_secondsToTurn_13 rfl ?_
      refine r_ineg hE dX6_secondsToTurn_14 ?_
      refine r_idiv hE dX6_secondsToTurn_15 (by grind) ?_
      refine r_ireturn hE dX6_secondsToTurn_16 rfl rfl (Nat.zero_le _) (Nat.zero_le _) ?_
      refine ⟨congrArg (fun z => some (Value.int z)) ?_, rfl⟩
      unfold K_stt
      first
      | (rw [if_pos (by grind)]; done)
      | (rw [if_neg (by grind), if_pos (by grind)]; done)
      | (rw [if_neg (by grind), if_neg (by grind)]; done)
/-- Sitting.setsAboveZero: the sets -/
def y_ab1 (s l : Int32) (i : Nat) (z : Int32) : Int32 := z ||| (if 0 < s + l * nI i then y_sos i else 0)
def y_ab (s l : Int32) : Nat → Int32
  | 0 => 0
  | i + 1 => y_ab1 s l i (y_ab s l i)
theorem y_ab_c {s s2 l l2 : Int32} : ∀ {i : Nat}, (∀ j, j < i → (0 < s2 + l2 * nI j ↔ 0 < s + l * nI j)) → y_ab s2 l2 i = y_ab s l i
  | 0, _ => rfl
  | i + 1, h => by
    show y_ab1 s2 l2 i (y_ab s2 l2 i) = y_ab1 s l i (y_ab s l i)
    rw [y_ab_c (fun j hj => h j (by omega))]
    unfold y_ab1
    by_cases c : 0 < s + l * nI i
    · rw [if_pos c, if_pos ((h i (by omega)).mpr c)]
    · rw [if_neg c, if_neg (fun q => c ((h i (by omega)).mp q))]
theorem y_ab_s {s l p : Int32} {j d r : Nat} (hs : y_bd s 1000000) (hl : y_bd l 1000) (hp : y_bd p 1000) (hj : j < 5) (hd : d ≤ 300) (h4 : ∀ d : Nat, d < r → (0 < (s + l * nI j).toInt + p.toInt * (d : Int) ↔ 0 < (s + l * nI j).toInt)) (hr : d < r) : 0 < (s + p * nI d) + l * nI j ↔ 0 < s + l * nI j := by
  obtain ⟨e1, b1⟩ := y_bd_mul (i := d) hp (by omega) (by omega)
  obtain ⟨e2, b2⟩ := y_bd_mul (i := j) hl (by omega) (by omega)
  have b1' := y_bd_up (B := 300000) b1 (by omega)
  have b2' := y_bd_up (B := 5000) b2 (by omega)
  obtain ⟨e3, b3⟩ := y_bd_add hs b1' (by decide)
  obtain ⟨e4, b4⟩ := y_bd_add b3 b2' (by decide)
  obtain ⟨e5, b5⟩ := y_bd_add hs b2' (by decide)
  have := h4 d hr
  rw [y_pos, y_pos, e4, e3, e1, ← this, e5]
  omega
theorem k_setsAboveZero {V : x_E} {n : Nat} {L : List Nat} {D : y_D} (hV : y_V V) {s l p : Int32} {x U0 : Nat} (hL : y_ok L) (hu : (D 152).1 8 = nI U0) (hx : x < U0) (hU0 : U0 ≤ 301) (hs0 : y_bd s 1000000) (hl0 : y_bd l 1000) (hp0 : y_bd p 1000) : y_Ri V yX6_setsAboveZero cX6_setsAboveZero 8 (some .int) 1 [.ref 152, .int s, .int l, .int p, .int (nI x)] n L D (fun v D2 => v = y_ab s l 5 ∧ ∃ U, x < U ∧ U ≤ U0 ∧ D2 = y_si D 152 8 (nI U) ∧ ∀ d, x + d < U → y_ab (s + p * nI d) l 5 = y_ab s l 5) := by
  refine y_ri (by decide) (Nat.le_of_ble_eq_true rfl) (fun E hE => ?_)
  change E 0 0 0 [(0, .ref 152), (1, .int s), (2, .int l), (3, .int p), (4, .int (nI x))] [] (y_mk n L D)
  have lp : ∀ (i : Nat) (t : Int32) (U : Nat), i ≤ 5 → y_ab s l i = t → x < U → U ≤ U0 → (∀ d, x + d < U → ∀ j, j < i → (0 < (s + p * nI d) + l * nI j ↔ 0 < s + l * nI j)) → E 0 0 6 [(0, .ref 152), (1, .int s), (2, .int l), (3, .int p), (4, .int (nI x)), (5, .int t), (6, .int (nI i))] [] (y_mk n L (y_si D 152 8 (nI U))) := by
    intro i t U
    induction hm9 : (5 - i) using Nat.strongRecOn generalizing i t U with
    | _ m9 ih =>
      intro hi ht hxU hUU hz
      subst hm9
      refine r_iload hE dX6_setsAboveZero_6 rfl ?_
      refine r_iconst (v := 4) hE dX6_setsAboveZero_8 (by decide) ?_
      refine r_icmp_gtN (a := i) (b := 4) (tgt := 66) hE dX6_setsAboveZero_9 (by decide) (by omega) (by decide) (fun c9 => ?_) (fun c9 => ?_)
      · refine r_iload hE dX6_setsAboveZero_66 rfl ?_
        refine r_ireturn hE dX6_setsAboveZero_68 rfl rfl (Nat.zero_le _) (Nat.zero_le _) ?_
        have hi2 : i = 5 := by omega
        subst hi2
        exact ⟨_, _, rfl, rfl, ht.symm, U, hxU, hUU, rfl, fun d hd => y_ab_c (hz d hd)⟩
      · refine r_iload_n hE dX6_setsAboveZero_12 rfl ?_
        refine r_iload_n hE dX6_setsAboveZero_13 rfl ?_
        refine r_iload hE dX6_setsAboveZero_14 rfl ?_
        refine r_imul hE dX6_setsAboveZero_16 ?_
        refine r_iadd hE dX6_setsAboveZero_17 ?_
        refine r_istore (ls2 := [(0, .ref 152), (1, .int s), (2, .int l), (3, .int p), (4, .int (nI x)), (5, .int t), (6, .int (nI i)), (7, .int (s + (l * (nI i))))]) hE dX6_setsAboveZero_18 (by decide) rfl ?_
        refine r_iload hE dX6_setsAboveZero_20 rfl ?_
        refine r_iload hE dX6_setsAboveZero_22 rfl ?_
        refine r_if_le (tgt := 36) hE dX6_setsAboveZero_24 (by decide) (fun c24 => ?_) (fun c24 => ?_)
        · refine r_iconst (v := 0) hE dX6_setsAboveZero_36 (by decide) ?_
          refine r_ior hE dX6_setsAboveZero_37 ?_
          refine r_istore (ls2 := [(0, .ref 152), (1, .int s), (2, .int l), (3, .int p), (4, .int (nI x)), (5, .int (t ||| 0)), (6, .int (nI i)), (7, .int (s + (l * (nI i))))]) hE dX6_setsAboveZero_38 (by decide) rfl ?_
          obtain ⟨r, hr1, hr2, hr3, hr4⟩ := y_stt_ok (s := s + l * nI i) (p := p) (y_bd_up (y_bd_add hs0 (y_bd_up (B := 5000) (y_bd_mul (i := i) hl0 (by omega) (by omega)).2 (by omega)) (by decide)).2 (by decide)) (y_bd_up hp0 (by decide))
          refine r_aload_n hE dX6_setsAboveZero_40 rfl ?_
          refine r_aload_n hE dX6_setsAboveZero_41 rfl ?_
          refine t_geti hE f_X6_65 y_I_152_8 dX6_setsAboveZero_42 (hL 152 (by decide)) ?_
          refine r_top (y := (nI U)) rfl ?_
          refine r_iload hE dX6_setsAboveZero_45 rfl ?_
          refine r_iload hE dX6_setsAboveZero_47 rfl ?_
          refine r_iload_n hE dX6_setsAboveZero_49 rfl ?_
          refine t_invs (r := (some (.int (K_stt (s + (l * (nI i))) p)))) (S2 := (y_mk n L (y_si D 152 8 (nI U)))) hE [.int (s + (l * (nI i))), .int p] (k_secondsToTurn) s_yX6_secondsToTurn m_X6_114 dX6_setsAboveZero_50 rfl (by decide) ⟨Nat.le_refl _, Nat.le_refl _⟩ (Nat.le_of_ble_eq_true rfl) ?_
          show E 0 0 53 [(0, .ref 152), (1, .int s), (2, .int l), (3, .int p), (4, .int (nI x)), (5, .int (t ||| 0)), (6, .int (nI i)), (7, .int (s + (l * (nI i))))] [.int (K_stt (s + (l * (nI i))) p), .int (nI x), .int (nI U), .ref 152] (y_mk n L (y_si D 152 8 (nI U)))
          refine r_top (y := (nI r)) hr1 ?_
          refine r_iaddN (a := x) (b := r) hE dX6_setsAboveZero_53 ?_
          refine r_mmin hE m_X6_77 dX6_setsAboveZero_54 (by decide) (Nat.le_of_ble_eq_true rfl) ⟨Nat.le_refl _, Nat.le_refl _⟩ ?_
          refine r_top (y := (nI (min U (x + r)))) (y_mnN (by omega) (by omega)) ?_
          refine t_puti hE f_X6_65 y_I_152_8 dX6_setsAboveZero_57 (hL 152 (by decide)) rfl rfl ?_
          refine r_iincN (a := i) (b := 1) (ls2 := [(0, .ref 152), (1, .int s), (2, .int l), (3, .int p), (4, .int (nI x)), (5, .int (t ||| 0)), (6, .int (nI (i + 1))), (7, .int (s + (l * (nI i))))]) hE dX6_setsAboveZero_60 rfl rfl (by decide) rfl ?_
          refine r_goto (tgt := 6) hE dX6_setsAboveZero_63 (by decide) ?_
          rw [y_si_si]
          refine r_locs hE (ls2 := [(0, .ref 152), (1, .int s), (2, .int l), (3, .int p), (4, .int (nI x)), (5, .int (t ||| 0)), (6, .int (nI (i + 1)))]) ?_ (ih (5 - (i + 1)) (by omega) (i + 1) _ (min U (x + r)) rfl (by omega) ?_ (by omega) (by omega) (fun d hd j hj => ?_))
          · simp [x_lk]
          · show y_ab1 s l i (y_ab s l i) = _
            rw [ht]
            unfold y_ab1
            first
            | rw [if_pos (by grind)]
            | rw [if_neg (by grind)]
          · by_cases c : j = i
            · rw [c]
              exact y_ab_s hs0 hl0 hp0 (by omega) (by omega) hr4 (by omega)
            · exact hz d (by omega) j (by omega)
        · refine r_getsN (v := .ref 62) hE (y_Z62 hV) (hNf_X6_111 hV) dX6_setsAboveZero_27 ?_
          refine r_iload hE dX6_setsAboveZero_30 rfl ?_
          refine t_sos (e := i) hE hV dX6_setsAboveZero_32 (by omega) ?_
          refine r_goto (tgt := 37) hE dX6_setsAboveZero_33 (by decide) ?_
          refine r_ior hE dX6_setsAboveZero_37 ?_
          refine r_istore (ls2 := [(0, .ref 152), (1, .int s), (2, .int l), (3, .int p), (4, .int (nI x)), (5, .int (t ||| (y_sos i))), (6, .int (nI i)), (7, .int (s + (l * (nI i))))]) hE dX6_setsAboveZero_38 (by decide) rfl ?_
          obtain ⟨r, hr1, hr2, hr3, hr4⟩ := y_stt_ok (s := s + l * nI i) (p := p) (y_bd_up (y_bd_add hs0 (y_bd_up (B := 5000) (y_bd_mul (i := i) hl0 (by omega) (by omega)).2 (by omega)) (by decide)).2 (by decide)) (y_bd_up hp0 (by decide))
          refine r_aload_n hE dX6_setsAboveZero_40 rfl ?_
          refine r_aload_n hE dX6_setsAboveZero_41 rfl ?_
          refine t_geti hE f_X6_65 y_I_152_8 dX6_setsAboveZero_42 (hL 152 (by decide)) ?_
          refine r_top (y := (nI U)) rfl ?_
          refine r_iload hE dX6_setsAboveZero_45 rfl ?_
          refine r_iload hE dX6_setsAboveZero_47 rfl ?_
          refine r_iload_n hE dX6_setsAboveZero_49 rfl ?_
          refine t_invs (r := (some (.int (K_stt (s + (l * (nI i))) p)))) (S2 := (y_mk n L (y_si D 152 8 (nI U)))) hE [.int (s + (l * (nI i))), .int p] (k_secondsToTurn) s_yX6_secondsToTurn m_X6_114 dX6_setsAboveZero_50 rfl (by decide) ⟨Nat.le_refl _, Nat.le_refl _⟩ (Nat.le_of_ble_eq_true rfl) ?_
          show E 0 0 53 [(0, .ref 152), (1, .int s), (2, .int l), (3, .int p), (4, .int (nI x)), (5, .int (t ||| (y_sos i))), (6, .int (nI i)), (7, .int (s + (l * (nI i))))] [.int (K_stt (s + (l * (nI i))) p), .int (nI x), .int (nI U), .ref 152] (y_mk n L (y_si D 152 8 (nI U)))
          refine r_top (y := (nI r)) hr1 ?_
          refine r_iaddN (a := x) (b := r) hE dX6_setsAboveZero_53 ?_
          refine r_mmin hE m_X6_77 dX6_setsAboveZero_54 (by decide) (Nat.le_of_ble_eq_true rfl) ⟨Nat.le_refl _, Nat.le_refl _⟩ ?_
          refine r_top (y := (nI (min U (x + r)))) (y_mnN (by omega) (by omega)) ?_
          refine t_puti hE f_X6_65 y_I_152_8 dX6_setsAboveZero_57 (hL 152 (by decide)) rfl rfl ?_
          refine r_iincN (a := i) (b := 1) (ls2 := [(0, .ref 152), (1, .int s), (2, .int l), (3, .int p), (4, .int (nI x)), (5, .int (t ||| (y_sos i))), (6, .int (nI (i + 1))), (7, .int (s + (l * (nI i))))]) hE dX6_setsAboveZero_60 rfl rfl (by decide) rfl ?_
          refine r_goto (tgt := 6) hE dX6_setsAboveZero_63 (by decide) ?_
          rw [y_si_si]
          refine r_locs hE (ls2 := [(0, .ref 152), (1, .int s), (2, .int l), (3, .int p), (4, .int (nI x)), (5, .int (t ||| (y_sos i))), (6, .int (nI (i + 1)))]) ?_ (ih (5 - (i + 1)) (by omega) (i + 1) _ (min U (x + r)) rfl (by omega) ?_ (by omega) (by omega) (fun d hd j hj => ?_))
          · simp [x_lk]
          · show y_ab1 s l i (y_ab s l i) = _
            rw [ht]
            unfold y_ab1
            first
            | rw [if_pos (by grind)]
            | rw [if_neg (by grind)]
          · by_cases c : j = i
            · rw [c]
              exact y_ab_s hs0 hl0 hp0 (by omega) (by omega) hr4 (by omega)
            · exact hz d (by omega) j (by omega)
  refine r_iconst (v := 0) hE dX6_setsAboveZero_0 (by decide) ?_
  refine r_istore (ls2 := [(0, .ref 152), (1, .int s), (2, .int l), (3, .int p), (4, .int (nI x)), (5, .int 0)]) hE dX6_setsAboveZero_1 (by decide) rfl ?_
  refine r_iconst (v := 0) hE dX6_setsAboveZero_3 (by decide) ?_
  refine r_istore (ls2 := [(0, .ref 152), (1, .int s), (2, .int l), (3, .int p), (4, .int (nI x)), (5, .int 0), (6, .int 0)]) hE dX6_setsAboveZero_4 (by decide) rfl ?_
  have h0 := lp 0 0 U0 (by omega) rfl hx (Nat.le_refl _) (fun d _ j hj => absurd hj (by omega))
  rw [y_si_self hu] at h0
  exact h0
theorem k_litTurns {V : x_E} {n : Nat} {L : List Nat} {D : y_D} {x U0 : Nat} (hL : y_ok L) (hu : (D 152).1 8 = nI U0) (hx : x < U0) (hU0 : U0 ≤ 301) : y_Ri V yX6_litTurns cX6_litTurns 3 (some .int) 0 [.ref 152, .int (nI x)] n L D (fun v D2 => ∃ K, v = nI K ∧ x < K ∧ K ≤ U0 ∧ (∀ d, x + d < K → (D 153).1 (x + d) = (D 153).1 x) ∧ D = D2) := by
  refine y_ri (by decide) (Nat.le_of_ble_eq_true rfl) (fun E hE => ?_)
  change E 0 0 0 [(0, .ref 152), (1, .int (nI x))] [] (y_mk n L D)
  have lp : ∀ (i : Nat), x < i → i ≤ U0 → (∀ j, x ≤ j → j < i → (D 153).1 j = (D 153).1 x) → E 0 0 4 [(0, .ref 152), (1, .int (nI x)), (2, .int (nI i))] [] (y_mk n L D) := by
    intro i
    induction hm9 : (U0 - i) using Nat.strongRecOn generalizing i with
    | _ m9 ih =>
      intro hxi hi hz
      subst hm9
      refine r_iload_n hE dX6_litTurns_4 rfl ?_
      refine r_aload_n hE dX6_litTurns_5 rfl ?_
      refine t_geti hE f_X6_65 y_I_152_8 dX6_litTurns_6 (hL 152 (by decide)) ?_
      refine r_top (y := (nI U0)) hu ?_
      refine r_icmp_geN (a := i) (b := U0) (tgt := 33) hE dX6_litTurns_9 (by decide) (by omega) (by omega) (fun c9 => ?_) (fun c9 => ?_)
      · refine r_iload_n hE dX6_litTurns_33 rfl ?_
        refine r_ireturn hE dX6_litTurns_34 rfl rfl (Nat.zero_le _) (Nat.zero_le _) ?_
        exact ⟨_, _, rfl, rfl, i, rfl, by omega, by omega, fun d hd => hz (x + d) (by omega) (by omega), rfl⟩
      · refine r_aload_n hE dX6_litTurns_12 rfl ?_
        refine t_getr hE f_X6_9 y_R_152_3 dX6_litTurns_13 (hL 152 (by decide)) ?_
        refine r_iload_n hE dX6_litTurns_16 rfl ?_
        refine t_ialdN (e := i) hE y_A_153 dX6_litTurns_17 (hL 153 (by decide)) (by omega) (by decide) ?_
        refine r_aload_n hE dX6_litTurns_18 rfl ?_
        refine t_getr hE f_X6_9 y_R_152_3 dX6_litTurns_19 (hL 152 (by decide)) ?_
        refine r_iload_n hE dX6_litTurns_22 rfl ?_
        refine t_ialdN (e := x) hE y_A_153 dX6_litTurns_23 (hL 153 (by decide)) (by omega) (by decide) ?_
        refine r_icmp_ne (tgt := 33) hE dX6_litTurns_24 (by decide) (fun c24 => ?_) (fun c24 => ?_)
        · refine r_iload_n hE dX6_litTurns_33 rfl ?_
          refine r_ireturn hE dX6_litTurns_34 rfl rfl (Nat.zero_le _) (Nat.zero_le _) ?_
          exact ⟨_, _, rfl, rfl, i, rfl, by omega, by omega, fun d hd => hz (x + d) (by omega) (by omega), rfl⟩
        · refine r_iincN (a := i) (b := 1) (ls2 := [(0, .ref 152), (1, .int (nI x)), (2, .int (nI (i + 1)))]) hE dX6_litTurns_27 rfl rfl (by decide) rfl ?_
          refine r_goto (tgt := 4) hE dX6_litTurns_30 (by decide) ?_
          refine ih (U0 - (i + 1)) (by omega) (i + 1) rfl (by omega) (by omega) (fun j h1 h2 => ?_)
          by_cases c : j = i
          · rw [c]; first | exact c24 | exact Decidable.not_not.mp c24
          · exact hz j h1 (by omega)
  refine r_iload_n hE dX6_litTurns_0 rfl ?_
  refine r_iconst (v := 1) hE dX6_litTurns_1 (by decide) ?_
  refine r_iaddN (a := x) (b := 1) hE dX6_litTurns_2 ?_
  refine r_istore_n (ls2 := [(0, .ref 152), (1, .int (nI x)), (2, .int (nI (x + 1)))]) hE dX6_litTurns_3 (by decide) rfl ?_
  exact lp (x + 1) (by omega) (by omega) (fun j h1 h2 => by rw [show j = x by omega])
theorem k_setsOfTag {V : x_E} {n : Nat} {L : List Nat} {D : y_D} (hV : y_V V) {p : Int32} {q x U0 : Nat} (hL : y_ok L) (hq : q < 4) (hu : (D 152).1 8 = nI U0) (hxU : x < U0) (hU0 : U0 ≤ 301) : y_Ri V yX6_setsOfTag cX6_setsOfTag 5 (some .int) 1 [.ref 152, .int p, .int (nI q), .int (nI x)] n L D (fun v D2 => v = K_tag D p q x ∧ ∃ U, x < U ∧ U ≤ U0 ∧ D2 = y_si D 152 8 (nI U) ∧ ∀ d, x + d < U → K_tag D p q (x + d) = K_tag D p q x) := by
  refine y_ri (by decide) (Nat.le_of_ble_eq_true rfl) (fun E hE => ?_)
  change E 0 0 0 [(0, .ref 152), (1, .int p), (2, .int (nI q)), (3, .int (nI x))] [] (y_mk n L D)
  refine r_iload_n hE dX6_setsOfTag_0 rfl ?_
  rcases y_sw_23_27 p with h9 | rfl | rfl | rfl | rfl | rfl
  · refine r_tsout (tgt := 96) hE dX6_setsOfTag_1 h9 (by decide) ?_
    refine r_aload_n hE dX6_setsOfTag_96 rfl ?_
    refine t_geti hE f_X6_31 y_I_152_1 dX6_setsOfTag_97 (hL 152 (by decide)) ?_
    refine r_iload_n hE dX6_setsOfTag_100 rfl ?_
    refine t_invsN (r := (some (.int (y_b (y_bit ((D 152).1 1) q))))) (S2 := (y_mk n L D)) hE [.int ((D 152).1 1), .int (nI q)] (k_hasBit) s_yX10_hasBit (hN_X6_107 hV) dX6_setsOfTag_101 rfl (by decide) ⟨Nat.le_refl _, Nat.le_refl _⟩ (Nat.le_of_ble_eq_true rfl) ?_
    show E 0 0 104 [(0, .ref 152), (1, .int p), (2, .int (nI q)), (3, .int (nI x))] [.int (y_b (y_bit ((D 152).1 1) q))] (y_mk n L D)
    refine r_ifb_eq (tgt := 121) hE dX6_setsOfTag_104 (by decide) (fun c104 => ?_) (fun c104 => ?_)
    · refine r_iconst (v := 0) hE dX6_setsOfTag_121 (by decide) ?_
      refine r_istore (ls2 := [(0, .ref 152), (1, .int p), (2, .int (nI q)), (3, .int (nI x)), (4, .int 0)]) hE dX6_setsOfTag_122 (by decide) rfl ?_
      refine r_aload_n hE dX6_setsOfTag_124 rfl ?_
      refine t_geti hE f_X6_31 y_I_152_1 dX6_setsOfTag_125 (hL 152 (by decide)) ?_
      refine r_iload_n hE dX6_setsOfTag_128 rfl ?_
      refine t_invsN (r := (some (.int (y_b (y_bit ((D 152).1 1) q))))) (S2 := (y_mk n L D)) hE [.int ((D 152).1 1), .int (nI q)] (k_hasBit) s_yX10_hasBit (hN_X6_107 hV) dX6_setsOfTag_129 rfl (by decide) ⟨Nat.le_refl _, Nat.le_refl _⟩ (Nat.le_of_ble_eq_true rfl) ?_
      show E 0 0 132 [(0, .ref 152), (1, .int p), (2, .int (nI q)), (3, .int (nI x)), (4, .int 0)] [.int (y_b (y_bit ((D 152).1 1) q))] (y_mk n L D)
      refine r_ifb_eq (tgt := 157) hE dX6_setsOfTag_132 (by decide) (fun c132 => ?_) (fun c132 => ?_)
      · refine r_iload hE dX6_setsOfTag_157 rfl ?_
        refine r_if_eq (tgt := 167) hE dX6_setsOfTag_159 (by decide) (fun _ => ?_) (fun c159 => by first | exact absurd c159 (by decide) | exact absurd (by decide) c159)
        refine r_iconst (v := 0) hE dX6_setsOfTag_167 (by decide) ?_
        refine r_ireturn hE dX6_setsOfTag_168 rfl rfl (Nat.zero_le _) (Nat.zero_le _) ?_
        have hn : ∀ c : Int32, 23 ≤ c.toInt ∧ c.toInt ≤ 27 → p ≠ c := fun c hc he => by rw [he] at h9; omega
        have e9 : ∀ s, K_tag D p q s = (if y_bit ((D 152).1 1) q ∧ (D 155).1 q ≤ nI s then 65535 else 0) := fun s => by
          unfold K_tag
          rw [if_neg (hn 25 (by decide)), if_neg (hn 23 (by decide)), if_neg (hn 26 (by decide)), if_neg (hn 27 (by decide))]
        first
        | exact absurd c104 c132
        | exact absurd c132 c104
        | (refine ⟨_, _, rfl, rfl, ?_, U0, hxU, Nat.le_refl _, (y_si_self hu).symm, fun d hd => ?_⟩
           · rw [e9]
             first
             | exact (if_neg (fun h => c104 h.1)).symm
             | exact (if_pos ⟨c104, by grind⟩).symm
           · rw [e9, e9]
             first
             | rw [if_neg (fun h => c104 h.1), if_neg (fun h => c104 h.1)]
             | (have hm : nI x ≤ nI (x + d) := nI_le (by omega) (by omega)
                rw [if_pos ⟨c104, by grind⟩, if_pos ⟨c104, by grind⟩]))
      · refine r_iload hE dX6_setsOfTag_135 rfl ?_
        refine r_if_ne (tgt := 157) hE dX6_setsOfTag_137 (by decide) (fun c137 => by first | exact absurd c137 (by decide) | exact absurd (by decide) c137) (fun _ => ?_)
        refine r_aload_n hE dX6_setsOfTag_140 rfl ?_
        refine r_aload_n hE dX6_setsOfTag_141 rfl ?_
        refine t_geti hE f_X6_65 y_I_152_8 dX6_setsOfTag_142 (hL 152 (by decide)) ?_
        refine r_top (y := (nI U0)) hu ?_
        refine r_aload_n hE dX6_setsOfTag_145 rfl ?_
        refine t_getr hE f_X6_18 y_R_152_5 dX6_setsOfTag_146 (hL 152 (by decide)) ?_
        refine r_iload_n hE dX6_setsOfTag_149 rfl ?_
        refine t_ialdN (e := q) hE y_A_155 dX6_setsOfTag_150 (hL 155 (by decide)) (by omega) (by decide) ?_
        refine r_mmin hE m_X6_77 dX6_setsOfTag_151 (by decide) (Nat.le_of_ble_eq_true rfl) ⟨Nat.le_refl _, Nat.le_refl _⟩ ?_
        refine t_puti hE f_X6_65 y_I_152_8 dX6_setsOfTag_154 (hL 152 (by decide)) rfl rfl ?_
        refine r_iload hE dX6_setsOfTag_157 rfl ?_
        refine r_if_eq (tgt := 167) hE dX6_setsOfTag_159 (by decide) (fun _ => ?_) (fun c159 => by first | exact absurd c159 (by decide) | exact absurd (by decide) c159)
        refine r_iconst (v := 0) hE dX6_setsOfTag_167 (by decide) ?_
        refine r_ireturn hE dX6_setsOfTag_168 rfl rfl (Nat.zero_le _) (Nat.zero_le _) ?_
        have hn : ∀ c : Int32, 23 ≤ c.toInt ∧ c.toInt ≤ 27 → p ≠ c := fun c hc he => by rw [he] at h9; omega
        have e9 : ∀ s, K_tag D p q s = (if y_bit ((D 152).1 1) q ∧ (D 155).1 q ≤ nI s then 65535 else 0) := fun s => by
          unfold K_tag
          rw [if_neg (hn 25 (by decide)), if_neg (hn 23 (by decide)), if_neg (hn 26 (by decide)), if_neg (hn 27 (by decide))]
        have c5 : ¬ (D 155).1 q ≤ nI x := by
          first
          | exact absurd c132 c104
          | grind
        obtain ⟨U2, u1, u2, u3, u4⟩ := y_mnT hxU hU0 c5
        rw [u1]
        refine ⟨_, _, rfl, rfl, ?_, U2, u2, u3, rfl, fun d hd => ?_⟩
        · rw [e9, if_neg (fun h => c5 h.2)]
        · rw [e9, e9, if_neg (fun h => u4 d hd h.2), if_neg (fun h => c5 h.2)]
    · refine r_aload_n hE dX6_setsOfTag_107 rfl ?_
      refine t_getr hE f_X6_18 y_R_152_5 dX6_setsOfTag_108 (hL 152 (by decide)) ?_
      refine r_iload_n hE dX6_setsOfTag_111 rfl ?_
      refine t_ialdN (e := q) hE y_A_155 dX6_setsOfTag_112 (hL 155 (by decide)) (by omega) (by decide) ?_
      refine r_iload_n hE dX6_setsOfTag_113 rfl ?_
      refine r_icmp_gt (tgt := 121) hE dX6_setsOfTag_114 (by decide) (fun c114 => ?_) (fun c114 => ?_)
      · refine r_iconst (v := 0) hE dX6_setsOfTag_121 (by decide) ?_
        refine r_istore (ls2 := [(0, .ref 152), (1, .int p), (2, .int (nI q)), (3, .int (nI x)), (4, .int 0)]) hE dX6_setsOfTag_122 (by decide) rfl ?_
        refine r_aload_n hE dX6_setsOfTag_124 rfl ?_
        refine t_geti hE f_X6_31 y_I_152_1 dX6_setsOfTag_125 (hL 152 (by decide)) ?_
        refine r_iload_n hE dX6_setsOfTag_128 rfl ?_
        refine t_invsN (r := (some (.int (y_b (y_bit ((D 152).1 1) q))))) (S2 := (y_mk n L D)) hE [.int ((D 152).1 1), .int (nI q)] (k_hasBit) s_yX10_hasBit (hN_X6_107 hV) dX6_setsOfTag_129 rfl (by decide) ⟨Nat.le_refl _, Nat.le_refl _⟩ (Nat.le_of_ble_eq_true rfl) ?_
        show E 0 0 132 [(0, .ref 152), (1, .int p), (2, .int (nI q)), (3, .int (nI x)), (4, .int 0)] [.int (y_b (y_bit ((D 152).1 1) q))] (y_mk n L D)
        refine r_ifb_eq (tgt := 157) hE dX6_setsOfTag_132 (by decide) (fun c132 => ?_) (fun c132 => ?_)
        · refine r_iload hE dX6_setsOfTag_157 rfl ?_
          refine r_if_eq (tgt := 167) hE dX6_setsOfTag_159 (by decide) (fun _ => ?_) (fun c159 => by first | exact absurd c159 (by decide) | exact absurd (by decide) c159)
          refine r_iconst (v := 0) hE dX6_setsOfTag_167 (by decide) ?_
          refine r_ireturn hE dX6_setsOfTag_168 rfl rfl (Nat.zero_le _) (Nat.zero_le _) ?_
          have hn : ∀ c : Int32, 23 ≤ c.toInt ∧ c.toInt ≤ 27 → p ≠ c := fun c hc he => by rw [he] at h9; omega
          have e9 : ∀ s, K_tag D p q s = (if y_bit ((D 152).1 1) q ∧ (D 155).1 q ≤ nI s then 65535 else 0) := fun s => by
            unfold K_tag
            rw [if_neg (hn 25 (by decide)), if_neg (hn 23 (by decide)), if_neg (hn 26 (by decide)), if_neg (hn 27 (by decide))]
          first
          | exact absurd c104 c132
          | exact absurd c132 c104
          | (refine ⟨_, _, rfl, rfl, ?_, U0, hxU, Nat.le_refl _, (y_si_self hu).symm, fun d hd => ?_⟩
             · rw [e9]
               first
               | exact (if_neg (fun h => c104 h.1)).symm
               | exact (if_pos ⟨c104, by grind⟩).symm
             · rw [e9, e9]
               first
               | rw [if_neg (fun h => c104 h.1), if_neg (fun h => c104 h.1)]
               | (have hm : nI x ≤ nI (x + d) := nI_le (by omega) (by omega)
                  rw [if_pos ⟨c104, by grind⟩, if_pos ⟨c104, by grind⟩]))
        · refine r_iload hE dX6_setsOfTag_135 rfl ?_
          refine r_if_ne (tgt := 157) hE dX6_setsOfTag_137 (by decide) (fun c137 => by first | exact absurd c137 (by decide) | exact absurd (by decide) c137) (fun _ => ?_)
          refine r_aload_n hE dX6_setsOfTag_140 rfl ?_
          refine r_aload_n hE dX6_setsOfTag_141 rfl ?_
          refine t_geti hE f_X6_65 y_I_152_8 dX6_setsOfTag_142 (hL 152 (by decide)) ?_
          refine r_top (y := (nI U0)) hu ?_
          refine r_aload_n hE dX6_setsOfTag_145 rfl ?_
          refine t_getr hE f_X6_18 y_R_152_5 dX6_setsOfTag_146 (hL 152 (by decide)) ?_
          refine r_iload_n hE dX6_setsOfTag_149 rfl ?_
          refine t_ialdN (e := q) hE y_A_155 dX6_setsOfTag_150 (hL 155 (by decide)) (by omega) (by decide) ?_
          refine r_mmin hE m_X6_77 dX6_setsOfTag_151 (by decide) (Nat.le_of_ble_eq_true rfl) ⟨Nat.le_refl _, Nat.le_refl _⟩ ?_
          refine t_puti hE f_X6_65 y_I_152_8 dX6_setsOfTag_154 (hL 152 (by decide)) rfl rfl ?_
          refine r_iload hE dX6_setsOfTag_157 rfl ?_
          refine r_if_eq (tgt := 167) hE dX6_setsOfTag_159 (by decide) (fun _ => ?_) (fun c159 => by first | exact absurd c159 (by decide) | exact absurd (by decide) c159)
          refine r_iconst (v := 0) hE dX6_setsOfTag_167 (by decide) ?_
          refine r_ireturn hE dX6_setsOfTag_168 rfl rfl (Nat.zero_le _) (Nat.zero_le _) ?_
          have hn : ∀ c : Int32, 23 ≤ c.toInt ∧ c.toInt ≤ 27 → p ≠ c := fun c hc he => by rw [he] at h9; omega
          have e9 : ∀ s, K_tag D p q s = (if y_bit ((D 152).1 1) q ∧ (D 155).1 q ≤ nI s then 65535 else 0) := fun s => by
            unfold K_tag
            rw [if_neg (hn 25 (by decide)), if_neg (hn 23 (by decide)), if_neg (hn 26 (by decide)), if_neg (hn 27 (by decide))]
          have c5 : ¬ (D 155).1 q ≤ nI x := by
            first
            | exact absurd c132 c104
            | grind
          obtain ⟨U2, u1, u2, u3, u4⟩ := y_mnT hxU hU0 c5
          rw [u1]
          refine ⟨_, _, rfl, rfl, ?_, U2, u2, u3, rfl, fun d hd => ?_⟩
          · rw [e9, if_neg (fun h => c5 h.2)]
          · rw [e9, e9, if_neg (fun h => u4 d hd h.2), if_neg (fun h => c5 h.2)]
      · refine r_iconst (v := 1) hE dX6_setsOfTag_117 (by decide) ?_
        refine r_goto (tgt := 122) hE dX6_setsOfTag_118 (by decide) ?_
        refine r_istore (ls2 := [(0, .ref 152), (1, .int p), (2, .int (nI q)), (3, .int (nI x)), (4, .int 1)]) hE dX6_setsOfTag_122 (by decide) rfl ?_
        refine r_aload_n hE dX6_setsOfTag_124 rfl ?_
        refine t_geti hE f_X6_31 y_I_152_1 dX6_setsOfTag_125 (hL 152 (by decide)) ?_
        refine r_iload_n hE dX6_setsOfTag_128 rfl ?_
        refine t_invsN (r := (some (.int (y_b (y_bit ((D 152).1 1) q))))) (S2 := (y_mk n L D)) hE [.int ((D 152).1 1), .int (nI q)] (k_hasBit) s_yX10_hasBit (hN_X6_107 hV) dX6_setsOfTag_129 rfl (by decide) ⟨Nat.le_refl _, Nat.le_refl _⟩ (Nat.le_of_ble_eq_true rfl) ?_
        show E 0 0 132 [(0, .ref 152), (1, .int p), (2, .int (nI q)), (3, .int (nI x)), (4, .int 1)] [.int (y_b (y_bit ((D 152).1 1) q))] (y_mk n L D)
        refine r_ifb_eq (tgt := 157) hE dX6_setsOfTag_132 (by decide) (fun c132 => ?_) (fun c132 => ?_)
        · refine r_iload hE dX6_setsOfTag_157 rfl ?_
          refine r_if_eq (tgt := 167) hE dX6_setsOfTag_159 (by decide) (fun c159 => by first | exact absurd c159 (by decide) | exact absurd (by decide) c159) (fun _ => ?_)
          refine r_ldc (v := 65535) hE dX6_setsOfTag_162 (x_gin (List.mem_append_right _ (tb_4 _ (List.mem_of_getElem? (i := 174) rfl))) rfl) ?_
          refine r_goto (tgt := 168) hE dX6_setsOfTag_164 (by decide) ?_
          refine r_ireturn hE dX6_setsOfTag_168 rfl rfl (Nat.zero_le _) (Nat.zero_le _) ?_
          have hn : ∀ c : Int32, 23 ≤ c.toInt ∧ c.toInt ≤ 27 → p ≠ c := fun c hc he => by rw [he] at h9; omega
          have e9 : ∀ s, K_tag D p q s = (if y_bit ((D 152).1 1) q ∧ (D 155).1 q ≤ nI s then 65535 else 0) := fun s => by
            unfold K_tag
            rw [if_neg (hn 25 (by decide)), if_neg (hn 23 (by decide)), if_neg (hn 26 (by decide)), if_neg (hn 27 (by decide))]
          first
          | exact absurd c104 c132
          | exact absurd c132 c104
          | (refine ⟨_, _, rfl, rfl, ?_, U0, hxU, Nat.le_refl _, (y_si_self hu).symm, fun d hd => ?_⟩
             · rw [e9]
               first
               | exact (if_neg (fun h => c104 h.1)).symm
               | exact (if_pos ⟨c104, by grind⟩).symm
             · rw [e9, e9]
               first
               | rw [if_neg (fun h => c104 h.1), if_neg (fun h => c104 h.1)]
               | (have hm : nI x ≤ nI (x + d) := nI_le (by omega) (by omega)
                  rw [if_pos ⟨c104, by grind⟩, if_pos ⟨c104, by grind⟩]))
        · refine r_iload hE dX6_setsOfTag_135 rfl ?_
          refine r_if_ne (tgt := 157) hE dX6_setsOfTag_137 (by decide) (fun _ => ?_) (fun c137 => by first | exact absurd c137 (by decide) | exact absurd (by decide) c137)
          refine r_iload hE dX6_setsOfTag_157 rfl ?_
          refine r_if_eq (tgt := 167) hE dX6_setsOfTag_159 (by decide) (fun c159 => by first | exact absurd c159 (by decide) | exact absurd (by decide) c159) (fun _ => ?_)
          refine r_ldc (v := 65535) hE dX6_setsOfTag_162 (x_gin (List.mem_append_right _ (tb_4 _ (List.mem_of_getElem? (i := 174) rfl))) rfl) ?_
          refine r_goto (tgt := 168) hE dX6_setsOfTag_164 (by decide) ?_
          refine r_ireturn hE dX6_setsOfTag_168 rfl rfl (Nat.zero_le _) (Nat.zero_le _) ?_
          have hn : ∀ c : Int32, 23 ≤ c.toInt ∧ c.toInt ≤ 27 → p ≠ c := fun c hc he => by rw [he] at h9; omega
          have e9 : ∀ s, K_tag D p q s = (if y_bit ((D 152).1 1) q ∧ (D 155).1 q ≤ nI s then 65535 else 0) := fun s => by
            unfold K_tag
            rw [if_neg (hn 25 (by decide)), if_neg (hn 23 (by decide)), if_neg (hn 26 (by decide)), if_neg (hn 27 (by decide))]
          first
          | exact absurd c104 c132
          | exact absurd c132 c104
          | (refine ⟨_, _, rfl, rfl, ?_, U0, hxU, Nat.le_refl _, (y_si_self hu).symm, fun d hd => ?_⟩
             · rw [e9]
               first
               | exact (if_neg (fun h => c104 h.1)).symm
               | exact (if_pos ⟨c104, by grind⟩).symm
             · rw [e9, e9]
               first
               | rw [if_neg (fun h => c104 h.1), if_neg (fun h => c104 h.1)]
               | (have hm : nI x ≤ nI (x + d) := nI_le (by omega) (by omega)
                  rw [if_pos ⟨c104, by grind⟩, if_pos ⟨c104, by grind⟩]))
  · refine r_tsin (tgt := 42) hE dX6_setsOfTag_1 (by decide) (by decide) rfl (by decide) ?_
    refine r_aload_n hE dX6_setsOfTag_42 rfl ?_
    refine t_getr hE f_X6_9 y_R_152_3 dX6_setsOfTag_43 (hL 152 (by decide)) ?_
    refine r_iload_n hE dX6_setsOfTag_46 rfl ?_
    refine t_ialdN (e := x) hE y_A_153 dX6_setsOfTag_47 (hL 153 (by decide)) (by omega) (by decide) ?_
    refine r_if_ne (tgt := 55) hE dX6_setsOfTag_48 (by decide) (fun c48 => ?_) (fun c48 => ?_)
    · refine r_iconst (v := 0) hE dX6_setsOfTag_55 (by decide) ?_
      refine r_istore (ls2 := [(0, .ref 152), (1, .int 23), (2, .int (nI q)), (3, .int (nI x)), (4, .int 0)]) hE dX6_setsOfTag_56 (by decide) rfl ?_
      refine r_aload_n hE dX6_setsOfTag_58 rfl ?_
      refine r_aload_n hE dX6_setsOfTag_59 rfl ?_
      refine r_iload_n hE dX6_setsOfTag_60 rfl ?_
      refine t_invvRi hE [.int (nI x)] (k_litTurns (x := x) (U0 := U0) hL hu hxU hU0) v_yX6_litTurns m_X6_103 dX6_setsOfTag_61 rfl (hL 152 (by decide)) (y_l_152 (D 152)) rfl (by decide) ⟨Nat.le_refl _, Nat.le_refl _⟩ (Nat.le_of_ble_eq_true rfl) (fun r61 D61 q61 => ?_)
      obtain ⟨K, rfl, hK1, hK2, hK3, rfl⟩ := q61
      show E 0 0 64 [(0, .ref 152), (1, .int 23), (2, .int (nI q)), (3, .int (nI x)), (4, .int 0)] [.int (nI K), .ref 152] (y_mk n L D)
      refine t_puti hE f_X6_65 y_I_152_8 dX6_setsOfTag_64 (hL 152 (by decide)) rfl rfl ?_
      refine r_goto (tgt := 157) hE dX6_setsOfTag_67 (by decide) ?_
      refine r_iload hE dX6_setsOfTag_157 rfl ?_
      refine r_if_eq (tgt := 167) hE dX6_setsOfTag_159 (by decide) (fun _ => ?_) (fun c159 => by first | exact absurd c159 (by decide) | exact absurd (by decide) c159)
      refine r_iconst (v := 0) hE dX6_setsOfTag_167 (by decide) ?_
      refine r_ireturn hE dX6_setsOfTag_168 rfl rfl (Nat.zero_le _) (Nat.zero_le _) ?_
      have e9 : ∀ s, K_tag D 23 q s = (if (D 153).1 s = 0 then 65535 else 0) := fun s => by
        unfold K_tag
        rw [if_neg (show ¬ (23 : Int32) = 25 by decide), if_pos rfl]
      refine ⟨_, _, rfl, rfl, ?_, K, hK1, hK2, rfl, fun d hd => ?_⟩
      · rw [e9]
        first
        | exact (if_pos c48).symm
        | exact (if_pos (Decidable.not_not.mp c48)).symm
        | exact (if_neg c48).symm
      · rw [e9, e9, hK3 d hd]
    · refine r_iconst (v := 1) hE dX6_setsOfTag_51 (by decide) ?_
      refine r_goto (tgt := 56) hE dX6_setsOfTag_52 (by decide) ?_
      refine r_istore (ls2 := [(0, .ref 152), (1, .int 23), (2, .int (nI q)), (3, .int (nI x)), (4, .int 1)]) hE dX6_setsOfTag_56 (by decide) rfl ?_
      refine r_aload_n hE dX6_setsOfTag_58 rfl ?_
      refine r_aload_n hE dX6_setsOfTag_59 rfl ?_
      refine r_iload_n hE dX6_setsOfTag_60 rfl ?_
      refine t_invvRi hE [.int (nI x)] (k_litTurns (x := x) (U0 := U0) hL hu hxU hU0) v_yX6_litTurns m_X6_103 dX6_setsOfTag_61 rfl (hL 152 (by decide)) (y_l_152 (D 152)) rfl (by decide) ⟨Nat.le_refl _, Nat.le_refl _⟩ (Nat.le_of_ble_eq_true rfl) (fun r61 D61 q61 => ?_)
      obtain ⟨K, rfl, hK1, hK2, hK3, rfl⟩ := q61
      show E 0 0 64 [(0, .ref 152), (1, .int 23), (2, .int (nI q)), (3, .int (nI x)), (4, .int 1)] [.int (nI K), .ref 152] (y_mk n L D)
      refine t_puti hE f_X6_65 y_I_152_8 dX6_setsOfTag_64 (hL 152 (by decide)) rfl rfl ?_
      refine r_goto (tgt := 157) hE dX6_setsOfTag_67 (by decide) ?_
      refine r_iload hE dX6_setsOfTag_157 rfl ?_
      refine r_if_eq (tgt := 167) hE dX6_setsOfTag_159 (by decide) (fun c159 => by first | exact absurd c159 (by decide) | exact absurd (by decide) c159) (fun _ => ?_)
      refine r_ldc (v := 65535) hE dX6_setsOfTag_162 (x_gin (List.mem_append_right _ (tb_4 _ (List.mem_of_getElem? (i := 174) rfl))) rfl) ?_
      refine r_goto (tgt := 168) hE dX6_setsOfTag_164 (by decide) ?_
      refine r_ireturn hE dX6_setsOfTag_168 rfl rfl (Nat.zero_le _) (Nat.zero_le _) ?_
      have e9 : ∀ s, K_tag D 23 q s = (if (D 153).1 s = 0 then 65535 else 0) := fun s => by
        unfold K_tag
        rw [if_neg (show ¬ (23 : Int32) = 25 by decide), if_pos rfl]
      refine ⟨_, _, rfl, rfl, ?_, K, hK1, hK2, rfl, fun d hd => ?_⟩
      · rw [e9]
        first
        | exact (if_pos c48).symm
        | exact (if_pos (Decidable.not_not.mp c48)).symm
        | exact (if_neg c48).symm
      · rw [e9, e9, hK3 d hd]
  · refine r_tsin (tgt := 96) hE dX6_setsOfTag_1 (by decide) (by decide) rfl (by decide) ?_
    refine r_aload_n hE dX6_setsOfTag_96 rfl ?_
    refine t_geti hE f_X6_31 y_I_152_1 dX6_setsOfTag_97 (hL 152 (by decide)) ?_
    refine r_iload_n hE dX6_setsOfTag_100 rfl ?_
    refine t_invsN (r := (some (.int (y_b (y_bit ((D 152).1 1) q))))) (S2 := (y_mk n L D)) hE [.int ((D 152).1 1), .int (nI q)] (k_hasBit) s_yX10_hasBit (hN_X6_107 hV) dX6_setsOfTag_101 rfl (by decide) ⟨Nat.le_refl _, Nat.le_refl _⟩ (Nat.le_of_ble_eq_true rfl) ?_
    show E 0 0 104 [(0, .ref 152), (1, .int 24), (2, .int (nI q)), (3, .int (nI x))] [.int (y_b (y_bit ((D 152).1 1) q))] (y_mk n L D)
    refine r_ifb_eq (tgt := 121) hE dX6_setsOfTag_104 (by decide) (fun c104 => ?_) (fun c104 => ?_)
    · refine r_iconst (v := 0) hE dX6_setsOfTag_121 (by decide) ?_
      refine r_istore (ls2 := [(0, .ref 152), (1, .int 24), (2, .int (nI q)), (3, .int (nI x)), (4, .int 0)]) hE dX6_setsOfTag_122 (by decide) rfl ?_
      refine r_aload_n hE dX6_setsOfTag_124 rfl ?_
      refine t_geti hE f_X6_31 y_I_152_1 dX6_setsOfTag_125 (hL 152 (by decide)) ?_
      refine r_iload_n hE dX6_setsOfTag_128 rfl ?_
      refine t_invsN (r := (some (.int (y_b (y_bit ((D 152).1 1) q))))) (S2 := (y_mk n L D)) hE [.int ((D 152).1 1), .int (nI q)] (k_hasBit) s_yX10_hasBit (hN_X6_107 hV) dX6_setsOfTag_129 rfl (by decide) ⟨Nat.le_refl _, Nat.le_refl _⟩ (Nat.le_of_ble_eq_true rfl) ?_
      show E 0 0 132 [(0, .ref 152), (1, .int 24), (2, .int (nI q)), (3, .int (nI x)), (4, .int 0)] [.int (y_b (y_bit ((D 152).1 1) q))] (y_mk n L D)
      refine r_ifb_eq (tgt := 157) hE dX6_setsOfTag_132 (by decide) (fun c132 => ?_) (fun c132 => ?_)
      · refine r_iload hE dX6_setsOfTag_157 rfl ?_
        refine r_if_eq (tgt := 167) hE dX6_setsOfTag_159 (by decide) (fun _ => ?_) (fun c159 => by first | exact absurd c159 (by decide) | exact absurd (by decide) c159)
        refine r_iconst (v := 0) hE dX6_setsOfTag_167 (by decide) ?_
        refine r_ireturn hE dX6_setsOfTag_168 rfl rfl (Nat.zero_le _) (Nat.zero_le _) ?_
        have e9 : ∀ s, K_tag D 24 q s = (if y_bit ((D 152).1 1) q ∧ (D 155).1 q ≤ nI s then 65535 else 0) := fun s => by
          unfold K_tag
          rw [if_neg (show ¬ (24 : Int32) = 25 by decide), if_neg (show ¬ (24 : Int32) = 23 by decide), if_neg (show ¬ (24 : Int32) = 26 by decide), if_neg (show ¬ (24 : Int32) = 27 by decide)]
        first
        | exact absurd c104 c132
        | exact absurd c132 c104
        | (refine ⟨_, _, rfl, rfl, ?_, U0, hxU, Nat.le_refl _, (y_si_self hu).symm, fun d hd => ?_⟩
           · rw [e9]
             first
             | exact (if_neg (fun h => c104 h.1)).symm
             | exact (if_pos ⟨c104, by grind⟩).symm
           · rw [e9, e9]
             first
             | rw [if_neg (fun h => c104 h.1), if_neg (fun h => c104 h.1)]
             | (have hm : nI x ≤ nI (x + d) := nI_le (by omega) (by omega)
                rw [if_pos ⟨c104, by grind⟩, if_pos ⟨c104, by grind⟩]))
      · refine r_iload hE dX6_setsOfTag_135 rfl ?_
        refine r_if_ne (tgt := 157) hE dX6_setsOfTag_137 (by decide) (fun c137 => by first | exact absurd c137 (by decide) | exact absurd (by decide) c137) (fun _ => ?_)
        refine r_aload_n hE dX6_setsOfTag_140 rfl ?_
        refine r_aload_n hE dX6_setsOfTag_141 rfl ?_
        refine t_geti hE f_X6_65 y_I_152_8 dX6_setsOfTag_142 (hL 152 (by decide)) ?_
        refine r_top (y := (nI U0)) hu ?_
        refine r_aload_n hE dX6_setsOfTag_145 rfl ?_
        refine t_getr hE f_X6_18 y_R_152_5 dX6_setsOfTag_146 (hL 152 (by decide)) ?_
        refine r_iload_n hE dX6_setsOfTag_149 rfl ?_
        refine t_ialdN (e := q) hE y_A_155 dX6_setsOfTag_150 (hL 155 (by decide)) (by omega) (by decide) ?_
        refine r_mmin hE m_X6_77 dX6_setsOfTag_151 (by decide) (Nat.le_of_ble_eq_true rfl) ⟨Nat.le_refl _, Nat.le_refl _⟩ ?_
        refine t_puti hE f_X6_65 y_I_152_8 dX6_setsOfTag_154 (hL 152 (by decide)) rfl rfl ?_
        refine r_iload hE dX6_setsOfTag_157 rfl ?_
        refine r_if_eq (tgt := 167) hE dX6_setsOfTag_159 (by decide) (fun _ => ?_) (fun c159 => by first | exact absurd c159 (by decide) | exact absurd (by decide) c159)
        refine r_iconst (v := 0) hE dX6_setsOfTag_167 (by decide) ?_
        refine r_ireturn hE dX6_setsOfTag_168 rfl rfl (Nat.zero_le _) (Nat.zero_le _) ?_
        have e9 : ∀ s, K_tag D 24 q s = (if y_bit ((D 152).1 1) q ∧ (D 155).1 q ≤ nI s then 65535 else 0) := fun s => by
          unfold K_tag
          rw [if_neg (show ¬ (24 : Int32) = 25 by decide), if_neg (show ¬ (24 : Int32) = 23 by decide), if_neg (show ¬ (24 : Int32) = 26 by decide), if_neg (show ¬ (24 : Int32) = 27 by decide)]
        have c5 : ¬ (D 155).1 q ≤ nI x := by
          first
          | exact absurd c132 c104
          | grind
        obtain ⟨U2, u1, u2, u3, u4⟩ := y_mnT hxU hU0 c5
        rw [u1]
        refine ⟨_, _, rfl, rfl, ?_, U2, u2, u3, rfl, fun d hd => ?_⟩
        · rw [e9, if_neg (fun h => c5 h.2)]
        · rw [e9, e9, if_neg (fun h => u4 d hd h.2), if_neg (fun h => c5 h.2)]
    · refine r_aload_n hE dX6_setsOfTag_107 rfl ?_
      refine t_getr hE f_X6_18 y_R_152_5 dX6_setsOfTag_108 (hL 152 (by decide)) ?_
      refine r_iload_n hE dX6_setsOfTag_111 rfl ?_
      refine t_ialdN (e := q) hE y_A_155 dX6_setsOfTag_112 (hL 155 (by decide)) (by omega) (by decide) ?_
      refine r_iload_n hE dX6_setsOfTag_113 rfl ?_
      refine r_icmp_gt (tgt := 121) hE dX6_setsOfTag_114 (by decide) (fun c114 => ?_) (fun c114 => ?_)
      · refine r_iconst (v := 0) hE dX6_setsOfTag_121 (by decide) ?_
        refine r_istore (ls2 := [(0, .ref 152), (1, .int 24), (2, .int (nI q)), (3, .int (nI x)), (4, .int 0)]) hE dX6_setsOfTag_122 (by decide) rfl ?_
        refine r_aload_n hE dX6_setsOfTag_124 rfl ?_
        refine t_geti hE f_X6_31 y_I_152_1 dX6_setsOfTag_125 (hL 152 (by decide)) ?_
        refine r_iload_n hE dX6_setsOfTag_128 rfl ?_
        refine t_invsN (r := (some (.int (y_b (y_bit ((D 152).1 1) q))))) (S2 := (y_mk n L D)) hE [.int ((D 152).1 1), .int (nI q)] (k_hasBit) s_yX10_hasBit (hN_X6_107 hV) dX6_setsOfTag_129 rfl (by decide) ⟨Nat.le_refl _, Nat.le_refl _⟩ (Nat.le_of_ble_eq_true rfl) ?_
        show E 0 0 132 [(0, .ref 152), (1, .int 24), (2, .int (nI q)), (3, .int (nI x)), (4, .int 0)] [.int (y_b (y_bit ((D 152).1 1) q))] (y_mk n L D)
        refine r_ifb_eq (tgt := 157) hE dX6_setsOfTag_132 (by decide) (fun c132 => ?_) (fun c132 => ?_)
        · refine r_iload hE dX6_setsOfTag_157 rfl ?_
          refine r_if_eq (tgt := 167) hE dX6_setsOfTag_159 (by decide) (fun _ => ?_) (fun c159 => by first | exact absurd c159 (by decide) | exact absurd (by decide) c159)
          refine r_iconst (v := 0) hE dX6_setsOfTag_167 (by decide) ?_
          refine r_ireturn hE dX6_setsOfTag_168 rfl rfl (Nat.zero_le _) (Nat.zero_le _) ?_
          have e9 : ∀ s, K_tag D 24 q s = (if y_bit ((D 152).1 1) q ∧ (D 155).1 q ≤ nI s then 65535 else 0) := fun s => by
            unfold K_tag
            rw [if_neg (show ¬ (24 : Int32) = 25 by decide), if_neg (show ¬ (24 : Int32) = 23 by decide), if_neg (show ¬ (24 : Int32) = 26 by decide), if_neg (show ¬ (24 : Int32) = 27 by decide)]
          first
          | exact absurd c104 c132
          | exact absurd c132 c104
          | (refine ⟨_, _, rfl, rfl, ?_, U0, hxU, Nat.le_refl _, (y_si_self hu).symm, fun d hd => ?_⟩
             · rw [e9]
               first
               | exact (if_neg (fun h => c104 h.1)).symm
               | exact (if_pos ⟨c104, by grind⟩).symm
             · rw [e9, e9]
               first
               | rw [if_neg (fun h => c104 h.1), if_neg (fun h => c104 h.1)]
               | (have hm : nI x ≤ nI (x + d) := nI_le (by omega) (by omega)
                  rw [if_pos ⟨c104, by grind⟩, if_pos ⟨c104, by grind⟩]))
        · refine r_iload hE dX6_setsOfTag_135 rfl ?_
          refine r_if_ne (tgt := 157) hE dX6_setsOfTag_137 (by decide) (fun c137 => by first | exact absurd c137 (by decide) | exact absurd (by decide) c137) (fun _ => ?_)
          refine r_aload_n hE dX6_setsOfTag_140 rfl ?_
          refine r_aload_n hE dX6_setsOfTag_141 rfl ?_
          refine t_geti hE f_X6_65 y_I_152_8 dX6_setsOfTag_142 (hL 152 (by decide)) ?_
          refine r_top (y := (nI U0)) hu ?_
          refine r_aload_n hE dX6_setsOfTag_145 rfl ?_
          refine t_getr hE f_X6_18 y_R_152_5 dX6_setsOfTag_146 (hL 152 (by decide)) ?_
          refine r_iload_n hE dX6_setsOfTag_149 rfl ?_
          refine t_ialdN (e := q) hE y_A_155 dX6_setsOfTag_150 (hL 155 (by decide)) (by omega) (by decide) ?_
          refine r_mmin hE m_X6_77 dX6_setsOfTag_151 (by decide) (Nat.le_of_ble_eq_true rfl) ⟨Nat.le_refl _, Nat.le_refl _⟩ ?_
          refine t_puti hE f_X6_65 y_I_152_8 dX6_setsOfTag_154 (hL 152 (by decide)) rfl rfl ?_
          refine r_iload hE dX6_setsOfTag_157 rfl ?_
          refine r_if_eq (tgt := 167) hE dX6_setsOfTag_159 (by decide) (fun _ => ?_) (fun c159 => by first | exact absurd c159 (by decide) | exact absurd (by decide) c159)
          refine r_iconst (v := 0) hE dX6_setsOfTag_167 (by decide) ?_
          refine r_ireturn hE dX6_setsOfTag_168 rfl rfl (Nat.zero_le _) (Nat.zero_le _) ?_
          have e9 : ∀ s, K_tag D 24 q s = (if y_bit ((D 152).1 1) q ∧ (D 155).1 q ≤ nI s then 65535 else 0) := fun s => by
            unfold K_tag
            rw [if_neg (show ¬ (24 : Int32) = 25 by decide), if_neg (show ¬ (24 : Int32) = 23 by decide), if_neg (show ¬ (24 : Int32) = 26 by decide), if_neg (show ¬ (24 : Int32) = 27 by decide)]
          have c5 : ¬ (D 155).1 q ≤ nI x := by
            first
            | exact absurd c132 c104
            | grind
          obtain ⟨U2, u1, u2, u3, u4⟩ := y_mnT hxU hU0 c5
          rw [u1]
          refine ⟨_, _, rfl, rfl, ?_, U2, u2, u3, rfl, fun d hd => ?_⟩
          · rw [e9, if_neg (fun h => c5 h.2)]
          · rw [e9, e9, if_neg (fun h => u4 d hd h.2), if_neg (fun h => c5 h.2)]
      · refine r_iconst (v := 1) hE dX6_setsOfTag_117 (by decide) ?_
        refine r_goto (tgt := 122) hE dX6_setsOfTag_118 (by decide) ?_
        refine r_istore (ls2 := [(0, .ref 152), (1, .int 24), (2, .int (nI q)), (3, .int (nI x)), (4, .int 1)]) hE dX6_setsOfTag_122 (by decide) rfl ?_
        refine r_aload_n hE dX6_setsOfTag_124 rfl ?_
        refine t_geti hE f_X6_31 y_I_152_1 dX6_setsOfTag_125 (hL 152 (by decide)) ?_
        refine r_iload_n hE dX6_setsOfTag_128 rfl ?_
        refine t_invsN (r := (some (.int (y_b (y_bit ((D 152).1 1) q))))) (S2 := (y_mk n L D)) hE [.int ((D 152).1 1), .int (nI q)] (k_hasBit) s_yX10_hasBit (hN_X6_107 hV) dX6_setsOfTag_129 rfl (by decide) ⟨Nat.le_refl _, Nat.le_refl _⟩ (Nat.le_of_ble_eq_true rfl) ?_
        show E 0 0 132 [(0, .ref 152), (1, .int 24), (2, .int (nI q)), (3, .int (nI x)), (4, .int 1)] [.int (y_b (y_bit ((D 152).1 1) q))] (y_mk n L D)
        refine r_ifb_eq (tgt := 157) hE dX6_setsOfTag_132 (by decide) (fun c132 => ?_) (fun c132 => ?_)
        · refine r_iload hE dX6_setsOfTag_157 rfl ?_
          refine r_if_eq (tgt := 167) hE dX6_setsOfTag_159 (by decide) (fun c159 => by first | exact absurd c159 (by decide) | exact absurd (by decide) c159) (fun _ => ?_)
          refine r_ldc (v := 65535) hE dX6_setsOfTag_162 (x_gin (List.mem_append_right _ (tb_4 _ (List.mem_of_getElem? (i := 174) rfl))) rfl) ?_
          refine r_goto (tgt := 168) hE dX6_setsOfTag_164 (by decide) ?_
          refine r_ireturn hE dX6_setsOfTag_168 rfl rfl (Nat.zero_le _) (Nat.zero_le _) ?_
          have e9 : ∀ s, K_tag D 24 q s = (if y_bit ((D 152).1 1) q ∧ (D 155).1 q ≤ nI s then 65535 else 0) := fun s => by
            unfold K_tag
            rw [if_neg (show ¬ (24 : Int32) = 25 by decide), if_neg (show ¬ (24 : Int32) = 23 by decide), if_neg (show ¬ (24 : Int32) = 26 by decide), if_neg (show ¬ (24 : Int32) = 27 by decide)]
          first
          | exact absurd c104 c132
          | exact absurd c132 c104
          | (refine ⟨_, _, rfl, rfl, ?_, U0, hxU, Nat.le_refl _, (y_si_self hu).symm, fun d hd => ?_⟩
             · rw [e9]
               first
               | exact (if_neg (fun h => c104 h.1)).symm
               | exact (if_pos ⟨c104, by grind⟩).symm
             · rw [e9, e9]
               first
               | rw [if_neg (fun h => c104 h.1), if_neg (fun h => c104 h.1)]
               | (have hm : nI x ≤ nI (x + d) := nI_le (by omega) (by omega)
                  rw [if_pos ⟨c104, by grind⟩, if_pos ⟨c104, by grind⟩]))
        · refine r_iload hE dX6_setsOfTag_135 rfl ?_
          refine r_if_ne (tgt := 157) hE dX6_setsOfTag_137 (by decide) (fun _ => ?_) (fun c137 => by first | exact absurd c137 (by decide) | exact absurd (by decide) c137)
          refine r_iload hE dX6_setsOfTag_157 rfl ?_
          refine r_if_eq (tgt := 167) hE dX6_setsOfTag_159 (by decide) (fun c159 => by first | exact absurd c159 (by decide) | exact absurd (by decide) c159) (fun _ => ?_)
          refine r_ldc (v := 65535) hE dX6_setsOfTag_162 (x_gin (List.mem_append_right _ (tb_4 _ (List.mem_of_getElem? (i := 174) rfl))) rfl) ?_
          refine r_goto (tgt := 168) hE dX6_setsOfTag_164 (by decide) ?_
          refine r_ireturn hE dX6_setsOfTag_168 rfl rfl (Nat.zero_le _) (Nat.zero_le _) ?_
          have e9 : ∀ s, K_tag D 24 q s = (if y_bit ((D 152).1 1) q ∧ (D 155).1 q ≤ nI s then 65535 else 0) := fun s => by
            unfold K_tag
            rw [if_neg (show ¬ (24 : Int32) = 25 by decide), if_neg (show ¬ (24 : Int32) = 23 by decide), if_neg (show ¬ (24 : Int32) = 26 by decide), if_neg (show ¬ (24 : Int32) = 27 by decide)]
          first
          | exact absurd c104 c132
          | exact absurd c132 c104
          | (refine ⟨_, _, rfl, rfl, ?_, U0, hxU, Nat.le_refl _, (y_si_self hu).symm, fun d hd => ?_⟩
             · rw [e9]
               first
               | exact (if_neg (fun h => c104 h.1)).symm
               | exact (if_pos ⟨c104, by grind⟩).symm
             · rw [e9, e9]
               first
               | rw [if_neg (fun h => c104 h.1), if_neg (fun h => c104 h.1)]
               | (have hm : nI x ≤ nI (x + d) := nI_le (by omega) (by omega)
                  rw [if_pos ⟨c104, by grind⟩, if_pos ⟨c104, by grind⟩]))
  · refine r_tsin (tgt := 36) hE dX6_setsOfTag_1 (by decide) (by decide) rfl (by decide) ?_
    refine r_getsN (v := .ref 61) hE (y_Z61 hV) (hNf_X6_100 hV) dX6_setsOfTag_36 ?_
    refine r_iload_n hE dX6_setsOfTag_39 rfl ?_
    refine t_swl (e := q) hE hV dX6_setsOfTag_40 (by omega) ?_
    refine r_ireturn hE dX6_setsOfTag_41 rfl rfl (Nat.zero_le _) (Nat.zero_le _) ?_
    have e9 : ∀ s, K_tag D 25 q s = y_swl q := fun s => by
      unfold K_tag
      rw [if_pos rfl]
    refine ⟨_, _, rfl, rfl, ?_, U0, hxU, Nat.le_refl _, (y_si_self hu).symm, fun d hd => ?_⟩
    · rw [e9]
    · rw [e9, e9]
  · refine r_tsin (tgt := 70) hE dX6_setsOfTag_1 (by decide) (by decide) rfl (by decide) ?_
    refine r_aload_n hE dX6_setsOfTag_70 rfl ?_
    refine t_geti hE f_X6_31 y_I_152_1 dX6_setsOfTag_71 (hL 152 (by decide)) ?_
    refine r_iload_n hE dX6_setsOfTag_74 rfl ?_
    refine t_invsN (r := (some (.int (y_b (y_bit ((D 152).1 1) q))))) (S2 := (y_mk n L D)) hE [.int ((D 152).1 1), .int (nI q)] (k_hasBit) s_yX10_hasBit (hN_X6_107 hV) dX6_setsOfTag_75 rfl (by decide) ⟨Nat.le_refl _, Nat.le_refl _⟩ (Nat.le_of_ble_eq_true rfl) ?_
    show E 0 0 78 [(0, .ref 152), (1, .int 26), (2, .int (nI q)), (3, .int (nI x))] [.int (y_b (y_bit ((D 152).1 1) q))] (y_mk n L D)
    refine r_istore (ls2 := [(0, .ref 152), (1, .int 26), (2, .int (nI q)), (3, .int (nI x)), (4, .int (y_b (y_bit ((D 152).1 1) q)))]) hE dX6_setsOfTag_78 (by decide) rfl ?_
    refine r_goto (tgt := 157) hE dX6_setsOfTag_80 (by decide) ?_
    refine r_iload hE dX6_setsOfTag_157 rfl ?_
    refine r_ifb_eq (tgt := 167) hE dX6_setsOfTag_159 (by decide) (fun c159 => ?_) (fun c159 => ?_)
    · refine r_iconst (v := 0) hE dX6_setsOfTag_167 (by decide) ?_
      refine r_ireturn hE dX6_setsOfTag_168 rfl rfl (Nat.zero_le _) (Nat.zero_le _) ?_
      have e9 : ∀ s, K_tag D 26 q s = (if y_bit ((D 152).1 1) q then 65535 else 0) := fun s => by
        unfold K_tag
        rw [if_neg (show ¬ (26 : Int32) = 25 by decide), if_neg (show ¬ (26 : Int32) = 23 by decide), if_pos rfl]
      refine ⟨_, _, rfl, rfl, ?_, U0, hxU, Nat.le_refl _, (y_si_self hu).symm, fun d hd => ?_⟩
      · rw [e9]
        first
        | exact (if_pos c159).symm
        | exact (if_neg c159).symm
      · rw [e9, e9]
    · refine r_ldc (v := 65535) hE dX6_setsOfTag_162 (x_gin (List.mem_append_right _ (tb_4 _ (List.mem_of_getElem? (i := 174) rfl))) rfl) ?_
      refine r_goto (tgt := 168) hE dX6_setsOfTag_164 (by decide) ?_
      refine r_ireturn hE dX6_setsOfTag_168 rfl rfl (Nat.zero_le _) (Nat.zero_le _) ?_
      have e9 : ∀ s, K_tag D 26 q s = (if y_bit ((D 152).1 1) q then 65535 else 0) := fun s => by
        unfold K_tag
        rw [if_neg (show ¬ (26 : Int32) = 25 by decide), if_neg (show ¬ (26 : Int32) = 23 by decide), if_pos rfl]
      refine ⟨_, _, rfl, rfl, ?_, U0, hxU, Nat.le_refl _, (y_si_self hu).symm, fun d hd => ?_⟩
      · rw [e9]
        first
        | exact (if_pos c159).symm
        | exact (if_neg c159).symm
      · rw [e9, e9]
  · refine r_tsin (tgt := 83) hE dX6_setsOfTag_1 (by decide) (by decide) rfl (by decide) ?_
    refine r_aload_n hE dX6_setsOfTag_83 rfl ?_
    refine t_geti hE f_X6_34 y_I_152_2 dX6_setsOfTag_84 (hL 152 (by decide)) ?_
    refine r_iload_n hE dX6_setsOfTag_87 rfl ?_
    refine t_invsN (r := (some (.int (y_b (y_bit ((D 152).1 2) q))))) (S2 := (y_mk n L D)) hE [.int ((D 152).1 2), .int (nI q)] (k_hasBit) s_yX10_hasBit (hN_X6_107 hV) dX6_setsOfTag_88 rfl (by decide) ⟨Nat.le_refl _, Nat.le_refl _⟩ (Nat.le_of_ble_eq_true rfl) ?_
    show E 0 0 91 [(0, .ref 152), (1, .int 27), (2, .int (nI q)), (3, .int (nI x))] [.int (y_b (y_bit ((D 152).1 2) q))] (y_mk n L D)
    refine r_istore (ls2 := [(0, .ref 152), (1, .int 27), (2, .int (nI q)), (3, .int (nI x)), (4, .int (y_b (y_bit ((D 152).1 2) q)))]) hE dX6_setsOfTag_91 (by decide) rfl ?_
    refine r_goto (tgt := 157) hE dX6_setsOfTag_93 (by decide) ?_
    refine r_iload hE dX6_setsOfTag_157 rfl ?_
    refine r_ifb_eq (tgt := 167) hE dX6_setsOfTag_159 (by decide) (fun c159 => ?_) (fun c159 => ?_)
    · refine r_iconst (v := 0) hE dX6_setsOfTag_167 (by decide) ?_
      refine r_ireturn hE dX6_setsOfTag_168 rfl rfl (Nat.zero_le _) (Nat.zero_le _) ?_
      have e9 : ∀ s, K_tag D 27 q s = (if y_bit ((D 152).1 2) q then 65535 else 0) := fun s => by
        unfold K_tag
        rw [if_neg (show ¬ (27 : Int32) = 25 by decide), if_neg (show ¬ (27 : Int32) = 23 by decide), if_neg (show ¬ (27 : Int32) = 26 by decide), if_pos rfl]
      refine ⟨_, _, rfl, rfl, ?_, U0, hxU, Nat.le_refl _, (y_si_self hu).symm, fun d hd => ?_⟩
      · rw [e9]
        first
        | exact (if_pos c159).symm
        | exact (if_neg c159).symm
      · rw [e9, e9]
    · refine r_ldc (v := 65535) hE dX6_setsOfTag_162 (x_gin (List.mem_append_right _ (tb_4 _ (List.mem_of_getElem? (i := 174) rfl))) rfl) ?_
      refine r_goto (tgt := 168) hE dX6_setsOfTag_164 (by decide) ?_
      refine r_ireturn hE dX6_setsOfTag_168 rfl rfl (Nat.zero_le _) (Nat.zero_le _) ?_
      have e9 : ∀ s, K_tag D 27 q s = (if y_bit ((D 152).1 2) q then 65535 else 0) := fun s => by
        unfold K_tag
        rw [if_neg (show ¬ (27 : Int32) = 25 by decide), if_neg (show ¬ (27 : Int32) = 23 by decide), if_neg (show ¬ (27 : Int32) = 26 by decide), if_pos rfl]
      refine ⟨_, _, rfl, rfl, ?_, U0, hxU, Nat.le_refl _, (y_si_self hu).symm, fun d hd => ?_⟩
      · rw [e9]
        first
        | exact (if_pos c159).symm
        | exact (if_neg c159).symm
      · rw [e9, e9]
def y_cm1 (t s l : Int32) (i : Nat) (z : Int32) : Int32 := z ||| (if (t = 8 ∧ 0 < s + l * nI i) ∨ (t ≠ 8 ∧ s + l * nI i < 0) then y_sos i else 0)
def y_cm (t s l : Int32) : Nat → Int32
  | 0 => 0
  | i + 1 => y_cm1 t s l i (y_cm t s l i)
/-- a comparison is a sum above 0 -/
theorem y_cm_8 {t s l : Int32} (ht : t = 8) : ∀ {i : Nat}, y_cm t s l i = y_ab (1 * s) (1 * l) i
  | 0 => rfl
  | i + 1 => by
    show y_cm1 t s l i (y_cm t s l i) = y_ab1 (1 * s) (1 * l) i (y_ab (1 * s) (1 * l) i)
    rw [y_cm_8 ht]
    unfold y_cm1 y_ab1
    rw [Int32.one_mul, Int32.one_mul]
    by_cases c : 0 < s + l * nI i
    · rw [if_pos c, if_pos (Or.inl ⟨ht, c⟩)]
    · rw [if_neg c, if_neg (fun q => q.elim (fun z => c z.2) (fun z => z.1 ht))]
theorem y_cm_9 {t s l : Int32} (ht : t ≠ 8) (hs : y_bd s 2000000) (hl : y_bd l 1000) : ∀ {i : Nat}, i ≤ 5 → y_cm t s l i = y_ab ((-1) * s) ((-1) * l) i
  | 0, _ => rfl
  | i + 1, hi => by
    show y_cm1 t s l i (y_cm t s l i) = y_ab1 ((-1) * s) ((-1) * l) i (y_ab ((-1) * s) ((-1) * l) i)
    rw [y_cm_9 ht hs hl (by omega)]
    unfold y_cm1 y_ab1
    obtain ⟨e2, b2⟩ := y_bd_mul (i := i) hl (by omega) (by omega)
    obtain ⟨e5, b5⟩ := y_bd_add hs (y_bd_up (B := 5000) b2 (by omega)) (by decide)
    obtain ⟨e6, b6⟩ := y_bd_neg b5 (by decide)
    have e7 : (-1) * s + (-1) * l * nI i = -(s + l * nI i) := by grind
    rw [e7]
    have e8 : 0 < -(s + l * nI i) ↔ s + l * nI i < 0 := by
      rw [y_pos, e6, Int32.lt_iff_toInt_lt, Int32.toInt_zero]
      omega
    by_cases c : s + l * nI i < 0
    · rw [if_pos (e8.mpr c), if_pos (Or.inr ⟨ht, c⟩)]
    · rw [if_neg (fun q => c (e8.mp q)), if_neg (fun q => q.elim (fun z => ht z.1) (fun z => c z.2))]

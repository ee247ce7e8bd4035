theorem k_addRule {V : x_E} {n : Nat} {L : List Nat} {D : y_D} {k r : Nat} (hL : y_ok L) (hs : (D 73).1 2 = nI k) (hk : k < 4) (hm_r : r ∈ L) (hd_r : y_dh r) (hk_r : (D r).2.2.2.1 = 1) : x_Fn V yX0_addRule cX0_addRule 2 (some .int) 0 [.ref 73, .ref r] (y_mk n L D) (some (.int (nI k))) (y_mk n L (y_si (y_sq D 76 k r) 73 2 (nI (k + 1)))) := by
  refine x_fn (by decide) (Nat.le_of_ble_eq_true rfl) (fun E hE => ?_)
  change E 0 0 0 [(0, .ref 73), (1, .ref r)] [] (y_mk n L D)
  refine r_aload_n hE dX0_addRule_0 rfl ?_
  refine t_getr hE f_X0_22 y_R_73_1 dX0_addRule_1 (hL 73 (by decide)) ?_
  refine r_aload_n hE dX0_addRule_4 rfl ?_
  refine t_geti hE f_X0_59 y_I_73_2 dX0_addRule_5 (hL 73 (by decide)) ?_
  refine r_top (y := (nI k)) hs ?_
  refine r_aload_n hE dX0_addRule_8 rfl ?_
  refine t_aastN (e := k) (v := r) hE y_Q_76 (by decide) dX0_addRule_9 (hL 76 (by decide)) hm_r (y_rule_lay hd_r hk_r) (by omega) (by decide) ?_
  refine r_aload_n hE dX0_addRule_10 rfl ?_
  refine r_dup hE dX0_addRule_11 rfl ?_
  refine t_geti hE f_X0_59 y_I_73_2 dX0_addRule_12 (hL 73 (by decide)) ?_
  refine r_top (y := (nI k)) hs ?_
  refine r_iconst (v := 1) hE dX0_addRule_15 (by decide) ?_
  refine r_iaddN (a := k) (b := 1) hE dX0_addRule_16 ?_
  refine t_puti hE f_X0_59 y_I_73_2 dX0_addRule_17 (hL 73 (by decide)) rfl rfl ?_
  refine r_aload_n hE dX0_addRule_20 rfl ?_
  refine t_geti hE f_X0_59 y_I_73_2 dX0_addRule_21 (hL 73 (by decide)) ?_
  refine r_top (y := (nI (k + 1))) rfl ?_
  refine r_iconst (v := 1) hE dX0_addRule_24 (by decide) ?_
  refine r_isubN (a := k + 1) (b := 1) hE dX0_addRule_25 (by omega) ?_
  refine r_ireturn hE dX0_addRule_26 rfl rfl (Nat.zero_le _) (Nat.zero_le _) ?_
  exact ⟨rfl, rfl⟩
theorem k_addWay {V : x_E} {n : Nat} {L : List Nat} {D : y_D} {k r : Nat} (hL : y_ok L) (hs : (D 73).1 4 = nI k) (hk : k < 6) (hm_r : r ∈ L) (hd_r : y_dh r) (hk_r : (D r).2.2.2.1 = 2) : x_Fn V yX0_addWay cX0_addWay 2 (some .int) 0 [.ref 73, .ref r] (y_mk n L D) (some (.int (nI k))) (y_mk n L (y_si (y_sq D 77 k r) 73 4 (nI (k + 1)))) := by
  refine x_fn (by decide) (Nat.le_of_ble_eq_true rfl) (fun E hE => ?_)
  change E 0 0 0 [(0, .ref 73), (1, .ref r)] [] (y_mk n L D)
  refine r_aload_n hE dX0_addWay_0 rfl ?_
  refine t_getr hE f_X0_28 y_R_73_3 dX0_addWay_1 (hL 73 (by decide)) ?_
  refine r_aload_n hE dX0_addWay_4 rfl ?_
  refine t_geti hE f_X0_63 y_I_73_4 dX0_addWay_5 (hL 73 (by decide)) ?_
  refine r_top (y := (nI k)) hs ?_
  refine r_aload_n hE dX0_addWay_8 rfl ?_
  refine t_aastN (e := k) (v := r) hE y_Q_77 (by decide) dX0_addWay_9 (hL 77 (by decide)) hm_r (y_way_lay hd_r hk_r) (by omega) (by decide) ?_
  refine r_aload_n hE dX0_addWay_10 rfl ?_
  refine r_dup hE dX0_addWay_11 rfl ?_
  refine t_geti hE f_X0_63 y_I_73_4 dX0_addWay_12 (hL 73 (by decide)) ?_
  refine r_top (y := (nI k)) hs ?_
  refine r_iconst (v := 1) hE dX0_addWay_15 (by decide) ?_
  refine r_iaddN (a := k) (b := 1) hE dX0_addWay_16 ?_
  refine t_puti hE f_X0_63 y_I_73_4 dX0_addWay_17 (hL 73 (by decide)) rfl rfl ?_
  refine r_aload_n hE dX0_addWay_20 rfl ?_
  refine t_geti hE f_X0_63 y_I_73_4 dX0_addWay_21 (hL 73 (by decide)) ?_
  refine r_top (y := (nI (k + 1))) rfl ?_
  refine r_iconst (v := 1) hE dX0_addWay_24 (by decide) ?_
  refine r_isubN (a := k + 1) (b := 1) hE dX0_addWay_25 (by omega) ?_
  refine r_ireturn hE dX0_addWay_26 rfl rfl (Nat.zero_le _) (Nat.zero_le _) ?_
  exact ⟨rfl, rfl⟩
theorem k_allWays {V : x_E} {n : Nat} {L : List Nat} {D : y_D} (hV : y_V V) {k : Nat} (hL : y_ok L) (hs : (D 73).1 4 = nI k) (hk : k ≤ 6) : x_Fn V yX0_allWays cX0_allWays 1 (some .int) 1 [.ref 73] (y_mk n L D) (some (.int (nI (2 ^ k) - 1))) (y_mk n L D) := by
  refine x_fn (by decide) (Nat.le_of_ble_eq_true rfl) (fun E hE => ?_)
  change E 0 0 0 [(0, .ref 73)] [] (y_mk n L D)
  refine r_aload_n hE dX0_allWays_0 rfl ?_
  refine t_geti hE f_X0_63 y_I_73_4 dX0_allWays_1 (hL 73 (by decide)) ?_
  refine r_top (y := (nI k)) hs ?_
  refine t_invsN (r := (some (.int (nI (2 ^ k) - 1)))) (S2 := (y_mk n L D)) hE [.int (nI k)] (k_firstBits (by omega)) s_yX10_firstBits (hN_X0_66 hV) dX0_allWays_4 rfl (by decide) ⟨Nat.le_refl _, Nat.le_refl _⟩ (Nat.le_of_ble_eq_true rfl) ?_
  show E 0 0 7 [(0, .ref 73)] [.int (nI (2 ^ k) - 1)] (y_mk n L D)
  refine r_ireturn hE dX0_allWays_7 rfl rfl (Nat.zero_le _) (Nat.zero_le _) ?_
  exact ⟨rfl, rfl⟩
/-- the number k of the WAY j -/
def y_w (D : y_D) (j k : Nat) : Int32 := match (D 77).2.2.1 j with | some r => (D r).1 k | none => 0
theorem y_w_ok {D : y_D} {j k r : Nat} (h : (D 77).2.2.1 j = some r) : (D r).1 k = y_w D j k := by
  unfold y_w
  rw [h]
def y_gr1 (D : y_D) (u : Int32) (i : Nat) (t : Int32) : Int32 := if y_bit u i then (if t < y_w D i 2 then y_w D i 2 else t) else t
def y_gr (D : y_D) (u : Int32) : Nat → Int32
  | 0 => 0
  | i + 1 => y_gr1 D u i (y_gr D u i)
theorem k_greatestReach {V : x_E} {n : Nat} {L : List Nat} {D : y_D} (hV : y_V V) {u : Int32} {k : Nat} (hL : y_ok L) (hs : (D 73).1 4 = nI k) (hk : k ≤ 6) (hR2 : y_rq D L 77 6 2) : x_Fn V yX0_greatestReach cX0_greatestReach 4 (some .int) 1 [.ref 73, .int u] (y_mk n L D) (some (.int (y_gr D u k))) (y_mk n L D) := by
  refine x_fn (by decide) (Nat.le_of_ble_eq_true rfl) (fun E hE => ?_)
  change E 0 0 0 [(0, .ref 73), (1, .int u)] [] (y_mk n L D)
  have lp : ∀ (i : Nat), i ≤ k → E 0 0 4 [(0, .ref 73), (1, .int u), (2, .int (y_gr D u i)), (3, .int (nI i))] [] (y_mk n L D) := by
    intro i
    induction hm9 : (k - i) using Nat.strongRecOn generalizing i with
    | _ m9 ih =>
      intro hi
      refine r_iload_n hE dX0_greatestReach_4 rfl ?_
      refine r_aload_n hE dX0_greatestReach_5 rfl ?_
      refine t_geti hE f_X0_63 y_I_73_4 dX0_greatestReach_6 (hL 73 (by decide)) ?_
      refine r_top (y := (nI k)) hs ?_
      refine r_icmp_geN (a := i) (b := k) (tgt := 40) hE dX0_greatestReach_9 (by decide) (by omega) (by omega) (fun c9 => ?_) (fun c9 => ?_)
      · refine r_iload_n hE dX0_greatestReach_40 rfl ?_
        refine r_ireturn hE dX0_greatestReach_41 rfl rfl (Nat.zero_le _) (Nat.zero_le _) ?_
        have hi2 : i = k := by omega
        subst hi2
        exact ⟨rfl, rfl⟩
      · refine r_iload_n hE dX0_greatestReach_12 rfl ?_
        refine r_iload_n hE dX0_greatestReach_13 rfl ?_
        refine t_invsN (r := (some (.int (y_b (y_bit u i))))) (S2 := (y_mk n L D)) hE [.int u, .int (nI i)] (k_hasBit) s_yX10_hasBit (hN_X0_82 hV) dX0_greatestReach_14 rfl (by decide) ⟨Nat.le_refl _, Nat.le_refl _⟩ (Nat.le_of_ble_eq_true rfl) ?_
        show E 0 0 17 [(0, .ref 73), (1, .int u), (2, .int (y_gr D u i)), (3, .int (nI i))] [.int (y_b (y_bit u i))] (y_mk n L D)
        refine r_ifb_eq (tgt := 34) hE dX0_greatestReach_17 (by decide) (fun c17 => ?_) (fun c17 => ?_)
        · refine r_iincN (a := i) (b := 1) (ls2 := [(0, .ref 73), (1, .int u), (2, .int (y_gr D u i)), (3, .int (nI (i + 1)))]) hE dX0_greatestReach_34 rfl rfl (by decide) rfl ?_
          refine r_goto (tgt := 4) hE dX0_greatestReach_37 (by decide) ?_
          have e9 : y_gr D u (i + 1) = y_gr D u i := by
            show y_gr1 D u i (y_gr D u i) = _
            unfold y_gr1
            first | exact if_pos c17 | exact if_neg c17
          refine r_locs hE (ls2 := [(0, .ref 73), (1, .int u), (2, .int (y_gr D u (i + 1))), (3, .int (nI (i + 1)))]) ?_ (ih (k - (i + 1)) (by omega) (i + 1) rfl (by omega))
          rw [e9]
          simp [x_lk]
        · refine r_iload_n hE dX0_greatestReach_20 rfl ?_
          refine r_aload_n hE dX0_greatestReach_21 rfl ?_
          refine t_getr hE f_X0_28 y_R_73_3 dX0_greatestReach_22 (hL 73 (by decide)) ?_
          refine r_iload_n hE dX0_greatestReach_25 rfl ?_
          obtain ⟨r, hr, hm_r, hd_r, hk_r⟩ := hR2 i (by omega)
          refine t_aaldN (e := i) (h2 := r) hE y_Q_77 (by decide) dX0_greatestReach_26 (hL 77 (by decide)) (by omega) (by decide) hr ?_
          refine r_getf hE f_X0_86 dX0_greatestReach_27 hm_r (y_way_lay hd_r (show ((D) r).2.2.2.1 = _ from hk_r)) rfl ?_
          refine r_top (y := (y_w D i 2)) (y_w_ok hr) ?_
          refine r_mmax hE m_X0_89 dX0_greatestReach_30 (by decide) (Nat.le_of_ble_eq_true rfl) ⟨Nat.le_refl _, Nat.le_refl _⟩ ?_
          refine r_istore_n (ls2 := [(0, .ref 73), (1, .int u), (2, .int (if (y_gr D u i) < (y_w D i 2) then (y_w D i 2) else (y_gr D u i))), (3, .int (nI i))]) hE dX0_greatestReach_33 (by decide) rfl ?_
          refine r_iincN (a := i) (b := 1) (ls2 := [(0, .ref 73), (1, .int u), (2, .int (if (y_gr D u i) < (y_w D i 2) then (y_w D i 2) else (y_gr D u i))), (3, .int (nI (i + 1)))]) hE dX0_greatestReach_34 rfl rfl (by decide) rfl ?_
          refine r_goto (tgt := 4) hE dX0_greatestReach_37 (by decide) ?_
          have e9 : y_gr D u (i + 1) = (if (y_gr D u i) < (y_w D i 2) then (y_w D i 2) else (y_gr D u i)) := by
            show y_gr1 D u i (y_gr D u i) = _
            unfold y_gr1
            first | exact if_pos c17 | exact if_neg c17
          refine r_locs hE (ls2 := [(0, .ref 73), (1, .int u), (2, .int (y_gr D u (i + 1))), (3, .int (nI (i + 1)))]) ?_ (ih (k - (i + 1)) (by omega) (i + 1) rfl (by omega))
          rw [e9]
          simp [x_lk]
  refine r_iconst (v := 0) hE dX0_greatestReach_0 (by decide) ?_
  refine r_istore_n (ls2 := [(0, .ref 73), (1, .int u), (2, .int 0)]) hE dX0_greatestReach_1 (by decide) rfl ?_
  refine r_iconst (v := 0) hE dX0_greatestReach_2 (by decide) ?_
  refine r_istore_n (ls2 := [(0, .ref 73), (1, .int u), (2, .int 0), (3, .int 0)]) hE dX0_greatestReach_3 (by decide) rfl ?_
  exact lp 0 (by omega)
def y_ls (D : y_D) : Nat → Int32
  | 0 => 0
  | i + 1 => y_ls D i + (D 153).1 i
theorem k_litSeconds {V : x_E} {n : Nat} {L : List Nat} {D : y_D} {k : Nat} (hL : y_ok L) (hs : (D 152).1 0 = nI k) (hk : k ≤ 301) : x_Fn V yX6_litSeconds cX6_litSeconds 3 (some .int) 0 [.ref 152] (y_mk n L D) (some (.int (y_ls D k))) (y_mk n L D) := by
  refine x_fn (by decide) (Nat.le_of_ble_eq_true rfl) (fun E hE => ?_)
  change E 0 0 0 [(0, .ref 152)] [] (y_mk n L D)
  have lp : ∀ (i : Nat), i ≤ k → E 0 0 4 [(0, .ref 152), (1, .int (y_ls D i)), (2, .int (nI i))] [] (y_mk n L D) := by
    intro i
    induction hm9 : (k - i) using Nat.strongRecOn generalizing i with
    | _ m9 ih =>
      intro hi
      refine r_iload_n hE dX6_litSeconds_4 rfl ?_
      refine r_aload_n hE dX6_litSeconds_5 rfl ?_
      refine t_geti hE f_X6_27 y_I_152_0 dX6_litSeconds_6 (hL 152 (by decide)) ?_
      refine r_top (y := (nI k)) hs ?_
      refine r_icmp_geN (a := i) (b := k) (tgt := 27) hE dX6_litSeconds_9 (by decide) (by omega) (by omega) (fun c9 => ?_) (fun c9 => ?_)
      · refine r_iload_n hE dX6_litSeconds_27 rfl ?_
        refine r_ireturn hE dX6_litSeconds_28 rfl rfl (Nat.zero_le _) (Nat.zero_le _) ?_
        have hi2 : i = k := by omega
        subst hi2
        exact ⟨rfl, rfl⟩
      · refine r_iload_n hE dX6_litSeconds_12 rfl ?_
        refine r_aload_n hE dX6_litSeconds_13 rfl ?_
        refine t_getr hE f_X6_9 y_R_152_3 dX6_litSeconds_14 (hL 152 (by decide)) ?_
        refine r_iload_n hE dX6_litSeconds_17 rfl ?_
        refine t_ialdN (e := i) hE y_A_153 dX6_litSeconds_18 (hL 153 (by decide)) (by omega) (by decide) ?_
        refine r_iadd hE dX6_litSeconds_19 ?_
        refine r_istore_n (ls2 := [(0, .ref 152), (1, .int ((y_ls D i) + ((D 153).1 i))), (2, .int (nI i))]) hE dX6_litSeconds_20 (by decide) rfl ?_
        refine r_iincN (a := i) (b := 1) (ls2 := [(0, .ref 152), (1, .int ((y_ls D i) + ((D 153).1 i))), (2, .int (nI (i + 1)))]) hE dX6_litSeconds_21 rfl rfl (by decide) rfl ?_
        refine r_goto (tgt := 4) hE dX6_litSeconds_24 (by decide) ?_
        exact ih (k - (i + 1)) (by omega) (i + 1) rfl (by omega)
  refine r_iconst (v := 0) hE dX6_litSeconds_0 (by decide) ?_
  refine r_istore_n (ls2 := [(0, .ref 152), (1, .int 0)]) hE dX6_litSeconds_1 (by decide) rfl ?_
  refine r_iconst (v := 0) hE dX6_litSeconds_2 (by decide) ?_
  refine r_istore_n (ls2 := [(0, .ref 152), (1, .int 0), (2, .int 0)]) hE dX6_litSeconds_3 (by decide) rfl ?_
  exact lp 0 (by omega)
theorem k_isTag {V : x_E} {n : Nat} {L : List Nat} {D : y_D} {p : Int32} : x_Fn V yX6_isTag cX6_isTag 1 (some .boolean) 0 [.int p] (y_mk n L D) (some (.int (y_b (23 ≤ p ∧ p ≤ 28)))) (y_mk n L D) := by
  refine x_fn (by decide) (Nat.le_of_ble_eq_true rfl) (fun E hE => ?_)
  change E 0 0 0 [(0, .int p)] [] (y_mk n L D)
  refine r_iload_n hE dX6_isTag_0 rfl ?_
  refine r_bipush (v := 23) hE dX6_isTag_1 (by decide) ?_
  refine r_icmp_lt (tgt := 16) hE dX6_isTag_3 (by decide) (fun c3 => ?_) (fun c3 => ?_)
  · refine r_iconst (v := 0) hE dX6_isTag_16 (by decide) ?_
    refine r_ireturn hE dX6_isTag_17 rfl (by decide) (Nat.zero_le _) (Nat.zero_le _) ?_
    exact ⟨by grind [y_b], rfl⟩
  · refine r_iload_n hE dX6_isTag_6 rfl ?_
    refine r_bipush (v := 28) hE dX6_isTag_7 (by decide) ?_
    refine r_icmp_gt (tgt := 16) hE dX6_isTag_9 (by decide) (fun c9 => ?_) (fun c9 => ?_)
    · refine r_iconst (v := 0) hE dX6_isTag_16 (by decide) ?_
      refine r_ireturn hE dX6_isTag_17 rfl (by decide) (Nat.zero_le _) (Nat.zero_le _) ?_
      exact ⟨by grind [y_b], rfl⟩
    · refine r_iconst (v := 1) hE dX6_isTag_12 (by decide) ?_
      refine r_goto (tgt := 17) hE dX6_isTag_13 (by decide) ?_
      refine r_ireturn hE dX6_isTag_17 rfl (by decide) (Nat.zero_le _) (Nat.zero_le _) ?_
      exact ⟨by grind [y_b], rfl⟩
theorem y_sw_29_32 (p : Int32) : (p.toInt < 29 ∨ 32 < p.toInt) ∨ p = 29 ∨ p = 30 ∨ p = 31 ∨ p = 32 := by
  by_cases h : p.toInt < 29 ∨ 32 < p.toInt
  · exact Or.inl h
  · right
    have h0 : 29 ≤ p := by
      rw [Int32.le_iff_toInt_le, show (29 : Int32).toInt = 29 from rfl]
      omega
    have h9 : p ≤ 32 := by
      rw [Int32.le_iff_toInt_le, show (32 : Int32).toInt = 32 from rfl]
      omega
    grind
theorem y_sw_23_27 (p : Int32) : (p.toInt < 23 ∨ 27 < p.toInt) ∨ p = 23 ∨ p = 24 ∨ p = 25 ∨ p = 26 ∨ p = 27 := by
  by_cases h : p.toInt < 23 ∨ 27 < p.toInt
  · exact Or.inl h
  · right
    have h0 : 23 ≤ p := by
      rw [Int32.le_iff_toInt_le, show (23 : Int32).toInt = 23 from rfl]
      omega
    have h9 : p ≤ 27 := by
      rw [Int32.le_iff_toInt_le, show (27 : Int32).toInt = 27 from rfl]
      omega
    grind
theorem y_sw_10_13 (p : Int32) : (p.toInt < 10 ∨ 13 < p.toInt) ∨ p = 10 ∨ p = 11 ∨ p = 12 ∨ p = 13 := by
  by_cases h : p.toInt < 10 ∨ 13 < p.toInt
  · exact Or.inl h
  · right
    have h0 : 10 ≤ p := by
      rw [Int32.le_iff_toInt_le, show (10 : Int32).toInt = 10 from rfl]
      omega
    have h9 : p ≤ 13 := by
      rw [Int32.le_iff_toInt_le, show (13 : Int32).toInt = 13 from rfl]
      omega
    grind
def K_partOf (D : y_D) (p : Int32) (q : Nat) (x : Int32) : Int32 := if p = 29 then x else if p = 31 then (D 154).1 q else if p = 32 then (D 156).1 q else nI q
def K_tag (D : y_D) (p : Int32) (q x : Nat) : Int32 := if p = 25 then y_swl q else if p = 23 then (if (D 153).1 x = 0 then 65535 else 0) else if p = 26 then (if y_bit ((D 152).1 1) q then 65535 else 0) else if p = 27 then (if y_bit ((D 152).1 2) q then 65535 else 0) else (if y_bit ((D 152).1 1) q ∧ (D 155).1 q ≤ nI x then 65535 else 0)
theorem k_partOf {V : x_E} {n : Nat} {L : List Nat} {D : y_D} {p : Int32} {q : Nat} {x : Int32} (hL : y_ok L) (hq : p = 31 ∨ p = 32 → q < 4) : x_Fn V yX6_partOf cX6_partOf 4 (some .int) 0 [.ref 152, .int p, .int (nI q), .int x] (y_mk n L D) (some (.int (K_partOf D p q x))) (y_mk n L D) := by
  refine x_fn (by decide) (Nat.le_of_ble_eq_true rfl) (fun E hE => ?_)
  change E 0 0 0 [(0, .ref 152), (1, .int p), (2, .int (nI q)), (3, .int x)] [] (y_mk n L D)
  refine r_iload_n hE dX6_partOf_0 rfl ?_
  rcases y_sw_29_32 p with h9 | rfl | rfl | rfl | rfl
  · refine r_tsout (tgt := 48) hE dX6_partOf_1 h9 (by decide) ?_
    refine r_iload_n hE dX6_partOf_48 rfl ?_
    refine r_ireturn hE dX6_partOf_49 rfl rfl (Nat.zero_le _) (Nat.zero_le _) ?_
    refine ⟨congrArg (fun z => some (Value.int z)) ?_, rfl⟩
    have hn : ∀ c : Int32, 29 ≤ c.toInt ∧ c.toInt ≤ 32 → p ≠ c := fun c hc he => by rw [he] at h9; omega
    unfold K_partOf
    rw [if_neg (hn 29 (by decide)), if_neg (hn 31 (by decide)), if_neg (hn 32 (by decide))]
    all_goals first | rfl | grind
  · refine r_tsin (tgt := 32) hE dX6_partOf_1 (by decide) (by decide) rfl (by decide) ?_
    refine r_iload_n hE dX6_partOf_32 rfl ?_
    refine r_ireturn hE dX6_partOf_33 rfl rfl (Nat.zero_le _) (Nat.zero_le _) ?_
    refine ⟨congrArg (fun z => some (Value.int z)) ?_, rfl⟩
    unfold K_partOf
    first | rfl | grind
  · refine r_tsin (tgt := 48) hE dX6_partOf_1 (by decide) (by decide) rfl (by decide) ?_
    refine r_iload_n hE dX6_partOf_48 rfl ?_
    refine r_ireturn hE dX6_partOf_49 rfl rfl (Nat.zero_le _) (Nat.zero_le _) ?_
    refine ⟨congrArg (fun z => some (Value.int z)) ?_, rfl⟩
    unfold K_partOf
    first | rfl | grind
  · refine r_tsin (tgt := 34) hE dX6_partOf_1 (by decide) (by decide) rfl (by decide) ?_
    refine r_aload_n hE dX6_partOf_34 rfl ?_
    refine t_getr hE f_X6_15 y_R_152_4 dX6_partOf_35 (hL 152 (by decide)) ?_
    refine r_iload_n hE dX6_partOf_38 rfl ?_
    refine t_ialdN (e := q) hE y_A_154 dX6_partOf_39 (hL 154 (by decide)) (by exact hq (Or.inl rfl)) (by decide) ?_
    refine r_ireturn hE dX6_partOf_40 rfl rfl (Nat.zero_le _) (Nat.zero_le _) ?_
    refine ⟨congrArg (fun z => some (Value.int z)) ?_, rfl⟩
    unfold K_partOf
    first | rfl | grind
  · refine r_tsin (tgt := 41) hE dX6_partOf_1 (by decide) (by decide) rfl (by decide) ?_
    refine r_aload_n hE dX6_partOf_41 rfl ?_
    refine t_getr hE f_X6_21 y_R_152_6 dX6_partOf_42 (hL 152 (by decide)) ?_
    refine r_iload_n hE dX6_partOf_45 rfl ?_
    refine t_ialdN (e := q) hE y_A_156 dX6_partOf_46 (hL 156 (by decide)) (by exact hq (Or.inr rfl)) (by decide) ?_
    refine r_ireturn hE dX6_partOf_47 rfl rfl (Nat.zero_le _) (Nat.zero_le _) ?_
    refine ⟨congrArg (fun z => some (Value.int z)) ?_, rfl⟩
    unfold K_partOf
    first | rfl | grind
theorem k_setsOfTag {V : x_E} {n : Nat} {L : List Nat} {D : y_D} (hV : y_V V) {p : Int32} {q x : Nat} (hL : y_ok L) (hq : q < 4) (hx : x < 301) : x_Fn V yX6_setsOfTag cX6_setsOfTag 5 (some .int) 1 [.ref 152, .int p, .int (nI q), .int (nI x)] (y_mk n L D) (some (.int (K_tag D p q x))) (y_mk n L D) := by
  refine x_fn (by decide) (Nat.le_of_ble_eq_true rfl) (fun E hE => ?_)
  change E 0 0 0 [(0, .ref 152), (1, .int p), (2, .int (nI q)), (3, .int (nI x))] [] (y_mk n L D)
  refine r_iload_n hE dX6_setsOfTag_0 rfl ?_
  rcases y_sw_23_27 p with h9 | rfl | rfl | rfl | rfl | rfl
  · refine r_tsout (tgt := 87) hE dX6_setsOfTag_1 h9 (by decide) ?_
    refine r_aload_n hE dX6_setsOfTag_87 rfl ?_
    refine t_geti hE f_X6_31 y_I_152_1 dX6_setsOfTag_88 (hL 152 (by decide)) ?_
    refine r_iload_n hE dX6_setsOfTag_91 rfl ?_
    refine t_invsN (r := (some (.int (y_b (y_bit ((D 152).1 1) q))))) (S2 := (y_mk n L D)) hE [.int ((D 152).1 1), .int (nI q)] (k_hasBit) s_yX10_hasBit (hN_X6_99 hV) dX6_setsOfTag_92 rfl (by decide) ⟨Nat.le_refl _, Nat.le_refl _⟩ (Nat.le_of_ble_eq_true rfl) ?_
    show E 0 0 95 [(0, .ref 152), (1, .int p), (2, .int (nI q)), (3, .int (nI x))] [.int (y_b (y_bit ((D 152).1 1) q))] (y_mk n L D)
    refine r_ifb_eq (tgt := 112) hE dX6_setsOfTag_95 (by decide) (fun c95 => ?_) (fun c95 => ?_)
    · refine r_iconst (v := 0) hE dX6_setsOfTag_112 (by decide) ?_
      refine r_istore (ls2 := [(0, .ref 152), (1, .int p), (2, .int (nI q)), (3, .int (nI x)), (4, .int 0)]) hE dX6_setsOfTag_113 (by decide) rfl ?_
      refine r_iload hE dX6_setsOfTag_115 rfl ?_
      refine r_if_eq (tgt := 125) hE dX6_setsOfTag_117 (by decide) (fun _ => ?_) (fun c117 => by first | exact absurd c117 (by decide) | exact absurd (by decide) c117)
      refine r_iconst (v := 0) hE dX6_setsOfTag_125 (by decide) ?_
      refine r_ireturn hE dX6_setsOfTag_126 rfl rfl (Nat.zero_le _) (Nat.zero_le _) ?_
      refine ⟨congrArg (fun z => some (Value.int z)) ?_, rfl⟩
      have hn : ∀ c : Int32, 23 ≤ c.toInt ∧ c.toInt ≤ 27 → p ≠ c := fun c hc he => by rw [he] at h9; omega
      unfold K_tag
      rw [if_neg (hn 25 (by decide)), if_neg (hn 23 (by decide)), if_neg (hn 26 (by decide)), if_neg (hn 27 (by decide))]
      all_goals first | rfl | grind
    · refine r_aload_n hE dX6_setsOfTag_98 rfl ?_
      refine t_getr hE f_X6_18 y_R_152_5 dX6_setsOfTag_99 (hL 152 (by decide)) ?_
      refine r_iload_n hE dX6_setsOfTag_102 rfl ?_
      refine t_ialdN (e := q) hE y_A_155 dX6_setsOfTag_103 (hL 155 (by decide)) (by omega) (by decide) ?_
      refine r_iload_n hE dX6_setsOfTag_104 rfl ?_
      refine r_icmp_gt (tgt := 112) hE dX6_setsOfTag_105 (by decide) (fun c105 => ?_) (fun c105 => ?_)
      · refine r_iconst (v := 0) hE dX6_setsOfTag_112 (by decide) ?_
        refine r_istore (ls2 := [(0, .ref 152), (1, .int p), (2, .int (nI q)), (3, .int (nI x)), (4, .int 0)]) hE dX6_setsOfTag_113 (by decide) rfl ?_
        refine r_iload hE dX6_setsOfTag_115 rfl ?_
        refine r_if_eq (tgt := 125) hE dX6_setsOfTag_117 (by decide) (fun _ => ?_) (fun c117 => by first | exact absurd c117 (by decide) | exact absurd (by decide) c117)
        refine r_iconst (v := 0) hE dX6_setsOfTag_125 (by decide) ?_
        refine r_ireturn hE dX6_setsOfTag_126 rfl rfl (Nat.zero_le _) (Nat.zero_le _) ?_
        refine ⟨congrArg (fun z => some (Value.int z)) ?_, rfl⟩
        have hn : ∀ c : Int32, 23 ≤ c.toInt ∧ c.toInt ≤ 27 → p ≠ c := fun c hc he => by rw [he] at h9; omega
        unfold K_tag
        rw [if_neg (hn 25 (by decide)), if_neg (hn 23 (by decide)), if_neg (hn 26 (by decide)), if_neg (hn 27 (by decide))]
        all_goals first | rfl | grind
      · refine r_iconst (v := 1) hE dX6_setsOfTag_108 (by decide) ?_
        refine r_goto (tgt := 113) hE dX6_setsOfTag_109 (by decide) ?_
        refine r_istore (ls2 := [(0, .ref 152), (1, .int p), (2, .int (nI q)), (3, .int (nI x)), (4, .int 1)]) hE dX6_setsOfTag_113 (by decide) rfl ?_
        refine r_iload hE dX6_setsOfTag_115 rfl ?_
        refine r_if_eq (tgt := 125) hE dX6_setsOfTag_117 (by decide) (fun c117 => by first | exact absurd c117 (by decide) | exact absurd (by decide) c117) (fun _ => ?_)
        refine r_ldc (v := 65535) hE dX6_setsOfTag_120 (x_gin (List.mem_append_right _ (tb_4 _ (List.mem_of_getElem? (i := 167) rfl))) rfl) ?_
        refine r_goto (tgt := 126) hE dX6_setsOfTag_122 (by decide) ?_
        refine r_ireturn hE dX6_setsOfTag_126 rfl rfl (Nat.zero_le _) (Nat.zero_le _) ?_
        refine ⟨congrArg (fun z => some (Value.int z)) ?_, rfl⟩
        have hn : ∀ c : Int32, 23 ≤ c.toInt ∧ c.toInt ≤ 27 → p ≠ c := fun c hc he => by rw [he] at h9; omega
        unfold K_tag
        rw [if_neg (hn 25 (by decide)), if_neg (hn 23 (by decide)), if_neg (hn 26 (by decide)), if_neg (hn 27 (by decide))]
        all_goals first | rfl | grind
  · refine r_tsin (tgt := 42) hE dX6_setsOfTag_1 (by decide) (by decide) rfl (by decide) ?_
    refine r_aload_n hE dX6_setsOfTag_42 rfl ?_
    refine t_getr hE f_X6_9 y_R_152_3 dX6_setsOfTag_43 (hL 152 (by decide)) ?_
    refine r_iload_n hE dX6_setsOfTag_46 rfl ?_
    refine t_ialdN (e := x) hE y_A_153 dX6_setsOfTag_47 (hL 153 (by decide)) (by omega) (by decide) ?_
    refine r_if_ne (tgt := 55) hE dX6_setsOfTag_48 (by decide) (fun c48 => ?_) (fun c48 => ?_)
    · refine r_iconst (v := 0) hE dX6_setsOfTag_55 (by decide) ?_
      refine r_istore (ls2 := [(0, .ref 152), (1, .int 23), (2, .int (nI q)), (3, .int (nI x)), (4, .int 0)]) hE dX6_setsOfTag_56 (by decide) rfl ?_
      refine r_goto (tgt := 115) hE dX6_setsOfTag_58 (by decide) ?_
      refine r_iload hE dX6_setsOfTag_115 rfl ?_
      refine r_if_eq (tgt := 125) hE dX6_setsOfTag_117 (by decide) (fun _ => ?_) (fun c117 => by first | exact absurd c117 (by decide) | exact absurd (by decide) c117)
      refine r_iconst (v := 0) hE dX6_setsOfTag_125 (by decide) ?_
      refine r_ireturn hE dX6_setsOfTag_126 rfl rfl (Nat.zero_le _) (Nat.zero_le _) ?_
      refine ⟨congrArg (fun z => some (Value.int z)) ?_, rfl⟩
      unfold K_tag
      first | rfl | grind
    · refine r_iconst (v := 1) hE dX6_setsOfTag_51 (by decide) ?_
      refine r_goto (tgt := 56) hE dX6_setsOfTag_52 (by decide) ?_
      refine r_istore (ls2 := [(0, .ref 152), (1, .int 23), (2, .int (nI q)), (3, .int (nI x)), (4, .int 1)]) hE dX6_setsOfTag_56 (by decide) rfl ?_
      refine r_goto (tgt := 115) hE dX6_setsOfTag_58 (by decide) ?_
      refine r_iload hE dX6_setsOfTag_115 rfl ?_
      refine r_if_eq (tgt := 125) hE dX6_setsOfTag_117 (by decide) (fun c117 => by first | exact absurd c117 (by decide) | exact absurd (by decide) c117) (fun _ => ?_)
      refine r_ldc (v := 65535) hE dX6_setsOfTag_120 (x_gin (List.mem_append_right _ (tb_4 _ (List.mem_of_getElem? (i := 167) rfl))) rfl) ?_
      refine r_goto (tgt := 126) hE dX6_setsOfTag_122 (by decide) ?_
      refine r_ireturn hE dX6_setsOfTag_126 rfl rfl (Nat.zero_le _) (Nat.zero_le _) ?_
      refine ⟨congrArg (fun z => some (Value.int z)) ?_, rfl⟩
      unfold K_tag
      first | rfl | grind
  · refine r_tsin (tgt := 87) hE dX6_setsOfTag_1 (by decide) (by decide) rfl (by decide) ?_
    refine r_aload_n hE dX6_setsOfTag_87 rfl ?_
    refine t_geti hE f_X6_31 y_I_152_1 dX6_setsOfTag_88 (hL 152 (by decide)) ?_
    refine r_iload_n hE dX6_setsOfTag_91 rfl ?_
    refine t_invsN (r := (some (.int (y_b (y_bit ((D 152).1 1) q))))) (S2 := (y_mk n L D)) hE [.int ((D 152).1 1), .int (nI q)] (k_hasBit) s_yX10_hasBit (hN_X6_99 hV) dX6_setsOfTag_92 rfl (by decide) ⟨Nat.le_refl _, Nat.le_refl _⟩ (Nat.le_of_ble_eq_true rfl) ?_
    show E 0 0 95 [(0, .ref 152), (1, .int 24), (2, .int (nI q)), (3, .int (nI x))] [.int (y_b (y_bit ((D 152).1 1) q))] (y_mk n L D)
    refine r_ifb_eq (tgt := 112) hE dX6_setsOfTag_95 (by decide) (fun c95 => ?_) (fun c95 => ?_)
    · refine r_iconst (v := 0) hE dX6_setsOfTag_112 (by decide) ?_
      refine r_istore (ls2 := [(0, .ref 152), (1, .int 24), (2, .int (nI q)), (3, .int (nI x)), (4, .int 0)]) hE dX6_setsOfTag_113 (by decide) rfl ?_
      refine r_iload hE dX6_setsOfTag_115 rfl ?_
      refine r_if_eq (tgt := 125) hE dX6_setsOfTag_117 (by decide) (fun _ => ?_) (fun c117 => by first | exact absurd c117 (by decide) | exact absurd (by decide) c117)
      refine r_iconst (v := 0) hE dX6_setsOfTag_125 (by decide) ?_
      refine r_ireturn hE dX6_setsOfTag_126 rfl rfl (Nat.zero_le _) (Nat.zero_le _) ?_
      refine ⟨congrArg (fun z => some (Value.int z)) ?_, rfl⟩
      unfold K_tag
      first | rfl | grind
    · refine r_aload_n hE dX6_setsOfTag_98 rfl ?_
      refine t_getr hE f_X6_18 y_R_152_5 dX6_setsOfTag_99 (hL 152 (by decide)) ?_
      refine r_iload_n hE dX6_setsOfTag_102 rfl ?_
      refine t_ialdN (e := q) hE y_A_155 dX6_setsOfTag_103 (hL 155 (by decide)) (by omega) (by decide) ?_
      refine r_iload_n hE dX6_setsOfTag_104 rfl ?_
      refine r_icmp_gt (tgt := 112) hE dX6_setsOfTag_105 (by decide) (fun c105 => ?_) (fun c105 => ?_)
      · refine r_iconst (v := 0) hE dX6_setsOfTag_112 (by decide) ?_
        refine r_istore (ls2 := [(0, .ref 152), (1, .int 24), (2, .int (nI q)), (3, .int (nI x)), (4, .int 0)]) hE dX6_setsOfTag_113 (by decide) rfl ?_
        refine r_iload hE dX6_setsOfTag_115 rfl ?_
        refine r_if_eq (tgt := 125) hE dX6_setsOfTag_117 (by decide) (fun _ => ?_) (fun c117 => by first | exact absurd c117 (by decide) | exact absurd (by decide) c117)
        refine r_iconst (v := 0) hE dX6_setsOfTag_125 (by decide) ?_
        refine r_ireturn hE dX6_setsOfTag_126 rfl rfl (Nat.zero_le _) (Nat.zero_le _) ?_
        refine ⟨congrArg (fun z => some (Value.int z)) ?_, rfl⟩
        unfold K_tag
        first | rfl | grind
      · refine r_iconst (v := 1) hE dX6_setsOfTag_108 (by decide) ?_
        refine r_goto (tgt := 113) hE dX6_setsOfTag_109 (by decide) ?_
        refine r_istore (ls2 := [(0, .ref 152), (1, .int 24), (2, .int (nI q)), (3, .int (nI x)), (4, .int 1)]) hE dX6_setsOfTag_113 (by decide) rfl ?_
        refine r_iload hE dX6_setsOfTag_115 rfl ?_
        refine r_if_eq (tgt := 125) hE dX6_setsOfTag_117 (by decide) (fun c117 => by first | exact absurd c117 (by decide) | exact absurd (by decide) c117) (fun _ => ?_)
        refine r_ldc (v := 65535) hE dX6_setsOfTag_120 (x_gin (List.mem_append_right _ (tb_4 _ (List.mem_of_getElem? (i := 167) rfl))) rfl) ?_
        refine r_goto (tgt := 126) hE dX6_setsOfTag_122 (by decide) ?_
        refine r_ireturn hE dX6_setsOfTag_126 rfl rfl (Nat.zero_le _) (Nat.zero_le _) ?_
        refine ⟨congrArg (fun z => some (Value.int z)) ?_, rfl⟩
        unfold K_tag
        first | rfl | grind
  · refine r_tsin (tgt := 36) hE dX6_setsOfTag_1 (by decide) (by decide) rfl (by decide) ?_
    refine r_getsN (v := .ref 61) hE (y_Z61 hV) (hNf_X6_96 hV) dX6_setsOfTag_36 ?_
    refine r_iload_n hE dX6_setsOfTag_39 rfl ?_
    refine t_swl (e := q) hE hV dX6_setsOfTag_40 (by omega) ?_
    refine r_ireturn hE dX6_setsOfTag_41 rfl rfl (Nat.zero_le _) (Nat.zero_le _) ?_
    refine ⟨congrArg (fun z => some (Value.int z)) ?_, rfl⟩
    unfold K_tag
    first | rfl | grind
  · refine r_tsin (tgt := 61) hE dX6_setsOfTag_1 (by decide) (by decide) rfl (by decide) ?_
    refine r_aload_n hE dX6_setsOfTag_61 rfl ?_
    refine t_geti hE f_X6_31 y_I_152_1 dX6_setsOfTag_62 (hL 152 (by decide)) ?_
    refine r_iload_n hE dX6_setsOfTag_65 rfl ?_
    refine t_invsN (r := (some (.int (y_b (y_bit ((D 152).1 1) q))))) (S2 := (y_mk n L D)) hE [.int ((D 152).1 1), .int (nI q)] (k_hasBit) s_yX10_hasBit (hN_X6_99 hV) dX6_setsOfTag_66 rfl (by decide) ⟨Nat.le_refl _, Nat.le_refl _⟩ (Nat.le_of_ble_eq_true rfl) ?_
    show E 0 0 69 [(0, .ref 152), (1, .int 26), (2, .int (nI q)), (3, .int (nI x))] [.int (y_b (y_bit ((D 152).1 1) q))] (y_mk n L D)
    refine r_istore (ls2 := [(0, .ref 152), (1, .int 26), (2, .int (nI q)), (3, .int (nI x)), (4, .int (y_b (y_bit ((D 152).1 1) q)))]) hE dX6_setsOfTag_69 (by decide) rfl ?_
    refine r_goto (tgt := 115) hE dX6_setsOfTag_71 (by decide) ?_
    refine r_iload hE dX6_setsOfTag_115 rfl ?_
    refine r_ifb_eq (tgt := 125) hE dX6_setsOfTag_117 (by decide) (fun c117 => ?_) (fun c117 => ?_)
    · refine r_iconst (v := 0) hE dX6_setsOfTag_125 (by decide) ?_
      refine r_ireturn hE dX6_setsOfTag_126 rfl rfl (Nat.zero_le _) (Nat.zero_le _) ?_
      refine ⟨congrArg (fun z => some (Value.int z)) ?_, rfl⟩
      unfold K_tag
      first | rfl | grind
    · refine r_ldc (v := 65535) hE dX6_setsOfTag_120 (x_gin (List.mem_append_right _ (tb_4 _ (List.mem_of_getElem? (i := 167) rfl))) rfl) ?_
      refine r_goto (tgt := 126) hE dX6_setsOfTag_122 (by decide) ?_
      refine r_ireturn hE dX6_setsOfTag_126 rfl rfl (Nat.zero_le _) (Nat.zero_le _) ?_
      refine ⟨congrArg (fun z => some (Value.int z)) ?_, rfl⟩
      unfold K_tag
      first | rfl | grind
  · refine r_tsin (tgt := 74) hE dX6_setsOfTag_1 (by decide) (by decide) rfl (by decide) ?_
    refine r_aload_n hE dX6_setsOfTag_74 rfl ?_
    refine t_geti hE f_X6_34 y_I_152_2 dX6_setsOfTag_75 (hL 152 (by decide)) ?_
    refine r_iload_n hE dX6_setsOfTag_78 rfl ?_
    refine t_invsN (r := (some (.int (y_b (y_bit ((D 152).1 2) q))))) (S2 := (y_mk n L D)) hE [.int ((D 152).1 2), .int (nI q)] (k_hasBit) s_yX10_hasBit (hN_X6_99 hV) dX6_setsOfTag_79 rfl (by decide) ⟨Nat.le_refl _, Nat.le_refl _⟩ (Nat.le_of_ble_eq_true rfl) ?_
    show E 0 0 82 [(0, .ref 152), (1, .int 27), (2, .int (nI q)), (3, .int (nI x))] [.int (y_b (y_bit ((D 152).1 2) q))] (y_mk n L D)
    refine r_istore (ls2 := [(0, .ref 152), (1, .int 27), (2, .int (nI q)), (3, .int (nI x)), (4, .int (y_b (y_bit ((D 152).1 2) q)))]) hE dX6_setsOfTag_82 (by decide) rfl ?_
    refine r_goto (tgt := 115) hE dX6_setsOfTag_84 (by decide) ?_
    refine r_iload hE dX6_setsOfTag_115 rfl ?_
    refine r_ifb_eq (tgt := 125) hE dX6_setsOfTag_117 (by decide) (fun c117 => ?_) (fun c117 => ?_)
    · refine r_iconst (v := 0) hE dX6_setsOfTag_125 (by decide) ?_
      refine r_ireturn hE dX6_setsOfTag_126 rfl rfl (Nat.zero_le _) (Nat.zero_le _) ?_
      refine ⟨congrArg (fun z => some (Value.int z)) ?_, rfl⟩
      unfold K_tag
      first | rfl | grind
    · refine r_ldc (v := 65535) hE dX6_setsOfTag_120 (x_gin (List.mem_append_right _ (tb_4 _ (List.mem_of_getElem? (i := 167) rfl))) rfl) ?_
      refine r_goto (tgt := 126) hE dX6_setsOfTag_122 (by decide) ?_
      refine r_ireturn hE dX6_setsOfTag_126 rfl rfl (Nat.zero_le _) (Nat.zero_le _) ?_
      refine ⟨congrArg (fun z => some (Value.int z)) ?_, rfl⟩
      unfold K_tag
      first | rfl | grind
def y_cm1 (t s l : Int32) (i : Nat) (z : Int32) : Int32 := z ||| (if (t = 8 ∧ 0 < s + l * nI i) ∨ (t ≠ 8 ∧ s + l * nI i < 0) then y_sos i else 0)
def y_cm (t s l : Int32) : Nat → Int32
  | 0 => 0
  | i + 1 => y_cm1 t s l i (y_cm t s l i)
theorem k_setsThatCompare {V : x_E} {n : Nat} {L : List Nat} {D : y_D} (hV : y_V V) {t s l : Int32} : x_Fn V yX6_setsThatCompare cX6_setsThatCompare 7 (some .int) 0 [.int t, .int s, .int l] (y_mk n L D) (some (.int (y_cm t s l 5))) (y_mk n L D) := by
  refine x_fn (by decide) (Nat.le_of_ble_eq_true rfl) (fun E hE => ?_)
  change E 0 0 0 [(0, .int t), (1, .int s), (2, .int l)] [] (y_mk n L D)
  have lp : ∀ (i : Nat), i ≤ 5 → E 0 0 5 [(0, .int t), (1, .int s), (2, .int l), (3, .int (y_cm t s l i)), (4, .int (nI i))] [] (y_mk n L D) := by
    intro i
    induction hm9 : (5 - i) using Nat.strongRecOn generalizing i with
    | _ m9 ih =>
      intro hi
      refine r_iload hE dX6_setsThatCompare_5 rfl ?_
      refine r_iconst (v := 4) hE dX6_setsThatCompare_7 (by decide) ?_
      refine r_icmp_gtN (a := i) (b := 4) (tgt := 74) hE dX6_setsThatCompare_8 (by decide) (by omega) (by decide) (fun c8 => ?_) (fun c8 => ?_)
      · refine r_iload_n hE dX6_setsThatCompare_74 rfl ?_
        refine r_ireturn hE dX6_setsThatCompare_75 rfl rfl (Nat.zero_le _) (Nat.zero_le _) ?_
        have hi2 : i = 5 := by omega
        subst hi2
        exact ⟨rfl, rfl⟩
      · refine r_iload_n hE dX6_setsThatCompare_11 rfl ?_
        refine r_iload_n hE dX6_setsThatCompare_12 rfl ?_
        refine r_iload hE dX6_setsThatCompare_13 rfl ?_
        refine r_imul hE dX6_setsThatCompare_15 ?_
        refine r_iadd hE dX6_setsThatCompare_16 ?_
        refine r_istore (ls2 := [(0, .int t), (1, .int s), (2, .int l), (3, .int (y_cm t s l i)), (4, .int (nI i)), (5, .int (s + (l * (nI i))))]) hE dX6_setsThatCompare_17 (by decide) rfl ?_
        refine r_iload_n hE dX6_setsThatCompare_19 rfl ?_
        refine r_bipush (v := 8) hE dX6_setsThatCompare_20 (by decide) ?_
        refine r_icmp_ne (tgt := 38) hE dX6_setsThatCompare_22 (by decide) (fun c22 => ?_) (fun c22 => ?_)
        · refine r_iload hE dX6_setsThatCompare_38 rfl ?_
          refine r_if_ge (tgt := 47) hE dX6_setsThatCompare_40 (by decide) (fun c40 => ?_) (fun c40 => ?_)
          · refine r_iconst (v := 0) hE dX6_setsThatCompare_47 (by decide) ?_
            refine r_istore (ls2 := [(0, .int t), (1, .int s), (2, .int l), (3, .int (y_cm t s l i)), (4, .int (nI i)), (5, .int (s + (l * (nI i)))), (6, .int 0)]) hE dX6_setsThatCompare_48 (by decide) rfl ?_
            refine r_iload_n hE dX6_setsThatCompare_50 rfl ?_
            refine r_iload hE dX6_setsThatCompare_51 rfl ?_
            refine r_if_eq (tgt := 65) hE dX6_setsThatCompare_53 (by decide) (fun _ => ?_) (fun c53 => by first | exact absurd c53 (by decide) | exact absurd (by decide) c53)
            refine r_iconst (v := 0) hE dX6_setsThatCompare_65 (by decide) ?_
            refine r_ior hE dX6_setsThatCompare_66 ?_
            refine r_istore_n (ls2 := [(0, .int t), (1, .int s), (2, .int l), (3, .int ((y_cm t s l i) ||| 0)), (4, .int (nI i)), (5, .int (s + (l * (nI i)))), (6, .int 0)]) hE dX6_setsThatCompare_67 (by decide) rfl ?_
            refine r_iincN (a := i) (b := 1) (ls2 := [(0, .int t), (1, .int s), (2, .int l), (3, .int ((y_cm t s l i) ||| 0)), (4, .int (nI (i + 1))), (5, .int (s + (l * (nI i)))), (6, .int 0)]) hE dX6_setsThatCompare_68 rfl rfl (by decide) rfl ?_
            refine r_goto (tgt := 5) hE dX6_setsThatCompare_71 (by decide) ?_
            have e9 : y_cm t s l (i + 1) = (y_cm t s l i) ||| 0 := by
              show y_cm1 t s l i (y_cm t s l i) = _
              unfold y_cm1
              first | rw [if_pos (by grind)] | rw [if_neg (by grind)]
            refine r_locs hE (ls2 := [(0, .int t), (1, .int s), (2, .int l), (3, .int (y_cm t s l (i + 1))), (4, .int (nI (i + 1)))]) ?_ (ih (5 - (i + 1)) (by omega) (i + 1) rfl (by omega))
            rw [e9]
            simp [x_lk]
          · refine r_iconst (v := 1) hE dX6_setsThatCompare_43 (by decide) ?_
            refine r_goto (tgt := 48) hE dX6_setsThatCompare_44 (by decide) ?_
            refine r_istore (ls2 := [(0, .int t), (1, .int s), (2, .int l), (3, .int (y_cm t s l i)), (4, .int (nI i)), (5, .int (s + (l * (nI i)))), (6, .int 1)]) hE dX6_setsThatCompare_48 (by decide) rfl ?_
            refine r_iload_n hE dX6_setsThatCompare_50 rfl ?_
            refine r_iload hE dX6_setsThatCompare_51 rfl ?_
            refine r_if_eq (tgt := 65) hE dX6_setsThatCompare_53 (by decide) (fun c53 => by first | exact absurd c53 (by decide) | exact absurd (by decide) c53) (fun _ => ?_)
            refine r_getsN (v := .ref 62) hE (y_Z62 hV) (hNf_X6_103 hV) dX6_setsThatCompare_56 ?_
            refine r_iload hE dX6_setsThatCompare_59 rfl ?_
            refine t_sos (e := i) hE hV dX6_setsThatCompare_61 (by omega) ?_
            refine r_goto (tgt := 66) hE dX6_setsThatCompare_62 (by decide) ?_
            refine r_ior hE dX6_setsThatCompare_66 ?_
            refine r_istore_n (ls2 := [(0, .int t), (1, .int s), (2, .int l), (3, .int ((y_cm t s l i) ||| (y_sos i))), (4, .int (nI i)), (5, .int (s + (l * (nI i)))), (6, .int 1)]) hE dX6_setsThatCompare_67 (by decide) rfl ?_
            refine r_iincN (a := i) (b := 1) (ls2 := [(0, .int t), (1, .int s), (2, .int l), (3, .int ((y_cm t s l i) ||| (y_sos i))), (4, .int (nI (i + 1))), (5, .int (s + (l * (nI i)))), (6, .int 1)]) hE dX6_setsThatCompare_68 rfl rfl (by decide) rfl ?_
            refine r_goto (tgt := 5) hE dX6_setsThatCompare_71 (by decide) ?_
            have e9 : y_cm t s l (i + 1) = (y_cm t s l i) ||| (y_sos i) := by
              show y_cm1 t s l i (y_cm t s l i) = _
              unfold y_cm1
              first | rw [if_pos (by grind)] | rw [if_neg (by grind)]
            refine r_locs hE (ls2 := [(0, .int t), (1, .int s), (2, .int l), (3, .int (y_cm t s l (i + 1))), (4, .int (nI (i + 1)))]) ?_ (ih (5 - (i + 1)) (by omega) (i + 1) rfl (by omega))
            rw [e9]
            simp [x_lk]
        · refine r_iload hE dX6_setsThatCompare_25 rfl ?_
          refine r_if_le (tgt := 34) hE dX6_setsThatCompare_27 (by decide) (fun c27 => ?_) (fun c27 => ?_)
          · refine r_iconst (v := 0) hE dX6_setsThatCompare_34 (by decide) ?_
            refine r_goto (tgt := 48) hE dX6_setsThatCompare_35 (by decide) ?_
            refine r_istore (ls2 := [(0, .int t), (1, .int s), (2, .int l), (3, .int (y_cm t s l i)), (4, .int (nI i)), (5, .int (s + (l * (nI i)))), (6, .int 0)]) hE dX6_setsThatCompare_48 (by decide) rfl ?_
            refine r_iload_n hE dX6_setsThatCompare_50 rfl ?_
            refine r_iload hE dX6_setsThatCompare_51 rfl ?_
            refine r_if_eq (tgt := 65) hE dX6_setsThatCompare_53 (by decide) (fun _ => ?_) (fun c53 => by first | exact absurd c53 (by decide) | exact absurd (by decide) c53)
            refine r_iconst (v := 0) hE dX6_setsThatCompare_65 (by decide) ?_
            refine r_ior hE dX6_setsThatCompare_66 ?_
            refine r_istore_n (ls2 := [(0, .int t), (1, .int s), (2, .int l), (3, .int ((y_cm t s l i) ||| 0)), (4, .int (nI i)), (5, .int (s + (l * (nI i)))), (6, .int 0)]) hE dX6_setsThatCompare_67 (by decide) rfl ?_
            refine r_iincN (a := i) (b := 1) (ls2 := [(0, .int t), (1, .int s), (2, .int l), (3, .int ((y_cm t s l i) ||| 0)), (4, .int (nI (i + 1))), (5, .int (s + (l * (nI i)))), (6, .int 0)]) hE dX6_setsThatCompare_68 rfl rfl (by decide) rfl ?_
            refine r_goto (tgt := 5) hE dX6_setsThatCompare_71 (by decide) ?_
            have e9 : y_cm t s l (i + 1) = (y_cm t s l i) ||| 0 := by
              show y_cm1 t s l i (y_cm t s l i) = _
              unfold y_cm1
              first | rw [if_pos (by grind)] | rw [if_neg (by grind)]
            refine r_locs hE (ls2 := [(0, .int t), (1, .int s), (2, .int l), (3, .int (y_cm t s l (i + 1))), (4, .int (nI (i + 1)))]) ?_ (ih (5 - (i + 1)) (by omega) (i + 1) rfl (by omega))
            rw [e9]
            simp [x_lk]
          · refine r_iconst (v := 1) hE dX6_setsThatCompare_30 (by decide) ?_
            refine r_goto (tgt := 48) hE dX6_setsThatCompare_31 (by decide) ?_
            refine r_istore (ls2 := [(0, .int t), (1, .int s), (2, .int l), (3, .int (y_cm t s l i)), (4, .int (nI i)), (5, .int (s + (l * (nI i)))), (6, .int 1)]) hE dX6_setsThatCompare_48 (by decide) rfl ?_
            refine r_iload_n hE dX6_setsThatCompare_50 rfl ?_
            refine r_iload hE dX6_setsThatCompare_51 rfl ?_
            refine r_if_eq (tgt := 65) hE dX6_setsThatCompare_53 (by decide) (fun c53 => by first | exact absurd c53 (by decide) | exact absurd (by decide) c53) (fun _ => ?_)
            refine r_getsN (v := .ref 62) hE (y_Z62 hV) (hNf_X6_103 hV) dX6_setsThatCompare_56 ?_
            refine r_iload hE dX6_setsThatCompare_59 rfl ?_
            refine t_sos (e := i) hE hV dX6_setsThatCompare_61 (by omega) ?_
            refine r_goto (tgt := 66) hE dX6_setsThatCompare_62 (by decide) ?_
            refine r_ior hE dX6_setsThatCompare_66 ?_
            refine r_istore_n (ls2 := [(0, .int t), (1, .int s), (2, .int l), (3, .int ((y_cm t s l i) ||| (y_sos i))), (4, .int (nI i)), (5, .int (s + (l * (nI i)))), (6, .int 1)]) hE dX6_setsThatCompare_67 (by decide) rfl ?_
            refine r_iincN (a := i) (b := 1) (ls2 := [(0, .int t), (1, .int s), (2, .int l), (3, .int ((y_cm t s l i) ||| (y_sos i))), (4, .int (nI (i + 1))), (5, .int (s + (l * (nI i)))), (6, .int 1)]) hE dX6_setsThatCompare_68 rfl rfl (by decide) rfl ?_
            refine r_goto (tgt := 5) hE dX6_setsThatCompare_71 (by decide) ?_
            have e9 : y_cm t s l (i + 1) = (y_cm t s l i) ||| (y_sos i) := by
              show y_cm1 t s l i (y_cm t s l i) = _
              unfold y_cm1
              first | rw [if_pos (by grind)] | rw [if_neg (by grind)]
            refine r_locs hE (ls2 := [(0, .int t), (1, .int s), (2, .int l), (3, .int (y_cm t s l (i + 1))), (4, .int (nI (i + 1)))]) ?_ (ih (5 - (i + 1)) (by omega) (i + 1) rfl (by omega))
            rw [e9]
            simp [x_lk]
  refine r_iconst (v := 0) hE dX6_setsThatCompare_0 (by decide) ?_
  refine r_istore_n (ls2 := [(0, .int t), (1, .int s), (2, .int l), (3, .int 0)]) hE dX6_setsThatCompare_1 (by decide) rfl ?_
  refine r_iconst (v := 0) hE dX6_setsThatCompare_2 (by decide) ?_
  refine r_istore (ls2 := [(0, .int t), (1, .int s), (2, .int l), (3, .int 0), (4, .int 0)]) hE dX6_setsThatCompare_3 (by decide) rfl ?_
  exact lp 0 (by omega)

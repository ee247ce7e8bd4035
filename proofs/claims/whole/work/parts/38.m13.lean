/-! Course: small methods; Book.setsFor -/
def y_pt1 (i : Nat) (t : Int32) : Int32 := t ||| ((t &&& y_swl i) >>> (nI (2 ^ i) &&& 31))
def y_pt (s : Int32) : Nat → Int32
  | 0 => s
  | i + 1 => y_pt1 i (y_pt s i)
def y_lm1 (s : Int32) (i : Nat) (t : Int32) : Int32 := t ||| (if y_bit s i then nI i else 0)
def y_lm (s : Int32) : Nat → Int32
  | 0 => 0
  | i + 1 => y_lm1 s i (y_lm s i)
def K_limbsAt (D : y_D) (x k : Nat) : Int32 := if k < x then 0 else y_lm ((D 161).1 x) 16
def y_fs (t : Nat → Int32) (u : Int32) : Nat → Nat → Int32
  | _, 0 => -1
  | i, m + 1 => if t i &&& u = 0 then y_fs t u (i + 1) m else nI i
def y_al (D : y_D) (k j : Nat) : Int32 := if (D 153).1 j ≠ 0 ∨ j = k then 1 else 65535
theorem y_a3 : ∀ i, i < 16 → nI i &&& 3 = nI (i % 4) := by decide +kernel
theorem y_s2 : ∀ i, i < 16 → nI i >>> (2 &&& 31) = nI (i / 4) := by decide +kernel
def y_tg (D : y_D) (k o c : Nat) : Int32 := if o < k ∧ c < 3 then (D 79).1 (o * 3 + c) else 0
def y_sf1 (h f : Int32) (i : Nat) (t : Int32) : Int32 := t ||| (if h ≤ nI (y_pop (i % 4)) ∧ f ≤ nI (y_pop (i / 4)) then nI (2 ^ i) else 0)
def y_sf (h f : Int32) : Nat → Int32
  | 0 => 0
  | i + 1 => y_sf1 h f i (y_sf h f i)
def K_setsFor (D : y_D) (kt th k : Nat) (u : Int32) : Int32 := if y_gr D u k < y_tg D kt th 2 then 0 else y_sf (y_tg D kt th 0) (y_tg D kt th 1) 16
theorem y_pt_one : (1 : Int32) = y_pt 1 4 := by decide +kernel
theorem y_sf_t : ∀ a, a < 3 → ∀ b, b < 3 → y_sf (nI a) (nI b) 16 = y_shn a &&& y_sft b := by decide +kernel
theorem y_gr_pos {D : y_D} {u : Int32} : ∀ i, 0 ≤ y_gr D u i
  | 0 => by show (0 : Int32) ≤ 0; decide
  | i + 1 => by
    have ih := y_gr_pos (D := D) (u := u) i
    show 0 ≤ y_gr1 D u i (y_gr D u i)
    unfold y_gr1
    split
    · split <;> grind
    · exact ih
theorem k_parts {V : x_E} {n : Nat} {L : List Nat} {D : y_D} (hV : y_V V) {s : Int32} : x_Fn V yX1_withAllTheirParts cX1_withAllTheirParts 3 (some .int) 0 [.int s] (y_mk n L D) (some (.int (y_pt s 4))) (y_mk n L D) := by
  refine x_fn (by decide) (Nat.le_of_ble_eq_true rfl) (fun E hE => ?_)
  change E 0 0 0 [(0, .int s)] [] (y_mk n L D)
  have lp : ∀ (i : Nat), i ≤ 4 → E 0 0 11 [(0, .int s), (1, .int (y_pt s i)), (2, .int (nI i))] [] (y_mk n L D) := by
    intro i
    induction hm9 : (4 - i) using Nat.strongRecOn generalizing i with
    | _ m9 ih =>
      intro hi
      refine r_iload_n hE dX1_withAllTheirParts_11 rfl ?_
      refine r_iconst (v := 4) hE dX1_withAllTheirParts_12 (by decide) ?_
      refine r_icmp_geN (a := i) (b := 4) (tgt := 36) hE dX1_withAllTheirParts_13 (by decide) (by omega) (by decide) (fun c13 => ?_) (fun c13 => ?_)
      · refine r_iload_n hE dX1_withAllTheirParts_36 rfl ?_
        refine r_ireturn hE dX1_withAllTheirParts_37 rfl rfl (Nat.zero_le _) (Nat.zero_le _) ?_
        have hi2 : i = 4 := by omega
        subst hi2
        exact ⟨rfl, rfl⟩
      · refine r_iload_n hE dX1_withAllTheirParts_16 rfl ?_
        refine r_iload_n hE dX1_withAllTheirParts_17 rfl ?_
        refine r_getsN (v := .ref 61) hE (y_Z61 hV) (hNf_X1_122 hV) dX1_withAllTheirParts_18 ?_
        refine r_iload_n hE dX1_withAllTheirParts_21 rfl ?_
        refine t_swl (e := i) hE hV dX1_withAllTheirParts_22 (by omega) ?_
        refine r_iand hE dX1_withAllTheirParts_23 ?_
        refine r_iconst (v := 1) hE dX1_withAllTheirParts_24 (by decide) ?_
        refine r_iload_n hE dX1_withAllTheirParts_25 rfl ?_
        refine r_shl1N (k := i) hE dX1_withAllTheirParts_26 (by omega) ?_
        refine r_ishr hE dX1_withAllTheirParts_27 ?_
        refine r_ior hE dX1_withAllTheirParts_28 ?_
        refine r_istore_n (ls2 := [(0, .int s), (1, .int ((y_pt s i) ||| (((y_pt s i) &&& (y_swl i)) >>> ((nI (2 ^ i)) &&& 31)))), (2, .int (nI i))]) hE dX1_withAllTheirParts_29 (by decide) rfl ?_
        refine r_iincN (a := i) (b := 1) (ls2 := [(0, .int s), (1, .int ((y_pt s i) ||| (((y_pt s i) &&& (y_swl i)) >>> ((nI (2 ^ i)) &&& 31)))), (2, .int (nI (i + 1)))]) hE dX1_withAllTheirParts_30 rfl rfl (by decide) rfl ?_
        refine r_goto (tgt := 11) hE dX1_withAllTheirParts_33 (by decide) ?_
        have e9 : y_pt s (i + 1) = (y_pt s i) ||| (((y_pt s i) &&& (y_swl i)) >>> ((nI (2 ^ i)) &&& 31)) := by
          show y_pt1 i (y_pt s i) = _
          unfold y_pt1
          rfl
        refine r_locs hE (ls2 := [(0, .int s), (1, .int (y_pt s (i + 1))), (2, .int (nI (i + 1)))]) ?_ (ih (4 - (i + 1)) (by omega) (i + 1) rfl (by omega))
        rw [e9]
        simp [x_lk]
  refine r_iload_n hE dX1_withAllTheirParts_0 rfl ?_
  refine r_istore_n (ls2 := [(0, .int s), (1, .int s)]) hE dX1_withAllTheirParts_1 (by decide) rfl ?_
  refine r_iload_n hE dX1_withAllTheirParts_2 rfl ?_
  refine r_iconst (v := 1) hE dX1_withAllTheirParts_3 (by decide) ?_
  refine r_icmp_ne (tgt := 9) hE dX1_withAllTheirParts_4 (by decide) (fun c4 => ?_) (fun c4 => ?_)
  · refine r_iconst (v := 0) hE dX1_withAllTheirParts_9 (by decide) ?_
    refine r_istore_n (ls2 := [(0, .int s), (1, .int s), (2, .int 0)]) hE dX1_withAllTheirParts_10 (by decide) rfl ?_
    exact lp 0 (by omega)
  · refine r_iload_n hE dX1_withAllTheirParts_7 rfl ?_
    refine r_ireturn hE dX1_withAllTheirParts_8 rfl rfl (Nat.zero_le _) (Nat.zero_le _) ?_
    have e1 : s = 1 := by grind
    subst e1
    exact ⟨congrArg (fun z => some (Value.int z)) y_pt_one, rfl⟩
theorem k_limbsAt {V : x_E} {n : Nat} {L : List Nat} {D : y_D} (hV : y_V V) {x k : Nat} (hL : y_ok L) (hs : (D 152).1 0 = nI k) (hk : k ≤ 300) (hx : x < 2 ^ 31) : x_Fn V yX1_limbsAt cX1_limbsAt 4 (some .int) 1 [.ref 151, .int (nI x)] (y_mk n L D) (some (.int (K_limbsAt D x k))) (y_mk n L D) := by
  refine x_fn (by decide) (Nat.le_of_ble_eq_true rfl) (fun E hE => ?_)
  change E 0 0 0 [(0, .ref 151), (1, .int (nI x))] [] (y_mk n L D)
  have lp : ∀ (i : Nat), x ≤ k → i ≤ 16 → E 0 0 17 [(0, .ref 151), (1, .int (nI x)), (2, .int (y_lm ((D 161).1 x) i)), (3, .int (nI i))] [] (y_mk n L D) := by
    intro i
    induction hm9 : (16 - i) using Nat.strongRecOn generalizing i with
    | _ m9 ih =>
      intro hxk hi
      refine r_iload_n hE dX1_limbsAt_17 rfl ?_
      refine r_bipush (v := 16) hE dX1_limbsAt_18 (by decide) ?_
      refine r_icmp_geN (a := i) (b := 16) (tgt := 50) hE dX1_limbsAt_20 (by decide) (by omega) (by decide) (fun c20 => ?_) (fun c20 => ?_)
      · refine r_iload_n hE dX1_limbsAt_50 rfl ?_
        refine r_ireturn hE dX1_limbsAt_51 rfl rfl (Nat.zero_le _) (Nat.zero_le _) ?_
        unfold K_limbsAt
        have hi2 : i = 16 := by omega
        subst hi2
        rw [if_neg (by omega)]
        exact ⟨rfl, rfl⟩
      · refine r_iload_n hE dX1_limbsAt_23 rfl ?_
        refine r_aload_n hE dX1_limbsAt_24 rfl ?_
        refine t_getr hE f_X1_31 y_R_151_6 dX1_limbsAt_25 (hL 151 (by decide)) ?_
        refine r_iload_n hE dX1_limbsAt_28 rfl ?_
        refine t_ialdN (e := x) hE y_A_161 dX1_limbsAt_29 (hL 161 (by decide)) (by omega) (by decide) ?_
        refine r_iload_n hE dX1_limbsAt_30 rfl ?_
        refine t_invsN (r := (some (.int (y_b (y_bit ((D 161).1 x) i))))) (S2 := (y_mk n L D)) hE [.int ((D 161).1 x), .int (nI i)] (k_hasBit) s_yX10_hasBit (hN_X1_68 hV) dX1_limbsAt_31 rfl (by decide) ⟨Nat.le_refl _, Nat.le_refl _⟩ (Nat.le_of_ble_eq_true rfl) ?_
        show E 0 0 34 [(0, .ref 151), (1, .int (nI x)), (2, .int (y_lm ((D 161).1 x) i)), (3, .int (nI i))] [.int (y_b (y_bit ((D 161).1 x) i)), .int (y_lm ((D 161).1 x) i)] (y_mk n L D)
        refine r_ifb_eq (tgt := 41) hE dX1_limbsAt_34 (by decide) (fun c34 => ?_) (fun c34 => ?_)
        · refine r_iconst (v := 0) hE dX1_limbsAt_41 (by decide) ?_
          refine r_ior hE dX1_limbsAt_42 ?_
          refine r_istore_n (ls2 := [(0, .ref 151), (1, .int (nI x)), (2, .int ((y_lm ((D 161).1 x) i) ||| 0)), (3, .int (nI i))]) hE dX1_limbsAt_43 (by decide) rfl ?_
          refine r_iincN (a := i) (b := 1) (ls2 := [(0, .ref 151), (1, .int (nI x)), (2, .int ((y_lm ((D 161).1 x) i) ||| 0)), (3, .int (nI (i + 1)))]) hE dX1_limbsAt_44 rfl rfl (by decide) rfl ?_
          refine r_goto (tgt := 17) hE dX1_limbsAt_47 (by decide) ?_
          have e9 : y_lm ((D 161).1 x) (i + 1) = (y_lm ((D 161).1 x) i) ||| 0 := by
            show y_lm1 ((D 161).1 x) i (y_lm ((D 161).1 x) i) = _
            unfold y_lm1
            first | rw [if_pos (by assumption)] | rw [if_neg (by assumption)]
          refine r_locs hE (ls2 := [(0, .ref 151), (1, .int (nI x)), (2, .int (y_lm ((D 161).1 x) (i + 1))), (3, .int (nI (i + 1)))]) ?_ (ih (16 - (i + 1)) (by omega) (i + 1) rfl hxk (by omega))
          rw [e9]
          simp [x_lk]
        · refine r_iload_n hE dX1_limbsAt_37 rfl ?_
          refine r_goto (tgt := 42) hE dX1_limbsAt_38 (by decide) ?_
          refine r_ior hE dX1_limbsAt_42 ?_
          refine r_istore_n (ls2 := [(0, .ref 151), (1, .int (nI x)), (2, .int ((y_lm ((D 161).1 x) i) ||| (nI i))), (3, .int (nI i))]) hE dX1_limbsAt_43 (by decide) rfl ?_
          refine r_iincN (a := i) (b := 1) (ls2 := [(0, .ref 151), (1, .int (nI x)), (2, .int ((y_lm ((D 161).1 x) i) ||| (nI i))), (3, .int (nI (i + 1)))]) hE dX1_limbsAt_44 rfl rfl (by decide) rfl ?_
          refine r_goto (tgt := 17) hE dX1_limbsAt_47 (by decide) ?_
          have e9 : y_lm ((D 161).1 x) (i + 1) = (y_lm ((D 161).1 x) i) ||| (nI i) := by
            show y_lm1 ((D 161).1 x) i (y_lm ((D 161).1 x) i) = _
            unfold y_lm1
            first | rw [if_pos (by assumption)] | rw [if_neg (by assumption)]
          refine r_locs hE (ls2 := [(0, .ref 151), (1, .int (nI x)), (2, .int (y_lm ((D 161).1 x) (i + 1))), (3, .int (nI (i + 1)))]) ?_ (ih (16 - (i + 1)) (by omega) (i + 1) rfl hxk (by omega))
          rw [e9]
          simp [x_lk]
  refine r_iconst (v := 0) hE dX1_limbsAt_0 (by decide) ?_
  refine r_istore_n (ls2 := [(0, .ref 151), (1, .int (nI x)), (2, .int 0)]) hE dX1_limbsAt_1 (by decide) rfl ?_
  refine r_iload_n hE dX1_limbsAt_2 rfl ?_
  refine r_aload_n hE dX1_limbsAt_3 rfl ?_
  refine t_getr hE f_X1_12 y_R_151_1 dX1_limbsAt_4 (hL 151 (by decide)) ?_
  refine t_geti hE f_X1_82 y_I_152_0 dX1_limbsAt_7 (hL 152 (by decide)) ?_
  refine r_top (y := (nI k)) hs ?_
  refine r_icmp_leN (a := x) (b := k) (tgt := 15) hE dX1_limbsAt_10 (by decide) (by omega) (by omega) (fun c10 => ?_) (fun c10 => ?_)
  · refine r_iconst (v := 0) hE dX1_limbsAt_15 (by decide) ?_
    refine r_istore_n (ls2 := [(0, .ref 151), (1, .int (nI x)), (2, .int 0), (3, .int 0)]) hE dX1_limbsAt_16 (by decide) rfl ?_
    exact lp 0 (by omega) (by omega)
  · refine r_iload_n hE dX1_limbsAt_13 rfl ?_
    refine r_ireturn hE dX1_limbsAt_14 rfl rfl (Nat.zero_le _) (Nat.zero_le _) ?_
    unfold K_limbsAt
    rw [if_pos (by omega)]
    exact ⟨rfl, rfl⟩
theorem k_firstSecondOf {V : x_E} {n : Nat} {L : List Nat} {D : y_D} {u : Int32} {k : Nat} (hL : y_ok L) (hs : (D 152).1 0 = nI k) (hk : k ≤ 300) : x_Fn V yX1_firstSecondOf cX1_firstSecondOf 3 (some .int) 0 [.ref 151, .int u] (y_mk n L D) (some (.int (y_fs (D 161).1 u 0 (k + 1)))) (y_mk n L D) := by
  refine x_fn (by decide) (Nat.le_of_ble_eq_true rfl) (fun E hE => ?_)
  change E 0 0 0 [(0, .ref 151), (1, .int u)] [] (y_mk n L D)
  have lp : ∀ (i : Nat), i ≤ k + 1 → y_fs (D 161).1 u i (k + 1 - i) = y_fs (D 161).1 u 0 (k + 1) → E 0 0 2 [(0, .ref 151), (1, .int u), (2, .int (nI i))] [] (y_mk n L D) := by
    intro i
    induction hm9 : (k + 1 - i) using Nat.strongRecOn generalizing i with
    | _ m9 ih =>
      intro hi hv
      refine r_iload_n hE dX1_firstSecondOf_2 rfl ?_
      refine r_aload_n hE dX1_firstSecondOf_3 rfl ?_
      refine t_getr hE f_X1_12 y_R_151_1 dX1_firstSecondOf_4 (hL 151 (by decide)) ?_
      refine t_geti hE f_X1_82 y_I_152_0 dX1_firstSecondOf_7 (hL 152 (by decide)) ?_
      refine r_top (y := (nI k)) hs ?_
      refine r_icmp_gtN (a := i) (b := k) (tgt := 32) hE dX1_firstSecondOf_10 (by decide) (by omega) (by omega) (fun c10 => ?_) (fun c10 => ?_)
      · refine r_iconst (v := (-1)) hE dX1_firstSecondOf_32 (by decide) ?_
        refine r_ireturn hE dX1_firstSecondOf_33 rfl rfl (Nat.zero_le _) (Nat.zero_le _) ?_
        rw [← hv, show m9 = 0 by omega]
        exact ⟨rfl, rfl⟩
      · refine r_aload_n hE dX1_firstSecondOf_13 rfl ?_
        refine t_getr hE f_X1_31 y_R_151_6 dX1_firstSecondOf_14 (hL 151 (by decide)) ?_
        refine r_iload_n hE dX1_firstSecondOf_17 rfl ?_
        refine t_ialdN (e := i) hE y_A_161 dX1_firstSecondOf_18 (hL 161 (by decide)) (by omega) (by decide) ?_
        refine r_iload_n hE dX1_firstSecondOf_19 rfl ?_
        refine r_iand hE dX1_firstSecondOf_20 ?_
        refine r_if_eq (tgt := 26) hE dX1_firstSecondOf_21 (by decide) (fun c21 => ?_) (fun c21 => ?_)
        · refine r_iincN (a := i) (b := 1) (ls2 := [(0, .ref 151), (1, .int u), (2, .int (nI (i + 1)))]) hE dX1_firstSecondOf_26 rfl rfl (by decide) rfl ?_
          refine r_goto (tgt := 2) hE dX1_firstSecondOf_29 (by decide) ?_
          refine ih (k + 1 - (i + 1)) (by omega) (i + 1) rfl (by omega) ?_
          rw [← hv, show m9 = (k + 1 - (i + 1)) + 1 by omega]
          exact (if_pos c21).symm
        · refine r_iload_n hE dX1_firstSecondOf_24 rfl ?_
          refine r_ireturn hE dX1_firstSecondOf_25 rfl rfl (Nat.zero_le _) (Nat.zero_le _) ?_
          rw [← hv, show m9 = (k - i) + 1 by omega]
          exact ⟨congrArg (fun z => some (Value.int z)) (if_neg c21).symm, rfl⟩
  refine r_iconst (v := 0) hE dX1_firstSecondOf_0 (by decide) ?_
  refine r_istore_n (ls2 := [(0, .ref 151), (1, .int u), (2, .int 0)]) hE dX1_firstSecondOf_1 (by decide) rfl ?_
  exact lp 0 (by omega) rfl
theorem k_allowUnseen {V : x_E} {n : Nat} {L : List Nat} {D : y_D} {k : Nat} (hL : y_ok L) (hs : (D 152).1 0 = nI k) (hk : k ≤ 300) : x_Fn V yX1_allowUnseen cX1_allowUnseen 3 none 0 [.ref 151] (y_mk n L D) none (y_mk n L (y_sw D 160 (y_cp (y_al D k) (D 160).1 (k + 1)))) := by
  refine x_fn (by decide) (Nat.le_of_ble_eq_true rfl) (fun E hE => ?_)
  change E 0 0 0 [(0, .ref 151)] [] (y_mk n L D)
  have lp : ∀ (i : Nat), i ≤ k + 1 → E 0 0 2 [(0, .ref 151), (1, .int (nI i))] [] (y_mk n L (y_sw D 160 (y_cp (y_al D k) (D 160).1 i))) := by
    intro i
    induction hm9 : (k + 1 - i) using Nat.strongRecOn generalizing i with
    | _ m9 ih =>
      intro hi
      refine r_iload_n hE dX1_allowUnseen_2 rfl ?_
      refine r_aload_n hE dX1_allowUnseen_3 rfl ?_
      refine t_getr hE f_X1_12 y_R_151_1 dX1_allowUnseen_4 (hL 151 (by decide)) ?_
      refine t_geti hE f_X1_82 y_I_152_0 dX1_allowUnseen_7 (hL 152 (by decide)) ?_
      refine r_top (y := (nI k)) hs ?_
      refine r_icmp_gtN (a := i) (b := k) (tgt := 64) hE dX1_allowUnseen_10 (by decide) (by omega) (by omega) (fun c10 => ?_) (fun c10 => ?_)
      · refine r_return hE dX1_allowUnseen_64 rfl (Nat.zero_le _) (Nat.zero_le _) ?_
        have hi2 : i = k + 1 := by omega
        subst hi2
        exact ⟨rfl, rfl⟩
      · refine r_aload_n hE dX1_allowUnseen_13 rfl ?_
        refine t_getr hE f_X1_12 y_R_151_1 dX1_allowUnseen_14 (hL 151 (by decide)) ?_
        refine t_getr hE f_X1_111 y_R_152_3 dX1_allowUnseen_17 (hL 152 (by decide)) ?_
        refine r_iload_n hE dX1_allowUnseen_20 rfl ?_
        refine t_ialdN (e := i) hE y_A_153 dX1_allowUnseen_21 (hL 153 (by decide)) (by omega) (by decide) ?_
        refine r_top (y := (D 153).1 i) rfl ?_
        refine r_if_ne (tgt := 36) hE dX1_allowUnseen_22 (by decide) (fun c22 => ?_) (fun c22 => ?_)
        · refine r_iconst (v := 1) hE dX1_allowUnseen_36 (by decide) ?_
          refine r_goto (tgt := 41) hE dX1_allowUnseen_37 (by decide) ?_
          refine r_istore_n (ls2 := [(0, .ref 151), (1, .int (nI i)), (2, .int 1)]) hE dX1_allowUnseen_41 (by decide) rfl ?_
          refine r_aload_n hE dX1_allowUnseen_42 rfl ?_
          refine t_getr hE f_X1_28 y_R_151_5 dX1_allowUnseen_43 (hL 151 (by decide)) ?_
          refine r_iload_n hE dX1_allowUnseen_46 rfl ?_
          refine r_iload_n hE dX1_allowUnseen_47 rfl ?_
          refine r_if_eq (tgt := 55) hE dX1_allowUnseen_48 (by decide) (fun c48 => by first | exact absurd c48 (by decide) | exact absurd (by decide) c48) (fun _ => ?_)
          refine r_iconst (v := 1) hE dX1_allowUnseen_51 (by decide) ?_
          refine r_goto (tgt := 57) hE dX1_allowUnseen_52 (by decide) ?_
          refine t_iastN (e := i) hE y_A_160 dX1_allowUnseen_57 (hL 160 (by decide)) (by omega) (by decide) ?_
          refine r_iincN (a := i) (b := 1) (ls2 := [(0, .ref 151), (1, .int (nI (i + 1))), (2, .int 1)]) hE dX1_allowUnseen_58 rfl rfl (by decide) rfl ?_
          refine r_goto (tgt := 2) hE dX1_allowUnseen_61 (by decide) ?_
          have e9 : y_al D k i = 1 := by
            unfold y_al
            first | rw [if_pos (by grind)] | rw [if_neg (by grind)]
          rw [y_si_sw, ← e9, y_cp_s]
          refine r_locs hE (ls2 := [(0, .ref 151), (1, .int (nI (i + 1)))]) ?_ (ih (k + 1 - (i + 1)) (by omega) (i + 1) rfl (by omega))
          simp [x_lk]
        · refine r_iload_n hE dX1_allowUnseen_25 rfl ?_
          refine r_aload_n hE dX1_allowUnseen_26 rfl ?_
          refine t_getr hE f_X1_12 y_R_151_1 dX1_allowUnseen_27 (hL 151 (by decide)) ?_
          refine t_geti hE f_X1_82 y_I_152_0 dX1_allowUnseen_30 (hL 152 (by decide)) ?_
          refine r_top (y := (nI k)) hs ?_
          refine r_icmp_neN (a := i) (b := k) (tgt := 40) hE dX1_allowUnseen_33 (by decide) (by omega) (by omega) (fun c33 => ?_) (fun c33 => ?_)
          · refine r_iconst (v := 0) hE dX1_allowUnseen_40 (by decide) ?_
            refine r_istore_n (ls2 := [(0, .ref 151), (1, .int (nI i)), (2, .int 0)]) hE dX1_allowUnseen_41 (by decide) rfl ?_
            refine r_aload_n hE dX1_allowUnseen_42 rfl ?_
            refine t_getr hE f_X1_28 y_R_151_5 dX1_allowUnseen_43 (hL 151 (by decide)) ?_
            refine r_iload_n hE dX1_allowUnseen_46 rfl ?_
            refine r_iload_n hE dX1_allowUnseen_47 rfl ?_
            refine r_if_eq (tgt := 55) hE dX1_allowUnseen_48 (by decide) (fun _ => ?_) (fun c48 => by first | exact absurd c48 (by decide) | exact absurd (by decide) c48)
            refine r_ldc (v := 65535) hE dX1_allowUnseen_55 (x_gin (List.mem_append_right _ (tb_4 _ (List.mem_of_getElem? (i := 228) rfl))) rfl) ?_
            refine t_iastN (e := i) hE y_A_160 dX1_allowUnseen_57 (hL 160 (by decide)) (by omega) (by decide) ?_
            refine r_iincN (a := i) (b := 1) (ls2 := [(0, .ref 151), (1, .int (nI (i + 1))), (2, .int 0)]) hE dX1_allowUnseen_58 rfl rfl (by decide) rfl ?_
            refine r_goto (tgt := 2) hE dX1_allowUnseen_61 (by decide) ?_
            have e9 : y_al D k i = 65535 := by
              unfold y_al
              first | rw [if_pos (by grind)] | rw [if_neg (by grind)]
            rw [y_si_sw, ← e9, y_cp_s]
            refine r_locs hE (ls2 := [(0, .ref 151), (1, .int (nI (i + 1)))]) ?_ (ih (k + 1 - (i + 1)) (by omega) (i + 1) rfl (by omega))
            simp [x_lk]
          · refine r_iconst (v := 1) hE dX1_allowUnseen_36 (by decide) ?_
            refine r_goto (tgt := 41) hE dX1_allowUnseen_37 (by decide) ?_
            refine r_istore_n (ls2 := [(0, .ref 151), (1, .int (nI i)), (2, .int 1)]) hE dX1_allowUnseen_41 (by decide) rfl ?_
            refine r_aload_n hE dX1_allowUnseen_42 rfl ?_
            refine t_getr hE f_X1_28 y_R_151_5 dX1_allowUnseen_43 (hL 151 (by decide)) ?_
            refine r_iload_n hE dX1_allowUnseen_46 rfl ?_
            refine r_iload_n hE dX1_allowUnseen_47 rfl ?_
            refine r_if_eq (tgt := 55) hE dX1_allowUnseen_48 (by decide) (fun c48 => by first | exact absurd c48 (by decide) | exact absurd (by decide) c48) (fun _ => ?_)
            refine r_iconst (v := 1) hE dX1_allowUnseen_51 (by decide) ?_
            refine r_goto (tgt := 57) hE dX1_allowUnseen_52 (by decide) ?_
            refine t_iastN (e := i) hE y_A_160 dX1_allowUnseen_57 (hL 160 (by decide)) (by omega) (by decide) ?_
            refine r_iincN (a := i) (b := 1) (ls2 := [(0, .ref 151), (1, .int (nI (i + 1))), (2, .int 1)]) hE dX1_allowUnseen_58 rfl rfl (by decide) rfl ?_
            refine r_goto (tgt := 2) hE dX1_allowUnseen_61 (by decide) ?_
            have e9 : y_al D k i = 1 := by
              unfold y_al
              first | rw [if_pos (by grind)] | rw [if_neg (by grind)]
            rw [y_si_sw, ← e9, y_cp_s]
            refine r_locs hE (ls2 := [(0, .ref 151), (1, .int (nI (i + 1)))]) ?_ (ih (k + 1 - (i + 1)) (by omega) (i + 1) rfl (by omega))
            simp [x_lk]
  refine r_iconst (v := 0) hE dX1_allowUnseen_0 (by decide) ?_
  refine r_istore_n (ls2 := [(0, .ref 151), (1, .int 0)]) hE dX1_allowUnseen_1 (by decide) rfl ?_
  have h0 := lp 0 (by omega)
  rw [y_cp_0, y_sw_self] at h0
  exact h0
theorem k_setsFor {V : x_E} {n : Nat} {L : List Nat} {D : y_D} (hV : y_V V) {u : Int32} {th k kt : Nat} (hL : y_ok L) (hs : (D 73).1 4 = nI k) (hk : k ≤ 6) (hR2 : y_rq D L 77 6 2) (ht : (D 78).1 2 = nI kt) (hw : (D 78).1 0 = nI 3) (hkt : kt ≤ 6) (hth : th < 2 ^ 31) (hT0 : ∃ a, a ≤ 2 ∧ y_tg D kt th 0 = nI a) (hT1 : ∃ a, a ≤ 2 ∧ y_tg D kt th 1 = nI a) : x_Fn V yX0_setsFor cX0_setsFor 4 (some .int) 2 [.ref 73, .int (nI th), .int u] (y_mk n L D) (some (.int (K_setsFor D kt th k u))) (y_mk n L D) := by
  refine x_fn (by decide) (Nat.le_of_ble_eq_true rfl) (fun E hE => ?_)
  change E 0 0 0 [(0, .ref 73), (1, .int (nI th)), (2, .int u)] [] (y_mk n L D)
  obtain ⟨a, ha2, ha⟩ := hT0
  obtain ⟨b, hb2, hb⟩ := hT1
  refine r_aload_n hE dX0_setsFor_0 rfl ?_
  refine t_getr hE f_X0_32 y_R_73_5 dX0_setsFor_1 (hL 73 (by decide)) ?_
  refine r_iload_n hE dX0_setsFor_4 rfl ?_
  refine r_iconst (v := 2) hE dX0_setsFor_5 (by decide) ?_
  refine t_invv (r := (some (.int (y_tg D kt th 2)))) (S2 := (y_mk n L D)) hE [.int (nI th), .int 2] (k_get (D := D) (k := kt) (wd := 3) y_T_78 (hL 78 (by decide)) (hL 79 (by decide)) ht hw (by omega) (by decide) (by decide) (r := th) (c := 2) (by omega) (by decide) (by omega)) v_yX7_get m_X0_70 dX0_setsFor_6 rfl (hL 78 (by decide)) (y_l_78 (D 78)) rfl (by decide) ⟨Nat.le_refl _, Nat.le_refl _⟩ (Nat.le_of_ble_eq_true rfl) ?_
  show E 0 0 9 [(0, .ref 73), (1, .int (nI th)), (2, .int u)] [.int (y_tg D kt th 2)] (y_mk n L D)
  refine r_istore_n (ls2 := [(0, .ref 73), (1, .int (nI th)), (2, .int u), (3, .int (y_tg D kt th 2))]) hE dX0_setsFor_9 (by decide) rfl ?_
  refine r_iload_n hE dX0_setsFor_10 rfl ?_
  refine r_if_le (tgt := 25) hE dX0_setsFor_11 (by decide) (fun c11 => ?_) (fun c11 => ?_)
  · refine r_getsN (v := .ref 30) hE (y_Z30 hV) (hNf_X0_77 hV) dX0_setsFor_25 ?_
    refine r_aload_n hE dX0_setsFor_28 rfl ?_
    refine t_getr hE f_X0_32 y_R_73_5 dX0_setsFor_29 (hL 73 (by decide)) ?_
    refine r_iload_n hE dX0_setsFor_32 rfl ?_
    refine r_iconst (v := 0) hE dX0_setsFor_33 (by decide) ?_
    refine t_invv (r := (some (.int (y_tg D kt th 0)))) (S2 := (y_mk n L D)) hE [.int (nI th), .int 0] (k_get (D := D) (k := kt) (wd := 3) y_T_78 (hL 78 (by decide)) (hL 79 (by decide)) ht hw (by omega) (by decide) (by decide) (r := th) (c := 0) (by omega) (by decide) (by omega)) v_yX7_get m_X0_70 dX0_setsFor_34 rfl (hL 78 (by decide)) (y_l_78 (D 78)) rfl (by decide) ⟨Nat.le_refl _, Nat.le_refl _⟩ (Nat.le_of_ble_eq_true rfl) ?_
    show E 0 0 37 [(0, .ref 73), (1, .int (nI th)), (2, .int u), (3, .int (y_tg D kt th 2))] [.int (y_tg D kt th 0), .ref 30] (y_mk n L D)
    refine r_top (y := (nI a)) ha ?_
    refine t_shn (e := a) hE hV dX0_setsFor_37 (by omega) ?_
    refine r_getsN (v := .ref 31) hE (y_Z31 hV) (hNf_X0_81 hV) dX0_setsFor_38 ?_
    refine r_aload_n hE dX0_setsFor_41 rfl ?_
    refine t_getr hE f_X0_32 y_R_73_5 dX0_setsFor_42 (hL 73 (by decide)) ?_
    refine r_iload_n hE dX0_setsFor_45 rfl ?_
    refine r_iconst (v := 1) hE dX0_setsFor_46 (by decide) ?_
    refine t_invv (r := (some (.int (y_tg D kt th 1)))) (S2 := (y_mk n L D)) hE [.int (nI th), .int 1] (k_get (D := D) (k := kt) (wd := 3) y_T_78 (hL 78 (by decide)) (hL 79 (by decide)) ht hw (by omega) (by decide) (by decide) (r := th) (c := 1) (by omega) (by decide) (by omega)) v_yX7_get m_X0_70 dX0_setsFor_47 rfl (hL 78 (by decide)) (y_l_78 (D 78)) rfl (by decide) ⟨Nat.le_refl _, Nat.le_refl _⟩ (Nat.le_of_ble_eq_true rfl) ?_
    show E 0 0 50 [(0, .ref 73), (1, .int (nI th)), (2, .int u), (3, .int (y_tg D kt th 2))] [.int (y_tg D kt th 1), .ref 31, .int (y_shn a)] (y_mk n L D)
    refine r_top (y := (nI b)) hb ?_
    refine t_sft (e := b) hE hV dX0_setsFor_50 (by omega) ?_
    refine r_iand hE dX0_setsFor_51 ?_
    refine r_ireturn hE dX0_setsFor_52 rfl rfl (Nat.zero_le _) (Nat.zero_le _) ?_
    have h0 := y_gr_pos (D := D) (u := u) k
    unfold K_setsFor
    rw [if_neg (by grind), ha, hb, y_sf_t a (by omega) b (by omega)]
    exact ⟨rfl, rfl⟩
  · refine r_aload_n hE dX0_setsFor_14 rfl ?_
    refine r_iload_n hE dX0_setsFor_15 rfl ?_
    refine t_invv (r := (some (.int (y_gr D u k)))) (S2 := (y_mk n L D)) hE [.int u] (k_greatestReach hV hL hs hk hR2) v_yX0_greatestReach m_X0_74 dX0_setsFor_16 rfl (hL 73 (by decide)) (y_l_73 (D 73)) rfl (by decide) ⟨Nat.le_refl _, Nat.le_refl _⟩ (Nat.le_of_ble_eq_true rfl) ?_
    show E 0 0 19 [(0, .ref 73), (1, .int (nI th)), (2, .int u), (3, .int (y_tg D kt th 2))] [.int (y_gr D u k)] (y_mk n L D)
    refine r_iload_n hE dX0_setsFor_19 rfl ?_
    refine r_icmp_ge (tgt := 25) hE dX0_setsFor_20 (by decide) (fun c20 => ?_) (fun c20 => ?_)
    · refine r_getsN (v := .ref 30) hE (y_Z30 hV) (hNf_X0_77 hV) dX0_setsFor_25 ?_
      refine r_aload_n hE dX0_setsFor_28 rfl ?_
      refine t_getr hE f_X0_32 y_R_73_5 dX0_setsFor_29 (hL 73 (by decide)) ?_
      refine r_iload_n hE dX0_setsFor_32 rfl ?_
      refine r_iconst (v := 0) hE dX0_setsFor_33 (by decide) ?_
      refine t_invv (r := (some (.int (y_tg D kt th 0)))) (S2 := (y_mk n L D)) hE [.int (nI th), .int 0] (k_get (D := D) (k := kt) (wd := 3) y_T_78 (hL 78 (by decide)) (hL 79 (by decide)) ht hw (by omega) (by decide) (by decide) (r := th) (c := 0) (by omega) (by decide) (by omega)) v_yX7_get m_X0_70 dX0_setsFor_34 rfl (hL 78 (by decide)) (y_l_78 (D 78)) rfl (by decide) ⟨Nat.le_refl _, Nat.le_refl _⟩ (Nat.le_of_ble_eq_true rfl) ?_
      show E 0 0 37 [(0, .ref 73), (1, .int (nI th)), (2, .int u), (3, .int (y_tg D kt th 2))] [.int (y_tg D kt th 0), .ref 30] (y_mk n L D)
      refine r_top (y := (nI a)) ha ?_
      refine t_shn (e := a) hE hV dX0_setsFor_37 (by omega) ?_
      refine r_getsN (v := .ref 31) hE (y_Z31 hV) (hNf_X0_81 hV) dX0_setsFor_38 ?_
      refine r_aload_n hE dX0_setsFor_41 rfl ?_
      refine t_getr hE f_X0_32 y_R_73_5 dX0_setsFor_42 (hL 73 (by decide)) ?_
      refine r_iload_n hE dX0_setsFor_45 rfl ?_
      refine r_iconst (v := 1) hE dX0_setsFor_46 (by decide) ?_
      refine t_invv (r := (some (.int (y_tg D kt th 1)))) (S2 := (y_mk n L D)) hE [.int (nI th), .int 1] (k_get (D := D) (k := kt) (wd := 3) y_T_78 (hL 78 (by decide)) (hL 79 (by decide)) ht hw (by omega) (by decide) (by decide) (r := th) (c := 1) (by omega) (by decide) (by omega)) v_yX7_get m_X0_70 dX0_setsFor_47 rfl (hL 78 (by decide)) (y_l_78 (D 78)) rfl (by decide) ⟨Nat.le_refl _, Nat.le_refl _⟩ (Nat.le_of_ble_eq_true rfl) ?_
      show E 0 0 50 [(0, .ref 73), (1, .int (nI th)), (2, .int u), (3, .int (y_tg D kt th 2))] [.int (y_tg D kt th 1), .ref 31, .int (y_shn a)] (y_mk n L D)
      refine r_top (y := (nI b)) hb ?_
      refine t_sft (e := b) hE hV dX0_setsFor_50 (by omega) ?_
      refine r_iand hE dX0_setsFor_51 ?_
      refine r_ireturn hE dX0_setsFor_52 rfl rfl (Nat.zero_le _) (Nat.zero_le _) ?_
      have h0 := y_gr_pos (D := D) (u := u) k
      unfold K_setsFor
      rw [if_neg (by grind), ha, hb, y_sf_t a (by omega) b (by omega)]
      exact ⟨rfl, rfl⟩
    · refine r_iconst (v := 0) hE dX0_setsFor_23 (by decide) ?_
      refine r_ireturn hE dX0_setsFor_24 rfl rfl (Nat.zero_le _) (Nat.zero_le _) ?_
      unfold K_setsFor
      rw [if_pos (by grind)]
      exact ⟨rfl, rfl⟩

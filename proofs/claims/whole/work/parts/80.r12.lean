/-! the class's words, signs and numbers -/
theorem srT_9 {V : x_E} (hV : y_V V) : ∀ (U : State) (H : Heap), V.2.2.2.2.2.2 U H → vk_R RX8 9 "hold by tie lit to last free take reach need or and not dark helped loose held tied tired second limbs knows slack " (V.2.2.2.2.1 2) U := fun U H hI => (hV.2 U H hI).2.1 2 (RX8, 9, "hold by tie lit to last free take reach need or and not dark helped loose held tied tired second limbs knows slack ") rfl
theorem srT_25 {V : x_E} (hV : y_V V) : ∀ (U : State) (H : Heap), V.2.2.2.2.2.2 U H → vk_R RX8 25 ";()+<>" (V.2.2.2.2.1 3) U := fun U H hI => (hV.2 U H hI).2.1 3 (RX8, 25, ";()+<>") rfl
/-- the bytes from a to c are those of the words' text from u to v -/
abbrev k_sm (T : Nat → Int32) (a c u v : Nat) : Prop := c - a = v - u ∧ ∀ j, j < c - a → T (a + j) = (y_bt 2).getD (u + j) 0
def k_wd (T : Nat → Int32) (a c : Nat) : Nat → Nat → Nat → Nat → Nat
  | 0, _, _, _ => 1
  | f + 1, q, t, u => if (y_bt 2).getD q 0 = 32 then (if k_sm T a c u q then t else k_wd T a c f (q + 1) (t + 1) (q + 1)) else k_wd T a c f (q + 1) t u
/-- the token of the word from a to c -/
def k_word (T : Nat → Int32) (a c : Nat) : Nat := k_wd T a c (y_bt 2).length 0 10 0
def k_chr (x : Int32) : Nat := x.toBitVec.toNat % 256
theorem k_and255 (x : Int32) : x &&& 255 = nI (k_chr x) := by
  apply Int32.toBitVec_inj.mp
  rw [Int32.toBitVec_and]
  apply BitVec.eq_of_toNat_eq
  rw [BitVec.toNat_and]
  show x.toBitVec.toNat &&& (2 ^ 8 - 1) = (Int32.ofNat (k_chr x)).toBitVec.toNat
  rw [Nat.and_two_pow_sub_one_eq_mod, Int32.toBitVec_ofNat']
  show _ = (k_chr x) % 2 ^ 32
  unfold k_chr
  omega
theorem k_c16 : ∀ c, c < 256 → ((nI c).toUInt32 % 65536).toInt32 = nI c := by decide +kernel
def k_sign (x : Int32) : Int32 := if 0 ≤ y_ixk (y_bt 3) (nI (k_chr x)).toInt8.toInt32 (y_bt 3).length 0 then 4 + y_ixk (y_bt 3) (nI (k_chr x)).toInt8.toInt32 (y_bt 3).length 0 else 1
/-- the number of the digits from a to c -/
def k_num (T : Nat → Int32) (a c : Nat) : Nat := if c - a ≤ 3 then l_v T a (c - a) else 1000
theorem y_bt2 : (y_bt 2).length = 115 := by decide +kernel
theorem k_isSame {V : x_E} {n : Nat} {L : List Nat} {D : y_D} {a c u v : Nat} (hV : y_V V) (hF : y_fm V) (hL : y_ok L) (ha : a ≤ c) (hc : c ≤ 400) (hu : u ≤ v) (hv : v ≤ 115) : x_Fn V yX8_isSame cX8_isSame 6 (some .boolean) 4 [.ref 65, .int (nI a), .int (nI c), .int (nI u), .int (nI v)] (y_mk n L D) (some (.int (y_b (k_sm (D 65).1 a c u v)))) (y_mk n L D) := by
  refine x_fn (by decide) (Nat.le_of_ble_eq_true rfl) (fun E hE => ?_)
  change E 0 0 0 [(0, .ref 65), (1, .int (nI a)), (2, .int (nI c)), (3, .int (nI u)), (4, .int (nI v))] [] (y_mk n L D)
  have l1 : ∀ (q : Nat), a ≤ q ∧ q ≤ c → (∀ j, j < q - a → (D 65).1 (a + j) = (y_bt 2).getD (u + j) 0) → c - a = v - u → E 0 0 15 [(0, .ref 65), (1, .int (nI a)), (2, .int (nI c)), (3, .int (nI u)), (4, .int (nI v)), (5, .int (nI q))] [] (y_mk n L D) := by
    intro q
    induction hm9 : (c - q) using Nat.strongRecOn generalizing q with
    | _ m9 ih =>
      intro hq0 hq c7
      subst hm9
      have h2 := y_bt2
      refine r_iload hE dX8_isSame_15 rfl ?_
      refine r_iload_n hE dX8_isSame_17 rfl ?_
      refine r_icmp_geN (a := q) (b := c) (tgt := 47) hE dX8_isSame_18 (by decide) (by omega) (by omega) (fun c18 => ?_) (fun c18 => ?_)
      · refine r_iconst (v := 1) hE dX8_isSame_47 (by decide) ?_
        refine r_ireturn hE dX8_isSame_48 rfl (by rfl) (Nat.zero_le _) (Nat.zero_le _) ?_
        exact ⟨by rw [y_b_t ⟨c7, fun j hj => hq j (by omega)⟩], rfl⟩
      · refine r_aload_n hE dX8_isSame_21 rfl ?_
        refine r_iload hE dX8_isSame_22 rfl ?_
        refine t_baldN (e := q) hE y_A_65 dX8_isSame_24 (hL 65 (by decide)) (by omega) (by decide) ?_
        refine r_ldcS (h := 2) hE (by decide) (srT_9 hV) dX8_isSame_25 ?_
        refine r_iload_n hE dX8_isSame_27 rfl ?_
        refine r_iload hE dX8_isSame_28 rfl ?_
        refine r_iaddN (a := u) (b := q) hE dX8_isSame_30 ?_
        refine r_iload_n hE dX8_isSame_31 rfl ?_
        refine r_isubN (a := u + q) (b := a) hE dX8_isSame_32 (by omega) ?_
        refine t_invvI (r := some (.int ((y_bt 2).getD ((u + q) - a) 0))) hE hV (by decide) rfl [.int (nI ((u + q) - a))] (j_charAt (i := 2) (a := (u + q) - a) hV hF (by decide) (by omega)) v_yJ0_charAt_5068e m_X8_17 dX8_isSame_33 rfl (by decide) ⟨Nat.le_refl _, Nat.le_refl _⟩ (Nat.le_of_ble_eq_true rfl) ?_
        show E 0 0 36 [(0, .ref 65), (1, .int (nI a)), (2, .int (nI c)), (3, .int (nI u)), (4, .int (nI v)), (5, .int (nI q))] [.int ((y_bt 2).getD ((u + q) - a) 0), .int ((D 65).1 q)] (y_mk n L D)
        refine r_icmp_eq (tgt := 41) hE dX8_isSame_36 (by decide) (fun c36 => ?_) (fun c36 => ?_)
        · refine r_iincN (a := q) (b := 1) (ls2 := [(0, .ref 65), (1, .int (nI a)), (2, .int (nI c)), (3, .int (nI u)), (4, .int (nI v)), (5, .int (nI (q + 1)))]) hE dX8_isSame_41 rfl rfl (by decide) rfl ?_
          refine r_goto (tgt := 15) hE dX8_isSame_44 (by decide) ?_
          exact ih (c - (q + 1)) (by omega) (q + 1) rfl (by omega) (fun j hj => by
            by_cases h : j = q - a
            · subst h
              rw [show a + (q - a) = q by omega, show u + (q - a) = u + q - a by omega]
              exact c36
            · exact hq j (by omega)) c7
        · refine r_iconst (v := 0) hE dX8_isSame_39 (by decide) ?_
          refine r_ireturn hE dX8_isSame_40 rfl (by rfl) (Nat.zero_le _) (Nat.zero_le _) ?_
          exact ⟨by rw [y_b_f (fun z => c36 (by have h := z.2 (q - a) (by omega); rw [show a + (q - a) = q by omega, show u + (q - a) = u + q - a by omega] at h; exact h))], rfl⟩
  refine r_iload_n hE dX8_isSame_0 rfl ?_
  refine r_iload_n hE dX8_isSame_1 rfl ?_
  refine r_isubN (a := c) (b := a) hE dX8_isSame_2 (by omega) ?_
  refine r_iload hE dX8_isSame_3 rfl ?_
  refine r_iload_n hE dX8_isSame_5 rfl ?_
  refine r_isubN (a := v) (b := u) hE dX8_isSame_6 (by omega) ?_
  refine r_icmp_eqN (a := c - a) (b := v - u) (tgt := 12) hE dX8_isSame_7 (by decide) (by omega) (by omega) (fun c7 => ?_) (fun c7 => ?_)
  · refine r_iload_n hE dX8_isSame_12 rfl ?_
    refine r_istore (ls2 := [(0, .ref 65), (1, .int (nI a)), (2, .int (nI c)), (3, .int (nI u)), (4, .int (nI v)), (5, .int (nI a))]) hE dX8_isSame_13 (by decide) rfl ?_
    exact l1 a ⟨by omega, by omega⟩ (fun j hj => absurd hj (by omega)) c7
  · refine r_iconst (v := 0) hE dX8_isSame_10 (by decide) ?_
    refine r_ireturn hE dX8_isSame_11 rfl (by rfl) (Nat.zero_le _) (Nat.zero_le _) ?_
    exact ⟨by rw [y_b_f (fun z => c7 z.1)], rfl⟩
theorem k_ofWord {V : x_E} {n : Nat} {L : List Nat} {D : y_D} {a c : Nat} (hV : y_V V) (hF : y_fm V) (hL : y_ok L) (ha : a ≤ c) (hc : c ≤ 400) : x_Fn V yX8_ofWord cX8_ofWord 6 (some .int) 5 [.ref 65, .int (nI a), .int (nI c)] (y_mk n L D) (some (.int (nI (k_word (D 65).1 a c)))) (y_mk n L D) := by
  refine x_fn (by decide) (Nat.le_of_ble_eq_true rfl) (fun E hE => ?_)
  change E 0 0 0 [(0, .ref 65), (1, .int (nI a)), (2, .int (nI c))] [] (y_mk n L D)
  have l1 : ∀ (f q t u : Nat), f + q = 115 ∧ u ≤ q ∧ t ≤ 10 + q → k_wd (D 65).1 a c f q t u = k_word (D 65).1 a c → E 0 0 9 [(0, .ref 65), (1, .int (nI a)), (2, .int (nI c)), (3, .int (nI t)), (4, .int (nI u)), (5, .int (nI q))] [] (y_mk n L D) := by
    intro f q t u
    induction hm9 : (f) using Nat.strongRecOn generalizing f q t u with
    | _ m9 ih =>
      intro hq hw
      subst hm9
      have h2 := y_bt2
      refine r_iload hE dX8_ofWord_9 rfl ?_
      refine r_ldcS (h := 2) hE (by decide) (srT_9 hV) dX8_ofWord_11 ?_
      refine t_invvI (r := some (.int (nI ((y_bt 2).length)))) hE hV (by decide) rfl [] (j_length hV (i := 2) (by decide)) v_yJ0_length_8abf5 m_X8_11 dX8_ofWord_13 rfl (by decide) ⟨Nat.le_refl _, Nat.le_refl _⟩ (Nat.le_of_ble_eq_true rfl) ?_
      show E 0 0 16 [(0, .ref 65), (1, .int (nI a)), (2, .int (nI c)), (3, .int (nI t)), (4, .int (nI u)), (5, .int (nI q))] [.int (nI ((y_bt 2).length)), .int (nI q)] (y_mk n L D)
      refine r_icmp_geN (a := q) (b := (y_bt 2).length) (tgt := 61) hE dX8_ofWord_16 (by decide) (by omega) (by omega) (fun c16 => ?_) (fun c16 => ?_)
      · refine r_iconst (v := 1) hE dX8_ofWord_61 (by decide) ?_
        refine r_ireturn hE dX8_ofWord_62 rfl rfl (Nat.zero_le _) (Nat.zero_le _) ?_
        exact ⟨by rw [← hw, show f = 0 by omega]; rfl, rfl⟩
      · refine r_ldcS (h := 2) hE (by decide) (srT_9 hV) dX8_ofWord_19 ?_
        refine r_iload hE dX8_ofWord_21 rfl ?_
        refine t_invvI (r := some (.int ((y_bt 2).getD q 0))) hE hV (by decide) rfl [.int (nI q)] (j_charAt (i := 2) (a := q) hV hF (by decide) (by omega)) v_yJ0_charAt_5068e m_X8_17 dX8_ofWord_23 rfl (by decide) ⟨Nat.le_refl _, Nat.le_refl _⟩ (Nat.le_of_ble_eq_true rfl) ?_
        show E 0 0 26 [(0, .ref 65), (1, .int (nI a)), (2, .int (nI c)), (3, .int (nI t)), (4, .int (nI u)), (5, .int (nI q))] [.int ((y_bt 2).getD q 0)] (y_mk n L D)
        refine r_bipush (v := 32) hE dX8_ofWord_26 (by decide) ?_
        refine r_icmp_ne (tgt := 55) hE dX8_ofWord_28 (by decide) (fun c28 => ?_) (fun c28 => ?_)
        · refine r_iincN (a := q) (b := 1) (ls2 := [(0, .ref 65), (1, .int (nI a)), (2, .int (nI c)), (3, .int (nI t)), (4, .int (nI u)), (5, .int (nI (q + 1)))]) hE dX8_ofWord_55 rfl rfl (by decide) rfl ?_
          refine r_goto (tgt := 9) hE dX8_ofWord_58 (by decide) ?_
          exact ih (f - 1) (by omega) (f - 1) (q + 1) t u rfl (by omega) (by rw [← hw]; conv => rhs; rw [show f = (f - 1) + 1 by omega, k_wd, if_neg c28])
        · refine r_aload_n hE dX8_ofWord_31 rfl ?_
          refine r_iload_n hE dX8_ofWord_32 rfl ?_
          refine r_iload_n hE dX8_ofWord_33 rfl ?_
          refine r_iload hE dX8_ofWord_34 rfl ?_
          refine r_iload hE dX8_ofWord_36 rfl ?_
          refine t_invs (r := (some (.int (y_b (k_sm (D 65).1 a c u q))))) (S2 := (y_mk n L D)) hE [.ref 65, .int (nI a), .int (nI c), .int (nI u), .int (nI q)] (k_isSame hV hF hL (by omega) (by omega) (by omega) (by omega)) s_yX8_isSame m_X8_21 dX8_ofWord_38 rfl (by decide) ⟨Nat.le_refl _, Nat.le_refl _⟩ (Nat.le_of_ble_eq_true rfl) ?_
          show E 0 0 41 [(0, .ref 65), (1, .int (nI a)), (2, .int (nI c)), (3, .int (nI t)), (4, .int (nI u)), (5, .int (nI q))] [.int (y_b (k_sm (D 65).1 a c u q))] (y_mk n L D)
          refine r_ifb_eq (tgt := 46) hE dX8_ofWord_41 (by decide) (fun c41 => ?_) (fun c41 => ?_)
          · refine r_iincN (a := t) (b := 1) (ls2 := [(0, .ref 65), (1, .int (nI a)), (2, .int (nI c)), (3, .int (nI (t + 1))), (4, .int (nI u)), (5, .int (nI q))]) hE dX8_ofWord_46 rfl rfl (by decide) rfl ?_
            refine r_iload hE dX8_ofWord_49 rfl ?_
            refine r_iconst (v := 1) hE dX8_ofWord_51 (by decide) ?_
            refine r_iaddN (a := q) (b := 1) hE dX8_ofWord_52 ?_
            refine r_istore (ls2 := [(0, .ref 65), (1, .int (nI a)), (2, .int (nI c)), (3, .int (nI (t + 1))), (4, .int (nI (q + 1))), (5, .int (nI q))]) hE dX8_ofWord_53 (by decide) rfl ?_
            refine r_iincN (a := q) (b := 1) (ls2 := [(0, .ref 65), (1, .int (nI a)), (2, .int (nI c)), (3, .int (nI (t + 1))), (4, .int (nI (q + 1))), (5, .int (nI (q + 1)))]) hE dX8_ofWord_55 rfl rfl (by decide) rfl ?_
            refine r_goto (tgt := 9) hE dX8_ofWord_58 (by decide) ?_
            exact ih (f - 1) (by omega) (f - 1) (q + 1) (t + 1) (q + 1) rfl (by omega) (by rw [← hw]; conv => rhs; rw [show f = (f - 1) + 1 by omega, k_wd, if_pos c28, if_neg c41])
          · refine r_iload_n hE dX8_ofWord_44 rfl ?_
            refine r_ireturn hE dX8_ofWord_45 rfl rfl (Nat.zero_le _) (Nat.zero_le _) ?_
            exact ⟨by rw [← hw, show f = (f - 1) + 1 by omega, k_wd, if_pos c28, if_pos c41], rfl⟩
  refine r_bipush (v := 10) hE dX8_ofWord_0 (by decide) ?_
  refine r_istore_n (ls2 := [(0, .ref 65), (1, .int (nI a)), (2, .int (nI c)), (3, .int 10)]) hE dX8_ofWord_2 (by decide) rfl ?_
  refine r_iconst (v := 0) hE dX8_ofWord_3 (by decide) ?_
  refine r_istore (ls2 := [(0, .ref 65), (1, .int (nI a)), (2, .int (nI c)), (3, .int 10), (4, .int 0)]) hE dX8_ofWord_4 (by decide) rfl ?_
  refine r_iconst (v := 0) hE dX8_ofWord_6 (by decide) ?_
  refine r_istore (ls2 := [(0, .ref 65), (1, .int (nI a)), (2, .int (nI c)), (3, .int 10), (4, .int 0), (5, .int 0)]) hE dX8_ofWord_7 (by decide) rfl ?_
  exact l1 115 0 10 0 (by omega) (by unfold k_word; rw [y_bt2])
theorem k_ofSign {V : x_E} {n : Nat} {L : List Nat} {D : y_D} {x : Int32} (hV : y_V V) (hF : y_fm V) (hL : y_ok L)  : x_Fn V yX8_ofSign cX8_ofSign 2 (some .int) 4 [.int x] (y_mk n L D) (some (.int (k_sign x))) (y_mk n L D) := by
  refine x_fn (by decide) (Nat.le_of_ble_eq_true rfl) (fun E hE => ?_)
  change E 0 0 0 [(0, .int x)] [] (y_mk n L D)
  refine r_ldcS (h := 3) hE (by decide) (srT_25 hV) dX8_ofSign_0 ?_
  refine r_iload_n hE dX8_ofSign_2 rfl ?_
  refine r_sipush (v := 255) hE dX8_ofSign_3 (by decide) ?_
  refine r_iand hE dX8_ofSign_6 ?_
  refine r_top (y := (nI (k_chr x))) (k_and255 x) ?_
  refine r_i2c hE dX8_ofSign_7 ?_
  refine r_top (y := (nI (k_chr x))) (k_c16 _ (Nat.mod_lt _ (by decide))) ?_
  refine t_invvI (r := some (.int (y_ixk (y_bt 3) (nI (k_chr x)).toInt8.toInt32 (y_bt 3).length 0))) hE hV (by decide) rfl [.int (nI (k_chr x))] (j_indexOf (i := 3) (c := k_chr x) hV (Nat.mod_lt _ (by decide)) (by decide) (by decide)) v_yJ0_indexOf_0f7a4 m_X8_27 dX8_ofSign_8 rfl (by decide) ⟨Nat.le_refl _, Nat.le_refl _⟩ (Nat.le_of_ble_eq_true rfl) ?_
  show E 0 0 11 [(0, .int x)] [.int (y_ixk (y_bt 3) (nI (k_chr x)).toInt8.toInt32 (y_bt 3).length 0)] (y_mk n L D)
  refine r_istore_n (ls2 := [(0, .int x), (1, .int (y_ixk (y_bt 3) (nI (k_chr x)).toInt8.toInt32 (y_bt 3).length 0))]) hE dX8_ofSign_11 (by decide) rfl ?_
  refine r_iload_n hE dX8_ofSign_12 rfl ?_
  refine r_if_ge (tgt := 20) hE dX8_ofSign_13 (by decide) (fun c13 => ?_) (fun c13 => ?_)
  · refine r_iconst (v := 4) hE dX8_ofSign_20 (by decide) ?_
    refine r_iload_n hE dX8_ofSign_21 rfl ?_
    refine r_iadd hE dX8_ofSign_22 ?_
    refine r_ireturn hE dX8_ofSign_23 rfl rfl (Nat.zero_le _) (Nat.zero_le _) ?_
    unfold k_sign
    first | rw [if_pos (by assumption)] | rw [if_neg (by assumption)]
    exact ⟨rfl, rfl⟩
  · refine r_iconst (v := 1) hE dX8_ofSign_16 (by decide) ?_
    refine r_goto (tgt := 23) hE dX8_ofSign_17 (by decide) ?_
    refine r_ireturn hE dX8_ofSign_23 rfl rfl (Nat.zero_le _) (Nat.zero_le _) ?_
    unfold k_sign
    first | rw [if_pos (by assumption)] | rw [if_neg (by assumption)]
    exact ⟨rfl, rfl⟩
theorem k_isLetter {V : x_E} {n : Nat} {L : List Nat} {D : y_D} {x : Int32} : x_Fn V yX5_isLetter cX5_isLetter 1 (some .boolean) 0 [.int x] (y_mk n L D) (some (.int (y_b (97 ≤ x ∧ x ≤ 122)))) (y_mk n L D) := by
  refine x_fn (by decide) (Nat.le_of_ble_eq_true rfl) (fun E hE => ?_)
  change E 0 0 0 [(0, .int x)] [] (y_mk n L D)
  refine r_iload_n hE dX5_isLetter_0 rfl ?_
  refine r_bipush (v := 97) hE dX5_isLetter_1 (by decide) ?_
  refine r_icmp_lt (tgt := 16) hE dX5_isLetter_3 (by decide) (fun c3 => ?_) (fun c3 => ?_)
  · refine r_iconst (v := 0) hE dX5_isLetter_16 (by decide) ?_
    refine r_ireturn hE dX5_isLetter_17 rfl (by decide) (Nat.zero_le _) (Nat.zero_le _) ?_
    exact ⟨by grind [y_b], rfl⟩
  · refine r_iload_n hE dX5_isLetter_6 rfl ?_
    refine r_bipush (v := 122) hE dX5_isLetter_7 (by decide) ?_
    refine r_icmp_gt (tgt := 16) hE dX5_isLetter_9 (by decide) (fun c9 => ?_) (fun c9 => ?_)
    · refine r_iconst (v := 0) hE dX5_isLetter_16 (by decide) ?_
      refine r_ireturn hE dX5_isLetter_17 rfl (by decide) (Nat.zero_le _) (Nat.zero_le _) ?_
      exact ⟨by grind [y_b], rfl⟩
    · refine r_iconst (v := 1) hE dX5_isLetter_12 (by decide) ?_
      refine r_goto (tgt := 17) hE dX5_isLetter_13 (by decide) ?_
      refine r_ireturn hE dX5_isLetter_17 rfl (by decide) (Nat.zero_le _) (Nat.zero_le _) ?_
      exact ⟨by grind [y_b], rfl⟩
theorem k_isDigit {V : x_E} {n : Nat} {L : List Nat} {D : y_D} {x : Int32} : x_Fn V yX5_isDigit cX5_isDigit 1 (some .boolean) 0 [.int x] (y_mk n L D) (some (.int (y_b (48 ≤ x ∧ x ≤ 57)))) (y_mk n L D) := by
  refine x_fn (by decide) (Nat.le_of_ble_eq_true rfl) (fun E hE => ?_)
  change E 0 0 0 [(0, .int x)] [] (y_mk n L D)
  refine r_iload_n hE dX5_isDigit_0 rfl ?_
  refine r_bipush (v := 48) hE dX5_isDigit_1 (by decide) ?_
  refine r_icmp_lt (tgt := 16) hE dX5_isDigit_3 (by decide) (fun c3 => ?_) (fun c3 => ?_)
  · refine r_iconst (v := 0) hE dX5_isDigit_16 (by decide) ?_
    refine r_ireturn hE dX5_isDigit_17 rfl (by decide) (Nat.zero_le _) (Nat.zero_le _) ?_
    exact ⟨by grind [y_b], rfl⟩
  · refine r_iload_n hE dX5_isDigit_6 rfl ?_
    refine r_bipush (v := 57) hE dX5_isDigit_7 (by decide) ?_
    refine r_icmp_gt (tgt := 16) hE dX5_isDigit_9 (by decide) (fun c9 => ?_) (fun c9 => ?_)
    · refine r_iconst (v := 0) hE dX5_isDigit_16 (by decide) ?_
      refine r_ireturn hE dX5_isDigit_17 rfl (by decide) (Nat.zero_le _) (Nat.zero_le _) ?_
      exact ⟨by grind [y_b], rfl⟩
    · refine r_iconst (v := 1) hE dX5_isDigit_12 (by decide) ?_
      refine r_goto (tgt := 17) hE dX5_isDigit_13 (by decide) ?_
      refine r_ireturn hE dX5_isDigit_17 rfl (by decide) (Nat.zero_le _) (Nat.zero_le _) ?_
      exact ⟨by grind [y_b], rfl⟩
theorem k_numberOf {V : x_E} {n : Nat} {L : List Nat} {D : y_D} {a c : Nat} (hL : y_ok L) (ha : a ≤ c) (hc : c ≤ 400) (hd : ∀ j, a ≤ j → j < c → (48 : Int32) ≤ (D 65).1 j ∧ (D 65).1 j ≤ 57) : x_Fn V yX5_numberOf cX5_numberOf 5 (some .int) 0 [.ref 65, .int (nI a), .int (nI c)] (y_mk n L D) (some (.int (nI (k_num (D 65).1 a c)))) (y_mk n L D) := by
  refine x_fn (by decide) (Nat.le_of_ble_eq_true rfl) (fun E hE => ?_)
  change E 0 0 0 [(0, .ref 65), (1, .int (nI a)), (2, .int (nI c))] [] (y_mk n L D)
  have l1 : ∀ (q v : Nat), a ≤ q ∧ q ≤ c → v = l_v (D 65).1 a (q - a) → c - a ≤ 3 → E 0 0 16 [(0, .ref 65), (1, .int (nI a)), (2, .int (nI c)), (3, .int (nI v)), (4, .int (nI q))] [] (y_mk n L D) := by
    intro q v
    induction hm9 : (c - q) using Nat.strongRecOn generalizing q v with
    | _ m9 ih =>
      intro hq0 hv c4
      subst hm9
      have hvb := l_vb (T := (D 65).1) (b := a) (q - a) (fun j h1 h2 => hd j h1 (by omega))
      rw [← hv] at hvb
      refine r_iload hE dX5_numberOf_16 rfl ?_
      refine r_iload_n hE dX5_numberOf_18 rfl ?_
      refine r_icmp_geN (a := q) (b := c) (tgt := 41) hE dX5_numberOf_19 (by decide) (by omega) (by omega) (fun c19 => ?_) (fun c19 => ?_)
      · refine r_iload_n hE dX5_numberOf_41 rfl ?_
        refine r_ireturn hE dX5_numberOf_42 rfl rfl (Nat.zero_le _) (Nat.zero_le _) ?_
        exact ⟨by unfold k_num; rw [if_pos (by omega), hv, show q = c by omega], rfl⟩
      · refine r_iload_n hE dX5_numberOf_22 rfl ?_
        refine r_bipush (v := 10) hE dX5_numberOf_23 (by decide) ?_
        refine r_imulN (a := v) (b := 10) hE dX5_numberOf_25 ?_
        refine r_aload_n hE dX5_numberOf_26 rfl ?_
        refine r_iload hE dX5_numberOf_27 rfl ?_
        refine t_baldN (e := q) hE y_A_65 dX5_numberOf_29 (hL 65 (by decide)) (by omega) (by decide) ?_
        refine r_top (y := (nI (((D 65).1 q).toNatClampNeg))) (l_dig (hd q hq0.1 c19)).1 ?_
        refine r_iaddN (a := v * 10) (b := ((D 65).1 q).toNatClampNeg) hE dX5_numberOf_30 ?_
        refine r_bipush (v := 48) hE dX5_numberOf_31 (by decide) ?_
        refine r_isubN (a := (v * 10) + (((D 65).1 q).toNatClampNeg)) (b := 48) hE dX5_numberOf_33 (by have h9 := l_dig (hd q hq0.1 c19); omega) ?_
        refine r_istore_n (ls2 := [(0, .ref 65), (1, .int (nI a)), (2, .int (nI c)), (3, .int (nI (((v * 10) + (((D 65).1 q).toNatClampNeg)) - 48))), (4, .int (nI q))]) hE dX5_numberOf_34 (by decide) rfl ?_
        refine r_iincN (a := q) (b := 1) (ls2 := [(0, .ref 65), (1, .int (nI a)), (2, .int (nI c)), (3, .int (nI (((v * 10) + (((D 65).1 q).toNatClampNeg)) - 48))), (4, .int (nI (q + 1)))]) hE dX5_numberOf_35 rfl rfl (by decide) rfl ?_
        refine r_goto (tgt := 16) hE dX5_numberOf_38 (by decide) ?_
        exact ih (c - (q + 1)) (by omega) (q + 1) _ rfl (by omega) (by rw [show q + 1 - a = (q - a) + 1 by omega, l_v, if_pos (by omega), ← hv, show a + (q - a) = q by omega, Nat.mul_comm]) c4
  refine r_iload_n hE dX5_numberOf_0 rfl ?_
  refine r_iload_n hE dX5_numberOf_1 rfl ?_
  refine r_isubN (a := c) (b := a) hE dX5_numberOf_2 (by omega) ?_
  refine r_iconst (v := 3) hE dX5_numberOf_3 (by decide) ?_
  refine r_icmp_leN (a := c - a) (b := 3) (tgt := 11) hE dX5_numberOf_4 (by decide) (by omega) (by decide) (fun c4 => ?_) (fun c4 => ?_)
  · refine r_iconst (v := 0) hE dX5_numberOf_11 (by decide) ?_
    refine r_istore_n (ls2 := [(0, .ref 65), (1, .int (nI a)), (2, .int (nI c)), (3, .int 0)]) hE dX5_numberOf_12 (by decide) rfl ?_
    refine r_iload_n hE dX5_numberOf_13 rfl ?_
    refine r_istore (ls2 := [(0, .ref 65), (1, .int (nI a)), (2, .int (nI c)), (3, .int 0), (4, .int (nI a))]) hE dX5_numberOf_14 (by decide) rfl ?_
    exact l1 a 0 ⟨by omega, by omega⟩ (by rw [Nat.sub_self]; rfl) c4
  · refine r_sipush (v := 1000) hE dX5_numberOf_7 (by decide) ?_
    refine r_ireturn hE dX5_numberOf_10 rfl rfl (Nat.zero_le _) (Nat.zero_le _) ?_
    exact ⟨by unfold k_num; rw [if_neg (by omega)]; rfl, rfl⟩

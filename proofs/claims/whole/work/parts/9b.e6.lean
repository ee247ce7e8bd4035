/-! the law: the wrappers of rule and way -/
theorem w_rule {V : x_E} (hV : y_V V) {n : Nat} {L : List Nat} {D : y_D} (hL : y_ok L) {d mc ms : Nat} {Q : Option Value → x_S → Prop} {QX : String → x_S → Prop} (hF : x_Cx V yX10_rule cX10_rule 2 (some .int) d mc ms (fun a0 S0 => a0 = [.ref 64] ∧ S0 = y_mk n L D) (fun _ _ r S1 => Q r S1) (fun _ _ E9 S1 => QX E9 S1)) (hQ : ∀ r S1, Q r S1 → ∃ (v : Int32) (n2 : Nat) (L2 : List Nat) (D2 : y_D), r = some (.int v) ∧ S1 = y_mk n2 L2 D2 ∧ y_ok L2) (hX9 : ∀ E9 S1, QX E9 S1 → (E9 = y_IAE ∨ E9 = y_UOE) ∧ ∃ (n2 : Nat) (D2 : y_D), S1 = y_mk n2 L D2) : x_Ch V yL_rule cL_rule 3 (some .int) [(0, 8, 11, 13), (0, 8, 14, 15)] (d + 1) mc ms (fun a0 S0 => a0 = [.ref 64, .ref 189] ∧ S0 = y_mk n L D) (fun _ _ r S1 => (∃ (v : Int32) (n2 : Nat) (L2 : List Nat) (D2 : y_D), Q (some (.int v)) (y_mk n2 L2 D2) ∧ r = some (.int 0) ∧ S1 = y_mk n2 L2 (y_sl D2 189 0 (y_gi v))) ∨ ∃ (k : Nat) (E9 : String), [y_IAE, y_UOE][k]? = some E9 ∧ QX E9 S1 ∧ r = some (.int (nI (k + 1)))) := by
  refine x_ch (by decide) (fun a0 S0 h => by rw [h.1]; exact Nat.le_of_ble_eq_true rfl) (fun a0 S0 h E EX hX => ?_)
  obtain ⟨rfl, rfl⟩ := h
  have hE := hX.x
  change E 0 0 0 [(0, .ref 64), (1, .ref 189)] [] (y_mk n L D)
  refine r_aload_n hE dL_rule_0 rfl ?_
  refine r_iconst (v := nI 0) hE dL_rule_1 (by decide) ?_
  refine r_aload_n hE dL_rule_2 rfl ?_
  refine r_invvX hX (h := 64) (st := [.int (nI 0), .ref 189]) [] hF v_yX10_rule m_L_17 dL_rule_3 rfl (hL 64 (by decide)) rfl rfl (Nat.le_refl _) ⟨by omega, by omega⟩ (Nat.le_of_ble_eq_true rfl) ⟨rfl, rfl⟩ (fun r0 S0 h => ?_) (fun E9 S0 h => ?_)
  · obtain ⟨v, n2, L2, D2, rfl, rfl, hL2⟩ := hQ r0 S0 h
    change E _ _ 6 [(0, .ref 64), (1, .ref 189)] [.int v, .int (nI 0), .ref 189] (y_mk n2 L2 D2)
    refine r_i2l hE dL_rule_6 ?_
    refine t_lastN (e := 0) hE y_J_189 dL_rule_7 (hL2 189 (by decide)) (by decide) (by decide) ?_
    refine r_goto (tgt := 17) hE dL_rule_8 (by decide) ?_
    refine r_iconst (v := 0) hE dL_rule_17 (by decide) ?_
    refine r_ireturn hE dL_rule_18 rfl rfl (by omega) (by omega) ?_
    exact Or.inl ⟨v, n2, L2, D2, h, rfl, rfl⟩
  · obtain ⟨hE9, n2, D2, rfl⟩ := hX9 E9 S0 h
    rcases hE9 with rfl | rfl
    · refine r_catch hX (E9 := y_IAE) (name := y_IAE) (k := 2) (pcH := 12) (ls2 := [(0, .ref 64), (1, .ref 189)]) [] ⟨0, 8, 11, 13⟩ [⟨0, 8, 14, 15⟩] rfl (fun z hz => by cases hz) rfl (by decide) cl_L_13 (ct_IAE hV) (Or.inr ⟨2, rfl, dL_rule_11, rfl⟩) (by decide) rfl ?_
      refine r_iconst (v := nI 1) hE dL_rule_12 (by decide) ?_
      refine r_ireturn hE dL_rule_13 rfl rfl (by omega) (by omega) ?_
      exact Or.inr ⟨0, _, rfl, h, rfl⟩
    · refine r_catch hX (E9 := y_UOE) (name := y_UOE) (k := 2) (pcH := 15) (ls2 := [(0, .ref 64), (1, .ref 189)]) [⟨0, 8, 11, 13⟩] ⟨0, 8, 14, 15⟩ [] rfl (fun z hz => by obtain rfl := List.mem_singleton.mp hz; exact Or.inr ⟨by decide, y_IAE, cl_L_13, nc_UOE_IAE hV⟩) rfl (by decide) cl_L_15 (ct_UOE hV) (Or.inr ⟨2, rfl, dL_rule_14, rfl⟩) (by decide) rfl ?_
      refine r_iconst (v := nI 2) hE dL_rule_15 (by decide) ?_
      refine r_ireturn hE dL_rule_16 rfl rfl (by omega) (by omega) ?_
      exact Or.inr ⟨1, _, rfl, h, rfl⟩
theorem w_way {V : x_E} (hV : y_V V) {n : Nat} {L : List Nat} {D : y_D} (hL : y_ok L) {d mc ms : Nat} {Q : Option Value → x_S → Prop} {QX : String → x_S → Prop} (hF : x_Cx V yX10_way cX10_way 2 (some .int) d mc ms (fun a0 S0 => a0 = [.ref 64] ∧ S0 = y_mk n L D) (fun _ _ r S1 => Q r S1) (fun _ _ E9 S1 => QX E9 S1)) (hQ : ∀ r S1, Q r S1 → ∃ (v : Int32) (n2 : Nat) (L2 : List Nat) (D2 : y_D), r = some (.int v) ∧ S1 = y_mk n2 L2 D2 ∧ y_ok L2) (hX9 : ∀ E9 S1, QX E9 S1 → (E9 = y_IAE ∨ E9 = y_UOE) ∧ ∃ (n2 : Nat) (D2 : y_D), S1 = y_mk n2 L D2) : x_Ch V yL_way cL_way 3 (some .int) [(0, 8, 11, 13), (0, 8, 14, 15)] (d + 1) mc ms (fun a0 S0 => a0 = [.ref 64, .ref 189] ∧ S0 = y_mk n L D) (fun _ _ r S1 => (∃ (v : Int32) (n2 : Nat) (L2 : List Nat) (D2 : y_D), Q (some (.int v)) (y_mk n2 L2 D2) ∧ r = some (.int 0) ∧ S1 = y_mk n2 L2 (y_sl D2 189 0 (y_gi v))) ∨ ∃ (k : Nat) (E9 : String), [y_IAE, y_UOE][k]? = some E9 ∧ QX E9 S1 ∧ r = some (.int (nI (k + 1)))) := by
  refine x_ch (by decide) (fun a0 S0 h => by rw [h.1]; exact Nat.le_of_ble_eq_true rfl) (fun a0 S0 h E EX hX => ?_)
  obtain ⟨rfl, rfl⟩ := h
  have hE := hX.x
  change E 0 0 0 [(0, .ref 64), (1, .ref 189)] [] (y_mk n L D)
  refine r_aload_n hE dL_way_0 rfl ?_
  refine r_iconst (v := nI 0) hE dL_way_1 (by decide) ?_
  refine r_aload_n hE dL_way_2 rfl ?_
  refine r_invvX hX (h := 64) (st := [.int (nI 0), .ref 189]) [] hF v_yX10_way m_L_21 dL_way_3 rfl (hL 64 (by decide)) rfl rfl (Nat.le_refl _) ⟨by omega, by omega⟩ (Nat.le_of_ble_eq_true rfl) ⟨rfl, rfl⟩ (fun r0 S0 h => ?_) (fun E9 S0 h => ?_)
  · obtain ⟨v, n2, L2, D2, rfl, rfl, hL2⟩ := hQ r0 S0 h
    change E _ _ 6 [(0, .ref 64), (1, .ref 189)] [.int v, .int (nI 0), .ref 189] (y_mk n2 L2 D2)
    refine r_i2l hE dL_way_6 ?_
    refine t_lastN (e := 0) hE y_J_189 dL_way_7 (hL2 189 (by decide)) (by decide) (by decide) ?_
    refine r_goto (tgt := 17) hE dL_way_8 (by decide) ?_
    refine r_iconst (v := 0) hE dL_way_17 (by decide) ?_
    refine r_ireturn hE dL_way_18 rfl rfl (by omega) (by omega) ?_
    exact Or.inl ⟨v, n2, L2, D2, h, rfl, rfl⟩
  · obtain ⟨hE9, n2, D2, rfl⟩ := hX9 E9 S0 h
    rcases hE9 with rfl | rfl
    · refine r_catch hX (E9 := y_IAE) (name := y_IAE) (k := 2) (pcH := 12) (ls2 := [(0, .ref 64), (1, .ref 189)]) [] ⟨0, 8, 11, 13⟩ [⟨0, 8, 14, 15⟩] rfl (fun z hz => by cases hz) rfl (by decide) cl_L_13 (ct_IAE hV) (Or.inr ⟨2, rfl, dL_way_11, rfl⟩) (by decide) rfl ?_
      refine r_iconst (v := nI 1) hE dL_way_12 (by decide) ?_
      refine r_ireturn hE dL_way_13 rfl rfl (by omega) (by omega) ?_
      exact Or.inr ⟨0, _, rfl, h, rfl⟩
    · refine r_catch hX (E9 := y_UOE) (name := y_UOE) (k := 2) (pcH := 15) (ls2 := [(0, .ref 64), (1, .ref 189)]) [⟨0, 8, 11, 13⟩] ⟨0, 8, 14, 15⟩ [] rfl (fun z hz => by obtain rfl := List.mem_singleton.mp hz; exact Or.inr ⟨by decide, y_IAE, cl_L_13, nc_UOE_IAE hV⟩) rfl (by decide) cl_L_15 (ct_UOE hV) (Or.inr ⟨2, rfl, dL_way_14, rfl⟩) (by decide) rfl ?_
      refine r_iconst (v := nI 2) hE dL_way_15 (by decide) ?_
      refine r_ireturn hE dL_way_16 rfl rfl (by omega) (by omega) ?_
      exact Or.inr ⟨1, _, rfl, h, rfl⟩

theorem x_put_at {S : x_S} {h : Nat} {e : x_C} : (x_put S h e).2.2 h = e := by unfold x_put; dsimp only; rw [if_pos rfl]
theorem x_put_ne {S : x_S} {h j : Nat} {e : x_C} (hj : j ≠ h) : (x_put S h e).2.2 j = S.2.2 j := by unfold x_put; dsimp only; rw [if_neg hj]
theorem x_push_ne {S : x_S} {j : Nat} {e : x_C} (hj : j ≠ x_pi S.1) : (x_push S e).2.2 j = S.2.2 j := by unfold x_push; dsimp only; rw [if_neg hj]
theorem x_push_at {S : x_S} {e : x_C} : (x_push S e).2.2 (x_pi S.1) = e := by unfold x_push; dsimp only; rw [if_pos rfl]
theorem z_obj : Cond.instanceMethod Lib.objectInit ∈ gT := x_gin (by decide +kernel) rfl
theorem z_objc : Cond.code Lib.objectInit ⟨#[0xb1]⟩ 1 none ∈ gT := x_gin (by decide +kernel) rfl
theorem z_aI : Cond.arrayClass .int ∈ gT := x_gin (by decide +kernel) rfl
theorem z_aB : Cond.arrayClass .byte ∈ gT := x_gin (by decide +kernel) rfl
theorem z_aZ : Cond.arrayClass .boolean ∈ gT := x_gin (by decide +kernel) rfl
theorem z_aJ : Cond.arrayClass .long ∈ gT := x_gin (by decide +kernel) rfl
/-- contract of a constructor: it makes mc cells of ms places -/
abbrev z_Ct (V : x_E) (y : MethodName) (cc : ByteArray) (nL d mc ms : Nat) (a : List Value) (S S2 : x_S) : Prop := x_Ct V y cc nL none d mc ms (fun a0 S0 => a0 = a ∧ S0 = S) (fun _ _ r0 S1 => r0 = none ∧ S1 = S2)
theorem z_ct {V : x_E} {y : MethodName} {cc : ByteArray} {nL d mc ms : Nat} {a : List Value} {S S2 : x_S} (hy : plainName y.cls = true) (hn : (lg_sl a).length ≤ nL) (body : ∀ E, x_X V y.cls cc nL none d mc ms y.name (fun r0 S1 => r0 = none ∧ S1 = S2) E → E 0 0 0 (lv_args 0 a) [] S) : z_Ct V y cc nL d mc ms a S S2 :=
  x_met hy (fun a0 S0 h => by rw [h.1]; exact hn) (fun a0 S0 h E hE => by obtain ⟨rfl, rfl⟩ := h; exact body E hE)
def z_Table (S : x_S) (h mo co : Nat) : x_S := x_put (x_push (x_put S h (.inr (7, [.int (nI co), .null, .int 0]))) (.inl (0, mo * co, .inl (fun _ => 0)))) h (.inr (7, [.int (nI co), .ref (x_pi S.1), .int 0]))
def z_Rule (S : x_S) (h q : Nat) : x_S := x_put S h (.inr (4, [.ref q]))
def z_Way (S : x_S) (h q : Nat) (a b c : Int32) : x_S := x_put (x_put (x_put (x_put S h (.inr (8, [.int a, .int 0, .int 0, .null]))) h (.inr (8, [.int a, .int b, .int 0, .null]))) h (.inr (8, [.int a, .int b, .int c, .null]))) h (.inr (8, [.int a, .int b, .int c, .ref q]))
set_option maxRecDepth 100000 in
theorem z_cTable {V : x_E} {S : x_S} {h mo co : Nat} (hm : h ∈ S.2.1) (hlt : x_pm h < S.1) (hc : S.2.2 h = .inr (7, [.int 0, .null, .int 0])) (hb : mo * co < 1000) : z_Ct V yX7_init cX7_init 3 1 1 (mo * co) [.ref h, .int (nI mo), .int (nI co)] S (z_Table S h mo co) := by
  refine z_ct (by decide) (Nat.le_of_ble_eq_true rfl) (fun E hE => ?_)
  change E 0 0 0 [(0, .ref h), (1, .int (nI mo)), (2, .int (nI co))] [] S
  refine r_aload_n hE dX7_init_0 rfl ?_
  refine r_obj hE (x_gin (List.mem_append_right _ (tb_1 _ (List.mem_of_getElem? (i := 110) rfl))) rfl) z_obj z_objc dX7_init_1 (by decide) (Nat.le_of_ble_eq_true rfl) ?_
  refine r_aload_n hE dX7_init_4 rfl ?_
  refine r_iload_n hE dX7_init_5 rfl ?_
  refine r_putF hE f_X7_7 dX7_init_6 hm hc rfl rfl (Nat.le_of_ble_eq_true rfl) ?_
  refine r_aload_n hE dX7_init_9 rfl ?_
  refine r_iload_n hE dX7_init_10 rfl ?_
  refine r_iload_n hE dX7_init_11 rfl ?_
  refine r_imulN (a := mo) (b := co) hE dX7_init_12 ?_
  refine r_newa (at0 := .int) (t := 0) (N := mo * co) hE (by decide) rfl z_aI dX7_init_13 (nI_pos (by omega)) (nI_clamp (by omega)) (by omega) ⟨by omega, by omega⟩ ?_
  refine r_putF hE f_X7_13 dX7_init_15 (List.mem_append_left _ hm) (fs := [.int (nI co), .null, .int 0]) ?_ rfl rfl (Nat.le_of_ble_eq_true rfl) ?_
  · rw [x_push_ne (by show h ≠ x_pi S.1; exact x_pm_ne hlt), x_put_at]; rfl
  · exact r_return hE dX7_init_18 rfl (Nat.le_refl _) (by omega) ⟨rfl, rfl⟩
set_option maxRecDepth 100000 in
theorem z_cRule {V : x_E} {S : x_S} {h q : Nat} (hm : h ∈ S.2.1) (hc : S.2.2 h = .inr (4, [.null])) : z_Ct V yX4_init cX4_init 2 1 0 0 [.ref h, .ref q] S (z_Rule S h q) := by
  refine z_ct (by decide) (Nat.le_of_ble_eq_true rfl) (fun E hE => ?_)
  change E 0 0 0 [(0, .ref h), (1, .ref q)] [] S
  refine r_aload_n hE dX4_init_0 rfl ?_
  refine r_obj hE (x_gin (List.mem_append_right _ (tb_1 _ (List.mem_of_getElem? (i := 132) rfl))) rfl) z_obj z_objc dX4_init_1 (by decide) (Nat.le_of_ble_eq_true rfl) ?_
  refine r_aload_n hE dX4_init_4 rfl ?_
  refine r_aload_n hE dX4_init_5 rfl ?_
  refine r_putF hE f_X4_7 dX4_init_6 hm hc rfl rfl (Nat.le_of_ble_eq_true rfl) ?_
  exact r_return hE dX4_init_9 rfl (Nat.le_refl _) (Nat.le_refl _) ⟨rfl, rfl⟩
set_option maxRecDepth 100000 in
theorem z_cWay {V : x_E} {S : x_S} {h q : Nat} {a b c : Int32} (hm : h ∈ S.2.1) (hc : S.2.2 h = .inr (8, [.int 0, .int 0, .int 0, .null])) : z_Ct V yX9_init cX9_init 5 1 0 0 [.ref h, .int a, .int b, .int c, .ref q] S (z_Way S h q a b c) := by
  refine z_ct (by decide) (Nat.le_of_ble_eq_true rfl) (fun E hE => ?_)
  change E 0 0 0 [(0, .ref h), (1, .int a), (2, .int b), (3, .int c), (4, .ref q)] [] S
  refine r_aload_n hE dX9_init_0 rfl ?_
  refine r_obj hE (x_gin (List.mem_append_right _ (tb_1 _ (List.mem_of_getElem? (i := 142) rfl))) rfl) z_obj z_objc dX9_init_1 (by decide) (Nat.le_of_ble_eq_true rfl) ?_
  refine r_aload_n hE dX9_init_4 rfl ?_
  refine r_iload_n hE dX9_init_5 rfl ?_
  refine r_putF hE f_X9_9 dX9_init_6 hm hc rfl rfl (Nat.le_of_ble_eq_true rfl) ?_
  refine r_aload_n hE dX9_init_9 rfl ?_
  refine r_iload_n hE dX9_init_10 rfl ?_
  refine r_putF hE f_X9_15 dX9_init_11 hm x_put_at rfl rfl (Nat.le_of_ble_eq_true rfl) ?_
  refine r_aload_n hE dX9_init_14 rfl ?_
  refine r_iload_n hE dX9_init_15 rfl ?_
  refine r_putF hE f_X9_18 dX9_init_16 hm x_put_at rfl rfl (Nat.le_of_ble_eq_true rfl) ?_
  refine r_aload_n hE dX9_init_19 rfl ?_
  refine r_aload hE dX9_init_20 rfl ?_
  refine r_putF hE f_X9_21 dX9_init_22 hm x_put_at rfl rfl (Nat.le_of_ble_eq_true rfl) ?_
  exact r_return hE dX9_init_25 rfl (Nat.le_refl _) (Nat.le_refl _) ⟨rfl, rfl⟩
def z_0 : x_S := (64, [], fun _ => .inl (0, 0, .inl (fun _ => 0)))
def z_1 : x_S := x_push z_0 (.inr (9, [.null, .int 0, .null, .null, .null, .int 0, .null, .null, .null, .null, .null]))
def z_2 : x_S := x_push z_1 (.inl (1, 400, x_at0 1))
def z_3 : x_S := x_put z_2 64 (.inr (9, [.ref 65, .int 0, .null, .null, .null, .int 0, .null, .null, .null, .null, .null]))
def z_4 : x_S := x_push z_3 (.inr (2, [.null, .int 0, .int 0, .null, .int 0, .int 0, .int 0, .int 0, .null, .int 0]))
def z_5 : x_S := x_push z_4 (.inr (5, [.null, .null, .null, .int 0]))
def z_6 : x_S := x_push z_5 (.inl (0, 401, x_at0 0))
def z_7 : x_S := x_put z_6 67 (.inr (5, [.ref 68, .null, .null, .int 0]))
def z_8 : x_S := x_push z_7 (.inl (0, 401, x_at0 0))
def z_9 : x_S := x_put z_8 67 (.inr (5, [.ref 68, .ref 69, .null, .int 0]))
def z_10 : x_S := x_push z_9 (.inl (0, 401, x_at0 0))
def z_11 : x_S := x_put z_10 67 (.inr (5, [.ref 68, .ref 69, .ref 70, .int 0]))
set_option maxRecDepth 100000 in
theorem z_cX5_1 {V : x_E} (hV : y_V V) : z_Ct V yX5_init cX5_init 1 1 3 1203 [.ref 67] z_5 z_11 := by
  refine z_ct (by decide) (Nat.le_of_ble_eq_true rfl) (fun E hE => ?_)
  change E 0 0 0 [(0, .ref 67)] [] z_5
  refine r_aload_n hE dX5_init_0 rfl ?_
  refine r_obj hE (x_gin (List.mem_append_right _ (tb_1 _ (List.mem_of_getElem? (i := 48) rfl))) rfl) z_obj z_objc dX5_init_1 (by decide) (Nat.le_of_ble_eq_true rfl) ?_
  refine r_aload_n hE dX5_init_4 rfl ?_
  refine r_sipush (v := 401) hE dX5_init_5 (by decide) ?_
  refine r_newa (at0 := .int) (t := 0) (N := 401) hE (by decide) rfl z_aI dX5_init_8 (by decide) (by decide) (by decide) ⟨by decide, by decide⟩ ?_
  show E 1 401 10 [(0, .ref 67)] [.ref 68, .ref 67] z_6
  refine r_putF hE f_X5_9 dX5_init_10 (List.mem_of_getElem? (i := 3) rfl) (fs := [.null, .null, .null, .int 0]) rfl rfl rfl (Nat.le_of_ble_eq_true rfl) ?_
  show E 1 401 13 [(0, .ref 67)] [] z_7
  refine r_aload_n hE dX5_init_13 rfl ?_
  refine r_sipush (v := 401) hE dX5_init_14 (by decide) ?_
  refine r_newa (at0 := .int) (t := 0) (N := 401) hE (by decide) rfl z_aI dX5_init_17 (by decide) (by decide) (by decide) ⟨by decide, by decide⟩ ?_
  show E 2 802 19 [(0, .ref 67)] [.ref 69, .ref 67] z_8
  refine r_putF hE f_X5_15 dX5_init_19 (List.mem_of_getElem? (i := 3) rfl) (fs := [.ref 68, .null, .null, .int 0]) rfl rfl rfl (Nat.le_of_ble_eq_true rfl) ?_
  show E 2 802 22 [(0, .ref 67)] [] z_9
  refine r_aload_n hE dX5_init_22 rfl ?_
  refine r_sipush (v := 401) hE dX5_init_23 (by decide) ?_
  refine r_newa (at0 := .int) (t := 0) (N := 401) hE (by decide) rfl z_aI dX5_init_26 (by decide) (by decide) (by decide) ⟨by decide, by decide⟩ ?_
  show E 3 1203 28 [(0, .ref 67)] [.ref 70, .ref 67] z_10
  refine r_putF hE f_X5_18 dX5_init_28 (List.mem_of_getElem? (i := 3) rfl) (fs := [.ref 68, .ref 69, .null, .int 0]) rfl rfl rfl (Nat.le_of_ble_eq_true rfl) ?_
  show E 3 1203 31 [(0, .ref 67)] [] z_11
  exact r_return hE dX5_init_31 rfl (Nat.le_refl _) (Nat.le_refl _) ⟨rfl, rfl⟩
def z_12 : x_S := x_put z_11 66 (.inr (2, [.ref 67, .int 0, .int 0, .null, .int 0, .int 0, .int 0, .int 0, .null, .int 0]))
def z_13 : x_S := x_put z_12 66 (.inr (2, [.ref 67, .int 0, .int (-1), .null, .int 0, .int 0, .int 0, .int 0, .null, .int 0]))
def z_14 : x_S := x_push z_13 (.inl (0, 30, x_at0 0))
def z_15 : x_S := x_put z_14 66 (.inr (2, [.ref 67, .int 0, .int (-1), .ref 71, .int 0, .int 0, .int 0, .int 0, .null, .int 0]))
def z_16 : x_S := x_push z_15 (.inl (0, 800, x_at0 0))
def z_17 : x_S := x_put z_16 66 (.inr (2, [.ref 67, .int 0, .int (-1), .ref 71, .int 0, .int 0, .int 0, .int 0, .ref 72, .int 0]))
set_option maxRecDepth 100000 in
theorem z_cX2_2 {V : x_E} (hV : y_V V) : z_Ct V yX2_init cX2_init 1 2 6 2037 [.ref 66] z_4 z_17 := by
  refine z_ct (by decide) (Nat.le_of_ble_eq_true rfl) (fun E hE => ?_)
  change E 0 0 0 [(0, .ref 66)] [] z_4
  refine r_aload_n hE dX2_init_0 rfl ?_
  refine r_obj hE (x_gin (List.mem_append_right _ (tb_1 _ (List.mem_of_getElem? (i := 42) rfl))) rfl) z_obj z_objc dX2_init_1 (by decide) (Nat.le_of_ble_eq_true rfl) ?_
  refine r_aload_n hE dX2_init_4 rfl ?_
  refine r_new (fs := [.null, .null, .null, .int 0]) hE kX5 (x_gin (List.mem_append_right _ (tb_1 _ (List.mem_of_getElem? (i := 43) rfl))) rfl) (x_gin (List.mem_append_right _ (tb_1 _ (List.mem_of_getElem? (i := 44) rfl))) rfl) (x_gin (List.mem_append_right _ (tb_1 _ (List.mem_of_getElem? (i := 3) rfl))) rfl) (fun j hj => match j, hj with | 0, _ => rfl | 1, _ => rfl | 2, _ => rfl | 3, _ => rfl | k + 4, hj => absurd hj (by omega)) rfl dX2_init_5 ⟨by decide, by decide⟩ ?_
  show E 1 4 8 [(0, .ref 66)] [.ref 67, .ref 66] z_5
  refine r_dup hE dX2_init_8 rfl ?_
  refine r_inviN hE [] (z_cX5_1 hV) i_yX5_init (fun U H9 h9 => (hV.2 U H9 h9).2.2.2.2.2.2.1 _ (List.mem_of_getElem? (i := 1) rfl)) dX2_init_9 rfl (by decide) ⟨by decide, by decide⟩ (Nat.le_of_ble_eq_true rfl) ⟨rfl, rfl⟩ (fun r0 S0 h0 => ?_)
  obtain ⟨rfl, rfl⟩ := h0
  show E 4 1207 12 [(0, .ref 66)] [.ref 67, .ref 66] z_11
  refine r_putF hE f_X2_12 dX2_init_12 (List.mem_of_getElem? (i := 2) rfl) (fs := [.null, .int 0, .int 0, .null, .int 0, .int 0, .int 0, .int 0, .null, .int 0]) rfl rfl rfl (Nat.le_of_ble_eq_true rfl) ?_
  show E 4 1207 15 [(0, .ref 66)] [] z_12
  refine r_aload_n hE dX2_init_15 rfl ?_
  refine r_iconst (v := (-1)) hE dX2_init_16 (by decide) ?_
  refine r_putf hE f_X2_18 dX2_init_17 (List.mem_of_getElem? (i := 2) rfl) (fs := [.ref 67, .int 0, .int 0, .null, .int 0, .int 0, .int 0, .int 0, .null, .int 0]) rfl rfl rfl (Nat.le_of_ble_eq_true rfl) ?_
  show E 4 1207 20 [(0, .ref 66)] [] z_13
  refine r_aload_n hE dX2_init_20 rfl ?_
  refine r_bipush (v := 30) hE dX2_init_21 (by decide) ?_
  refine r_newa (at0 := .int) (t := 0) (N := 30) hE (by decide) rfl z_aI dX2_init_23 (by decide) (by decide) (by decide) ⟨by decide, by decide⟩ ?_
  show E 5 1237 25 [(0, .ref 66)] [.ref 71, .ref 66] z_14
  refine r_putF hE f_X2_24 dX2_init_25 (List.mem_of_getElem? (i := 2) rfl) (fs := [.ref 67, .int 0, .int (-1), .null, .int 0, .int 0, .int 0, .int 0, .null, .int 0]) rfl rfl rfl (Nat.le_of_ble_eq_true rfl) ?_
  show E 5 1237 28 [(0, .ref 66)] [] z_15
  refine r_aload_n hE dX2_init_28 rfl ?_
  refine r_sipush (v := 800) hE dX2_init_29 (by decide) ?_
  refine r_newa (at0 := .int) (t := 0) (N := 800) hE (by decide) rfl z_aI dX2_init_32 (by decide) (by decide) (by decide) ⟨by decide, by decide⟩ ?_
  show E 6 2037 34 [(0, .ref 66)] [.ref 72, .ref 66] z_16
  refine r_putF hE f_X2_28 dX2_init_34 (List.mem_of_getElem? (i := 2) rfl) (fs := [.ref 67, .int 0, .int (-1), .ref 71, .int 0, .int 0, .int 0, .int 0, .null, .int 0]) rfl rfl rfl (Nat.le_of_ble_eq_true rfl) ?_
  show E 6 2037 37 [(0, .ref 66)] [] z_17
  exact r_return hE dX2_init_37 rfl (Nat.le_refl _) (Nat.le_refl _) ⟨rfl, rfl⟩
def z_18 : x_S := x_put z_17 64 (.inr (9, [.ref 65, .int 0, .ref 66, .null, .null, .int 0, .null, .null, .null, .null, .null]))
def z_19 : x_S := x_push z_18 (.inr (0, [.null, .null, .int 0, .null, .int 0, .null, .null, .null, .null, .null, .null, .null, .int 0, .int 0]))
def z_20 : x_S := x_push z_19 (.inr (7, [.int 0, .null, .int 0]))
def z_21 : x_S := z_Table z_20 74 8 2
def z_22 : x_S := x_put z_21 73 (.inr (0, [.ref 74, .null, .int 0, .null, .int 0, .null, .null, .null, .null, .null, .null, .null, .int 0, .int 0]))
def z_23 : x_S := x_push z_22 (.inl (4, 4, .inr (.inr (.inr (.inr (fun _ => none))))))
def z_24 : x_S := x_put z_23 73 (.inr (0, [.ref 74, .ref 76, .int 0, .null, .int 0, .null, .null, .null, .null, .null, .null, .null, .int 0, .int 0]))
def z_25 : x_S := x_push z_24 (.inl (5, 6, .inr (.inr (.inr (.inr (fun _ => none))))))
def z_26 : x_S := x_put z_25 73 (.inr (0, [.ref 74, .ref 76, .int 0, .ref 77, .int 0, .null, .null, .null, .null, .null, .null, .null, .int 0, .int 0]))
def z_27 : x_S := x_push z_26 (.inr (7, [.int 0, .null, .int 0]))
def z_28 : x_S := z_Table z_27 78 6 3
def z_29 : x_S := x_put z_28 73 (.inr (0, [.ref 74, .ref 76, .int 0, .ref 77, .int 0, .ref 78, .null, .null, .null, .null, .null, .null, .int 0, .int 0]))
def z_30 : x_S := x_push z_29 (.inr (7, [.int 0, .null, .int 0]))
def z_31 : x_S := z_Table z_30 80 10 2
def z_32 : x_S := x_put z_31 73 (.inr (0, [.ref 74, .ref 76, .int 0, .ref 77, .int 0, .ref 78, .ref 80, .null, .null, .null, .null, .null, .int 0, .int 0]))
def z_33 : x_S := x_push z_32 (.inr (7, [.int 0, .null, .int 0]))
def z_34 : x_S := z_Table z_33 82 4 3
def z_35 : x_S := x_put z_34 73 (.inr (0, [.ref 74, .ref 76, .int 0, .ref 77, .int 0, .ref 78, .ref 80, .ref 82, .null, .null, .null, .null, .int 0, .int 0]))
def z_36 : x_S := x_push z_35 (.inr (7, [.int 0, .null, .int 0]))
def z_37 : x_S := z_Table z_36 84 5 3
def z_38 : x_S := x_put z_37 73 (.inr (0, [.ref 74, .ref 76, .int 0, .ref 77, .int 0, .ref 78, .ref 80, .ref 82, .ref 84, .null, .null, .null, .int 0, .int 0]))
def z_39 : x_S := x_push z_38 (.inr (7, [.int 0, .null, .int 0]))
def z_40 : x_S := z_Table z_39 86 12 5
def z_41 : x_S := x_put z_40 73 (.inr (0, [.ref 74, .ref 76, .int 0, .ref 77, .int 0, .ref 78, .ref 80, .ref 82, .ref 84, .ref 86, .null, .null, .int 0, .int 0]))
def z_42 : x_S := x_push z_41 (.inr (7, [.int 0, .null, .int 0]))
def z_43 : x_S := z_Table z_42 88 20 3
def z_44 : x_S := x_put z_43 73 (.inr (0, [.ref 74, .ref 76, .int 0, .ref 77, .int 0, .ref 78, .ref 80, .ref 82, .ref 84, .ref 86, .ref 88, .null, .int 0, .int 0]))
def z_45 : x_S := x_push z_44 (.inr (7, [.int 0, .null, .int 0]))
def z_46 : x_S := z_Table z_45 90 6 4
def z_47 : x_S := x_put z_46 73 (.inr (0, [.ref 74, .ref 76, .int 0, .ref 77, .int 0, .ref 78, .ref 80, .ref 82, .ref 84, .ref 86, .ref 88, .ref 90, .int 0, .int 0]))
def z_48 : x_S := x_push z_47 (.inr (4, [.null]))
def z_49 : x_S := x_push z_48 (.inl (0, 0, x_at0 0))
def z_50 : x_S := z_Rule z_49 92 93
def z_51 : x_S := x_put z_50 76 (.inl (4, 4, .inr (.inr (.inr (.inr (va_up (fun _ => none) 0 (some 92)))))))
def z_52 : x_S := x_push z_51 (.inr (4, [.null]))
def z_53 : x_S := x_push z_52 (.inl (0, 0, x_at0 0))
def z_54 : x_S := z_Rule z_53 94 95
def z_55 : x_S := x_put z_54 76 (.inl (4, 4, .inr (.inr (.inr (.inr (va_up (va_up (fun _ => none) 0 (some 92)) 1 (some 94)))))))
def z_56 : x_S := x_push z_55 (.inr (4, [.null]))
def z_57 : x_S := x_push z_56 (.inl (0, 0, x_at0 0))
def z_58 : x_S := z_Rule z_57 96 97
def z_59 : x_S := x_put z_58 76 (.inl (4, 4, .inr (.inr (.inr (.inr (va_up (va_up (va_up (fun _ => none) 0 (some 92)) 1 (some 94)) 2 (some 96)))))))
def z_60 : x_S := x_push z_59 (.inr (4, [.null]))
def z_61 : x_S := x_push z_60 (.inl (0, 0, x_at0 0))
def z_62 : x_S := z_Rule z_61 98 99
def z_63 : x_S := x_put z_62 76 (.inl (4, 4, .inr (.inr (.inr (.inr (va_up (va_up (va_up (va_up (fun _ => none) 0 (some 92)) 1 (some 94)) 2 (some 96)) 3 (some 98)))))))
def z_64 : x_S := x_push z_63 (.inr (8, [.int 0, .int 0, .int 0, .null]))
def z_65 : x_S := x_push z_64 (.inl (0, 0, x_at0 0))
def z_66 : x_S := z_Way z_65 100 101 0 1 0
def z_67 : x_S := x_put z_66 77 (.inl (5, 6, .inr (.inr (.inr (.inr (va_up (fun _ => none) 0 (some 100)))))))
def z_68 : x_S := x_push z_67 (.inr (8, [.int 0, .int 0, .int 0, .null]))
def z_69 : x_S := x_push z_68 (.inl (0, 0, x_at0 0))
def z_70 : x_S := z_Way z_69 102 103 0 1 0
def z_71 : x_S := x_put z_70 77 (.inl (5, 6, .inr (.inr (.inr (.inr (va_up (va_up (fun _ => none) 0 (some 100)) 1 (some 102)))))))
def z_72 : x_S := x_push z_71 (.inr (8, [.int 0, .int 0, .int 0, .null]))
def z_73 : x_S := x_push z_72 (.inl (0, 0, x_at0 0))
def z_74 : x_S := z_Way z_73 104 105 0 1 0
def z_75 : x_S := x_put z_74 77 (.inl (5, 6, .inr (.inr (.inr (.inr (va_up (va_up (va_up (fun _ => none) 0 (some 100)) 1 (some 102)) 2 (some 104)))))))
def z_76 : x_S := x_push z_75 (.inr (8, [.int 0, .int 0, .int 0, .null]))
def z_77 : x_S := x_push z_76 (.inl (0, 0, x_at0 0))
def z_78 : x_S := z_Way z_77 106 107 0 1 0
def z_79 : x_S := x_put z_78 77 (.inl (5, 6, .inr (.inr (.inr (.inr (va_up (va_up (va_up (va_up (fun _ => none) 0 (some 100)) 1 (some 102)) 2 (some 104)) 3 (some 106)))))))
def z_80 : x_S := x_push z_79 (.inr (8, [.int 0, .int 0, .int 0, .null]))
def z_81 : x_S := x_push z_80 (.inl (0, 0, x_at0 0))
def z_82 : x_S := z_Way z_81 108 109 0 1 0
def z_83 : x_S := x_put z_82 77 (.inl (5, 6, .inr (.inr (.inr (.inr (va_up (va_up (va_up (va_up (va_up (fun _ => none) 0 (some 100)) 1 (some 102)) 2 (some 104)) 3 (some 106)) 4 (some 108)))))))
def z_84 : x_S := x_push z_83 (.inr (8, [.int 0, .int 0, .int 0, .null]))
def z_85 : x_S := x_push z_84 (.inl (0, 0, x_at0 0))
def z_86 : x_S := z_Way z_85 110 111 0 1 0
def z_87 : x_S := x_put z_86 77 (.inl (5, 6, .inr (.inr (.inr (.inr (va_up (va_up (va_up (va_up (va_up (va_up (fun _ => none) 0 (some 100)) 1 (some 102)) 2 (some 104)) 3 (some 106)) 4 (some 108)) 5 (some 110)))))))
set_option maxRecDepth 100000 in
theorem z_cX0_3 {V : x_E} (hV : y_V V) : z_Ct V yX0_init cX0_init 2 2 38 287 [.ref 73] z_19 z_87 := by
  refine z_ct (by decide) (Nat.le_of_ble_eq_true rfl) (fun E hE => ?_)
  change E 0 0 0 [(0, .ref 73)] [] z_19
  refine r_aload_n hE dX0_init_0 rfl ?_
  refine r_obj hE (x_gin (List.mem_append_right _ (tb_1 _ (List.mem_of_getElem? (i := 104) rfl))) rfl) z_obj z_objc dX0_init_1 (by decide) (Nat.le_of_ble_eq_true rfl) ?_
  refine r_aload_n hE dX0_init_4 rfl ?_
  refine r_new (fs := [.int 0, .null, .int 0]) hE kX7 (x_gin (List.mem_append_right _ (tb_1 _ (List.mem_of_getElem? (i := 105) rfl))) rfl) (x_gin (List.mem_append_right _ (tb_1 _ (List.mem_of_getElem? (i := 106) rfl))) rfl) (x_gin (List.mem_append_right _ (tb_1 _ (List.mem_of_getElem? (i := 5) rfl))) rfl) (fun j hj => match j, hj with | 0, _ => rfl | 1, _ => rfl | 2, _ => rfl | k + 3, hj => absurd hj (by omega)) rfl dX0_init_5 ⟨by decide, by decide⟩ ?_
  show E 1 3 8 [(0, .ref 73)] [.ref 74, .ref 73] z_20
  refine r_dup hE dX0_init_8 rfl ?_
  refine r_bipush (v := 8) hE dX0_init_9 (by decide) ?_
  refine r_iconst (v := 2) hE dX0_init_11 (by decide) ?_
  refine r_invi hE [.int 8, .int 2] (z_cTable (h := 74) (mo := 8) (co := 2) (List.mem_of_getElem? (i := 10) rfl) (by decide) rfl (by decide)) i_yX7_init m_X0_11 dX0_init_12 rfl (by decide) ⟨by decide, by decide⟩ (Nat.le_of_ble_eq_true rfl) ⟨rfl, rfl⟩ (fun r0 S0 h0 => ?_)
  obtain ⟨rfl, rfl⟩ := h0
  show E 2 19 15 [(0, .ref 73)] [.ref 74, .ref 73] z_21
  refine r_putF hE f_X0_14 dX0_init_15 (List.mem_of_getElem? (i := 9) rfl) (fs := [.null, .null, .int 0, .null, .int 0, .null, .null, .null, .null, .null, .null, .null, .int 0, .int 0]) rfl rfl rfl (Nat.le_of_ble_eq_true rfl) ?_
  show E 2 19 18 [(0, .ref 73)] [] z_22
  refine r_aload_n hE dX0_init_18 rfl ?_
  refine r_iconst (v := 4) hE dX0_init_19 (by decide) ?_
  refine r_anew (t := 4) (N := 4) (C := "DarkSitting$Rule") hE (by decide) rfl (x_gin (List.mem_append_right _ (tb_1 _ (List.mem_of_getElem? (i := 124) rfl))) rfl) (fun U H9 h9 => (hV.2 U H9 h9).2.2.2.2.2.2.2.2.1) dX0_init_20 (by decide) (by decide) (by decide) ⟨by decide, by decide⟩ ?_
  show E 3 23 23 [(0, .ref 73)] [.ref 76, .ref 73] z_23
  refine r_putF hE f_X0_22 dX0_init_23 (List.mem_of_getElem? (i := 9) rfl) (fs := [.ref 74, .null, .int 0, .null, .int 0, .null, .null, .null, .null, .null, .null, .null, .int 0, .int 0]) rfl rfl rfl (Nat.le_of_ble_eq_true rfl) ?_
  show E 3 23 26 [(0, .ref 73)] [] z_24
  refine r_aload_n hE dX0_init_26 rfl ?_
  refine r_bipush (v := 6) hE dX0_init_27 (by decide) ?_
  refine r_anew (t := 5) (N := 6) (C := "DarkSitting$Way") hE (by decide) rfl (x_gin (List.mem_append_right _ (tb_1 _ (List.mem_of_getElem? (i := 126) rfl))) rfl) (fun U H9 h9 => (hV.2 U H9 h9).2.2.2.2.2.2.2.2.2.1) dX0_init_29 (by decide) (by decide) (by decide) ⟨by decide, by decide⟩ ?_
  show E 4 29 32 [(0, .ref 73)] [.ref 77, .ref 73] z_25
  refine r_putF hE f_X0_28 dX0_init_32 (List.mem_of_getElem? (i := 9) rfl) (fs := [.ref 74, .ref 76, .int 0, .null, .int 0, .null, .null, .null, .null, .null, .null, .null, .int 0, .int 0]) rfl rfl rfl (Nat.le_of_ble_eq_true rfl) ?_
  show E 4 29 35 [(0, .ref 73)] [] z_26
  refine r_aload_n hE dX0_init_35 rfl ?_
  refine r_new (fs := [.int 0, .null, .int 0]) hE kX7 (x_gin (List.mem_append_right _ (tb_1 _ (List.mem_of_getElem? (i := 105) rfl))) rfl) (x_gin (List.mem_append_right _ (tb_1 _ (List.mem_of_getElem? (i := 106) rfl))) rfl) (x_gin (List.mem_append_right _ (tb_1 _ (List.mem_of_getElem? (i := 5) rfl))) rfl) (fun j hj => match j, hj with | 0, _ => rfl | 1, _ => rfl | 2, _ => rfl | k + 3, hj => absurd hj (by omega)) rfl dX0_init_36 ⟨by decide, by decide⟩ ?_
  show E 5 32 39 [(0, .ref 73)] [.ref 78, .ref 73] z_27
  refine r_dup hE dX0_init_39 rfl ?_
  refine r_bipush (v := 6) hE dX0_init_40 (by decide) ?_
  refine r_iconst (v := 3) hE dX0_init_42 (by decide) ?_
  refine r_invi hE [.int 6, .int 3] (z_cTable (h := 78) (mo := 6) (co := 3) (List.mem_of_getElem? (i := 14) rfl) (by decide) rfl (by decide)) i_yX7_init m_X0_11 dX0_init_43 rfl (by decide) ⟨by decide, by decide⟩ (Nat.le_of_ble_eq_true rfl) ⟨rfl, rfl⟩ (fun r0 S0 h0 => ?_)
  obtain ⟨rfl, rfl⟩ := h0
  show E 6 50 46 [(0, .ref 73)] [.ref 78, .ref 73] z_28
  refine r_putF hE f_X0_32 dX0_init_46 (List.mem_of_getElem? (i := 9) rfl) (fs := [.ref 74, .ref 76, .int 0, .ref 77, .int 0, .null, .null, .null, .null, .null, .null, .null, .int 0, .int 0]) rfl rfl rfl (Nat.le_of_ble_eq_true rfl) ?_
  show E 6 50 49 [(0, .ref 73)] [] z_29
  refine r_aload_n hE dX0_init_49 rfl ?_
  refine r_new (fs := [.int 0, .null, .int 0]) hE kX7 (x_gin (List.mem_append_right _ (tb_1 _ (List.mem_of_getElem? (i := 105) rfl))) rfl) (x_gin (List.mem_append_right _ (tb_1 _ (List.mem_of_getElem? (i := 106) rfl))) rfl) (x_gin (List.mem_append_right _ (tb_1 _ (List.mem_of_getElem? (i := 5) rfl))) rfl) (fun j hj => match j, hj with | 0, _ => rfl | 1, _ => rfl | 2, _ => rfl | k + 3, hj => absurd hj (by omega)) rfl dX0_init_50 ⟨by decide, by decide⟩ ?_
  show E 7 53 53 [(0, .ref 73)] [.ref 80, .ref 73] z_30
  refine r_dup hE dX0_init_53 rfl ?_
  refine r_bipush (v := 10) hE dX0_init_54 (by decide) ?_
  refine r_iconst (v := 2) hE dX0_init_56 (by decide) ?_
  refine r_invi hE [.int 10, .int 2] (z_cTable (h := 80) (mo := 10) (co := 2) (List.mem_of_getElem? (i := 16) rfl) (by decide) rfl (by decide)) i_yX7_init m_X0_11 dX0_init_57 rfl (by decide) ⟨by decide, by decide⟩ (Nat.le_of_ble_eq_true rfl) ⟨rfl, rfl⟩ (fun r0 S0 h0 => ?_)
  obtain ⟨rfl, rfl⟩ := h0
  show E 8 73 60 [(0, .ref 73)] [.ref 80, .ref 73] z_31
  refine r_putF hE f_X0_35 dX0_init_60 (List.mem_of_getElem? (i := 9) rfl) (fs := [.ref 74, .ref 76, .int 0, .ref 77, .int 0, .ref 78, .null, .null, .null, .null, .null, .null, .int 0, .int 0]) rfl rfl rfl (Nat.le_of_ble_eq_true rfl) ?_
  show E 8 73 63 [(0, .ref 73)] [] z_32
  refine r_aload_n hE dX0_init_63 rfl ?_
  refine r_new (fs := [.int 0, .null, .int 0]) hE kX7 (x_gin (List.mem_append_right _ (tb_1 _ (List.mem_of_getElem? (i := 105) rfl))) rfl) (x_gin (List.mem_append_right _ (tb_1 _ (List.mem_of_getElem? (i := 106) rfl))) rfl) (x_gin (List.mem_append_right _ (tb_1 _ (List.mem_of_getElem? (i := 5) rfl))) rfl) (fun j hj => match j, hj with | 0, _ => rfl | 1, _ => rfl | 2, _ => rfl | k + 3, hj => absurd hj (by omega)) rfl dX0_init_64 ⟨by decide, by decide⟩ ?_
  show E 9 76 67 [(0, .ref 73)] [.ref 82, .ref 73] z_33
  refine r_dup hE dX0_init_67 rfl ?_
  refine r_iconst (v := 4) hE dX0_init_68 (by decide) ?_
  refine r_iconst (v := 3) hE dX0_init_69 (by decide) ?_
  refine r_invi hE [.int 4, .int 3] (z_cTable (h := 82) (mo := 4) (co := 3) (List.mem_of_getElem? (i := 18) rfl) (by decide) rfl (by decide)) i_yX7_init m_X0_11 dX0_init_70 rfl (by decide) ⟨by decide, by decide⟩ (Nat.le_of_ble_eq_true rfl) ⟨rfl, rfl⟩ (fun r0 S0 h0 => ?_)
  obtain ⟨rfl, rfl⟩ := h0
  show E 10 88 73 [(0, .ref 73)] [.ref 82, .ref 73] z_34
  refine r_putF hE f_X0_38 dX0_init_73 (List.mem_of_getElem? (i := 9) rfl) (fs := [.ref 74, .ref 76, .int 0, .ref 77, .int 0, .ref 78, .ref 80, .null, .null, .null, .null, .null, .int 0, .int 0]) rfl rfl rfl (Nat.le_of_ble_eq_true rfl) ?_
  show E 10 88 76 [(0, .ref 73)] [] z_35
  refine r_aload_n hE dX0_init_76 rfl ?_
  refine r_new (fs := [.int 0, .null, .int 0]) hE kX7 (x_gin (List.mem_append_right _ (tb_1 _ (List.mem_of_getElem? (i := 105) rfl))) rfl) (x_gin (List.mem_append_right _ (tb_1 _ (List.mem_of_getElem? (i := 106) rfl))) rfl) (x_gin (List.mem_append_right _ (tb_1 _ (List.mem_of_getElem? (i := 5) rfl))) rfl) (fun j hj => match j, hj with | 0, _ => rfl | 1, _ => rfl | 2, _ => rfl | k + 3, hj => absurd hj (by omega)) rfl dX0_init_77 ⟨by decide, by decide⟩ ?_
  show E 11 91 80 [(0, .ref 73)] [.ref 84, .ref 73] z_36
  refine r_dup hE dX0_init_80 rfl ?_
  refine r_iconst (v := 5) hE dX0_init_81 (by decide) ?_
  refine r_iconst (v := 3) hE dX0_init_82 (by decide) ?_
  refine r_invi hE [.int 5, .int 3] (z_cTable (h := 84) (mo := 5) (co := 3) (List.mem_of_getElem? (i := 20) rfl) (by decide) rfl (by decide)) i_yX7_init m_X0_11 dX0_init_83 rfl (by decide) ⟨by decide, by decide⟩ (Nat.le_of_ble_eq_true rfl) ⟨rfl, rfl⟩ (fun r0 S0 h0 => ?_)
  obtain ⟨rfl, rfl⟩ := h0
  show E 12 106 86 [(0, .ref 73)] [.ref 84, .ref 73] z_37
  refine r_putF hE f_X0_41 dX0_init_86 (List.mem_of_getElem? (i := 9) rfl) (fs := [.ref 74, .ref 76, .int 0, .ref 77, .int 0, .ref 78, .ref 80, .ref 82, .null, .null, .null, .null, .int 0, .int 0]) rfl rfl rfl (Nat.le_of_ble_eq_true rfl) ?_
  show E 12 106 89 [(0, .ref 73)] [] z_38
  refine r_aload_n hE dX0_init_89 rfl ?_
  refine r_new (fs := [.int 0, .null, .int 0]) hE kX7 (x_gin (List.mem_append_right _ (tb_1 _ (List.mem_of_getElem? (i := 105) rfl))) rfl) (x_gin (List.mem_append_right _ (tb_1 _ (List.mem_of_getElem? (i := 106) rfl))) rfl) (x_gin (List.mem_append_right _ (tb_1 _ (List.mem_of_getElem? (i := 5) rfl))) rfl) (fun j hj => match j, hj with | 0, _ => rfl | 1, _ => rfl | 2, _ => rfl | k + 3, hj => absurd hj (by omega)) rfl dX0_init_90 ⟨by decide, by decide⟩ ?_
  show E 13 109 93 [(0, .ref 73)] [.ref 86, .ref 73] z_39
  refine r_dup hE dX0_init_93 rfl ?_
  refine r_bipush (v := 12) hE dX0_init_94 (by decide) ?_
  refine r_iconst (v := 5) hE dX0_init_96 (by decide) ?_
  refine r_invi hE [.int 12, .int 5] (z_cTable (h := 86) (mo := 12) (co := 5) (List.mem_of_getElem? (i := 22) rfl) (by decide) rfl (by decide)) i_yX7_init m_X0_11 dX0_init_97 rfl (by decide) ⟨by decide, by decide⟩ (Nat.le_of_ble_eq_true rfl) ⟨rfl, rfl⟩ (fun r0 S0 h0 => ?_)
  obtain ⟨rfl, rfl⟩ := h0
  show E 14 169 100 [(0, .ref 73)] [.ref 86, .ref 73] z_40
  refine r_putF hE f_X0_44 dX0_init_100 (List.mem_of_getElem? (i := 9) rfl) (fs := [.ref 74, .ref 76, .int 0, .ref 77, .int 0, .ref 78, .ref 80, .ref 82, .ref 84, .null, .null, .null, .int 0, .int 0]) rfl rfl rfl (Nat.le_of_ble_eq_true rfl) ?_
  show E 14 169 103 [(0, .ref 73)] [] z_41
  refine r_aload_n hE dX0_init_103 rfl ?_
  refine r_new (fs := [.int 0, .null, .int 0]) hE kX7 (x_gin (List.mem_append_right _ (tb_1 _ (List.mem_of_getElem? (i := 105) rfl))) rfl) (x_gin (List.mem_append_right _ (tb_1 _ (List.mem_of_getElem? (i := 106) rfl))) rfl) (x_gin (List.mem_append_right _ (tb_1 _ (List.mem_of_getElem? (i := 5) rfl))) rfl) (fun j hj => match j, hj with | 0, _ => rfl | 1, _ => rfl | 2, _ => rfl | k + 3, hj => absurd hj (by omega)) rfl dX0_init_104 ⟨by decide, by decide⟩ ?_
  show E 15 172 107 [(0, .ref 73)] [.ref 88, .ref 73] z_42
  refine r_dup hE dX0_init_107 rfl ?_
  refine r_bipush (v := 20) hE dX0_init_108 (by decide) ?_
  refine r_iconst (v := 3) hE dX0_init_110 (by decide) ?_
  refine r_invi hE [.int 20, .int 3] (z_cTable (h := 88) (mo := 20) (co := 3) (List.mem_of_getElem? (i := 24) rfl) (by decide) rfl (by decide)) i_yX7_init m_X0_11 dX0_init_111 rfl (by decide) ⟨by decide, by decide⟩ (Nat.le_of_ble_eq_true rfl) ⟨rfl, rfl⟩ (fun r0 S0 h0 => ?_)
  obtain ⟨rfl, rfl⟩ := h0
  show E 16 232 114 [(0, .ref 73)] [.ref 88, .ref 73] z_43
  refine r_putF hE f_X0_47 dX0_init_114 (List.mem_of_getElem? (i := 9) rfl) (fs := [.ref 74, .ref 76, .int 0, .ref 77, .int 0, .ref 78, .ref 80, .ref 82, .ref 84, .ref 86, .null, .null, .int 0, .int 0]) rfl rfl rfl (Nat.le_of_ble_eq_true rfl) ?_
  show E 16 232 117 [(0, .ref 73)] [] z_44
  refine r_aload_n hE dX0_init_117 rfl ?_
  refine r_new (fs := [.int 0, .null, .int 0]) hE kX7 (x_gin (List.mem_append_right _ (tb_1 _ (List.mem_of_getElem? (i := 105) rfl))) rfl) (x_gin (List.mem_append_right _ (tb_1 _ (List.mem_of_getElem? (i := 106) rfl))) rfl) (x_gin (List.mem_append_right _ (tb_1 _ (List.mem_of_getElem? (i := 5) rfl))) rfl) (fun j hj => match j, hj with | 0, _ => rfl | 1, _ => rfl | 2, _ => rfl | k + 3, hj => absurd hj (by omega)) rfl dX0_init_118 ⟨by decide, by decide⟩ ?_
  show E 17 235 121 [(0, .ref 73)] [.ref 90, .ref 73] z_45
  refine r_dup hE dX0_init_121 rfl ?_
  refine r_bipush (v := 6) hE dX0_init_122 (by decide) ?_
  refine r_iconst (v := 4) hE dX0_init_124 (by decide) ?_
  refine r_invi hE [.int 6, .int 4] (z_cTable (h := 90) (mo := 6) (co := 4) (List.mem_of_getElem? (i := 26) rfl) (by decide) rfl (by decide)) i_yX7_init m_X0_11 dX0_init_125 rfl (by decide) ⟨by decide, by decide⟩ (Nat.le_of_ble_eq_true rfl) ⟨rfl, rfl⟩ (fun r0 S0 h0 => ?_)
  obtain ⟨rfl, rfl⟩ := h0
  show E 18 259 128 [(0, .ref 73)] [.ref 90, .ref 73] z_46
  refine r_putF hE f_X0_50 dX0_init_128 (List.mem_of_getElem? (i := 9) rfl) (fs := [.ref 74, .ref 76, .int 0, .ref 77, .int 0, .ref 78, .ref 80, .ref 82, .ref 84, .ref 86, .ref 88, .null, .int 0, .int 0]) rfl rfl rfl (Nat.le_of_ble_eq_true rfl) ?_
  show E 18 259 131 [(0, .ref 73)] [] z_47
  refine r_iconst (v := 0) hE dX0_init_131 (by decide) ?_
  refine r_istore_n (ls2 := [(0, .ref 73), (1, .int 0)]) hE dX0_init_132 (by decide) rfl ?_
  refine r_iload_n hE dX0_init_133 rfl ?_
  refine r_iconst (v := 4) hE dX0_init_134 (by decide) ?_
  refine r_icmp_ge (tgt := 160) hE dX0_init_135 (by decide) (fun c9 => absurd c9 (by decide)) (fun _ => ?_)
  refine r_aload_n hE dX0_init_138 rfl ?_
  refine r_getf (fs := [.ref 74, .ref 76, .int 0, .ref 77, .int 0, .ref 78, .ref 80, .ref 82, .ref 84, .ref 86, .ref 88, .ref 90, .int 0, .int 0]) hE f_X0_22 dX0_init_139 (List.mem_of_getElem? (i := 9) rfl) rfl rfl ?_
  refine r_iload_n hE dX0_init_142 rfl ?_
  refine r_new (fs := [.null]) hE kX4 (x_gin (List.mem_append_right _ (tb_1 _ (List.mem_of_getElem? (i := 124) rfl))) rfl) (x_gin (List.mem_append_right _ (tb_1 _ (List.mem_of_getElem? (i := 128) rfl))) rfl) (x_gin (List.mem_append_right _ (tb_1 _ (List.mem_of_getElem? (i := 6) rfl))) rfl) (fun j hj => match j, hj with | 0, _ => rfl | k + 1, hj => absurd hj (by omega)) rfl dX0_init_143 ⟨by decide, by decide⟩ ?_
  show E 19 260 146 [(0, .ref 73), (1, .int 0)] [.ref 92, .int 0, .ref 76] z_48
  refine r_dup hE dX0_init_146 rfl ?_
  refine r_iconst (v := 0) hE dX0_init_147 (by decide) ?_
  refine r_newa (at0 := .int) (t := 0) (N := 0) hE (by decide) rfl z_aI dX0_init_148 (by decide) (by decide) (by decide) ⟨by decide, by decide⟩ ?_
  show E 20 260 150 [(0, .ref 73), (1, .int 0)] [.ref 93, .ref 92, .ref 92, .int 0, .ref 76] z_49
  refine r_invi hE [.ref 93] (z_cRule (q := 93) (List.mem_of_getElem? (i := 28) rfl) rfl) i_yX4_init m_X0_53 dX0_init_150 rfl (by decide) ⟨by decide, by decide⟩ (Nat.le_of_ble_eq_true rfl) ⟨rfl, rfl⟩ (fun r0 S0 h0 => ?_)
  obtain ⟨rfl, rfl⟩ := h0
  show E 20 260 153 [(0, .ref 73), (1, .int 0)] [.ref 92, .int 0, .ref 76] z_50
  refine r_aast (ci := 4) (n := 4) hE (by decide) dX0_init_153 (List.mem_of_getElem? (i := 12) rfl) (f := (fun _ => none)) rfl (List.mem_of_getElem? (i := 28) rfl) (vs := [.ref 93]) rfl (vp_in_nI (n := 0) (by decide) (by decide)) ?_
  show E 20 260 154 [(0, .ref 73), (1, .int 0)] [] z_51
  refine r_iinc (v := 1) (ls2 := [(0, .ref 73), (1, .int 1)]) hE dX0_init_154 rfl (by decide) (by decide) rfl ?_
  refine r_goto (tgt := 133) hE dX0_init_157 (by decide) ?_
  refine r_iload_n hE dX0_init_133 rfl ?_
  refine r_iconst (v := 4) hE dX0_init_134 (by decide) ?_
  refine r_icmp_ge (tgt := 160) hE dX0_init_135 (by decide) (fun c9 => absurd c9 (by decide)) (fun _ => ?_)
  refine r_aload_n hE dX0_init_138 rfl ?_
  refine r_getf (fs := [.ref 74, .ref 76, .int 0, .ref 77, .int 0, .ref 78, .ref 80, .ref 82, .ref 84, .ref 86, .ref 88, .ref 90, .int 0, .int 0]) hE f_X0_22 dX0_init_139 (List.mem_of_getElem? (i := 9) rfl) rfl rfl ?_
  refine r_iload_n hE dX0_init_142 rfl ?_
  refine r_new (fs := [.null]) hE kX4 (x_gin (List.mem_append_right _ (tb_1 _ (List.mem_of_getElem? (i := 124) rfl))) rfl) (x_gin (List.mem_append_right _ (tb_1 _ (List.mem_of_getElem? (i := 128) rfl))) rfl) (x_gin (List.mem_append_right _ (tb_1 _ (List.mem_of_getElem? (i := 6) rfl))) rfl) (fun j hj => match j, hj with | 0, _ => rfl | k + 1, hj => absurd hj (by omega)) rfl dX0_init_143 ⟨by decide, by decide⟩ ?_
  show E 21 261 146 [(0, .ref 73), (1, .int 1)] [.ref 94, .int 1, .ref 76] z_52
  refine r_dup hE dX0_init_146 rfl ?_
  refine r_iconst (v := 0) hE dX0_init_147 (by decide) ?_
  refine r_newa (at0 := .int) (t := 0) (N := 0) hE (by decide) rfl z_aI dX0_init_148 (by decide) (by decide) (by decide) ⟨by decide, by decide⟩ ?_
  show E 22 261 150 [(0, .ref 73), (1, .int 1)] [.ref 95, .ref 94, .ref 94, .int 1, .ref 76] z_53
  refine r_invi hE [.ref 95] (z_cRule (q := 95) (List.mem_of_getElem? (i := 30) rfl) rfl) i_yX4_init m_X0_53 dX0_init_150 rfl (by decide) ⟨by decide, by decide⟩ (Nat.le_of_ble_eq_true rfl) ⟨rfl, rfl⟩ (fun r0 S0 h0 => ?_)
  obtain ⟨rfl, rfl⟩ := h0
  show E 22 261 153 [(0, .ref 73), (1, .int 1)] [.ref 94, .int 1, .ref 76] z_54
  refine r_aast (ci := 4) (n := 4) hE (by decide) dX0_init_153 (List.mem_of_getElem? (i := 12) rfl) (f := (va_up (fun _ => none) 0 (some 92))) rfl (List.mem_of_getElem? (i := 30) rfl) (vs := [.ref 95]) rfl (vp_in_nI (n := 1) (by decide) (by decide)) ?_
  show E 22 261 154 [(0, .ref 73), (1, .int 1)] [] z_55
  refine r_iinc (v := 2) (ls2 := [(0, .ref 73), (1, .int 2)]) hE dX0_init_154 rfl (by decide) (by decide) rfl ?_
  refine r_goto (tgt := 133) hE dX0_init_157 (by decide) ?_
  refine r_iload_n hE dX0_init_133 rfl ?_
  refine r_iconst (v := 4) hE dX0_init_134 (by decide) ?_
  refine r_icmp_ge (tgt := 160) hE dX0_init_135 (by decide) (fun c9 => absurd c9 (by decide)) (fun _ => ?_)
  refine r_aload_n hE dX0_init_138 rfl ?_
  refine r_getf (fs := [.ref 74, .ref 76, .int 0, .ref 77, .int 0, .ref 78, .ref 80, .ref 82, .ref 84, .ref 86, .ref 88, .ref 90, .int 0, .int 0]) hE f_X0_22 dX0_init_139 (List.mem_of_getElem? (i := 9) rfl) rfl rfl ?_
  refine r_iload_n hE dX0_init_142 rfl ?_
  refine r_new (fs := [.null]) hE kX4 (x_gin (List.mem_append_right _ (tb_1 _ (List.mem_of_getElem? (i := 124) rfl))) rfl) (x_gin (List.mem_append_right _ (tb_1 _ (List.mem_of_getElem? (i := 128) rfl))) rfl) (x_gin (List.mem_append_right _ (tb_1 _ (List.mem_of_getElem? (i := 6) rfl))) rfl) (fun j hj => match j, hj with | 0, _ => rfl | k + 1, hj => absurd hj (by omega)) rfl dX0_init_143 ⟨by decide, by decide⟩ ?_
  show E 23 262 146 [(0, .ref 73), (1, .int 2)] [.ref 96, .int 2, .ref 76] z_56
  refine r_dup hE dX0_init_146 rfl ?_
  refine r_iconst (v := 0) hE dX0_init_147 (by decide) ?_
  refine r_newa (at0 := .int) (t := 0) (N := 0) hE (by decide) rfl z_aI dX0_init_148 (by decide) (by decide) (by decide) ⟨by decide, by decide⟩ ?_
  show E 24 262 150 [(0, .ref 73), (1, .int 2)] [.ref 97, .ref 96, .ref 96, .int 2, .ref 76] z_57
  refine r_invi hE [.ref 97] (z_cRule (q := 97) (List.mem_of_getElem? (i := 32) rfl) rfl) i_yX4_init m_X0_53 dX0_init_150 rfl (by decide) ⟨by decide, by decide⟩ (Nat.le_of_ble_eq_true rfl) ⟨rfl, rfl⟩ (fun r0 S0 h0 => ?_)
  obtain ⟨rfl, rfl⟩ := h0
  show E 24 262 153 [(0, .ref 73), (1, .int 2)] [.ref 96, .int 2, .ref 76] z_58
  refine r_aast (ci := 4) (n := 4) hE (by decide) dX0_init_153 (List.mem_of_getElem? (i := 12) rfl) (f := (va_up (va_up (fun _ => none) 0 (some 92)) 1 (some 94))) rfl (List.mem_of_getElem? (i := 32) rfl) (vs := [.ref 97]) rfl (vp_in_nI (n := 2) (by decide) (by decide)) ?_
  show E 24 262 154 [(0, .ref 73), (1, .int 2)] [] z_59
  refine r_iinc (v := 3) (ls2 := [(0, .ref 73), (1, .int 3)]) hE dX0_init_154 rfl (by decide) (by decide) rfl ?_
  refine r_goto (tgt := 133) hE dX0_init_157 (by decide) ?_
  refine r_iload_n hE dX0_init_133 rfl ?_
  refine r_iconst (v := 4) hE dX0_init_134 (by decide) ?_
  refine r_icmp_ge (tgt := 160) hE dX0_init_135 (by decide) (fun c9 => absurd c9 (by decide)) (fun _ => ?_)
  refine r_aload_n hE dX0_init_138 rfl ?_
  refine r_getf (fs := [.ref 74, .ref 76, .int 0, .ref 77, .int 0, .ref 78, .ref 80, .ref 82, .ref 84, .ref 86, .ref 88, .ref 90, .int 0, .int 0]) hE f_X0_22 dX0_init_139 (List.mem_of_getElem? (i := 9) rfl) rfl rfl ?_
  refine r_iload_n hE dX0_init_142 rfl ?_
  refine r_new (fs := [.null]) hE kX4 (x_gin (List.mem_append_right _ (tb_1 _ (List.mem_of_getElem? (i := 124) rfl))) rfl) (x_gin (List.mem_append_right _ (tb_1 _ (List.mem_of_getElem? (i := 128) rfl))) rfl) (x_gin (List.mem_append_right _ (tb_1 _ (List.mem_of_getElem? (i := 6) rfl))) rfl) (fun j hj => match j, hj with | 0, _ => rfl | k + 1, hj => absurd hj (by omega)) rfl dX0_init_143 ⟨by decide, by decide⟩ ?_
  show E 25 263 146 [(0, .ref 73), (1, .int 3)] [.ref 98, .int 3, .ref 76] z_60
  refine r_dup hE dX0_init_146 rfl ?_
  refine r_iconst (v := 0) hE dX0_init_147 (by decide) ?_
  refine r_newa (at0 := .int) (t := 0) (N := 0) hE (by decide) rfl z_aI dX0_init_148 (by decide) (by decide) (by decide) ⟨by decide, by decide⟩ ?_
  show E 26 263 150 [(0, .ref 73), (1, .int 3)] [.ref 99, .ref 98, .ref 98, .int 3, .ref 76] z_61
  refine r_invi hE [.ref 99] (z_cRule (q := 99) (List.mem_of_getElem? (i := 34) rfl) rfl) i_yX4_init m_X0_53 dX0_init_150 rfl (by decide) ⟨by decide, by decide⟩ (Nat.le_of_ble_eq_true rfl) ⟨rfl, rfl⟩ (fun r0 S0 h0 => ?_)
  obtain ⟨rfl, rfl⟩ := h0
  show E 26 263 153 [(0, .ref 73), (1, .int 3)] [.ref 98, .int 3, .ref 76] z_62
  refine r_aast (ci := 4) (n := 4) hE (by decide) dX0_init_153 (List.mem_of_getElem? (i := 12) rfl) (f := (va_up (va_up (va_up (fun _ => none) 0 (some 92)) 1 (some 94)) 2 (some 96))) rfl (List.mem_of_getElem? (i := 34) rfl) (vs := [.ref 99]) rfl (vp_in_nI (n := 3) (by decide) (by decide)) ?_
  show E 26 263 154 [(0, .ref 73), (1, .int 3)] [] z_63
  refine r_iinc (v := 4) (ls2 := [(0, .ref 73), (1, .int 4)]) hE dX0_init_154 rfl (by decide) (by decide) rfl ?_
  refine r_goto (tgt := 133) hE dX0_init_157 (by decide) ?_
  refine r_iload_n hE dX0_init_133 rfl ?_
  refine r_iconst (v := 4) hE dX0_init_134 (by decide) ?_
  refine r_icmp_ge (tgt := 160) hE dX0_init_135 (by decide) (fun _ => ?_) (fun c9 => absurd (by decide) c9)
  refine r_iconst (v := 0) hE dX0_init_160 (by decide) ?_
  refine r_istore_n (ls2 := [(0, .ref 73), (1, .int 0)]) hE dX0_init_161 (by decide) rfl ?_
  refine r_iload_n hE dX0_init_162 rfl ?_
  refine r_bipush (v := 6) hE dX0_init_163 (by decide) ?_
  refine r_icmp_ge (tgt := 193) hE dX0_init_165 (by decide) (fun c9 => absurd c9 (by decide)) (fun _ => ?_)
  refine r_aload_n hE dX0_init_168 rfl ?_
  refine r_getf (fs := [.ref 74, .ref 76, .int 0, .ref 77, .int 0, .ref 78, .ref 80, .ref 82, .ref 84, .ref 86, .ref 88, .ref 90, .int 0, .int 0]) hE f_X0_28 dX0_init_169 (List.mem_of_getElem? (i := 9) rfl) rfl rfl ?_
  refine r_iload_n hE dX0_init_172 rfl ?_
  refine r_new (fs := [.int 0, .int 0, .int 0, .null]) hE kX9 (x_gin (List.mem_append_right _ (tb_1 _ (List.mem_of_getElem? (i := 126) rfl))) rfl) (x_gin (List.mem_append_right _ (tb_1 _ (List.mem_of_getElem? (i := 138) rfl))) rfl) (x_gin (List.mem_append_right _ (tb_1 _ (List.mem_of_getElem? (i := 7) rfl))) rfl) (fun j hj => match j, hj with | 0, _ => rfl | 1, _ => rfl | 2, _ => rfl | 3, _ => rfl | k + 4, hj => absurd hj (by omega)) rfl dX0_init_173 ⟨by decide, by decide⟩ ?_
  show E 27 267 176 [(0, .ref 73), (1, .int 0)] [.ref 100, .int 0, .ref 77] z_64
  refine r_dup hE dX0_init_176 rfl ?_
  refine r_iconst (v := 0) hE dX0_init_177 (by decide) ?_
  refine r_iconst (v := 1) hE dX0_init_178 (by decide) ?_
  refine r_iconst (v := 0) hE dX0_init_179 (by decide) ?_
  refine r_iconst (v := 0) hE dX0_init_180 (by decide) ?_
  refine r_newa (at0 := .int) (t := 0) (N := 0) hE (by decide) rfl z_aI dX0_init_181 (by decide) (by decide) (by decide) ⟨by decide, by decide⟩ ?_
  show E 28 267 183 [(0, .ref 73), (1, .int 0)] [.ref 101, .int 0, .int 1, .int 0, .ref 100, .ref 100, .int 0, .ref 77] z_65
  refine r_invi hE [.int 0, .int 1, .int 0, .ref 101] (z_cWay (q := 101) (List.mem_of_getElem? (i := 36) rfl) rfl) i_yX9_init m_X0_56 dX0_init_183 rfl (by decide) ⟨by decide, by decide⟩ (Nat.le_of_ble_eq_true rfl) ⟨rfl, rfl⟩ (fun r0 S0 h0 => ?_)
  obtain ⟨rfl, rfl⟩ := h0
  show E 28 267 186 [(0, .ref 73), (1, .int 0)] [.ref 100, .int 0, .ref 77] z_66
  refine r_aast (ci := 8) (n := 6) hE (by decide) dX0_init_186 (List.mem_of_getElem? (i := 13) rfl) (f := (fun _ => none)) rfl (List.mem_of_getElem? (i := 36) rfl) (vs := [.int 0, .int 1, .int 0, .ref 101]) rfl (vp_in_nI (n := 0) (by decide) (by decide)) ?_
  show E 28 267 187 [(0, .ref 73), (1, .int 0)] [] z_67
  refine r_iinc (v := 1) (ls2 := [(0, .ref 73), (1, .int 1)]) hE dX0_init_187 rfl (by decide) (by decide) rfl ?_
  refine r_goto (tgt := 162) hE dX0_init_190 (by decide) ?_
  refine r_iload_n hE dX0_init_162 rfl ?_
  refine r_bipush (v := 6) hE dX0_init_163 (by decide) ?_
  refine r_icmp_ge (tgt := 193) hE dX0_init_165 (by decide) (fun c9 => absurd c9 (by decide)) (fun _ => ?_)
  refine r_aload_n hE dX0_init_168 rfl ?_
  refine r_getf (fs := [.ref 74, .ref 76, .int 0, .ref 77, .int 0, .ref 78, .ref 80, .ref 82, .ref 84, .ref 86, .ref 88, .ref 90, .int 0, .int 0]) hE f_X0_28 dX0_init_169 (List.mem_of_getElem? (i := 9) rfl) rfl rfl ?_
  refine r_iload_n hE dX0_init_172 rfl ?_
  refine r_new (fs := [.int 0, .int 0, .int 0, .null]) hE kX9 (x_gin (List.mem_append_right _ (tb_1 _ (List.mem_of_getElem? (i := 126) rfl))) rfl) (x_gin (List.mem_append_right _ (tb_1 _ (List.mem_of_getElem? (i := 138) rfl))) rfl) (x_gin (List.mem_append_right _ (tb_1 _ (List.mem_of_getElem? (i := 7) rfl))) rfl) (fun j hj => match j, hj with | 0, _ => rfl | 1, _ => rfl | 2, _ => rfl | 3, _ => rfl | k + 4, hj => absurd hj (by omega)) rfl dX0_init_173 ⟨by decide, by decide⟩ ?_
  show E 29 271 176 [(0, .ref 73), (1, .int 1)] [.ref 102, .int 1, .ref 77] z_68
  refine r_dup hE dX0_init_176 rfl ?_
  refine r_iconst (v := 0) hE dX0_init_177 (by decide) ?_
  refine r_iconst (v := 1) hE dX0_init_178 (by decide) ?_
  refine r_iconst (v := 0) hE dX0_init_179 (by decide) ?_
  refine r_iconst (v := 0) hE dX0_init_180 (by decide) ?_
  refine r_newa (at0 := .int) (t := 0) (N := 0) hE (by decide) rfl z_aI dX0_init_181 (by decide) (by decide) (by decide) ⟨by decide, by decide⟩ ?_
  show E 30 271 183 [(0, .ref 73), (1, .int 1)] [.ref 103, .int 0, .int 1, .int 0, .ref 102, .ref 102, .int 1, .ref 77] z_69
  refine r_invi hE [.int 0, .int 1, .int 0, .ref 103] (z_cWay (q := 103) (List.mem_of_getElem? (i := 38) rfl) rfl) i_yX9_init m_X0_56 dX0_init_183 rfl (by decide) ⟨by decide, by decide⟩ (Nat.le_of_ble_eq_true rfl) ⟨rfl, rfl⟩ (fun r0 S0 h0 => ?_)
  obtain ⟨rfl, rfl⟩ := h0
  show E 30 271 186 [(0, .ref 73), (1, .int 1)] [.ref 102, .int 1, .ref 77] z_70
  refine r_aast (ci := 8) (n := 6) hE (by decide) dX0_init_186 (List.mem_of_getElem? (i := 13) rfl) (f := (va_up (fun _ => none) 0 (some 100))) rfl (List.mem_of_getElem? (i := 38) rfl) (vs := [.int 0, .int 1, .int 0, .ref 103]) rfl (vp_in_nI (n := 1) (by decide) (by decide)) ?_
  show E 30 271 187 [(0, .ref 73), (1, .int 1)] [] z_71
  refine r_iinc (v := 2) (ls2 := [(0, .ref 73), (1, .int 2)]) hE dX0_init_187 rfl (by decide) (by decide) rfl ?_
  refine r_goto (tgt := 162) hE dX0_init_190 (by decide) ?_
  refine r_iload_n hE dX0_init_162 rfl ?_
  refine r_bipush (v := 6) hE dX0_init_163 (by decide) ?_
  refine r_icmp_ge (tgt := 193) hE dX0_init_165 (by decide) (fun c9 => absurd c9 (by decide)) (fun _ => ?_)
  refine r_aload_n hE dX0_init_168 rfl ?_
  refine r_getf (fs := [.ref 74, .ref 76, .int 0, .ref 77, .int 0, .ref 78, .ref 80, .ref 82, .ref 84, .ref 86, .ref 88, .ref 90, .int 0, .int 0]) hE f_X0_28 dX0_init_169 (List.mem_of_getElem? (i := 9) rfl) rfl rfl ?_
  refine r_iload_n hE dX0_init_172 rfl ?_
  refine r_new (fs := [.int 0, .int 0, .int 0, .null]) hE kX9 (x_gin (List.mem_append_right _ (tb_1 _ (List.mem_of_getElem? (i := 126) rfl))) rfl) (x_gin (List.mem_append_right _ (tb_1 _ (List.mem_of_getElem? (i := 138) rfl))) rfl) (x_gin (List.mem_append_right _ (tb_1 _ (List.mem_of_getElem? (i := 7) rfl))) rfl) (fun j hj => match j, hj with | 0, _ => rfl | 1, _ => rfl | 2, _ => rfl | 3, _ => rfl | k + 4, hj => absurd hj (by omega)) rfl dX0_init_173 ⟨by decide, by decide⟩ ?_
  show E 31 275 176 [(0, .ref 73), (1, .int 2)] [.ref 104, .int 2, .ref 77] z_72
  refine r_dup hE dX0_init_176 rfl ?_
  refine r_iconst (v := 0) hE dX0_init_177 (by decide) ?_
  refine r_iconst (v := 1) hE dX0_init_178 (by decide) ?_
  refine r_iconst (v := 0) hE dX0_init_179 (by decide) ?_
  refine r_iconst (v := 0) hE dX0_init_180 (by decide) ?_
  refine r_newa (at0 := .int) (t := 0) (N := 0) hE (by decide) rfl z_aI dX0_init_181 (by decide) (by decide) (by decide) ⟨by decide, by decide⟩ ?_
  show E 32 275 183 [(0, .ref 73), (1, .int 2)] [.ref 105, .int 0, .int 1, .int 0, .ref 104, .ref 104, .int 2, .ref 77] z_73
  refine r_invi hE [.int 0, .int 1, .int 0, .ref 105] (z_cWay (q := 105) (List.mem_of_getElem? (i := 40) rfl) rfl) i_yX9_init m_X0_56 dX0_init_183 rfl (by decide) ⟨by decide, by decide⟩ (Nat.le_of_ble_eq_true rfl) ⟨rfl, rfl⟩ (fun r0 S0 h0 => ?_)
  obtain ⟨rfl, rfl⟩ := h0
  show E 32 275 186 [(0, .ref 73), (1, .int 2)] [.ref 104, .int 2, .ref 77] z_74
  refine r_aast (ci := 8) (n := 6) hE (by decide) dX0_init_186 (List.mem_of_getElem? (i := 13) rfl) (f := (va_up (va_up (fun _ => none) 0 (some 100)) 1 (some 102))) rfl (List.mem_of_getElem? (i := 40) rfl) (vs := [.int 0, .int 1, .int 0, .ref 105]) rfl (vp_in_nI (n := 2) (by decide) (by decide)) ?_
  show E 32 275 187 [(0, .ref 73), (1, .int 2)] [] z_75
  refine r_iinc (v := 3) (ls2 := [(0, .ref 73), (1, .int 3)]) hE dX0_init_187 rfl (by decide) (by decide) rfl ?_
  refine r_goto (tgt := 162) hE dX0_init_190 (by decide) ?_
  refine r_iload_n hE dX0_init_162 rfl ?_
  refine r_bipush (v := 6) hE dX0_init_163 (by decide) ?_
  refine r_icmp_ge (tgt := 193) hE dX0_init_165 (by decide) (fun c9 => absurd c9 (by decide)) (fun _ => ?_)
  refine r_aload_n hE dX0_init_168 rfl ?_
  refine r_getf (fs := [.ref 74, .ref 76, .int 0, .ref 77, .int 0, .ref 78, .ref 80, .ref 82, .ref 84, .ref 86, .ref 88, .ref 90, .int 0, .int 0]) hE f_X0_28 dX0_init_169 (List.mem_of_getElem? (i := 9) rfl) rfl rfl ?_
  refine r_iload_n hE dX0_init_172 rfl ?_
  refine r_new (fs := [.int 0, .int 0, .int 0, .null]) hE kX9 (x_gin (List.mem_append_right _ (tb_1 _ (List.mem_of_getElem? (i := 126) rfl))) rfl) (x_gin (List.mem_append_right _ (tb_1 _ (List.mem_of_getElem? (i := 138) rfl))) rfl) (x_gin (List.mem_append_right _ (tb_1 _ (List.mem_of_getElem? (i := 7) rfl))) rfl) (fun j hj => match j, hj with | 0, _ => rfl | 1, _ => rfl | 2, _ => rfl | 3, _ => rfl | k + 4, hj => absurd hj (by omega)) rfl dX0_init_173 ⟨by decide, by decide⟩ ?_
  show E 33 279 176 [(0, .ref 73), (1, .int 3)] [.ref 106, .int 3, .ref 77] z_76
  refine r_dup hE dX0_init_176 rfl ?_
  refine r_iconst (v := 0) hE dX0_init_177 (by decide) ?_
  refine r_iconst (v := 1) hE dX0_init_178 (by decide) ?_
  refine r_iconst (v := 0) hE dX0_init_179 (by decide) ?_
  refine r_iconst (v := 0) hE dX0_init_180 (by decide) ?_
  refine r_newa (at0 := .int) (t := 0) (N := 0) hE (by decide) rfl z_aI dX0_init_181 (by decide) (by decide) (by decide) ⟨by decide, by decide⟩ ?_
  show E 34 279 183 [(0, .ref 73), (1, .int 3)] [.ref 107, .int 0, .int 1, .int 0, .ref 106, .ref 106, .int 3, .ref 77] z_77
  refine r_invi hE [.int 0, .int 1, .int 0, .ref 107] (z_cWay (q := 107) (List.mem_of_getElem? (i := 42) rfl) rfl) i_yX9_init m_X0_56 dX0_init_183 rfl (by decide) ⟨by decide, by decide⟩ (Nat.le_of_ble_eq_true rfl) ⟨rfl, rfl⟩ (fun r0 S0 h0 => ?_)
  obtain ⟨rfl, rfl⟩ := h0
  show E 34 279 186 [(0, .ref 73), (1, .int 3)] [.ref 106, .int 3, .ref 77] z_78
  refine r_aast (ci := 8) (n := 6) hE (by decide) dX0_init_186 (List.mem_of_getElem? (i := 13) rfl) (f := (va_up (va_up (va_up (fun _ => none) 0 (some 100)) 1 (some 102)) 2 (some 104))) rfl (List.mem_of_getElem? (i := 42) rfl) (vs := [.int 0, .int 1, .int 0, .ref 107]) rfl (vp_in_nI (n := 3) (by decide) (by decide)) ?_
  show E 34 279 187 [(0, .ref 73), (1, .int 3)] [] z_79
  refine r_iinc (v := 4) (ls2 := [(0, .ref 73), (1, .int 4)]) hE dX0_init_187 rfl (by decide) (by decide) rfl ?_
  refine r_goto (tgt := 162) hE dX0_init_190 (by decide) ?_
  refine r_iload_n hE dX0_init_162 rfl ?_
  refine r_bipush (v := 6) hE dX0_init_163 (by decide) ?_
  refine r_icmp_ge (tgt := 193) hE dX0_init_165 (by decide) (fun c9 => absurd c9 (by decide)) (fun _ => ?_)
  refine r_aload_n hE dX0_init_168 rfl ?_
  refine r_getf (fs := [.ref 74, .ref 76, .int 0, .ref 77, .int 0, .ref 78, .ref 80, .ref 82, .ref 84, .ref 86, .ref 88, .ref 90, .int 0, .int 0]) hE f_X0_28 dX0_init_169 (List.mem_of_getElem? (i := 9) rfl) rfl rfl ?_
  refine r_iload_n hE dX0_init_172 rfl ?_
  refine r_new (fs := [.int 0, .int 0, .int 0, .null]) hE kX9 (x_gin (List.mem_append_right _ (tb_1 _ (List.mem_of_getElem? (i := 126) rfl))) rfl) (x_gin (List.mem_append_right _ (tb_1 _ (List.mem_of_getElem? (i := 138) rfl))) rfl) (x_gin (List.mem_append_right _ (tb_1 _ (List.mem_of_getElem? (i := 7) rfl))) rfl) (fun j hj => match j, hj with | 0, _ => rfl | 1, _ => rfl | 2, _ => rfl | 3, _ => rfl | k + 4, hj => absurd hj (by omega)) rfl dX0_init_173 ⟨by decide, by decide⟩ ?_
  show E 35 283 176 [(0, .ref 73), (1, .int 4)] [.ref 108, .int 4, .ref 77] z_80
  refine r_dup hE dX0_init_176 rfl ?_
  refine r_iconst (v := 0) hE dX0_init_177 (by decide) ?_
  refine r_iconst (v := 1) hE dX0_init_178 (by decide) ?_
  refine r_iconst (v := 0) hE dX0_init_179 (by decide) ?_
  refine r_iconst (v := 0) hE dX0_init_180 (by decide) ?_
  refine r_newa (at0 := .int) (t := 0) (N := 0) hE (by decide) rfl z_aI dX0_init_181 (by decide) (by decide) (by decide) ⟨by decide, by decide⟩ ?_
  show E 36 283 183 [(0, .ref 73), (1, .int 4)] [.ref 109, .int 0, .int 1, .int 0, .ref 108, .ref 108, .int 4, .ref 77] z_81
  refine r_invi hE [.int 0, .int 1, .int 0, .ref 109] (z_cWay (q := 109) (List.mem_of_getElem? (i := 44) rfl) rfl) i_yX9_init m_X0_56 dX0_init_183 rfl (by decide) ⟨by decide, by decide⟩ (Nat.le_of_ble_eq_true rfl) ⟨rfl, rfl⟩ (fun r0 S0 h0 => ?_)
  obtain ⟨rfl, rfl⟩ := h0
  show E 36 283 186 [(0, .ref 73), (1, .int 4)] [.ref 108, .int 4, .ref 77] z_82
  refine r_aast (ci := 8) (n := 6) hE (by decide) dX0_init_186 (List.mem_of_getElem? (i := 13) rfl) (f := (va_up (va_up (va_up (va_up (fun _ => none) 0 (some 100)) 1 (some 102)) 2 (some 104)) 3 (some 106))) rfl (List.mem_of_getElem? (i := 44) rfl) (vs := [.int 0, .int 1, .int 0, .ref 109]) rfl (vp_in_nI (n := 4) (by decide) (by decide)) ?_
  show E 36 283 187 [(0, .ref 73), (1, .int 4)] [] z_83
  refine r_iinc (v := 5) (ls2 := [(0, .ref 73), (1, .int 5)]) hE dX0_init_187 rfl (by decide) (by decide) rfl ?_
  refine r_goto (tgt := 162) hE dX0_init_190 (by decide) ?_
  refine r_iload_n hE dX0_init_162 rfl ?_
  refine r_bipush (v := 6) hE dX0_init_163 (by decide) ?_
  refine r_icmp_ge (tgt := 193) hE dX0_init_165 (by decide) (fun c9 => absurd c9 (by decide)) (fun _ => ?_)
  refine r_aload_n hE dX0_init_168 rfl ?_
  refine r_getf (fs := [.ref 74, .ref 76, .int 0, .ref 77, .int 0, .ref 78, .ref 80, .ref 82, .ref 84, .ref 86, .ref 88, .ref 90, .int 0, .int 0]) hE f_X0_28 dX0_init_169 (List.mem_of_getElem? (i := 9) rfl) rfl rfl ?_
  refine r_iload_n hE dX0_init_172 rfl ?_
  refine r_new (fs := [.int 0, .int 0, .int 0, .null]) hE kX9 (x_gin (List.mem_append_right _ (tb_1 _ (List.mem_of_getElem? (i := 126) rfl))) rfl) (x_gin (List.mem_append_right _ (tb_1 _ (List.mem_of_getElem? (i := 138) rfl))) rfl) (x_gin (List.mem_append_right _ (tb_1 _ (List.mem_of_getElem? (i := 7) rfl))) rfl) (fun j hj => match j, hj with | 0, _ => rfl | 1, _ => rfl | 2, _ => rfl | 3, _ => rfl | k + 4, hj => absurd hj (by omega)) rfl dX0_init_173 ⟨by decide, by decide⟩ ?_
  show E 37 287 176 [(0, .ref 73), (1, .int 5)] [.ref 110, .int 5, .ref 77] z_84
  refine r_dup hE dX0_init_176 rfl ?_
  refine r_iconst (v := 0) hE dX0_init_177 (by decide) ?_
  refine r_iconst (v := 1) hE dX0_init_178 (by decide) ?_
  refine r_iconst (v := 0) hE dX0_init_179 (by decide) ?_
  refine r_iconst (v := 0) hE dX0_init_180 (by decide) ?_
  refine r_newa (at0 := .int) (t := 0) (N := 0) hE (by decide) rfl z_aI dX0_init_181 (by decide) (by decide) (by decide) ⟨by decide, by decide⟩ ?_
  show E 38 287 183 [(0, .ref 73), (1, .int 5)] [.ref 111, .int 0, .int 1, .int 0, .ref 110, .ref 110, .int 5, .ref 77] z_85
  refine r_invi hE [.int 0, .int 1, .int 0, .ref 111] (z_cWay (q := 111) (List.mem_of_getElem? (i := 46) rfl) rfl) i_yX9_init m_X0_56 dX0_init_183 rfl (by decide) ⟨by decide, by decide⟩ (Nat.le_of_ble_eq_true rfl) ⟨rfl, rfl⟩ (fun r0 S0 h0 => ?_)
  obtain ⟨rfl, rfl⟩ := h0
  show E 38 287 186 [(0, .ref 73), (1, .int 5)] [.ref 110, .int 5, .ref 77] z_86
  refine r_aast (ci := 8) (n := 6) hE (by decide) dX0_init_186 (List.mem_of_getElem? (i := 13) rfl) (f := (va_up (va_up (va_up (va_up (va_up (fun _ => none) 0 (some 100)) 1 (some 102)) 2 (some 104)) 3 (some 106)) 4 (some 108))) rfl (List.mem_of_getElem? (i := 46) rfl) (vs := [.int 0, .int 1, .int 0, .ref 111]) rfl (vp_in_nI (n := 5) (by decide) (by decide)) ?_
  show E 38 287 187 [(0, .ref 73), (1, .int 5)] [] z_87
  refine r_iinc (v := 6) (ls2 := [(0, .ref 73), (1, .int 6)]) hE dX0_init_187 rfl (by decide) (by decide) rfl ?_
  refine r_goto (tgt := 162) hE dX0_init_190 (by decide) ?_
  refine r_iload_n hE dX0_init_162 rfl ?_
  refine r_bipush (v := 6) hE dX0_init_163 (by decide) ?_
  refine r_icmp_ge (tgt := 193) hE dX0_init_165 (by decide) (fun _ => ?_) (fun c9 => absurd (by decide) c9)
  exact r_return hE dX0_init_193 rfl (Nat.le_refl _) (Nat.le_refl _) ⟨rfl, rfl⟩
def z_88 : x_S := x_put z_87 64 (.inr (9, [.ref 65, .int 0, .ref 66, .ref 73, .null, .int 0, .null, .null, .null, .null, .null]))
def z_89 : x_S := x_push z_88 (.inr (0, [.null, .null, .int 0, .null, .int 0, .null, .null, .null, .null, .null, .null, .null, .int 0, .int 0]))
def z_90 : x_S := x_push z_89 (.inr (7, [.int 0, .null, .int 0]))
def z_91 : x_S := z_Table z_90 113 8 2
def z_92 : x_S := x_put z_91 112 (.inr (0, [.ref 113, .null, .int 0, .null, .int 0, .null, .null, .null, .null, .null, .null, .null, .int 0, .int 0]))
def z_93 : x_S := x_push z_92 (.inl (4, 4, .inr (.inr (.inr (.inr (fun _ => none))))))
def z_94 : x_S := x_put z_93 112 (.inr (0, [.ref 113, .ref 115, .int 0, .null, .int 0, .null, .null, .null, .null, .null, .null, .null, .int 0, .int 0]))
def z_95 : x_S := x_push z_94 (.inl (5, 6, .inr (.inr (.inr (.inr (fun _ => none))))))
def z_96 : x_S := x_put z_95 112 (.inr (0, [.ref 113, .ref 115, .int 0, .ref 116, .int 0, .null, .null, .null, .null, .null, .null, .null, .int 0, .int 0]))
def z_97 : x_S := x_push z_96 (.inr (7, [.int 0, .null, .int 0]))
def z_98 : x_S := z_Table z_97 117 6 3
def z_99 : x_S := x_put z_98 112 (.inr (0, [.ref 113, .ref 115, .int 0, .ref 116, .int 0, .ref 117, .null, .null, .null, .null, .null, .null, .int 0, .int 0]))
def z_100 : x_S := x_push z_99 (.inr (7, [.int 0, .null, .int 0]))
def z_101 : x_S := z_Table z_100 119 10 2
def z_102 : x_S := x_put z_101 112 (.inr (0, [.ref 113, .ref 115, .int 0, .ref 116, .int 0, .ref 117, .ref 119, .null, .null, .null, .null, .null, .int 0, .int 0]))
def z_103 : x_S := x_push z_102 (.inr (7, [.int 0, .null, .int 0]))
def z_104 : x_S := z_Table z_103 121 4 3
def z_105 : x_S := x_put z_104 112 (.inr (0, [.ref 113, .ref 115, .int 0, .ref 116, .int 0, .ref 117, .ref 119, .ref 121, .null, .null, .null, .null, .int 0, .int 0]))
def z_106 : x_S := x_push z_105 (.inr (7, [.int 0, .null, .int 0]))
def z_107 : x_S := z_Table z_106 123 5 3
def z_108 : x_S := x_put z_107 112 (.inr (0, [.ref 113, .ref 115, .int 0, .ref 116, .int 0, .ref 117, .ref 119, .ref 121, .ref 123, .null, .null, .null, .int 0, .int 0]))
def z_109 : x_S := x_push z_108 (.inr (7, [.int 0, .null, .int 0]))
def z_110 : x_S := z_Table z_109 125 12 5
def z_111 : x_S := x_put z_110 112 (.inr (0, [.ref 113, .ref 115, .int 0, .ref 116, .int 0, .ref 117, .ref 119, .ref 121, .ref 123, .ref 125, .null, .null, .int 0, .int 0]))
def z_112 : x_S := x_push z_111 (.inr (7, [.int 0, .null, .int 0]))
def z_113 : x_S := z_Table z_112 127 20 3
def z_114 : x_S := x_put z_113 112 (.inr (0, [.ref 113, .ref 115, .int 0, .ref 116, .int 0, .ref 117, .ref 119, .ref 121, .ref 123, .ref 125, .ref 127, .null, .int 0, .int 0]))
def z_115 : x_S := x_push z_114 (.inr (7, [.int 0, .null, .int 0]))
def z_116 : x_S := z_Table z_115 129 6 4
def z_117 : x_S := x_put z_116 112 (.inr (0, [.ref 113, .ref 115, .int 0, .ref 116, .int 0, .ref 117, .ref 119, .ref 121, .ref 123, .ref 125, .ref 127, .ref 129, .int 0, .int 0]))
def z_118 : x_S := x_push z_117 (.inr (4, [.null]))
def z_119 : x_S := x_push z_118 (.inl (0, 0, x_at0 0))
def z_120 : x_S := z_Rule z_119 131 132
def z_121 : x_S := x_put z_120 115 (.inl (4, 4, .inr (.inr (.inr (.inr (va_up (fun _ => none) 0 (some 131)))))))
def z_122 : x_S := x_push z_121 (.inr (4, [.null]))
def z_123 : x_S := x_push z_122 (.inl (0, 0, x_at0 0))
def z_124 : x_S := z_Rule z_123 133 134
def z_125 : x_S := x_put z_124 115 (.inl (4, 4, .inr (.inr (.inr (.inr (va_up (va_up (fun _ => none) 0 (some 131)) 1 (some 133)))))))
def z_126 : x_S := x_push z_125 (.inr (4, [.null]))
def z_127 : x_S := x_push z_126 (.inl (0, 0, x_at0 0))
def z_128 : x_S := z_Rule z_127 135 136
def z_129 : x_S := x_put z_128 115 (.inl (4, 4, .inr (.inr (.inr (.inr (va_up (va_up (va_up (fun _ => none) 0 (some 131)) 1 (some 133)) 2 (some 135)))))))
def z_130 : x_S := x_push z_129 (.inr (4, [.null]))
def z_131 : x_S := x_push z_130 (.inl (0, 0, x_at0 0))
def z_132 : x_S := z_Rule z_131 137 138
def z_133 : x_S := x_put z_132 115 (.inl (4, 4, .inr (.inr (.inr (.inr (va_up (va_up (va_up (va_up (fun _ => none) 0 (some 131)) 1 (some 133)) 2 (some 135)) 3 (some 137)))))))
def z_134 : x_S := x_push z_133 (.inr (8, [.int 0, .int 0, .int 0, .null]))
def z_135 : x_S := x_push z_134 (.inl (0, 0, x_at0 0))
def z_136 : x_S := z_Way z_135 139 140 0 1 0
def z_137 : x_S := x_put z_136 116 (.inl (5, 6, .inr (.inr (.inr (.inr (va_up (fun _ => none) 0 (some 139)))))))
def z_138 : x_S := x_push z_137 (.inr (8, [.int 0, .int 0, .int 0, .null]))
def z_139 : x_S := x_push z_138 (.inl (0, 0, x_at0 0))
def z_140 : x_S := z_Way z_139 141 142 0 1 0
def z_141 : x_S := x_put z_140 116 (.inl (5, 6, .inr (.inr (.inr (.inr (va_up (va_up (fun _ => none) 0 (some 139)) 1 (some 141)))))))
def z_142 : x_S := x_push z_141 (.inr (8, [.int 0, .int 0, .int 0, .null]))
def z_143 : x_S := x_push z_142 (.inl (0, 0, x_at0 0))
def z_144 : x_S := z_Way z_143 143 144 0 1 0
def z_145 : x_S := x_put z_144 116 (.inl (5, 6, .inr (.inr (.inr (.inr (va_up (va_up (va_up (fun _ => none) 0 (some 139)) 1 (some 141)) 2 (some 143)))))))
def z_146 : x_S := x_push z_145 (.inr (8, [.int 0, .int 0, .int 0, .null]))
def z_147 : x_S := x_push z_146 (.inl (0, 0, x_at0 0))
def z_148 : x_S := z_Way z_147 145 146 0 1 0
def z_149 : x_S := x_put z_148 116 (.inl (5, 6, .inr (.inr (.inr (.inr (va_up (va_up (va_up (va_up (fun _ => none) 0 (some 139)) 1 (some 141)) 2 (some 143)) 3 (some 145)))))))
def z_150 : x_S := x_push z_149 (.inr (8, [.int 0, .int 0, .int 0, .null]))
def z_151 : x_S := x_push z_150 (.inl (0, 0, x_at0 0))
def z_152 : x_S := z_Way z_151 147 148 0 1 0
def z_153 : x_S := x_put z_152 116 (.inl (5, 6, .inr (.inr (.inr (.inr (va_up (va_up (va_up (va_up (va_up (fun _ => none) 0 (some 139)) 1 (some 141)) 2 (some 143)) 3 (some 145)) 4 (some 147)))))))
def z_154 : x_S := x_push z_153 (.inr (8, [.int 0, .int 0, .int 0, .null]))
def z_155 : x_S := x_push z_154 (.inl (0, 0, x_at0 0))
def z_156 : x_S := z_Way z_155 149 150 0 1 0
def z_157 : x_S := x_put z_156 116 (.inl (5, 6, .inr (.inr (.inr (.inr (va_up (va_up (va_up (va_up (va_up (va_up (fun _ => none) 0 (some 139)) 1 (some 141)) 2 (some 143)) 3 (some 145)) 4 (some 147)) 5 (some 149)))))))
set_option maxRecDepth 100000 in
theorem z_cX0_4 {V : x_E} (hV : y_V V) : z_Ct V yX0_init cX0_init 2 2 38 287 [.ref 112] z_89 z_157 := by
  refine z_ct (by decide) (Nat.le_of_ble_eq_true rfl) (fun E hE => ?_)
  change E 0 0 0 [(0, .ref 112)] [] z_89
  refine r_aload_n hE dX0_init_0 rfl ?_
  refine r_obj hE (x_gin (List.mem_append_right _ (tb_1 _ (List.mem_of_getElem? (i := 104) rfl))) rfl) z_obj z_objc dX0_init_1 (by decide) (Nat.le_of_ble_eq_true rfl) ?_
  refine r_aload_n hE dX0_init_4 rfl ?_
  refine r_new (fs := [.int 0, .null, .int 0]) hE kX7 (x_gin (List.mem_append_right _ (tb_1 _ (List.mem_of_getElem? (i := 105) rfl))) rfl) (x_gin (List.mem_append_right _ (tb_1 _ (List.mem_of_getElem? (i := 106) rfl))) rfl) (x_gin (List.mem_append_right _ (tb_1 _ (List.mem_of_getElem? (i := 5) rfl))) rfl) (fun j hj => match j, hj with | 0, _ => rfl | 1, _ => rfl | 2, _ => rfl | k + 3, hj => absurd hj (by omega)) rfl dX0_init_5 ⟨by decide, by decide⟩ ?_
  show E 1 3 8 [(0, .ref 112)] [.ref 113, .ref 112] z_90
  refine r_dup hE dX0_init_8 rfl ?_
  refine r_bipush (v := 8) hE dX0_init_9 (by decide) ?_
  refine r_iconst (v := 2) hE dX0_init_11 (by decide) ?_
  refine r_invi hE [.int 8, .int 2] (z_cTable (h := 113) (mo := 8) (co := 2) (List.mem_of_getElem? (i := 49) rfl) (by decide) rfl (by decide)) i_yX7_init m_X0_11 dX0_init_12 rfl (by decide) ⟨by decide, by decide⟩ (Nat.le_of_ble_eq_true rfl) ⟨rfl, rfl⟩ (fun r0 S0 h0 => ?_)
  obtain ⟨rfl, rfl⟩ := h0
  show E 2 19 15 [(0, .ref 112)] [.ref 113, .ref 112] z_91
  refine r_putF hE f_X0_14 dX0_init_15 (List.mem_of_getElem? (i := 48) rfl) (fs := [.null, .null, .int 0, .null, .int 0, .null, .null, .null, .null, .null, .null, .null, .int 0, .int 0]) rfl rfl rfl (Nat.le_of_ble_eq_true rfl) ?_
  show E 2 19 18 [(0, .ref 112)] [] z_92
  refine r_aload_n hE dX0_init_18 rfl ?_
  refine r_iconst (v := 4) hE dX0_init_19 (by decide) ?_
  refine r_anew (t := 4) (N := 4) (C := "DarkSitting$Rule") hE (by decide) rfl (x_gin (List.mem_append_right _ (tb_1 _ (List.mem_of_getElem? (i := 124) rfl))) rfl) (fun U H9 h9 => (hV.2 U H9 h9).2.2.2.2.2.2.2.2.1) dX0_init_20 (by decide) (by decide) (by decide) ⟨by decide, by decide⟩ ?_
  show E 3 23 23 [(0, .ref 112)] [.ref 115, .ref 112] z_93
  refine r_putF hE f_X0_22 dX0_init_23 (List.mem_of_getElem? (i := 48) rfl) (fs := [.ref 113, .null, .int 0, .null, .int 0, .null, .null, .null, .null, .null, .null, .null, .int 0, .int 0]) rfl rfl rfl (Nat.le_of_ble_eq_true rfl) ?_
  show E 3 23 26 [(0, .ref 112)] [] z_94
  refine r_aload_n hE dX0_init_26 rfl ?_
  refine r_bipush (v := 6) hE dX0_init_27 (by decide) ?_
  refine r_anew (t := 5) (N := 6) (C := "DarkSitting$Way") hE (by decide) rfl (x_gin (List.mem_append_right _ (tb_1 _ (List.mem_of_getElem? (i := 126) rfl))) rfl) (fun U H9 h9 => (hV.2 U H9 h9).2.2.2.2.2.2.2.2.2.1) dX0_init_29 (by decide) (by decide) (by decide) ⟨by decide, by decide⟩ ?_
  show E 4 29 32 [(0, .ref 112)] [.ref 116, .ref 112] z_95
  refine r_putF hE f_X0_28 dX0_init_32 (List.mem_of_getElem? (i := 48) rfl) (fs := [.ref 113, .ref 115, .int 0, .null, .int 0, .null, .null, .null, .null, .null, .null, .null, .int 0, .int 0]) rfl rfl rfl (Nat.le_of_ble_eq_true rfl) ?_
  show E 4 29 35 [(0, .ref 112)] [] z_96
  refine r_aload_n hE dX0_init_35 rfl ?_
  refine r_new (fs := [.int 0, .null, .int 0]) hE kX7 (x_gin (List.mem_append_right _ (tb_1 _ (List.mem_of_getElem? (i := 105) rfl))) rfl) (x_gin (List.mem_append_right _ (tb_1 _ (List.mem_of_getElem? (i := 106) rfl))) rfl) (x_gin (List.mem_append_right _ (tb_1 _ (List.mem_of_getElem? (i := 5) rfl))) rfl) (fun j hj => match j, hj with | 0, _ => rfl | 1, _ => rfl | 2, _ => rfl | k + 3, hj => absurd hj (by omega)) rfl dX0_init_36 ⟨by decide, by decide⟩ ?_
  show E 5 32 39 [(0, .ref 112)] [.ref 117, .ref 112] z_97
  refine r_dup hE dX0_init_39 rfl ?_
  refine r_bipush (v := 6) hE dX0_init_40 (by decide) ?_
  refine r_iconst (v := 3) hE dX0_init_42 (by decide) ?_
  refine r_invi hE [.int 6, .int 3] (z_cTable (h := 117) (mo := 6) (co := 3) (List.mem_of_getElem? (i := 53) rfl) (by decide) rfl (by decide)) i_yX7_init m_X0_11 dX0_init_43 rfl (by decide) ⟨by decide, by decide⟩ (Nat.le_of_ble_eq_true rfl) ⟨rfl, rfl⟩ (fun r0 S0 h0 => ?_)
  obtain ⟨rfl, rfl⟩ := h0
  show E 6 50 46 [(0, .ref 112)] [.ref 117, .ref 112] z_98
  refine r_putF hE f_X0_32 dX0_init_46 (List.mem_of_getElem? (i := 48) rfl) (fs := [.ref 113, .ref 115, .int 0, .ref 116, .int 0, .null, .null, .null, .null, .null, .null, .null, .int 0, .int 0]) rfl rfl rfl (Nat.le_of_ble_eq_true rfl) ?_
  show E 6 50 49 [(0, .ref 112)] [] z_99
  refine r_aload_n hE dX0_init_49 rfl ?_
  refine r_new (fs := [.int 0, .null, .int 0]) hE kX7 (x_gin (List.mem_append_right _ (tb_1 _ (List.mem_of_getElem? (i := 105) rfl))) rfl) (x_gin (List.mem_append_right _ (tb_1 _ (List.mem_of_getElem? (i := 106) rfl))) rfl) (x_gin (List.mem_append_right _ (tb_1 _ (List.mem_of_getElem? (i := 5) rfl))) rfl) (fun j hj => match j, hj with | 0, _ => rfl | 1, _ => rfl | 2, _ => rfl | k + 3, hj => absurd hj (by omega)) rfl dX0_init_50 ⟨by decide, by decide⟩ ?_
  show E 7 53 53 [(0, .ref 112)] [.ref 119, .ref 112] z_100
  refine r_dup hE dX0_init_53 rfl ?_
  refine r_bipush (v := 10) hE dX0_init_54 (by decide) ?_
  refine r_iconst (v := 2) hE dX0_init_56 (by decide) ?_
  refine r_invi hE [.int 10, .int 2] (z_cTable (h := 119) (mo := 10) (co := 2) (List.mem_of_getElem? (i := 55) rfl) (by decide) rfl (by decide)) i_yX7_init m_X0_11 dX0_init_57 rfl (by decide) ⟨by decide, by decide⟩ (Nat.le_of_ble_eq_true rfl) ⟨rfl, rfl⟩ (fun r0 S0 h0 => ?_)
  obtain ⟨rfl, rfl⟩ := h0
  show E 8 73 60 [(0, .ref 112)] [.ref 119, .ref 112] z_101
  refine r_putF hE f_X0_35 dX0_init_60 (List.mem_of_getElem? (i := 48) rfl) (fs := [.ref 113, .ref 115, .int 0, .ref 116, .int 0, .ref 117, .null, .null, .null, .null, .null, .null, .int 0, .int 0]) rfl rfl rfl (Nat.le_of_ble_eq_true rfl) ?_
  show E 8 73 63 [(0, .ref 112)] [] z_102
  refine r_aload_n hE dX0_init_63 rfl ?_
  refine r_new (fs := [.int 0, .null, .int 0]) hE kX7 (x_gin (List.mem_append_right _ (tb_1 _ (List.mem_of_getElem? (i := 105) rfl))) rfl) (x_gin (List.mem_append_right _ (tb_1 _ (List.mem_of_getElem? (i := 106) rfl))) rfl) (x_gin (List.mem_append_right _ (tb_1 _ (List.mem_of_getElem? (i := 5) rfl))) rfl) (fun j hj => match j, hj with | 0, _ => rfl | 1, _ => rfl | 2, _ => rfl | k + 3, hj => absurd hj (by omega)) rfl dX0_init_64 ⟨by decide, by decide⟩ ?_
  show E 9 76 67 [(0, .ref 112)] [.ref 121, .ref 112] z_103
  refine r_dup hE dX0_init_67 rfl ?_
  refine r_iconst (v := 4) hE dX0_init_68 (by decide) ?_
  refine r_iconst (v := 3) hE dX0_init_69 (by decide) ?_
  refine r_invi hE [.int 4, .int 3] (z_cTable (h := 121) (mo := 4) (co := 3) (List.mem_of_getElem? (i := 57) rfl) (by decide) rfl (by decide)) i_yX7_init m_X0_11 dX0_init_70 rfl (by decide) ⟨by decide, by decide⟩ (Nat.le_of_ble_eq_true rfl) ⟨rfl, rfl⟩ (fun r0 S0 h0 => ?_)
  obtain ⟨rfl, rfl⟩ := h0
  show E 10 88 73 [(0, .ref 112)] [.ref 121, .ref 112] z_104
  refine r_putF hE f_X0_38 dX0_init_73 (List.mem_of_getElem? (i := 48) rfl) (fs := [.ref 113, .ref 115, .int 0, .ref 116, .int 0, .ref 117, .ref 119, .null, .null, .null, .null, .null, .int 0, .int 0]) rfl rfl rfl (Nat.le_of_ble_eq_true rfl) ?_
  show E 10 88 76 [(0, .ref 112)] [] z_105
  refine r_aload_n hE dX0_init_76 rfl ?_
  refine r_new (fs := [.int 0, .null, .int 0]) hE kX7 (x_gin (List.mem_append_right _ (tb_1 _ (List.mem_of_getElem? (i := 105) rfl))) rfl) (x_gin (List.mem_append_right _ (tb_1 _ (List.mem_of_getElem? (i := 106) rfl))) rfl) (x_gin (List.mem_append_right _ (tb_1 _ (List.mem_of_getElem? (i := 5) rfl))) rfl) (fun j hj => match j, hj with | 0, _ => rfl | 1, _ => rfl | 2, _ => rfl | k + 3, hj => absurd hj (by omega)) rfl dX0_init_77 ⟨by decide, by decide⟩ ?_
  show E 11 91 80 [(0, .ref 112)] [.ref 123, .ref 112] z_106
  refine r_dup hE dX0_init_80 rfl ?_
  refine r_iconst (v := 5) hE dX0_init_81 (by decide) ?_
  refine r_iconst (v := 3) hE dX0_init_82 (by decide) ?_
  refine r_invi hE [.int 5, .int 3] (z_cTable (h := 123) (mo := 5) (co := 3) (List.mem_of_getElem? (i := 59) rfl) (by decide) rfl (by decide)) i_yX7_init m_X0_11 dX0_init_83 rfl (by decide) ⟨by decide, by decide⟩ (Nat.le_of_ble_eq_true rfl) ⟨rfl, rfl⟩ (fun r0 S0 h0 => ?_)
  obtain ⟨rfl, rfl⟩ := h0
  show E 12 106 86 [(0, .ref 112)] [.ref 123, .ref 112] z_107
  refine r_putF hE f_X0_41 dX0_init_86 (List.mem_of_getElem? (i := 48) rfl) (fs := [.ref 113, .ref 115, .int 0, .ref 116, .int 0, .ref 117, .ref 119, .ref 121, .null, .null, .null, .null, .int 0, .int 0]) rfl rfl rfl (Nat.le_of_ble_eq_true rfl) ?_
  show E 12 106 89 [(0, .ref 112)] [] z_108
  refine r_aload_n hE dX0_init_89 rfl ?_
  refine r_new (fs := [.int 0, .null, .int 0]) hE kX7 (x_gin (List.mem_append_right _ (tb_1 _ (List.mem_of_getElem? (i := 105) rfl))) rfl) (x_gin (List.mem_append_right _ (tb_1 _ (List.mem_of_getElem? (i := 106) rfl))) rfl) (x_gin (List.mem_append_right _ (tb_1 _ (List.mem_of_getElem? (i := 5) rfl))) rfl) (fun j hj => match j, hj with | 0, _ => rfl | 1, _ => rfl | 2, _ => rfl | k + 3, hj => absurd hj (by omega)) rfl dX0_init_90 ⟨by decide, by decide⟩ ?_
  show E 13 109 93 [(0, .ref 112)] [.ref 125, .ref 112] z_109
  refine r_dup hE dX0_init_93 rfl ?_
  refine r_bipush (v := 12) hE dX0_init_94 (by decide) ?_
  refine r_iconst (v := 5) hE dX0_init_96 (by decide) ?_
  refine r_invi hE [.int 12, .int 5] (z_cTable (h := 125) (mo := 12) (co := 5) (List.mem_of_getElem? (i := 61) rfl) (by decide) rfl (by decide)) i_yX7_init m_X0_11 dX0_init_97 rfl (by decide) ⟨by decide, by decide⟩ (Nat.le_of_ble_eq_true rfl) ⟨rfl, rfl⟩ (fun r0 S0 h0 => ?_)
  obtain ⟨rfl, rfl⟩ := h0
  show E 14 169 100 [(0, .ref 112)] [.ref 125, .ref 112] z_110
  refine r_putF hE f_X0_44 dX0_init_100 (List.mem_of_getElem? (i := 48) rfl) (fs := [.ref 113, .ref 115, .int 0, .ref 116, .int 0, .ref 117, .ref 119, .ref 121, .ref 123, .null, .null, .null, .int 0, .int 0]) rfl rfl rfl (Nat.le_of_ble_eq_true rfl) ?_
  show E 14 169 103 [(0, .ref 112)] [] z_111
  refine r_aload_n hE dX0_init_103 rfl ?_
  refine r_new (fs := [.int 0, .null, .int 0]) hE kX7 (x_gin (List.mem_append_right _ (tb_1 _ (List.mem_of_getElem? (i := 105) rfl))) rfl) (x_gin (List.mem_append_right _ (tb_1 _ (List.mem_of_getElem? (i := 106) rfl))) rfl) (x_gin (List.mem_append_right _ (tb_1 _ (List.mem_of_getElem? (i := 5) rfl))) rfl) (fun j hj => match j, hj with | 0, _ => rfl | 1, _ => rfl | 2, _ => rfl | k + 3, hj => absurd hj (by omega)) rfl dX0_init_104 ⟨by decide, by decide⟩ ?_
  show E 15 172 107 [(0, .ref 112)] [.ref 127, .ref 112] z_112
  refine r_dup hE dX0_init_107 rfl ?_
  refine r_bipush (v := 20) hE dX0_init_108 (by decide) ?_
  refine r_iconst (v := 3) hE dX0_init_110 (by decide) ?_
  refine r_invi hE [.int 20, .int 3] (z_cTable (h := 127) (mo := 20) (co := 3) (List.mem_of_getElem? (i := 63) rfl) (by decide) rfl (by decide)) i_yX7_init m_X0_11 dX0_init_111 rfl (by decide) ⟨by decide, by decide⟩ (Nat.le_of_ble_eq_true rfl) ⟨rfl, rfl⟩ (fun r0 S0 h0 => ?_)
  obtain ⟨rfl, rfl⟩ := h0
  show E 16 232 114 [(0, .ref 112)] [.ref 127, .ref 112] z_113
  refine r_putF hE f_X0_47 dX0_init_114 (List.mem_of_getElem? (i := 48) rfl) (fs := [.ref 113, .ref 115, .int 0, .ref 116, .int 0, .ref 117, .ref 119, .ref 121, .ref 123, .ref 125, .null, .null, .int 0, .int 0]) rfl rfl rfl (Nat.le_of_ble_eq_true rfl) ?_
  show E 16 232 117 [(0, .ref 112)] [] z_114
  refine r_aload_n hE dX0_init_117 rfl ?_
  refine r_new (fs := [.int 0, .null, .int 0]) hE kX7 (x_gin (List.mem_append_right _ (tb_1 _ (List.mem_of_getElem? (i := 105) rfl))) rfl) (x_gin (List.mem_append_right _ (tb_1 _ (List.mem_of_getElem? (i := 106) rfl))) rfl) (x_gin (List.mem_append_right _ (tb_1 _ (List.mem_of_getElem? (i := 5) rfl))) rfl) (fun j hj => match j, hj with | 0, _ => rfl | 1, _ => rfl | 2, _ => rfl | k + 3, hj => absurd hj (by omega)) rfl dX0_init_118 ⟨by decide, by decide⟩ ?_
  show E 17 235 121 [(0, .ref 112)] [.ref 129, .ref 112] z_115
  refine r_dup hE dX0_init_121 rfl ?_
  refine r_bipush (v := 6) hE dX0_init_122 (by decide) ?_
  refine r_iconst (v := 4) hE dX0_init_124 (by decide) ?_
  refine r_invi hE [.int 6, .int 4] (z_cTable (h := 129) (mo := 6) (co := 4) (List.mem_of_getElem? (i := 65) rfl) (by decide) rfl (by decide)) i_yX7_init m_X0_11 dX0_init_125 rfl (by decide) ⟨by decide, by decide⟩ (Nat.le_of_ble_eq_true rfl) ⟨rfl, rfl⟩ (fun r0 S0 h0 => ?_)
  obtain ⟨rfl, rfl⟩ := h0
  show E 18 259 128 [(0, .ref 112)] [.ref 129, .ref 112] z_116
  refine r_putF hE f_X0_50 dX0_init_128 (List.mem_of_getElem? (i := 48) rfl) (fs := [.ref 113, .ref 115, .int 0, .ref 116, .int 0, .ref 117, .ref 119, .ref 121, .ref 123, .ref 125, .ref 127, .null, .int 0, .int 0]) rfl rfl rfl (Nat.le_of_ble_eq_true rfl) ?_
  show E 18 259 131 [(0, .ref 112)] [] z_117
  refine r_iconst (v := 0) hE dX0_init_131 (by decide) ?_
  refine r_istore_n (ls2 := [(0, .ref 112), (1, .int 0)]) hE dX0_init_132 (by decide) rfl ?_
  refine r_iload_n hE dX0_init_133 rfl ?_
  refine r_iconst (v := 4) hE dX0_init_134 (by decide) ?_
  refine r_icmp_ge (tgt := 160) hE dX0_init_135 (by decide) (fun c9 => absurd c9 (by decide)) (fun _ => ?_)
  refine r_aload_n hE dX0_init_138 rfl ?_
  refine r_getf (fs := [.ref 113, .ref 115, .int 0, .ref 116, .int 0, .ref 117, .ref 119, .ref 121, .ref 123, .ref 125, .ref 127, .ref 129, .int 0, .int 0]) hE f_X0_22 dX0_init_139 (List.mem_of_getElem? (i := 48) rfl) rfl rfl ?_
  refine r_iload_n hE dX0_init_142 rfl ?_
  refine r_new (fs := [.null]) hE kX4 (x_gin (List.mem_append_right _ (tb_1 _ (List.mem_of_getElem? (i := 124) rfl))) rfl) (x_gin (List.mem_append_right _ (tb_1 _ (List.mem_of_getElem? (i := 128) rfl))) rfl) (x_gin (List.mem_append_right _ (tb_1 _ (List.mem_of_getElem? (i := 6) rfl))) rfl) (fun j hj => match j, hj with | 0, _ => rfl | k + 1, hj => absurd hj (by omega)) rfl dX0_init_143 ⟨by decide, by decide⟩ ?_
  show E 19 260 146 [(0, .ref 112), (1, .int 0)] [.ref 131, .int 0, .ref 115] z_118
  refine r_dup hE dX0_init_146 rfl ?_
  refine r_iconst (v := 0) hE dX0_init_147 (by decide) ?_
  refine r_newa (at0 := .int) (t := 0) (N := 0) hE (by decide) rfl z_aI dX0_init_148 (by decide) (by decide) (by decide) ⟨by decide, by decide⟩ ?_
  show E 20 260 150 [(0, .ref 112), (1, .int 0)] [.ref 132, .ref 131, .ref 131, .int 0, .ref 115] z_119
  refine r_invi hE [.ref 132] (z_cRule (q := 132) (List.mem_of_getElem? (i := 67) rfl) rfl) i_yX4_init m_X0_53 dX0_init_150 rfl (by decide) ⟨by decide, by decide⟩ (Nat.le_of_ble_eq_true rfl) ⟨rfl, rfl⟩ (fun r0 S0 h0 => ?_)
  obtain ⟨rfl, rfl⟩ := h0
  show E 20 260 153 [(0, .ref 112), (1, .int 0)] [.ref 131, .int 0, .ref 115] z_120
  refine r_aast (ci := 4) (n := 4) hE (by decide) dX0_init_153 (List.mem_of_getElem? (i := 51) rfl) (f := (fun _ => none)) rfl (List.mem_of_getElem? (i := 67) rfl) (vs := [.ref 132]) rfl (vp_in_nI (n := 0) (by decide) (by decide)) ?_
  show E 20 260 154 [(0, .ref 112), (1, .int 0)] [] z_121
  refine r_iinc (v := 1) (ls2 := [(0, .ref 112), (1, .int 1)]) hE dX0_init_154 rfl (by decide) (by decide) rfl ?_
  refine r_goto (tgt := 133) hE dX0_init_157 (by decide) ?_
  refine r_iload_n hE dX0_init_133 rfl ?_
  refine r_iconst (v := 4) hE dX0_init_134 (by decide) ?_
  refine r_icmp_ge (tgt := 160) hE dX0_init_135 (by decide) (fun c9 => absurd c9 (by decide)) (fun _ => ?_)
  refine r_aload_n hE dX0_init_138 rfl ?_
  refine r_getf (fs := [.ref 113, .ref 115, .int 0, .ref 116, .int 0, .ref 117, .ref 119, .ref 121, .ref 123, .ref 125, .ref 127, .ref 129, .int 0, .int 0]) hE f_X0_22 dX0_init_139 (List.mem_of_getElem? (i := 48) rfl) rfl rfl ?_
  refine r_iload_n hE dX0_init_142 rfl ?_
  refine r_new (fs := [.null]) hE kX4 (x_gin (List.mem_append_right _ (tb_1 _ (List.mem_of_getElem? (i := 124) rfl))) rfl) (x_gin (List.mem_append_right _ (tb_1 _ (List.mem_of_getElem? (i := 128) rfl))) rfl) (x_gin (List.mem_append_right _ (tb_1 _ (List.mem_of_getElem? (i := 6) rfl))) rfl) (fun j hj => match j, hj with | 0, _ => rfl | k + 1, hj => absurd hj (by omega)) rfl dX0_init_143 ⟨by decide, by decide⟩ ?_
  show E 21 261 146 [(0, .ref 112), (1, .int 1)] [.ref 133, .int 1, .ref 115] z_122
  refine r_dup hE dX0_init_146 rfl ?_
  refine r_iconst (v := 0) hE dX0_init_147 (by decide) ?_
  refine r_newa (at0 := .int) (t := 0) (N := 0) hE (by decide) rfl z_aI dX0_init_148 (by decide) (by decide) (by decide) ⟨by decide, by decide⟩ ?_
  show E 22 261 150 [(0, .ref 112), (1, .int 1)] [.ref 134, .ref 133, .ref 133, .int 1, .ref 115] z_123
  refine r_invi hE [.ref 134] (z_cRule (q := 134) (List.mem_of_getElem? (i := 69) rfl) rfl) i_yX4_init m_X0_53 dX0_init_150 rfl (by decide) ⟨by decide, by decide⟩ (Nat.le_of_ble_eq_true rfl) ⟨rfl, rfl⟩ (fun r0 S0 h0 => ?_)
  obtain ⟨rfl, rfl⟩ := h0
  show E 22 261 153 [(0, .ref 112), (1, .int 1)] [.ref 133, .int 1, .ref 115] z_124
  refine r_aast (ci := 4) (n := 4) hE (by decide) dX0_init_153 (List.mem_of_getElem? (i := 51) rfl) (f := (va_up (fun _ => none) 0 (some 131))) rfl (List.mem_of_getElem? (i := 69) rfl) (vs := [.ref 134]) rfl (vp_in_nI (n := 1) (by decide) (by decide)) ?_
  show E 22 261 154 [(0, .ref 112), (1, .int 1)] [] z_125
  refine r_iinc (v := 2) (ls2 := [(0, .ref 112), (1, .int 2)]) hE dX0_init_154 rfl (by decide) (by decide) rfl ?_
  refine r_goto (tgt := 133) hE dX0_init_157 (by decide) ?_
  refine r_iload_n hE dX0_init_133 rfl ?_
  refine r_iconst (v := 4) hE dX0_init_134 (by decide) ?_
  refine r_icmp_ge (tgt := 160) hE dX0_init_135 (by decide) (fun c9 => absurd c9 (by decide)) (fun _ => ?_)
  refine r_aload_n hE dX0_init_138 rfl ?_
  refine r_getf (fs := [.ref 113, .ref 115, .int 0, .ref 116, .int 0, .ref 117, .ref 119, .ref 121, .ref 123, .ref 125, .ref 127, .ref 129, .int 0, .int 0]) hE f_X0_22 dX0_init_139 (List.mem_of_getElem? (i := 48) rfl) rfl rfl ?_
  refine r_iload_n hE dX0_init_142 rfl ?_
  refine r_new (fs := [.null]) hE kX4 (x_gin (List.mem_append_right _ (tb_1 _ (List.mem_of_getElem? (i := 124) rfl))) rfl) (x_gin (List.mem_append_right _ (tb_1 _ (List.mem_of_getElem? (i := 128) rfl))) rfl) (x_gin (List.mem_append_right _ (tb_1 _ (List.mem_of_getElem? (i := 6) rfl))) rfl) (fun j hj => match j, hj with | 0, _ => rfl | k + 1, hj => absurd hj (by omega)) rfl dX0_init_143 ⟨by decide, by decide⟩ ?_
  show E 23 262 146 [(0, .ref 112), (1, .int 2)] [.ref 135, .int 2, .ref 115] z_126
  refine r_dup hE dX0_init_146 rfl ?_
  refine r_iconst (v := 0) hE dX0_init_147 (by decide) ?_
  refine r_newa (at0 := .int) (t := 0) (N := 0) hE (by decide) rfl z_aI dX0_init_148 (by decide) (by decide) (by decide) ⟨by decide, by decide⟩ ?_
  show E 24 262 150 [(0, .ref 112), (1, .int 2)] [.ref 136, .ref 135, .ref 135, .int 2, .ref 115] z_127
  refine r_invi hE [.ref 136] (z_cRule (q := 136) (List.mem_of_getElem? (i := 71) rfl) rfl) i_yX4_init m_X0_53 dX0_init_150 rfl (by decide) ⟨by decide, by decide⟩ (Nat.le_of_ble_eq_true rfl) ⟨rfl, rfl⟩ (fun r0 S0 h0 => ?_)
  obtain ⟨rfl, rfl⟩ := h0
  show E 24 262 153 [(0, .ref 112), (1, .int 2)] [.ref 135, .int 2, .ref 115] z_128
  refine r_aast (ci := 4) (n := 4) hE (by decide) dX0_init_153 (List.mem_of_getElem? (i := 51) rfl) (f := (va_up (va_up (fun _ => none) 0 (some 131)) 1 (some 133))) rfl (List.mem_of_getElem? (i := 71) rfl) (vs := [.ref 136]) rfl (vp_in_nI (n := 2) (by decide) (by decide)) ?_
  show E 24 262 154 [(0, .ref 112), (1, .int 2)] [] z_129
  refine r_iinc (v := 3) (ls2 := [(0, .ref 112), (1, .int 3)]) hE dX0_init_154 rfl (by decide) (by decide) rfl ?_
  refine r_goto (tgt := 133) hE dX0_init_157 (by decide) ?_
  refine r_iload_n hE dX0_init_133 rfl ?_
  refine r_iconst (v := 4) hE dX0_init_134 (by decide) ?_
  refine r_icmp_ge (tgt := 160) hE dX0_init_135 (by decide) (fun c9 => absurd c9 (by decide)) (fun _ => ?_)
  refine r_aload_n hE dX0_init_138 rfl ?_
  refine r_getf (fs := [.ref 113, .ref 115, .int 0, .ref 116, .int 0, .ref 117, .ref 119, .ref 121, .ref 123, .ref 125, .ref 127, .ref 129, .int 0, .int 0]) hE f_X0_22 dX0_init_139 (List.mem_of_getElem? (i := 48) rfl) rfl rfl ?_
  refine r_iload_n hE dX0_init_142 rfl ?_
  refine r_new (fs := [.null]) hE kX4 (x_gin (List.mem_append_right _ (tb_1 _ (List.mem_of_getElem? (i := 124) rfl))) rfl) (x_gin (List.mem_append_right _ (tb_1 _ (List.mem_of_getElem? (i := 128) rfl))) rfl) (x_gin (List.mem_append_right _ (tb_1 _ (List.mem_of_getElem? (i := 6) rfl))) rfl) (fun j hj => match j, hj with | 0, _ => rfl | k + 1, hj => absurd hj (by omega)) rfl dX0_init_143 ⟨by decide, by decide⟩ ?_
  show E 25 263 146 [(0, .ref 112), (1, .int 3)] [.ref 137, .int 3, .ref 115] z_130
  refine r_dup hE dX0_init_146 rfl ?_
  refine r_iconst (v := 0) hE dX0_init_147 (by decide) ?_
  refine r_newa (at0 := .int) (t := 0) (N := 0) hE (by decide) rfl z_aI dX0_init_148 (by decide) (by decide) (by decide) ⟨by decide, by decide⟩ ?_
  show E 26 263 150 [(0, .ref 112), (1, .int 3)] [.ref 138, .ref 137, .ref 137, .int 3, .ref 115] z_131
  refine r_invi hE [.ref 138] (z_cRule (q := 138) (List.mem_of_getElem? (i := 73) rfl) rfl) i_yX4_init m_X0_53 dX0_init_150 rfl (by decide) ⟨by decide, by decide⟩ (Nat.le_of_ble_eq_true rfl) ⟨rfl, rfl⟩ (fun r0 S0 h0 => ?_)
  obtain ⟨rfl, rfl⟩ := h0
  show E 26 263 153 [(0, .ref 112), (1, .int 3)] [.ref 137, .int 3, .ref 115] z_132
  refine r_aast (ci := 4) (n := 4) hE (by decide) dX0_init_153 (List.mem_of_getElem? (i := 51) rfl) (f := (va_up (va_up (va_up (fun _ => none) 0 (some 131)) 1 (some 133)) 2 (some 135))) rfl (List.mem_of_getElem? (i := 73) rfl) (vs := [.ref 138]) rfl (vp_in_nI (n := 3) (by decide) (by decide)) ?_
  show E 26 263 154 [(0, .ref 112), (1, .int 3)] [] z_133
  refine r_iinc (v := 4) (ls2 := [(0, .ref 112), (1, .int 4)]) hE dX0_init_154 rfl (by decide) (by decide) rfl ?_
  refine r_goto (tgt := 133) hE dX0_init_157 (by decide) ?_
  refine r_iload_n hE dX0_init_133 rfl ?_
  refine r_iconst (v := 4) hE dX0_init_134 (by decide) ?_
  refine r_icmp_ge (tgt := 160) hE dX0_init_135 (by decide) (fun _ => ?_) (fun c9 => absurd (by decide) c9)
  refine r_iconst (v := 0) hE dX0_init_160 (by decide) ?_
  refine r_istore_n (ls2 := [(0, .ref 112), (1, .int 0)]) hE dX0_init_161 (by decide) rfl ?_
  refine r_iload_n hE dX0_init_162 rfl ?_
  refine r_bipush (v := 6) hE dX0_init_163 (by decide) ?_
  refine r_icmp_ge (tgt := 193) hE dX0_init_165 (by decide) (fun c9 => absurd c9 (by decide)) (fun _ => ?_)
  refine r_aload_n hE dX0_init_168 rfl ?_
  refine r_getf (fs := [.ref 113, .ref 115, .int 0, .ref 116, .int 0, .ref 117, .ref 119, .ref 121, .ref 123, .ref 125, .ref 127, .ref 129, .int 0, .int 0]) hE f_X0_28 dX0_init_169 (List.mem_of_getElem? (i := 48) rfl) rfl rfl ?_
  refine r_iload_n hE dX0_init_172 rfl ?_
  refine r_new (fs := [.int 0, .int 0, .int 0, .null]) hE kX9 (x_gin (List.mem_append_right _ (tb_1 _ (List.mem_of_getElem? (i := 126) rfl))) rfl) (x_gin (List.mem_append_right _ (tb_1 _ (List.mem_of_getElem? (i := 138) rfl))) rfl) (x_gin (List.mem_append_right _ (tb_1 _ (List.mem_of_getElem? (i := 7) rfl))) rfl) (fun j hj => match j, hj with | 0, _ => rfl | 1, _ => rfl | 2, _ => rfl | 3, _ => rfl | k + 4, hj => absurd hj (by omega)) rfl dX0_init_173 ⟨by decide, by decide⟩ ?_
  show E 27 267 176 [(0, .ref 112), (1, .int 0)] [.ref 139, .int 0, .ref 116] z_134
  refine r_dup hE dX0_init_176 rfl ?_
  refine r_iconst (v := 0) hE dX0_init_177 (by decide) ?_
  refine r_iconst (v := 1) hE dX0_init_178 (by decide) ?_
  refine r_iconst (v := 0) hE dX0_init_179 (by decide) ?_
  refine r_iconst (v := 0) hE dX0_init_180 (by decide) ?_
  refine r_newa (at0 := .int) (t := 0) (N := 0) hE (by decide) rfl z_aI dX0_init_181 (by decide) (by decide) (by decide) ⟨by decide, by decide⟩ ?_
  show E 28 267 183 [(0, .ref 112), (1, .int 0)] [.ref 140, .int 0, .int 1, .int 0, .ref 139, .ref 139, .int 0, .ref 116] z_135
  refine r_invi hE [.int 0, .int 1, .int 0, .ref 140] (z_cWay (q := 140) (List.mem_of_getElem? (i := 75) rfl) rfl) i_yX9_init m_X0_56 dX0_init_183 rfl (by decide) ⟨by decide, by decide⟩ (Nat.le_of_ble_eq_true rfl) ⟨rfl, rfl⟩ (fun r0 S0 h0 => ?_)
  obtain ⟨rfl, rfl⟩ := h0
  show E 28 267 186 [(0, .ref 112), (1, .int 0)] [.ref 139, .int 0, .ref 116] z_136
  refine r_aast (ci := 8) (n := 6) hE (by decide) dX0_init_186 (List.mem_of_getElem? (i := 52) rfl) (f := (fun _ => none)) rfl (List.mem_of_getElem? (i := 75) rfl) (vs := [.int 0, .int 1, .int 0, .ref 140]) rfl (vp_in_nI (n := 0) (by decide) (by decide)) ?_
  show E 28 267 187 [(0, .ref 112), (1, .int 0)] [] z_137
  refine r_iinc (v := 1) (ls2 := [(0, .ref 112), (1, .int 1)]) hE dX0_init_187 rfl (by decide) (by decide) rfl ?_
  refine r_goto (tgt := 162) hE dX0_init_190 (by decide) ?_
  refine r_iload_n hE dX0_init_162 rfl ?_
  refine r_bipush (v := 6) hE dX0_init_163 (by decide) ?_
  refine r_icmp_ge (tgt := 193) hE dX0_init_165 (by decide) (fun c9 => absurd c9 (by decide)) (fun _ => ?_)
  refine r_aload_n hE dX0_init_168 rfl ?_
  refine r_getf (fs := [.ref 113, .ref 115, .int 0, .ref 116, .int 0, .ref 117, .ref 119, .ref 121, .ref 123, .ref 125, .ref 127, .ref 129, .int 0, .int 0]) hE f_X0_28 dX0_init_169 (List.mem_of_getElem? (i := 48) rfl) rfl rfl ?_
  refine r_iload_n hE dX0_init_172 rfl ?_
  refine r_new (fs := [.int 0, .int 0, .int 0, .null]) hE kX9 (x_gin (List.mem_append_right _ (tb_1 _ (List.mem_of_getElem? (i := 126) rfl))) rfl) (x_gin (List.mem_append_right _ (tb_1 _ (List.mem_of_getElem? (i := 138) rfl))) rfl) (x_gin (List.mem_append_right _ (tb_1 _ (List.mem_of_getElem? (i := 7) rfl))) rfl) (fun j hj => match j, hj with | 0, _ => rfl | 1, _ => rfl | 2, _ => rfl | 3, _ => rfl | k + 4, hj => absurd hj (by omega)) rfl dX0_init_173 ⟨by decide, by decide⟩ ?_
  show E 29 271 176 [(0, .ref 112), (1, .int 1)] [.ref 141, .int 1, .ref 116] z_138
  refine r_dup hE dX0_init_176 rfl ?_
  refine r_iconst (v := 0) hE dX0_init_177 (by decide) ?_
  refine r_iconst (v := 1) hE dX0_init_178 (by decide) ?_
  refine r_iconst (v := 0) hE dX0_init_179 (by decide) ?_
  refine r_iconst (v := 0) hE dX0_init_180 (by decide) ?_
  refine r_newa (at0 := .int) (t := 0) (N := 0) hE (by decide) rfl z_aI dX0_init_181 (by decide) (by decide) (by decide) ⟨by decide, by decide⟩ ?_
  show E 30 271 183 [(0, .ref 112), (1, .int 1)] [.ref 142, .int 0, .int 1, .int 0, .ref 141, .ref 141, .int 1, .ref 116] z_139
  refine r_invi hE [.int 0, .int 1, .int 0, .ref 142] (z_cWay (q := 142) (List.mem_of_getElem? (i := 77) rfl) rfl) i_yX9_init m_X0_56 dX0_init_183 rfl (by decide) ⟨by decide, by decide⟩ (Nat.le_of_ble_eq_true rfl) ⟨rfl, rfl⟩ (fun r0 S0 h0 => ?_)
  obtain ⟨rfl, rfl⟩ := h0
  show E 30 271 186 [(0, .ref 112), (1, .int 1)] [.ref 141, .int 1, .ref 116] z_140
  refine r_aast (ci := 8) (n := 6) hE (by decide) dX0_init_186 (List.mem_of_getElem? (i := 52) rfl) (f := (va_up (fun _ => none) 0 (some 139))) rfl (List.mem_of_getElem? (i := 77) rfl) (vs := [.int 0, .int 1, .int 0, .ref 142]) rfl (vp_in_nI (n := 1) (by decide) (by decide)) ?_
  show E 30 271 187 [(0, .ref 112), (1, .int 1)] [] z_141
  refine r_iinc (v := 2) (ls2 := [(0, .ref 112), (1, .int 2)]) hE dX0_init_187 rfl (by decide) (by decide) rfl ?_
  refine r_goto (tgt := 162) hE dX0_init_190 (by decide) ?_
  refine r_iload_n hE dX0_init_162 rfl ?_
  refine r_bipush (v := 6) hE dX0_init_163 (by decide) ?_
  refine r_icmp_ge (tgt := 193) hE dX0_init_165 (by decide) (fun c9 => absurd c9 (by decide)) (fun _ => ?_)
  refine r_aload_n hE dX0_init_168 rfl ?_
  refine r_getf (fs := [.ref 113, .ref 115, .int 0, .ref 116, .int 0, .ref 117, .ref 119, .ref 121, .ref 123, .ref 125, .ref 127, .ref 129, .int 0, .int 0]) hE f_X0_28 dX0_init_169 (List.mem_of_getElem? (i := 48) rfl) rfl rfl ?_
  refine r_iload_n hE dX0_init_172 rfl ?_
  refine r_new (fs := [.int 0, .int 0, .int 0, .null]) hE kX9 (x_gin (List.mem_append_right _ (tb_1 _ (List.mem_of_getElem? (i := 126) rfl))) rfl) (x_gin (List.mem_append_right _ (tb_1 _ (List.mem_of_getElem? (i := 138) rfl))) rfl) (x_gin (List.mem_append_right _ (tb_1 _ (List.mem_of_getElem? (i := 7) rfl))) rfl) (fun j hj => match j, hj with | 0, _ => rfl | 1, _ => rfl | 2, _ => rfl | 3, _ => rfl | k + 4, hj => absurd hj (by omega)) rfl dX0_init_173 ⟨by decide, by decide⟩ ?_
  show E 31 275 176 [(0, .ref 112), (1, .int 2)] [.ref 143, .int 2, .ref 116] z_142
  refine r_dup hE dX0_init_176 rfl ?_
  refine r_iconst (v := 0) hE dX0_init_177 (by decide) ?_
  refine r_iconst (v := 1) hE dX0_init_178 (by decide) ?_
  refine r_iconst (v := 0) hE dX0_init_179 (by decide) ?_
  refine r_iconst (v := 0) hE dX0_init_180 (by decide) ?_
  refine r_newa (at0 := .int) (t := 0) (N := 0) hE (by decide) rfl z_aI dX0_init_181 (by decide) (by decide) (by decide) ⟨by decide, by decide⟩ ?_
  show E 32 275 183 [(0, .ref 112), (1, .int 2)] [.ref 144, .int 0, .int 1, .int 0, .ref 143, .ref 143, .int 2, .ref 116] z_143
  refine r_invi hE [.int 0, .int 1, .int 0, .ref 144] (z_cWay (q := 144) (List.mem_of_getElem? (i := 79) rfl) rfl) i_yX9_init m_X0_56 dX0_init_183 rfl (by decide) ⟨by decide, by decide⟩ (Nat.le_of_ble_eq_true rfl) ⟨rfl, rfl⟩ (fun r0 S0 h0 => ?_)
  obtain ⟨rfl, rfl⟩ := h0
  show E 32 275 186 [(0, .ref 112), (1, .int 2)] [.ref 143, .int 2, .ref 116] z_144
  refine r_aast (ci := 8) (n := 6) hE (by decide) dX0_init_186 (List.mem_of_getElem? (i := 52) rfl) (f := (va_up (va_up (fun _ => none) 0 (some 139)) 1 (some 141))) rfl (List.mem_of_getElem? (i := 79) rfl) (vs := [.int 0, .int 1, .int 0, .ref 144]) rfl (vp_in_nI (n := 2) (by decide) (by decide)) ?_
  show E 32 275 187 [(0, .ref 112), (1, .int 2)] [] z_145
  refine r_iinc (v := 3) (ls2 := [(0, .ref 112), (1, .int 3)]) hE dX0_init_187 rfl (by decide) (by decide) rfl ?_
  refine r_goto (tgt := 162) hE dX0_init_190 (by decide) ?_
  refine r_iload_n hE dX0_init_162 rfl ?_
  refine r_bipush (v := 6) hE dX0_init_163 (by decide) ?_
  refine r_icmp_ge (tgt := 193) hE dX0_init_165 (by decide) (fun c9 => absurd c9 (by decide)) (fun _ => ?_)
  refine r_aload_n hE dX0_init_168 rfl ?_
  refine r_getf (fs := [.ref 113, .ref 115, .int 0, .ref 116, .int 0, .ref 117, .ref 119, .ref 121, .ref 123, .ref 125, .ref 127, .ref 129, .int 0, .int 0]) hE f_X0_28 dX0_init_169 (List.mem_of_getElem? (i := 48) rfl) rfl rfl ?_
  refine r_iload_n hE dX0_init_172 rfl ?_
  refine r_new (fs := [.int 0, .int 0, .int 0, .null]) hE kX9 (x_gin (List.mem_append_right _ (tb_1 _ (List.mem_of_getElem? (i := 126) rfl))) rfl) (x_gin (List.mem_append_right _ (tb_1 _ (List.mem_of_getElem? (i := 138) rfl))) rfl) (x_gin (List.mem_append_right _ (tb_1 _ (List.mem_of_getElem? (i := 7) rfl))) rfl) (fun j hj => match j, hj with | 0, _ => rfl | 1, _ => rfl | 2, _ => rfl | 3, _ => rfl | k + 4, hj => absurd hj (by omega)) rfl dX0_init_173 ⟨by decide, by decide⟩ ?_
  show E 33 279 176 [(0, .ref 112), (1, .int 3)] [.ref 145, .int 3, .ref 116] z_146
  refine r_dup hE dX0_init_176 rfl ?_
  refine r_iconst (v := 0) hE dX0_init_177 (by decide) ?_
  refine r_iconst (v := 1) hE dX0_init_178 (by decide) ?_
  refine r_iconst (v := 0) hE dX0_init_179 (by decide) ?_
  refine r_iconst (v := 0) hE dX0_init_180 (by decide) ?_
  refine r_newa (at0 := .int) (t := 0) (N := 0) hE (by decide) rfl z_aI dX0_init_181 (by decide) (by decide) (by decide) ⟨by decide, by decide⟩ ?_
  show E 34 279 183 [(0, .ref 112), (1, .int 3)] [.ref 146, .int 0, .int 1, .int 0, .ref 145, .ref 145, .int 3, .ref 116] z_147
  refine r_invi hE [.int 0, .int 1, .int 0, .ref 146] (z_cWay (q := 146) (List.mem_of_getElem? (i := 81) rfl) rfl) i_yX9_init m_X0_56 dX0_init_183 rfl (by decide) ⟨by decide, by decide⟩ (Nat.le_of_ble_eq_true rfl) ⟨rfl, rfl⟩ (fun r0 S0 h0 => ?_)
  obtain ⟨rfl, rfl⟩ := h0
  show E 34 279 186 [(0, .ref 112), (1, .int 3)] [.ref 145, .int 3, .ref 116] z_148
  refine r_aast (ci := 8) (n := 6) hE (by decide) dX0_init_186 (List.mem_of_getElem? (i := 52) rfl) (f := (va_up (va_up (va_up (fun _ => none) 0 (some 139)) 1 (some 141)) 2 (some 143))) rfl (List.mem_of_getElem? (i := 81) rfl) (vs := [.int 0, .int 1, .int 0, .ref 146]) rfl (vp_in_nI (n := 3) (by decide) (by decide)) ?_
  show E 34 279 187 [(0, .ref 112), (1, .int 3)] [] z_149
  refine r_iinc (v := 4) (ls2 := [(0, .ref 112), (1, .int 4)]) hE dX0_init_187 rfl (by decide) (by decide) rfl ?_
  refine r_goto (tgt := 162) hE dX0_init_190 (by decide) ?_
  refine r_iload_n hE dX0_init_162 rfl ?_
  refine r_bipush (v := 6) hE dX0_init_163 (by decide) ?_
  refine r_icmp_ge (tgt := 193) hE dX0_init_165 (by decide) (fun c9 => absurd c9 (by decide)) (fun _ => ?_)
  refine r_aload_n hE dX0_init_168 rfl ?_
  refine r_getf (fs := [.ref 113, .ref 115, .int 0, .ref 116, .int 0, .ref 117, .ref 119, .ref 121, .ref 123, .ref 125, .ref 127, .ref 129, .int 0, .int 0]) hE f_X0_28 dX0_init_169 (List.mem_of_getElem? (i := 48) rfl) rfl rfl ?_
  refine r_iload_n hE dX0_init_172 rfl ?_
  refine r_new (fs := [.int 0, .int 0, .int 0, .null]) hE kX9 (x_gin (List.mem_append_right _ (tb_1 _ (List.mem_of_getElem? (i := 126) rfl))) rfl) (x_gin (List.mem_append_right _ (tb_1 _ (List.mem_of_getElem? (i := 138) rfl))) rfl) (x_gin (List.mem_append_right _ (tb_1 _ (List.mem_of_getElem? (i := 7) rfl))) rfl) (fun j hj => match j, hj with | 0, _ => rfl | 1, _ => rfl | 2, _ => rfl | 3, _ => rfl | k + 4, hj => absurd hj (by omega)) rfl dX0_init_173 ⟨by decide, by decide⟩ ?_
  show E 35 283 176 [(0, .ref 112), (1, .int 4)] [.ref 147, .int 4, .ref 116] z_150
  refine r_dup hE dX0_init_176 rfl ?_
  refine r_iconst (v := 0) hE dX0_init_177 (by decide) ?_
  refine r_iconst (v := 1) hE dX0_init_178 (by decide) ?_
  refine r_iconst (v := 0) hE dX0_init_179 (by decide) ?_
  refine r_iconst (v := 0) hE dX0_init_180 (by decide) ?_
  refine r_newa (at0 := .int) (t := 0) (N := 0) hE (by decide) rfl z_aI dX0_init_181 (by decide) (by decide) (by decide) ⟨by decide, by decide⟩ ?_
  show E 36 283 183 [(0, .ref 112), (1, .int 4)] [.ref 148, .int 0, .int 1, .int 0, .ref 147, .ref 147, .int 4, .ref 116] z_151
  refine r_invi hE [.int 0, .int 1, .int 0, .ref 148] (z_cWay (q := 148) (List.mem_of_getElem? (i := 83) rfl) rfl) i_yX9_init m_X0_56 dX0_init_183 rfl (by decide) ⟨by decide, by decide⟩ (Nat.le_of_ble_eq_true rfl) ⟨rfl, rfl⟩ (fun r0 S0 h0 => ?_)
  obtain ⟨rfl, rfl⟩ := h0
  show E 36 283 186 [(0, .ref 112), (1, .int 4)] [.ref 147, .int 4, .ref 116] z_152
  refine r_aast (ci := 8) (n := 6) hE (by decide) dX0_init_186 (List.mem_of_getElem? (i := 52) rfl) (f := (va_up (va_up (va_up (va_up (fun _ => none) 0 (some 139)) 1 (some 141)) 2 (some 143)) 3 (some 145))) rfl (List.mem_of_getElem? (i := 83) rfl) (vs := [.int 0, .int 1, .int 0, .ref 148]) rfl (vp_in_nI (n := 4) (by decide) (by decide)) ?_
  show E 36 283 187 [(0, .ref 112), (1, .int 4)] [] z_153
  refine r_iinc (v := 5) (ls2 := [(0, .ref 112), (1, .int 5)]) hE dX0_init_187 rfl (by decide) (by decide) rfl ?_
  refine r_goto (tgt := 162) hE dX0_init_190 (by decide) ?_
  refine r_iload_n hE dX0_init_162 rfl ?_
  refine r_bipush (v := 6) hE dX0_init_163 (by decide) ?_
  refine r_icmp_ge (tgt := 193) hE dX0_init_165 (by decide) (fun c9 => absurd c9 (by decide)) (fun _ => ?_)
  refine r_aload_n hE dX0_init_168 rfl ?_
  refine r_getf (fs := [.ref 113, .ref 115, .int 0, .ref 116, .int 0, .ref 117, .ref 119, .ref 121, .ref 123, .ref 125, .ref 127, .ref 129, .int 0, .int 0]) hE f_X0_28 dX0_init_169 (List.mem_of_getElem? (i := 48) rfl) rfl rfl ?_
  refine r_iload_n hE dX0_init_172 rfl ?_
  refine r_new (fs := [.int 0, .int 0, .int 0, .null]) hE kX9 (x_gin (List.mem_append_right _ (tb_1 _ (List.mem_of_getElem? (i := 126) rfl))) rfl) (x_gin (List.mem_append_right _ (tb_1 _ (List.mem_of_getElem? (i := 138) rfl))) rfl) (x_gin (List.mem_append_right _ (tb_1 _ (List.mem_of_getElem? (i := 7) rfl))) rfl) (fun j hj => match j, hj with | 0, _ => rfl | 1, _ => rfl | 2, _ => rfl | 3, _ => rfl | k + 4, hj => absurd hj (by omega)) rfl dX0_init_173 ⟨by decide, by decide⟩ ?_
  show E 37 287 176 [(0, .ref 112), (1, .int 5)] [.ref 149, .int 5, .ref 116] z_154
  refine r_dup hE dX0_init_176 rfl ?_
  refine r_iconst (v := 0) hE dX0_init_177 (by decide) ?_
  refine r_iconst (v := 1) hE dX0_init_178 (by decide) ?_
  refine r_iconst (v := 0) hE dX0_init_179 (by decide) ?_
  refine r_iconst (v := 0) hE dX0_init_180 (by decide) ?_
  refine r_newa (at0 := .int) (t := 0) (N := 0) hE (by decide) rfl z_aI dX0_init_181 (by decide) (by decide) (by decide) ⟨by decide, by decide⟩ ?_
  show E 38 287 183 [(0, .ref 112), (1, .int 5)] [.ref 150, .int 0, .int 1, .int 0, .ref 149, .ref 149, .int 5, .ref 116] z_155
  refine r_invi hE [.int 0, .int 1, .int 0, .ref 150] (z_cWay (q := 150) (List.mem_of_getElem? (i := 85) rfl) rfl) i_yX9_init m_X0_56 dX0_init_183 rfl (by decide) ⟨by decide, by decide⟩ (Nat.le_of_ble_eq_true rfl) ⟨rfl, rfl⟩ (fun r0 S0 h0 => ?_)
  obtain ⟨rfl, rfl⟩ := h0
  show E 38 287 186 [(0, .ref 112), (1, .int 5)] [.ref 149, .int 5, .ref 116] z_156
  refine r_aast (ci := 8) (n := 6) hE (by decide) dX0_init_186 (List.mem_of_getElem? (i := 52) rfl) (f := (va_up (va_up (va_up (va_up (va_up (fun _ => none) 0 (some 139)) 1 (some 141)) 2 (some 143)) 3 (some 145)) 4 (some 147))) rfl (List.mem_of_getElem? (i := 85) rfl) (vs := [.int 0, .int 1, .int 0, .ref 150]) rfl (vp_in_nI (n := 5) (by decide) (by decide)) ?_
  show E 38 287 187 [(0, .ref 112), (1, .int 5)] [] z_157
  refine r_iinc (v := 6) (ls2 := [(0, .ref 112), (1, .int 6)]) hE dX0_init_187 rfl (by decide) (by decide) rfl ?_
  refine r_goto (tgt := 162) hE dX0_init_190 (by decide) ?_
  refine r_iload_n hE dX0_init_162 rfl ?_
  refine r_bipush (v := 6) hE dX0_init_163 (by decide) ?_
  refine r_icmp_ge (tgt := 193) hE dX0_init_165 (by decide) (fun _ => ?_) (fun c9 => absurd (by decide) c9)
  exact r_return hE dX0_init_193 rfl (Nat.le_refl _) (Nat.le_refl _) ⟨rfl, rfl⟩
def z_158 : x_S := x_put z_157 64 (.inr (9, [.ref 65, .int 0, .ref 66, .ref 73, .ref 112, .int 0, .null, .null, .null, .null, .null]))
def z_159 : x_S := x_push z_158 (.inr (1, [.null, .null, .null, .null, .null, .null, .null, .null]))
def z_160 : x_S := x_push z_159 (.inr (6, [.int 0, .int 0, .int 0, .null, .null, .null, .null, .null, .int 0]))
def z_161 : x_S := x_push z_160 (.inl (0, 301, x_at0 0))
def z_162 : x_S := x_put z_161 152 (.inr (6, [.int 0, .int 0, .int 0, .ref 153, .null, .null, .null, .null, .int 0]))
def z_163 : x_S := x_push z_162 (.inl (0, 4, x_at0 0))
def z_164 : x_S := x_put z_163 152 (.inr (6, [.int 0, .int 0, .int 0, .ref 153, .ref 154, .null, .null, .null, .int 0]))
def z_165 : x_S := x_push z_164 (.inl (0, 4, x_at0 0))
def z_166 : x_S := x_put z_165 152 (.inr (6, [.int 0, .int 0, .int 0, .ref 153, .ref 154, .ref 155, .null, .null, .int 0]))
def z_167 : x_S := x_push z_166 (.inl (0, 4, x_at0 0))
def z_168 : x_S := x_put z_167 152 (.inr (6, [.int 0, .int 0, .int 0, .ref 153, .ref 154, .ref 155, .ref 156, .null, .int 0]))
def z_169 : x_S := x_push z_168 (.inl (0, 24, x_at0 0))
def z_170 : x_S := x_put z_169 152 (.inr (6, [.int 0, .int 0, .int 0, .ref 153, .ref 154, .ref 155, .ref 156, .ref 157, .int 0]))
set_option maxRecDepth 100000 in
theorem z_cX6_5 {V : x_E} (hV : y_V V) : z_Ct V yX6_init cX6_init 1 1 5 337 [.ref 152] z_160 z_170 := by
  refine z_ct (by decide) (Nat.le_of_ble_eq_true rfl) (fun E hE => ?_)
  change E 0 0 0 [(0, .ref 152)] [] z_160
  refine r_aload_n hE dX6_init_0 rfl ?_
  refine r_obj hE (x_gin (List.mem_append_right _ (tb_1 _ (List.mem_of_getElem? (i := 234) rfl))) rfl) z_obj z_objc dX6_init_1 (by decide) (Nat.le_of_ble_eq_true rfl) ?_
  refine r_aload_n hE dX6_init_4 rfl ?_
  refine r_sipush (v := 301) hE dX6_init_5 (by decide) ?_
  refine r_newa (at0 := .int) (t := 0) (N := 301) hE (by decide) rfl z_aI dX6_init_8 (by decide) (by decide) (by decide) ⟨by decide, by decide⟩ ?_
  show E 1 301 10 [(0, .ref 152)] [.ref 153, .ref 152] z_161
  refine r_putF hE f_X6_9 dX6_init_10 (List.mem_of_getElem? (i := 88) rfl) (fs := [.int 0, .int 0, .int 0, .null, .null, .null, .null, .null, .int 0]) rfl rfl rfl (Nat.le_of_ble_eq_true rfl) ?_
  show E 1 301 13 [(0, .ref 152)] [] z_162
  refine r_aload_n hE dX6_init_13 rfl ?_
  refine r_iconst (v := 4) hE dX6_init_14 (by decide) ?_
  refine r_newa (at0 := .int) (t := 0) (N := 4) hE (by decide) rfl z_aI dX6_init_15 (by decide) (by decide) (by decide) ⟨by decide, by decide⟩ ?_
  show E 2 305 17 [(0, .ref 152)] [.ref 154, .ref 152] z_163
  refine r_putF hE f_X6_15 dX6_init_17 (List.mem_of_getElem? (i := 88) rfl) (fs := [.int 0, .int 0, .int 0, .ref 153, .null, .null, .null, .null, .int 0]) rfl rfl rfl (Nat.le_of_ble_eq_true rfl) ?_
  show E 2 305 20 [(0, .ref 152)] [] z_164
  refine r_aload_n hE dX6_init_20 rfl ?_
  refine r_iconst (v := 4) hE dX6_init_21 (by decide) ?_
  refine r_newa (at0 := .int) (t := 0) (N := 4) hE (by decide) rfl z_aI dX6_init_22 (by decide) (by decide) (by decide) ⟨by decide, by decide⟩ ?_
  show E 3 309 24 [(0, .ref 152)] [.ref 155, .ref 152] z_165
  refine r_putF hE f_X6_18 dX6_init_24 (List.mem_of_getElem? (i := 88) rfl) (fs := [.int 0, .int 0, .int 0, .ref 153, .ref 154, .null, .null, .null, .int 0]) rfl rfl rfl (Nat.le_of_ble_eq_true rfl) ?_
  show E 3 309 27 [(0, .ref 152)] [] z_166
  refine r_aload_n hE dX6_init_27 rfl ?_
  refine r_iconst (v := 4) hE dX6_init_28 (by decide) ?_
  refine r_newa (at0 := .int) (t := 0) (N := 4) hE (by decide) rfl z_aI dX6_init_29 (by decide) (by decide) (by decide) ⟨by decide, by decide⟩ ?_
  show E 4 313 31 [(0, .ref 152)] [.ref 156, .ref 152] z_167
  refine r_putF hE f_X6_21 dX6_init_31 (List.mem_of_getElem? (i := 88) rfl) (fs := [.int 0, .int 0, .int 0, .ref 153, .ref 154, .ref 155, .null, .null, .int 0]) rfl rfl rfl (Nat.le_of_ble_eq_true rfl) ?_
  show E 4 313 34 [(0, .ref 152)] [] z_168
  refine r_aload_n hE dX6_init_34 rfl ?_
  refine r_bipush (v := 24) hE dX6_init_35 (by decide) ?_
  refine r_newa (at0 := .int) (t := 0) (N := 24) hE (by decide) rfl z_aI dX6_init_37 (by decide) (by decide) (by decide) ⟨by decide, by decide⟩ ?_
  show E 5 337 39 [(0, .ref 152)] [.ref 157, .ref 152] z_169
  refine r_putF hE f_X6_24 dX6_init_39 (List.mem_of_getElem? (i := 88) rfl) (fs := [.int 0, .int 0, .int 0, .ref 153, .ref 154, .ref 155, .ref 156, .null, .int 0]) rfl rfl rfl (Nat.le_of_ble_eq_true rfl) ?_
  show E 5 337 42 [(0, .ref 152)] [] z_170
  exact r_return hE dX6_init_42 rfl (Nat.le_refl _) (Nat.le_refl _) ⟨rfl, rfl⟩
def z_171 : x_S := x_put z_170 151 (.inr (1, [.null, .ref 152, .null, .null, .null, .null, .null, .null]))
def z_172 : x_S := x_push z_171 (.inl (0, 1806, x_at0 0))
def z_173 : x_S := x_put z_172 151 (.inr (1, [.null, .ref 152, .ref 158, .null, .null, .null, .null, .null]))
def z_174 : x_S := x_push z_173 (.inl (0, 1806, x_at0 0))
def z_175 : x_S := x_put z_174 151 (.inr (1, [.null, .ref 152, .ref 158, .ref 159, .null, .null, .null, .null]))
def z_176 : x_S := x_push z_175 (.inl (0, 6, x_at0 0))
def z_177 : x_S := x_put z_176 151 (.inr (1, [.null, .ref 152, .ref 158, .ref 159, .ref 190, .null, .null, .null]))
def z_178 : x_S := x_push z_177 (.inl (0, 301, x_at0 0))
def z_179 : x_S := x_put z_178 151 (.inr (1, [.null, .ref 152, .ref 158, .ref 159, .ref 190, .ref 160, .null, .null]))
def z_180 : x_S := x_push z_179 (.inl (0, 301, x_at0 0))
def z_181 : x_S := x_put z_180 151 (.inr (1, [.null, .ref 152, .ref 158, .ref 159, .ref 190, .ref 160, .ref 161, .null]))
def z_182 : x_S := x_push z_181 (.inl (0, 512, x_at0 0))
def z_183 : x_S := x_put z_182 151 (.inr (1, [.null, .ref 152, .ref 158, .ref 159, .ref 190, .ref 160, .ref 161, .ref 162]))
def z_184 : x_S := x_put z_183 151 (.inr (1, [.ref 73, .ref 152, .ref 158, .ref 159, .ref 190, .ref 160, .ref 161, .ref 162]))
set_option maxRecDepth 100000 in
theorem z_cX1_6 {V : x_E} (hV : y_V V) : z_Ct V yX1_init cX1_init 2 2 12 5078 [.ref 151, .ref 73] z_159 z_184 := by
  refine z_ct (by decide) (Nat.le_of_ble_eq_true rfl) (fun E hE => ?_)
  change E 0 0 0 [(0, .ref 151), (1, .ref 73)] [] z_159
  refine r_aload_n hE dX1_init_0 rfl ?_
  refine r_obj hE (x_gin (List.mem_append_right _ (tb_1 _ (List.mem_of_getElem? (i := 228) rfl))) rfl) z_obj z_objc dX1_init_1 (by decide) (Nat.le_of_ble_eq_true rfl) ?_
  refine r_aload_n hE dX1_init_4 rfl ?_
  refine r_new (fs := [.int 0, .int 0, .int 0, .null, .null, .null, .null, .null, .int 0]) hE kX6 (x_gin (List.mem_append_right _ (tb_1 _ (List.mem_of_getElem? (i := 229) rfl))) rfl) (x_gin (List.mem_append_right _ (tb_1 _ (List.mem_of_getElem? (i := 230) rfl))) rfl) (x_gin (List.mem_append_right _ (tb_1 _ (List.mem_of_getElem? (i := 9) rfl))) rfl) (fun j hj => match j, hj with | 0, _ => rfl | 1, _ => rfl | 2, _ => rfl | 3, _ => rfl | 4, _ => rfl | 5, _ => rfl | 6, _ => rfl | 7, _ => rfl | 8, _ => rfl | k + 9, hj => absurd hj (by omega)) rfl dX1_init_5 ⟨by decide, by decide⟩ ?_
  show E 1 9 8 [(0, .ref 151), (1, .ref 73)] [.ref 152, .ref 151] z_160
  refine r_dup hE dX1_init_8 rfl ?_
  refine r_inviN hE [] (z_cX6_5 hV) i_yX6_init (fun U H9 h9 => (hV.2 U H9 h9).2.2.2.2.2.2.1 _ (List.mem_of_getElem? (i := 2) rfl)) dX1_init_9 rfl (by decide) ⟨by decide, by decide⟩ (Nat.le_of_ble_eq_true rfl) ⟨rfl, rfl⟩ (fun r0 S0 h0 => ?_)
  obtain ⟨rfl, rfl⟩ := h0
  show E 6 346 12 [(0, .ref 151), (1, .ref 73)] [.ref 152, .ref 151] z_170
  refine r_putF hE f_X1_12 dX1_init_12 (List.mem_of_getElem? (i := 87) rfl) (fs := [.null, .null, .null, .null, .null, .null, .null, .null]) rfl rfl rfl (Nat.le_of_ble_eq_true rfl) ?_
  show E 6 346 15 [(0, .ref 151), (1, .ref 73)] [] z_171
  refine r_aload_n hE dX1_init_15 rfl ?_
  refine r_sipush (v := 1806) hE dX1_init_16 (by decide) ?_
  refine r_newa (at0 := .int) (t := 0) (N := 1806) hE (by decide) rfl z_aI dX1_init_19 (by decide) (by decide) (by decide) ⟨by decide, by decide⟩ ?_
  show E 7 2152 21 [(0, .ref 151), (1, .ref 73)] [.ref 158, .ref 151] z_172
  refine r_putF hE f_X1_18 dX1_init_21 (List.mem_of_getElem? (i := 87) rfl) (fs := [.null, .ref 152, .null, .null, .null, .null, .null, .null]) rfl rfl rfl (Nat.le_of_ble_eq_true rfl) ?_
  show E 7 2152 24 [(0, .ref 151), (1, .ref 73)] [] z_173
  refine r_aload_n hE dX1_init_24 rfl ?_
  refine r_sipush (v := 1806) hE dX1_init_25 (by decide) ?_
  refine r_newa (at0 := .int) (t := 0) (N := 1806) hE (by decide) rfl z_aI dX1_init_28 (by decide) (by decide) (by decide) ⟨by decide, by decide⟩ ?_
  show E 8 3958 30 [(0, .ref 151), (1, .ref 73)] [.ref 159, .ref 151] z_174
  refine r_putF hE f_X1_22 dX1_init_30 (List.mem_of_getElem? (i := 87) rfl) (fs := [.null, .ref 152, .ref 158, .null, .null, .null, .null, .null]) rfl rfl rfl (Nat.le_of_ble_eq_true rfl) ?_
  show E 8 3958 33 [(0, .ref 151), (1, .ref 73)] [] z_175
  refine r_aload_n hE dX1_init_33 rfl ?_
  refine r_bipush (v := 6) hE dX1_init_34 (by decide) ?_
  refine r_newa (at0 := .int) (t := 0) (N := 6) hE (by decide) rfl z_aI dX1_init_36 (by decide) (by decide) (by decide) ⟨by decide, by decide⟩ ?_
  show E 9 3964 38 [(0, .ref 151), (1, .ref 73)] [.ref 190, .ref 151] z_176
  refine r_putF hE f_X1_25 dX1_init_38 (List.mem_of_getElem? (i := 87) rfl) (fs := [.null, .ref 152, .ref 158, .ref 159, .null, .null, .null, .null]) rfl rfl rfl (Nat.le_of_ble_eq_true rfl) ?_
  show E 9 3964 41 [(0, .ref 151), (1, .ref 73)] [] z_177
  refine r_aload_n hE dX1_init_41 rfl ?_
  refine r_sipush (v := 301) hE dX1_init_42 (by decide) ?_
  refine r_newa (at0 := .int) (t := 0) (N := 301) hE (by decide) rfl z_aI dX1_init_45 (by decide) (by decide) (by decide) ⟨by decide, by decide⟩ ?_
  show E 10 4265 47 [(0, .ref 151), (1, .ref 73)] [.ref 160, .ref 151] z_178
  refine r_putF hE f_X1_28 dX1_init_47 (List.mem_of_getElem? (i := 87) rfl) (fs := [.null, .ref 152, .ref 158, .ref 159, .ref 190, .null, .null, .null]) rfl rfl rfl (Nat.le_of_ble_eq_true rfl) ?_
  show E 10 4265 50 [(0, .ref 151), (1, .ref 73)] [] z_179
  refine r_aload_n hE dX1_init_50 rfl ?_
  refine r_sipush (v := 301) hE dX1_init_51 (by decide) ?_
  refine r_newa (at0 := .int) (t := 0) (N := 301) hE (by decide) rfl z_aI dX1_init_54 (by decide) (by decide) (by decide) ⟨by decide, by decide⟩ ?_
  show E 11 4566 56 [(0, .ref 151), (1, .ref 73)] [.ref 161, .ref 151] z_180
  refine r_putF hE f_X1_31 dX1_init_56 (List.mem_of_getElem? (i := 87) rfl) (fs := [.null, .ref 152, .ref 158, .ref 159, .ref 190, .ref 160, .null, .null]) rfl rfl rfl (Nat.le_of_ble_eq_true rfl) ?_
  show E 11 4566 59 [(0, .ref 151), (1, .ref 73)] [] z_181
  refine r_aload_n hE dX1_init_59 rfl ?_
  refine r_sipush (v := 512) hE dX1_init_60 (by decide) ?_
  refine r_newa (at0 := .int) (t := 0) (N := 512) hE (by decide) rfl z_aI dX1_init_63 (by decide) (by decide) (by decide) ⟨by decide, by decide⟩ ?_
  show E 12 5078 65 [(0, .ref 151), (1, .ref 73)] [.ref 162, .ref 151] z_182
  refine r_putF hE f_X1_34 dX1_init_65 (List.mem_of_getElem? (i := 87) rfl) (fs := [.null, .ref 152, .ref 158, .ref 159, .ref 190, .ref 160, .ref 161, .null]) rfl rfl rfl (Nat.le_of_ble_eq_true rfl) ?_
  show E 12 5078 68 [(0, .ref 151), (1, .ref 73)] [] z_183
  refine r_aload_n hE dX1_init_68 rfl ?_
  refine r_aload_n hE dX1_init_69 rfl ?_
  refine r_putF hE f_X1_37 dX1_init_70 (List.mem_of_getElem? (i := 87) rfl) (fs := [.null, .ref 152, .ref 158, .ref 159, .ref 190, .ref 160, .ref 161, .ref 162]) rfl rfl rfl (Nat.le_of_ble_eq_true rfl) ?_
  show E 12 5078 73 [(0, .ref 151), (1, .ref 73)] [] z_184
  exact r_return hE dX1_init_73 rfl (Nat.le_refl _) (Nat.le_refl _) ⟨rfl, rfl⟩
def z_185 : x_S := x_put z_184 64 (.inr (9, [.ref 65, .int 0, .ref 66, .ref 73, .ref 112, .int 0, .ref 151, .null, .null, .null, .null]))
def z_186 : x_S := x_push z_185 (.inr (3, [.null, .null, .null]))
def z_187 : x_S := x_push z_186 (.inl (0, 64, x_at0 0))
def z_188 : x_S := x_put z_187 163 (.inr (3, [.null, .ref 164, .null]))
def z_189 : x_S := x_push z_188 (.inl (0, 64, x_at0 0))
def z_190 : x_S := x_put z_189 163 (.inr (3, [.null, .ref 164, .ref 165]))
def z_191 : x_S := x_put z_190 163 (.inr (3, [.ref 73, .ref 164, .ref 165]))
set_option maxRecDepth 100000 in
theorem z_cX3_7 {V : x_E} (hV : y_V V) : z_Ct V yX3_init cX3_init 2 1 2 128 [.ref 163, .ref 73] z_186 z_191 := by
  refine z_ct (by decide) (Nat.le_of_ble_eq_true rfl) (fun E hE => ?_)
  change E 0 0 0 [(0, .ref 163), (1, .ref 73)] [] z_186
  refine r_aload_n hE dX3_init_0 rfl ?_
  refine r_obj hE (x_gin (List.mem_append_right _ (tb_2 _ (List.mem_of_getElem? (i := 60) rfl))) rfl) z_obj z_objc dX3_init_1 (by decide) (Nat.le_of_ble_eq_true rfl) ?_
  refine r_aload_n hE dX3_init_4 rfl ?_
  refine r_bipush (v := 64) hE dX3_init_5 (by decide) ?_
  refine r_newa (at0 := .int) (t := 0) (N := 64) hE (by decide) rfl z_aI dX3_init_7 (by decide) (by decide) (by decide) ⟨by decide, by decide⟩ ?_
  show E 1 64 9 [(0, .ref 163), (1, .ref 73)] [.ref 164, .ref 163] z_187
  refine r_putF hE f_X3_11 dX3_init_9 (List.mem_of_getElem? (i := 100) rfl) (fs := [.null, .null, .null]) rfl rfl rfl (Nat.le_of_ble_eq_true rfl) ?_
  show E 1 64 12 [(0, .ref 163), (1, .ref 73)] [] z_188
  refine r_aload_n hE dX3_init_12 rfl ?_
  refine r_bipush (v := 64) hE dX3_init_13 (by decide) ?_
  refine r_newa (at0 := .int) (t := 0) (N := 64) hE (by decide) rfl z_aI dX3_init_15 (by decide) (by decide) (by decide) ⟨by decide, by decide⟩ ?_
  show E 2 128 17 [(0, .ref 163), (1, .ref 73)] [.ref 165, .ref 163] z_189
  refine r_putF hE f_X3_15 dX3_init_17 (List.mem_of_getElem? (i := 100) rfl) (fs := [.null, .ref 164, .null]) rfl rfl rfl (Nat.le_of_ble_eq_true rfl) ?_
  show E 2 128 20 [(0, .ref 163), (1, .ref 73)] [] z_190
  refine r_aload_n hE dX3_init_20 rfl ?_
  refine r_aload_n hE dX3_init_21 rfl ?_
  refine r_putF hE f_X3_18 dX3_init_22 (List.mem_of_getElem? (i := 100) rfl) (fs := [.null, .ref 164, .ref 165]) rfl rfl rfl (Nat.le_of_ble_eq_true rfl) ?_
  show E 2 128 25 [(0, .ref 163), (1, .ref 73)] [] z_191
  exact r_return hE dX3_init_25 rfl (Nat.le_refl _) (Nat.le_refl _) ⟨rfl, rfl⟩
def z_192 : x_S := x_put z_191 64 (.inr (9, [.ref 65, .int 0, .ref 66, .ref 73, .ref 112, .int 0, .ref 151, .ref 163, .null, .null, .null]))
def z_193 : x_S := x_push z_192 (.inl (3, 5, x_at0 3))
def z_194 : x_S := x_put z_193 64 (.inr (9, [.ref 65, .int 0, .ref 66, .ref 73, .ref 112, .int 0, .ref 151, .ref 163, .ref 166, .null, .null]))
def z_195 : x_S := x_push z_194 (.inl (0, 5, x_at0 0))
def z_196 : x_S := x_put z_195 64 (.inr (9, [.ref 65, .int 0, .ref 66, .ref 73, .ref 112, .int 0, .ref 151, .ref 163, .ref 166, .ref 167, .null]))
def z_197 : x_S := x_push z_196 (.inl (0, 8, x_at0 0))
def z_198 : x_S := x_put z_197 64 (.inr (9, [.ref 65, .int 0, .ref 66, .ref 73, .ref 112, .int 0, .ref 151, .ref 163, .ref 166, .ref 167, .ref 168]))
set_option maxRecDepth 100000 in
theorem z_cX10_8 {V : x_E} (hV : y_V V) : z_Ct V yX10_init cX10_init 1 3 105 8284 [.ref 64] z_1 z_198 := by
  refine z_ct (by decide) (Nat.le_of_ble_eq_true rfl) (fun E hE => ?_)
  change E 0 0 0 [(0, .ref 64)] [] z_1
  refine r_aload_n hE dX10_init_0 rfl ?_
  refine r_obj hE (x_gin (List.mem_append_right _ (tb_1 _ (List.mem_of_getElem? (i := 34) rfl))) rfl) z_obj z_objc dX10_init_1 (by decide) (Nat.le_of_ble_eq_true rfl) ?_
  refine r_aload_n hE dX10_init_4 rfl ?_
  refine r_sipush (v := 400) hE dX10_init_5 (by decide) ?_
  refine r_newa (at0 := .byte) (t := 1) (N := 400) hE (by decide) rfl z_aB dX10_init_8 (by decide) (by decide) (by decide) ⟨by decide, by decide⟩ ?_
  show E 1 400 10 [(0, .ref 64)] [.ref 65, .ref 64] z_2
  refine r_putF hE f_X10_9 dX10_init_10 (List.mem_of_getElem? (i := 0) rfl) (fs := [.null, .int 0, .null, .null, .null, .int 0, .null, .null, .null, .null, .null]) rfl rfl rfl (Nat.le_of_ble_eq_true rfl) ?_
  show E 1 400 13 [(0, .ref 64)] [] z_3
  refine r_aload_n hE dX10_init_13 rfl ?_
  refine r_new (fs := [.null, .int 0, .int 0, .null, .int 0, .int 0, .int 0, .int 0, .null, .int 0]) hE kX2 (x_gin (List.mem_append_right _ (tb_1 _ (List.mem_of_getElem? (i := 37) rfl))) rfl) (x_gin (List.mem_append_right _ (tb_1 _ (List.mem_of_getElem? (i := 38) rfl))) rfl) (x_gin (List.mem_append_right _ (tb_1 _ (List.mem_of_getElem? (i := 2) rfl))) rfl) (fun j hj => match j, hj with | 0, _ => rfl | 1, _ => rfl | 2, _ => rfl | 3, _ => rfl | 4, _ => rfl | 5, _ => rfl | 6, _ => rfl | 7, _ => rfl | 8, _ => rfl | 9, _ => rfl | k + 10, hj => absurd hj (by omega)) rfl dX10_init_14 ⟨by decide, by decide⟩ ?_
  show E 2 410 17 [(0, .ref 64)] [.ref 66, .ref 64] z_4
  refine r_dup hE dX10_init_17 rfl ?_
  refine r_inviN hE [] (z_cX2_2 hV) i_yX2_init (fun U H9 h9 => (hV.2 U H9 h9).2.2.2.2.2.2.1 _ (List.mem_of_getElem? (i := 0) rfl)) dX10_init_18 rfl (by decide) ⟨by decide, by decide⟩ (Nat.le_of_ble_eq_true rfl) ⟨rfl, rfl⟩ (fun r0 S0 h0 => ?_)
  obtain ⟨rfl, rfl⟩ := h0
  show E 8 2447 21 [(0, .ref 64)] [.ref 66, .ref 64] z_17
  refine r_putF hE f_X10_16 dX10_init_21 (List.mem_of_getElem? (i := 0) rfl) (fs := [.ref 65, .int 0, .null, .null, .null, .int 0, .null, .null, .null, .null, .null]) rfl rfl rfl (Nat.le_of_ble_eq_true rfl) ?_
  show E 8 2447 24 [(0, .ref 64)] [] z_18
  refine r_aload_n hE dX10_init_24 rfl ?_
  refine r_new (fs := [.null, .null, .int 0, .null, .int 0, .null, .null, .null, .null, .null, .null, .null, .int 0, .int 0]) hE kX0 (x_gin (List.mem_append_right _ (tb_1 _ (List.mem_of_getElem? (i := 99) rfl))) rfl) (x_gin (List.mem_append_right _ (tb_1 _ (List.mem_of_getElem? (i := 100) rfl))) rfl) (x_gin (List.mem_append_right _ (tb_1 _ (List.mem_of_getElem? (i := 4) rfl))) rfl) (fun j hj => match j, hj with | 0, _ => rfl | 1, _ => rfl | 2, _ => rfl | 3, _ => rfl | 4, _ => rfl | 5, _ => rfl | 6, _ => rfl | 7, _ => rfl | 8, _ => rfl | 9, _ => rfl | 10, _ => rfl | 11, _ => rfl | 12, _ => rfl | 13, _ => rfl | k + 14, hj => absurd hj (by omega)) rfl dX10_init_25 ⟨by decide, by decide⟩ ?_
  show E 9 2461 28 [(0, .ref 64)] [.ref 73, .ref 64] z_19
  refine r_dup hE dX10_init_28 rfl ?_
  refine r_invi hE [] (z_cX0_3 hV) i_yX0_init m_X10_22 dX10_init_29 rfl (by decide) ⟨by decide, by decide⟩ (Nat.le_of_ble_eq_true rfl) ⟨rfl, rfl⟩ (fun r0 S0 h0 => ?_)
  obtain ⟨rfl, rfl⟩ := h0
  show E 47 2748 32 [(0, .ref 64)] [.ref 73, .ref 64] z_87
  refine r_putF hE f_X10_23 dX10_init_32 (List.mem_of_getElem? (i := 0) rfl) (fs := [.ref 65, .int 0, .ref 66, .null, .null, .int 0, .null, .null, .null, .null, .null]) rfl rfl rfl (Nat.le_of_ble_eq_true rfl) ?_
  show E 47 2748 35 [(0, .ref 64)] [] z_88
  refine r_aload_n hE dX10_init_35 rfl ?_
  refine r_new (fs := [.null, .null, .int 0, .null, .int 0, .null, .null, .null, .null, .null, .null, .null, .int 0, .int 0]) hE kX0 (x_gin (List.mem_append_right _ (tb_1 _ (List.mem_of_getElem? (i := 99) rfl))) rfl) (x_gin (List.mem_append_right _ (tb_1 _ (List.mem_of_getElem? (i := 100) rfl))) rfl) (x_gin (List.mem_append_right _ (tb_1 _ (List.mem_of_getElem? (i := 4) rfl))) rfl) (fun j hj => match j, hj with | 0, _ => rfl | 1, _ => rfl | 2, _ => rfl | 3, _ => rfl | 4, _ => rfl | 5, _ => rfl | 6, _ => rfl | 7, _ => rfl | 8, _ => rfl | 9, _ => rfl | 10, _ => rfl | 11, _ => rfl | 12, _ => rfl | 13, _ => rfl | k + 14, hj => absurd hj (by omega)) rfl dX10_init_36 ⟨by decide, by decide⟩ ?_
  show E 48 2762 39 [(0, .ref 64)] [.ref 112, .ref 64] z_89
  refine r_dup hE dX10_init_39 rfl ?_
  refine r_invi hE [] (z_cX0_4 hV) i_yX0_init m_X10_22 dX10_init_40 rfl (by decide) ⟨by decide, by decide⟩ (Nat.le_of_ble_eq_true rfl) ⟨rfl, rfl⟩ (fun r0 S0 h0 => ?_)
  obtain ⟨rfl, rfl⟩ := h0
  show E 86 3049 43 [(0, .ref 64)] [.ref 112, .ref 64] z_157
  refine r_putF hE f_X10_27 dX10_init_43 (List.mem_of_getElem? (i := 0) rfl) (fs := [.ref 65, .int 0, .ref 66, .ref 73, .null, .int 0, .null, .null, .null, .null, .null]) rfl rfl rfl (Nat.le_of_ble_eq_true rfl) ?_
  show E 86 3049 46 [(0, .ref 64)] [] z_158
  refine r_aload_n hE dX10_init_46 rfl ?_
  refine r_new (fs := [.null, .null, .null, .null, .null, .null, .null, .null]) hE kX1 (x_gin (List.mem_append_right _ (tb_1 _ (List.mem_of_getElem? (i := 223) rfl))) rfl) (x_gin (List.mem_append_right _ (tb_1 _ (List.mem_of_getElem? (i := 224) rfl))) rfl) (x_gin (List.mem_append_right _ (tb_1 _ (List.mem_of_getElem? (i := 8) rfl))) rfl) (fun j hj => match j, hj with | 0, _ => rfl | 1, _ => rfl | 2, _ => rfl | 3, _ => rfl | 4, _ => rfl | 5, _ => rfl | 6, _ => rfl | 7, _ => rfl | k + 8, hj => absurd hj (by omega)) rfl dX10_init_47 ⟨by decide, by decide⟩ ?_
  show E 87 3057 50 [(0, .ref 64)] [.ref 151, .ref 64] z_159
  refine r_dup hE dX10_init_50 rfl ?_
  refine r_aload_n hE dX10_init_51 rfl ?_
  refine r_getf (fs := [.ref 65, .int 0, .ref 66, .ref 73, .ref 112, .int 0, .null, .null, .null, .null, .null]) hE f_X10_23 dX10_init_52 (List.mem_of_getElem? (i := 0) rfl) rfl rfl ?_
  refine r_invi hE [.ref 73] (z_cX1_6 hV) i_yX1_init m_X10_32 dX10_init_55 rfl (by decide) ⟨by decide, by decide⟩ (Nat.le_of_ble_eq_true rfl) ⟨rfl, rfl⟩ (fun r0 S0 h0 => ?_)
  obtain ⟨rfl, rfl⟩ := h0
  show E 99 8135 58 [(0, .ref 64)] [.ref 151, .ref 64] z_184
  refine r_putF hE f_X10_35 dX10_init_58 (List.mem_of_getElem? (i := 0) rfl) (fs := [.ref 65, .int 0, .ref 66, .ref 73, .ref 112, .int 0, .null, .null, .null, .null, .null]) rfl rfl rfl (Nat.le_of_ble_eq_true rfl) ?_
  show E 99 8135 61 [(0, .ref 64)] [] z_185
  refine r_aload_n hE dX10_init_61 rfl ?_
  refine r_new (fs := [.null, .null, .null]) hE kX3 (x_gin (List.mem_append_right _ (tb_2 _ (List.mem_of_getElem? (i := 55) rfl))) rfl) (x_gin (List.mem_append_right _ (tb_2 _ (List.mem_of_getElem? (i := 56) rfl))) rfl) (x_gin (List.mem_append_right _ (tb_1 _ (List.mem_of_getElem? (i := 10) rfl))) rfl) (fun j hj => match j, hj with | 0, _ => rfl | 1, _ => rfl | 2, _ => rfl | k + 3, hj => absurd hj (by omega)) rfl dX10_init_62 ⟨by decide, by decide⟩ ?_
  show E 100 8138 65 [(0, .ref 64)] [.ref 163, .ref 64] z_186
  refine r_dup hE dX10_init_65 rfl ?_
  refine r_aload_n hE dX10_init_66 rfl ?_
  refine r_getf (fs := [.ref 65, .int 0, .ref 66, .ref 73, .ref 112, .int 0, .ref 151, .null, .null, .null, .null]) hE f_X10_23 dX10_init_67 (List.mem_of_getElem? (i := 0) rfl) rfl rfl ?_
  refine r_invi hE [.ref 73] (z_cX3_7 hV) i_yX3_init m_X10_41 dX10_init_70 rfl (by decide) ⟨by decide, by decide⟩ (Nat.le_of_ble_eq_true rfl) ⟨rfl, rfl⟩ (fun r0 S0 h0 => ?_)
  obtain ⟨rfl, rfl⟩ := h0
  show E 102 8266 73 [(0, .ref 64)] [.ref 163, .ref 64] z_191
  refine r_putF hE f_X10_42 dX10_init_73 (List.mem_of_getElem? (i := 0) rfl) (fs := [.ref 65, .int 0, .ref 66, .ref 73, .ref 112, .int 0, .ref 151, .null, .null, .null, .null]) rfl rfl rfl (Nat.le_of_ble_eq_true rfl) ?_
  show E 102 8266 76 [(0, .ref 64)] [] z_192
  refine r_aload_n hE dX10_init_76 rfl ?_
  refine r_iconst (v := 5) hE dX10_init_77 (by decide) ?_
  refine r_newa (at0 := .long) (t := 3) (N := 5) hE (by decide) rfl z_aJ dX10_init_78 (by decide) (by decide) (by decide) ⟨by decide, by decide⟩ ?_
  show E 103 8271 80 [(0, .ref 64)] [.ref 166, .ref 64] z_193
  refine r_putF hE f_X10_46 dX10_init_80 (List.mem_of_getElem? (i := 0) rfl) (fs := [.ref 65, .int 0, .ref 66, .ref 73, .ref 112, .int 0, .ref 151, .ref 163, .null, .null, .null]) rfl rfl rfl (Nat.le_of_ble_eq_true rfl) ?_
  show E 103 8271 83 [(0, .ref 64)] [] z_194
  refine r_aload_n hE dX10_init_83 rfl ?_
  refine r_iconst (v := 5) hE dX10_init_84 (by decide) ?_
  refine r_newa (at0 := .int) (t := 0) (N := 5) hE (by decide) rfl z_aI dX10_init_85 (by decide) (by decide) (by decide) ⟨by decide, by decide⟩ ?_
  show E 104 8276 87 [(0, .ref 64)] [.ref 167, .ref 64] z_195
  refine r_putF hE f_X10_50 dX10_init_87 (List.mem_of_getElem? (i := 0) rfl) (fs := [.ref 65, .int 0, .ref 66, .ref 73, .ref 112, .int 0, .ref 151, .ref 163, .ref 166, .null, .null]) rfl rfl rfl (Nat.le_of_ble_eq_true rfl) ?_
  show E 104 8276 90 [(0, .ref 64)] [] z_196
  refine r_aload_n hE dX10_init_90 rfl ?_
  refine r_bipush (v := 8) hE dX10_init_91 (by decide) ?_
  refine r_newa (at0 := .int) (t := 0) (N := 8) hE (by decide) rfl z_aI dX10_init_93 (by decide) (by decide) (by decide) ⟨by decide, by decide⟩ ?_
  show E 105 8284 95 [(0, .ref 64)] [.ref 168, .ref 64] z_197
  refine r_putF hE f_X10_54 dX10_init_95 (List.mem_of_getElem? (i := 0) rfl) (fs := [.ref 65, .int 0, .ref 66, .ref 73, .ref 112, .int 0, .ref 151, .ref 163, .ref 166, .ref 167, .null]) rfl rfl rfl (Nat.le_of_ble_eq_true rfl) ?_
  show E 105 8284 98 [(0, .ref 64)] [] z_198
  exact r_return hE dX10_init_98 rfl (Nat.le_refl _) (Nat.le_refl _) ⟨rfl, rfl⟩
def z_199 : x_S := x_push z_198 (.inr (10, [.int 0, .null, .null, .int 0, .null, .int 0, .int 0, .int 0, .int 0, .int 0, .int 0, .null, .int 0, .int 0, .null, .null, .null, .null, .null, .null, .null, .null, .null, .int 0, .null, .null, .null, .null, .null, .null]))
def z_200 : x_S := x_push z_199 (.inl (0, 9598, x_at0 0))
def z_201 : x_S := x_put z_200 169 (.inr (10, [.int 0, .ref 170, .null, .int 0, .null, .int 0, .int 0, .int 0, .int 0, .int 0, .int 0, .null, .int 0, .int 0, .null, .null, .null, .null, .null, .null, .null, .null, .null, .int 0, .null, .null, .null, .null, .null, .null]))
def z_202 : x_S := x_push z_201 (.inl (0, 8747, x_at0 0))
def z_203 : x_S := x_put z_202 169 (.inr (10, [.int 0, .ref 170, .ref 171, .int 0, .null, .int 0, .int 0, .int 0, .int 0, .int 0, .int 0, .null, .int 0, .int 0, .null, .null, .null, .null, .null, .null, .null, .null, .null, .int 0, .null, .null, .null, .null, .null, .null]))
def z_204 : x_S := x_push z_203 (.inl (1, 400, x_at0 1))
def z_205 : x_S := x_put z_204 169 (.inr (10, [.int 0, .ref 170, .ref 171, .int 0, .ref 172, .int 0, .int 0, .int 0, .int 0, .int 0, .int 0, .null, .int 0, .int 0, .null, .null, .null, .null, .null, .null, .null, .null, .null, .int 0, .null, .null, .null, .null, .null, .null]))
def z_206 : x_S := x_put z_205 169 (.inr (10, [.int 0, .ref 170, .ref 171, .int 0, .ref 172, .int 0, .int 0, .int 0, .int 0, .int 0, .int (-1), .null, .int 0, .int 0, .null, .null, .null, .null, .null, .null, .null, .null, .null, .int 0, .null, .null, .null, .null, .null, .null]))
def z_207 : x_S := x_push z_206 (.inl (0, 5, x_at0 0))
def z_208 : x_S := x_put z_207 169 (.inr (10, [.int 0, .ref 170, .ref 171, .int 0, .ref 172, .int 0, .int 0, .int 0, .int 0, .int 0, .int (-1), .ref 173, .int 0, .int 0, .null, .null, .null, .null, .null, .null, .null, .null, .null, .int 0, .null, .null, .null, .null, .null, .null]))
def z_209 : x_S := x_push z_208 (.inl (2, 301, x_at0 2))
def z_210 : x_S := x_put z_209 169 (.inr (10, [.int 0, .ref 170, .ref 171, .int 0, .ref 172, .int 0, .int 0, .int 0, .int 0, .int 0, .int (-1), .ref 173, .int 0, .int 0, .ref 174, .null, .null, .null, .null, .null, .null, .null, .null, .int 0, .null, .null, .null, .null, .null, .null]))
def z_211 : x_S := x_push z_210 (.inl (0, 4, x_at0 0))
def z_212 : x_S := x_put z_211 169 (.inr (10, [.int 0, .ref 170, .ref 171, .int 0, .ref 172, .int 0, .int 0, .int 0, .int 0, .int 0, .int (-1), .ref 173, .int 0, .int 0, .ref 174, .ref 175, .null, .null, .null, .null, .null, .null, .null, .int 0, .null, .null, .null, .null, .null, .null]))
def z_213 : x_S := x_push z_212 (.inl (0, 4, x_at0 0))
def z_214 : x_S := x_put z_213 169 (.inr (10, [.int 0, .ref 170, .ref 171, .int 0, .ref 172, .int 0, .int 0, .int 0, .int 0, .int 0, .int (-1), .ref 173, .int 0, .int 0, .ref 174, .ref 175, .ref 176, .null, .null, .null, .null, .null, .null, .int 0, .null, .null, .null, .null, .null, .null]))
def z_215 : x_S := x_push z_214 (.inl (0, 400, x_at0 0))
def z_216 : x_S := x_put z_215 169 (.inr (10, [.int 0, .ref 170, .ref 171, .int 0, .ref 172, .int 0, .int 0, .int 0, .int 0, .int 0, .int (-1), .ref 173, .int 0, .int 0, .ref 174, .ref 175, .ref 176, .ref 177, .null, .null, .null, .null, .null, .int 0, .null, .null, .null, .null, .null, .null]))
def z_217 : x_S := x_push z_216 (.inl (2, 4816, x_at0 2))
def z_218 : x_S := x_put z_217 169 (.inr (10, [.int 0, .ref 170, .ref 171, .int 0, .ref 172, .int 0, .int 0, .int 0, .int 0, .int 0, .int (-1), .ref 173, .int 0, .int 0, .ref 174, .ref 175, .ref 176, .ref 177, .ref 178, .null, .null, .null, .null, .int 0, .null, .null, .null, .null, .null, .null]))
def z_219 : x_S := x_push z_218 (.inl (2, 4816, x_at0 2))
def z_220 : x_S := x_put z_219 169 (.inr (10, [.int 0, .ref 170, .ref 171, .int 0, .ref 172, .int 0, .int 0, .int 0, .int 0, .int 0, .int (-1), .ref 173, .int 0, .int 0, .ref 174, .ref 175, .ref 176, .ref 177, .ref 178, .ref 179, .null, .null, .null, .int 0, .null, .null, .null, .null, .null, .null]))
def z_221 : x_S := x_push z_220 (.inl (2, 4816, x_at0 2))
def z_222 : x_S := x_put z_221 169 (.inr (10, [.int 0, .ref 170, .ref 171, .int 0, .ref 172, .int 0, .int 0, .int 0, .int 0, .int 0, .int (-1), .ref 173, .int 0, .int 0, .ref 174, .ref 175, .ref 176, .ref 177, .ref 178, .ref 179, .ref 180, .null, .null, .int 0, .null, .null, .null, .null, .null, .null]))
def z_223 : x_S := x_push z_222 (.inl (2, 4816, x_at0 2))
def z_224 : x_S := x_put z_223 169 (.inr (10, [.int 0, .ref 170, .ref 171, .int 0, .ref 172, .int 0, .int 0, .int 0, .int 0, .int 0, .int (-1), .ref 173, .int 0, .int 0, .ref 174, .ref 175, .ref 176, .ref 177, .ref 178, .ref 179, .ref 180, .ref 181, .null, .int 0, .null, .null, .null, .null, .null, .null]))
def z_225 : x_S := x_push z_224 (.inl (0, 28992, x_at0 0))
def z_226 : x_S := x_put z_225 169 (.inr (10, [.int 0, .ref 170, .ref 171, .int 0, .ref 172, .int 0, .int 0, .int 0, .int 0, .int 0, .int (-1), .ref 173, .int 0, .int 0, .ref 174, .ref 175, .ref 176, .ref 177, .ref 178, .ref 179, .ref 180, .ref 181, .ref 182, .int 0, .null, .null, .null, .null, .null, .null]))
def z_227 : x_S := x_push z_226 (.inl (2, 512, x_at0 2))
def z_228 : x_S := x_put z_227 169 (.inr (10, [.int 0, .ref 170, .ref 171, .int 0, .ref 172, .int 0, .int 0, .int 0, .int 0, .int 0, .int (-1), .ref 173, .int 0, .int 0, .ref 174, .ref 175, .ref 176, .ref 177, .ref 178, .ref 179, .ref 180, .ref 181, .ref 182, .int 0, .ref 183, .null, .null, .null, .null, .null]))
def z_229 : x_S := x_push z_228 (.inl (0, 512, x_at0 0))
def z_230 : x_S := x_put z_229 169 (.inr (10, [.int 0, .ref 170, .ref 171, .int 0, .ref 172, .int 0, .int 0, .int 0, .int 0, .int 0, .int (-1), .ref 173, .int 0, .int 0, .ref 174, .ref 175, .ref 176, .ref 177, .ref 178, .ref 179, .ref 180, .ref 181, .ref 182, .int 0, .ref 183, .ref 184, .null, .null, .null, .null]))
def z_231 : x_S := x_push z_230 (.inl (0, 5, x_at0 0))
def z_232 : x_S := x_put z_231 169 (.inr (10, [.int 0, .ref 170, .ref 171, .int 0, .ref 172, .int 0, .int 0, .int 0, .int 0, .int 0, .int (-1), .ref 173, .int 0, .int 0, .ref 174, .ref 175, .ref 176, .ref 177, .ref 178, .ref 179, .ref 180, .ref 181, .ref 182, .int 0, .ref 183, .ref 184, .ref 185, .null, .null, .null]))
def z_233 : x_S := x_push z_232 (.inl (3, 5, x_at0 3))
def z_234 : x_S := x_put z_233 169 (.inr (10, [.int 0, .ref 170, .ref 171, .int 0, .ref 172, .int 0, .int 0, .int 0, .int 0, .int 0, .int (-1), .ref 173, .int 0, .int 0, .ref 174, .ref 175, .ref 176, .ref 177, .ref 178, .ref 179, .ref 180, .ref 181, .ref 182, .int 0, .ref 183, .ref 184, .ref 185, .ref 186, .null, .null]))
def z_235 : x_S := x_push z_234 (.inl (0, 64, x_at0 0))
def z_236 : x_S := x_put z_235 169 (.inr (10, [.int 0, .ref 170, .ref 171, .int 0, .ref 172, .int 0, .int 0, .int 0, .int 0, .int 0, .int (-1), .ref 173, .int 0, .int 0, .ref 174, .ref 175, .ref 176, .ref 177, .ref 178, .ref 179, .ref 180, .ref 181, .ref 182, .int 0, .ref 183, .ref 184, .ref 185, .ref 186, .ref 187, .null]))
def z_237 : x_S := x_push z_236 (.inl (0, 64, x_at0 0))
def z_238 : x_S := x_put z_237 169 (.inr (10, [.int 0, .ref 170, .ref 171, .int 0, .ref 172, .int 0, .int 0, .int 0, .int 0, .int 0, .int (-1), .ref 173, .int 0, .int 0, .ref 174, .ref 175, .ref 176, .ref 177, .ref 178, .ref 179, .ref 180, .ref 181, .ref 182, .int 0, .ref 183, .ref 184, .ref 185, .ref 186, .ref 187, .ref 188]))
set_option maxRecDepth 100000 in
theorem z_cX11_9 {V : x_E} (hV : y_V V) : z_Ct V yX11_init cX11_init 1 1 19 68877 [.ref 169] z_199 z_238 := by
  refine z_ct (by decide) (Nat.le_of_ble_eq_true rfl) (fun E hE => ?_)
  change E 0 0 0 [(0, .ref 169)] [] z_199
  refine r_aload_n hE dX11_init_0 rfl ?_
  refine r_obj hE (x_gin (List.mem_append_right _ (tb_6 _ (List.mem_of_getElem? (i := 48) rfl))) rfl) z_obj z_objc dX11_init_1 (by decide) (Nat.le_of_ble_eq_true rfl) ?_
  refine r_aload_n hE dX11_init_4 rfl ?_
  refine r_sipush (v := 9598) hE dX11_init_5 (by decide) ?_
  refine r_newa (at0 := .int) (t := 0) (N := 9598) hE (by decide) rfl z_aI dX11_init_8 (by decide) (by decide) (by decide) ⟨by decide, by decide⟩ ?_
  show E 1 9598 10 [(0, .ref 169)] [.ref 170, .ref 169] z_200
  refine r_putF hE f_X11_13 dX11_init_10 (List.mem_of_getElem? (i := 106) rfl) (fs := [.int 0, .null, .null, .int 0, .null, .int 0, .int 0, .int 0, .int 0, .int 0, .int 0, .null, .int 0, .int 0, .null, .null, .null, .null, .null, .null, .null, .null, .null, .int 0, .null, .null, .null, .null, .null, .null]) rfl rfl rfl (Nat.le_of_ble_eq_true rfl) ?_
  show E 1 9598 13 [(0, .ref 169)] [] z_201
  refine r_aload_n hE dX11_init_13 rfl ?_
  refine r_sipush (v := 8747) hE dX11_init_14 (by decide) ?_
  refine r_newa (at0 := .int) (t := 0) (N := 8747) hE (by decide) rfl z_aI dX11_init_17 (by decide) (by decide) (by decide) ⟨by decide, by decide⟩ ?_
  show E 2 18345 19 [(0, .ref 169)] [.ref 171, .ref 169] z_202
  refine r_putF hE f_X11_17 dX11_init_19 (List.mem_of_getElem? (i := 106) rfl) (fs := [.int 0, .ref 170, .null, .int 0, .null, .int 0, .int 0, .int 0, .int 0, .int 0, .int 0, .null, .int 0, .int 0, .null, .null, .null, .null, .null, .null, .null, .null, .null, .int 0, .null, .null, .null, .null, .null, .null]) rfl rfl rfl (Nat.le_of_ble_eq_true rfl) ?_
  show E 2 18345 22 [(0, .ref 169)] [] z_203
  refine r_aload_n hE dX11_init_22 rfl ?_
  refine r_sipush (v := 400) hE dX11_init_23 (by decide) ?_
  refine r_newa (at0 := .byte) (t := 1) (N := 400) hE (by decide) rfl z_aB dX11_init_26 (by decide) (by decide) (by decide) ⟨by decide, by decide⟩ ?_
  show E 3 18745 28 [(0, .ref 169)] [.ref 172, .ref 169] z_204
  refine r_putF hE f_X11_20 dX11_init_28 (List.mem_of_getElem? (i := 106) rfl) (fs := [.int 0, .ref 170, .ref 171, .int 0, .null, .int 0, .int 0, .int 0, .int 0, .int 0, .int 0, .null, .int 0, .int 0, .null, .null, .null, .null, .null, .null, .null, .null, .null, .int 0, .null, .null, .null, .null, .null, .null]) rfl rfl rfl (Nat.le_of_ble_eq_true rfl) ?_
  show E 3 18745 31 [(0, .ref 169)] [] z_205
  refine r_aload_n hE dX11_init_31 rfl ?_
  refine r_iconst (v := (-1)) hE dX11_init_32 (by decide) ?_
  refine r_putf hE f_X11_24 dX11_init_33 (List.mem_of_getElem? (i := 106) rfl) (fs := [.int 0, .ref 170, .ref 171, .int 0, .ref 172, .int 0, .int 0, .int 0, .int 0, .int 0, .int 0, .null, .int 0, .int 0, .null, .null, .null, .null, .null, .null, .null, .null, .null, .int 0, .null, .null, .null, .null, .null, .null]) rfl rfl rfl (Nat.le_of_ble_eq_true rfl) ?_
  show E 3 18745 36 [(0, .ref 169)] [] z_206
  refine r_aload_n hE dX11_init_36 rfl ?_
  refine r_iconst (v := 5) hE dX11_init_37 (by decide) ?_
  refine r_newa (at0 := .int) (t := 0) (N := 5) hE (by decide) rfl z_aI dX11_init_38 (by decide) (by decide) (by decide) ⟨by decide, by decide⟩ ?_
  show E 4 18750 40 [(0, .ref 169)] [.ref 173, .ref 169] z_207
  refine r_putF hE f_X11_27 dX11_init_40 (List.mem_of_getElem? (i := 106) rfl) (fs := [.int 0, .ref 170, .ref 171, .int 0, .ref 172, .int 0, .int 0, .int 0, .int 0, .int 0, .int (-1), .null, .int 0, .int 0, .null, .null, .null, .null, .null, .null, .null, .null, .null, .int 0, .null, .null, .null, .null, .null, .null]) rfl rfl rfl (Nat.le_of_ble_eq_true rfl) ?_
  show E 4 18750 43 [(0, .ref 169)] [] z_208
  refine r_aload_n hE dX11_init_43 rfl ?_
  refine r_sipush (v := 301) hE dX11_init_44 (by decide) ?_
  refine r_newa (at0 := .boolean) (t := 2) (N := 301) hE (by decide) rfl z_aZ dX11_init_47 (by decide) (by decide) (by decide) ⟨by decide, by decide⟩ ?_
  show E 5 19051 49 [(0, .ref 169)] [.ref 174, .ref 169] z_209
  refine r_putF hE f_X11_30 dX11_init_49 (List.mem_of_getElem? (i := 106) rfl) (fs := [.int 0, .ref 170, .ref 171, .int 0, .ref 172, .int 0, .int 0, .int 0, .int 0, .int 0, .int (-1), .ref 173, .int 0, .int 0, .null, .null, .null, .null, .null, .null, .null, .null, .null, .int 0, .null, .null, .null, .null, .null, .null]) rfl rfl rfl (Nat.le_of_ble_eq_true rfl) ?_
  show E 5 19051 52 [(0, .ref 169)] [] z_210
  refine r_aload_n hE dX11_init_52 rfl ?_
  refine r_iconst (v := 4) hE dX11_init_53 (by decide) ?_
  refine r_newa (at0 := .int) (t := 0) (N := 4) hE (by decide) rfl z_aI dX11_init_54 (by decide) (by decide) (by decide) ⟨by decide, by decide⟩ ?_
  show E 6 19055 56 [(0, .ref 169)] [.ref 175, .ref 169] z_211
  refine r_putF hE f_X11_34 dX11_init_56 (List.mem_of_getElem? (i := 106) rfl) (fs := [.int 0, .ref 170, .ref 171, .int 0, .ref 172, .int 0, .int 0, .int 0, .int 0, .int 0, .int (-1), .ref 173, .int 0, .int 0, .ref 174, .null, .null, .null, .null, .null, .null, .null, .null, .int 0, .null, .null, .null, .null, .null, .null]) rfl rfl rfl (Nat.le_of_ble_eq_true rfl) ?_
  show E 6 19055 59 [(0, .ref 169)] [] z_212
  refine r_aload_n hE dX11_init_59 rfl ?_
  refine r_iconst (v := 4) hE dX11_init_60 (by decide) ?_
  refine r_newa (at0 := .int) (t := 0) (N := 4) hE (by decide) rfl z_aI dX11_init_61 (by decide) (by decide) (by decide) ⟨by decide, by decide⟩ ?_
  show E 7 19059 63 [(0, .ref 169)] [.ref 176, .ref 169] z_213
  refine r_putF hE f_X11_37 dX11_init_63 (List.mem_of_getElem? (i := 106) rfl) (fs := [.int 0, .ref 170, .ref 171, .int 0, .ref 172, .int 0, .int 0, .int 0, .int 0, .int 0, .int (-1), .ref 173, .int 0, .int 0, .ref 174, .ref 175, .null, .null, .null, .null, .null, .null, .null, .int 0, .null, .null, .null, .null, .null, .null]) rfl rfl rfl (Nat.le_of_ble_eq_true rfl) ?_
  show E 7 19059 66 [(0, .ref 169)] [] z_214
  refine r_aload_n hE dX11_init_66 rfl ?_
  refine r_sipush (v := 400) hE dX11_init_67 (by decide) ?_
  refine r_newa (at0 := .int) (t := 0) (N := 400) hE (by decide) rfl z_aI dX11_init_70 (by decide) (by decide) (by decide) ⟨by decide, by decide⟩ ?_
  show E 8 19459 72 [(0, .ref 169)] [.ref 177, .ref 169] z_215
  refine r_putF hE f_X11_40 dX11_init_72 (List.mem_of_getElem? (i := 106) rfl) (fs := [.int 0, .ref 170, .ref 171, .int 0, .ref 172, .int 0, .int 0, .int 0, .int 0, .int 0, .int (-1), .ref 173, .int 0, .int 0, .ref 174, .ref 175, .ref 176, .null, .null, .null, .null, .null, .null, .int 0, .null, .null, .null, .null, .null, .null]) rfl rfl rfl (Nat.le_of_ble_eq_true rfl) ?_
  show E 8 19459 75 [(0, .ref 169)] [] z_216
  refine r_aload_n hE dX11_init_75 rfl ?_
  refine r_sipush (v := 4816) hE dX11_init_76 (by decide) ?_
  refine r_newa (at0 := .boolean) (t := 2) (N := 4816) hE (by decide) rfl z_aZ dX11_init_79 (by decide) (by decide) (by decide) ⟨by decide, by decide⟩ ?_
  show E 9 24275 81 [(0, .ref 169)] [.ref 178, .ref 169] z_217
  refine r_putF hE f_X11_43 dX11_init_81 (List.mem_of_getElem? (i := 106) rfl) (fs := [.int 0, .ref 170, .ref 171, .int 0, .ref 172, .int 0, .int 0, .int 0, .int 0, .int 0, .int (-1), .ref 173, .int 0, .int 0, .ref 174, .ref 175, .ref 176, .ref 177, .null, .null, .null, .null, .null, .int 0, .null, .null, .null, .null, .null, .null]) rfl rfl rfl (Nat.le_of_ble_eq_true rfl) ?_
  show E 9 24275 84 [(0, .ref 169)] [] z_218
  refine r_aload_n hE dX11_init_84 rfl ?_
  refine r_sipush (v := 4816) hE dX11_init_85 (by decide) ?_
  refine r_newa (at0 := .boolean) (t := 2) (N := 4816) hE (by decide) rfl z_aZ dX11_init_88 (by decide) (by decide) (by decide) ⟨by decide, by decide⟩ ?_
  show E 10 29091 90 [(0, .ref 169)] [.ref 179, .ref 169] z_219
  refine r_putF hE f_X11_46 dX11_init_90 (List.mem_of_getElem? (i := 106) rfl) (fs := [.int 0, .ref 170, .ref 171, .int 0, .ref 172, .int 0, .int 0, .int 0, .int 0, .int 0, .int (-1), .ref 173, .int 0, .int 0, .ref 174, .ref 175, .ref 176, .ref 177, .ref 178, .null, .null, .null, .null, .int 0, .null, .null, .null, .null, .null, .null]) rfl rfl rfl (Nat.le_of_ble_eq_true rfl) ?_
  show E 10 29091 93 [(0, .ref 169)] [] z_220
  refine r_aload_n hE dX11_init_93 rfl ?_
  refine r_sipush (v := 4816) hE dX11_init_94 (by decide) ?_
  refine r_newa (at0 := .boolean) (t := 2) (N := 4816) hE (by decide) rfl z_aZ dX11_init_97 (by decide) (by decide) (by decide) ⟨by decide, by decide⟩ ?_
  show E 11 33907 99 [(0, .ref 169)] [.ref 180, .ref 169] z_221
  refine r_putF hE f_X11_49 dX11_init_99 (List.mem_of_getElem? (i := 106) rfl) (fs := [.int 0, .ref 170, .ref 171, .int 0, .ref 172, .int 0, .int 0, .int 0, .int 0, .int 0, .int (-1), .ref 173, .int 0, .int 0, .ref 174, .ref 175, .ref 176, .ref 177, .ref 178, .ref 179, .null, .null, .null, .int 0, .null, .null, .null, .null, .null, .null]) rfl rfl rfl (Nat.le_of_ble_eq_true rfl) ?_
  show E 11 33907 102 [(0, .ref 169)] [] z_222
  refine r_aload_n hE dX11_init_102 rfl ?_
  refine r_sipush (v := 4816) hE dX11_init_103 (by decide) ?_
  refine r_newa (at0 := .boolean) (t := 2) (N := 4816) hE (by decide) rfl z_aZ dX11_init_106 (by decide) (by decide) (by decide) ⟨by decide, by decide⟩ ?_
  show E 12 38723 108 [(0, .ref 169)] [.ref 181, .ref 169] z_223
  refine r_putF hE f_X11_52 dX11_init_108 (List.mem_of_getElem? (i := 106) rfl) (fs := [.int 0, .ref 170, .ref 171, .int 0, .ref 172, .int 0, .int 0, .int 0, .int 0, .int 0, .int (-1), .ref 173, .int 0, .int 0, .ref 174, .ref 175, .ref 176, .ref 177, .ref 178, .ref 179, .ref 180, .null, .null, .int 0, .null, .null, .null, .null, .null, .null]) rfl rfl rfl (Nat.le_of_ble_eq_true rfl) ?_
  show E 12 38723 111 [(0, .ref 169)] [] z_224
  refine r_aload_n hE dX11_init_111 rfl ?_
  refine r_sipush (v := 28992) hE dX11_init_112 (by decide) ?_
  refine r_newa (at0 := .int) (t := 0) (N := 28992) hE (by decide) rfl z_aI dX11_init_115 (by decide) (by decide) (by decide) ⟨by decide, by decide⟩ ?_
  show E 13 67715 117 [(0, .ref 169)] [.ref 182, .ref 169] z_225
  refine r_putF hE f_X11_55 dX11_init_117 (List.mem_of_getElem? (i := 106) rfl) (fs := [.int 0, .ref 170, .ref 171, .int 0, .ref 172, .int 0, .int 0, .int 0, .int 0, .int 0, .int (-1), .ref 173, .int 0, .int 0, .ref 174, .ref 175, .ref 176, .ref 177, .ref 178, .ref 179, .ref 180, .ref 181, .null, .int 0, .null, .null, .null, .null, .null, .null]) rfl rfl rfl (Nat.le_of_ble_eq_true rfl) ?_
  show E 13 67715 120 [(0, .ref 169)] [] z_226
  refine r_aload_n hE dX11_init_120 rfl ?_
  refine r_sipush (v := 512) hE dX11_init_121 (by decide) ?_
  refine r_newa (at0 := .boolean) (t := 2) (N := 512) hE (by decide) rfl z_aZ dX11_init_124 (by decide) (by decide) (by decide) ⟨by decide, by decide⟩ ?_
  show E 14 68227 126 [(0, .ref 169)] [.ref 183, .ref 169] z_227
  refine r_putF hE f_X11_58 dX11_init_126 (List.mem_of_getElem? (i := 106) rfl) (fs := [.int 0, .ref 170, .ref 171, .int 0, .ref 172, .int 0, .int 0, .int 0, .int 0, .int 0, .int (-1), .ref 173, .int 0, .int 0, .ref 174, .ref 175, .ref 176, .ref 177, .ref 178, .ref 179, .ref 180, .ref 181, .ref 182, .int 0, .null, .null, .null, .null, .null, .null]) rfl rfl rfl (Nat.le_of_ble_eq_true rfl) ?_
  show E 14 68227 129 [(0, .ref 169)] [] z_228
  refine r_aload_n hE dX11_init_129 rfl ?_
  refine r_sipush (v := 512) hE dX11_init_130 (by decide) ?_
  refine r_newa (at0 := .int) (t := 0) (N := 512) hE (by decide) rfl z_aI dX11_init_133 (by decide) (by decide) (by decide) ⟨by decide, by decide⟩ ?_
  show E 15 68739 135 [(0, .ref 169)] [.ref 184, .ref 169] z_229
  refine r_putF hE f_X11_61 dX11_init_135 (List.mem_of_getElem? (i := 106) rfl) (fs := [.int 0, .ref 170, .ref 171, .int 0, .ref 172, .int 0, .int 0, .int 0, .int 0, .int 0, .int (-1), .ref 173, .int 0, .int 0, .ref 174, .ref 175, .ref 176, .ref 177, .ref 178, .ref 179, .ref 180, .ref 181, .ref 182, .int 0, .ref 183, .null, .null, .null, .null, .null]) rfl rfl rfl (Nat.le_of_ble_eq_true rfl) ?_
  show E 15 68739 138 [(0, .ref 169)] [] z_230
  refine r_aload_n hE dX11_init_138 rfl ?_
  refine r_iconst (v := 5) hE dX11_init_139 (by decide) ?_
  refine r_newa (at0 := .int) (t := 0) (N := 5) hE (by decide) rfl z_aI dX11_init_140 (by decide) (by decide) (by decide) ⟨by decide, by decide⟩ ?_
  show E 16 68744 142 [(0, .ref 169)] [.ref 185, .ref 169] z_231
  refine r_putF hE f_X11_64 dX11_init_142 (List.mem_of_getElem? (i := 106) rfl) (fs := [.int 0, .ref 170, .ref 171, .int 0, .ref 172, .int 0, .int 0, .int 0, .int 0, .int 0, .int (-1), .ref 173, .int 0, .int 0, .ref 174, .ref 175, .ref 176, .ref 177, .ref 178, .ref 179, .ref 180, .ref 181, .ref 182, .int 0, .ref 183, .ref 184, .null, .null, .null, .null]) rfl rfl rfl (Nat.le_of_ble_eq_true rfl) ?_
  show E 16 68744 145 [(0, .ref 169)] [] z_232
  refine r_aload_n hE dX11_init_145 rfl ?_
  refine r_iconst (v := 5) hE dX11_init_146 (by decide) ?_
  refine r_newa (at0 := .long) (t := 3) (N := 5) hE (by decide) rfl z_aJ dX11_init_147 (by decide) (by decide) (by decide) ⟨by decide, by decide⟩ ?_
  show E 17 68749 149 [(0, .ref 169)] [.ref 186, .ref 169] z_233
  refine r_putF hE f_X11_67 dX11_init_149 (List.mem_of_getElem? (i := 106) rfl) (fs := [.int 0, .ref 170, .ref 171, .int 0, .ref 172, .int 0, .int 0, .int 0, .int 0, .int 0, .int (-1), .ref 173, .int 0, .int 0, .ref 174, .ref 175, .ref 176, .ref 177, .ref 178, .ref 179, .ref 180, .ref 181, .ref 182, .int 0, .ref 183, .ref 184, .ref 185, .null, .null, .null]) rfl rfl rfl (Nat.le_of_ble_eq_true rfl) ?_
  show E 17 68749 152 [(0, .ref 169)] [] z_234
  refine r_aload_n hE dX11_init_152 rfl ?_
  refine r_bipush (v := 64) hE dX11_init_153 (by decide) ?_
  refine r_newa (at0 := .int) (t := 0) (N := 64) hE (by decide) rfl z_aI dX11_init_155 (by decide) (by decide) (by decide) ⟨by decide, by decide⟩ ?_
  show E 18 68813 157 [(0, .ref 169)] [.ref 187, .ref 169] z_235
  refine r_putF hE f_X11_71 dX11_init_157 (List.mem_of_getElem? (i := 106) rfl) (fs := [.int 0, .ref 170, .ref 171, .int 0, .ref 172, .int 0, .int 0, .int 0, .int 0, .int 0, .int (-1), .ref 173, .int 0, .int 0, .ref 174, .ref 175, .ref 176, .ref 177, .ref 178, .ref 179, .ref 180, .ref 181, .ref 182, .int 0, .ref 183, .ref 184, .ref 185, .ref 186, .null, .null]) rfl rfl rfl (Nat.le_of_ble_eq_true rfl) ?_
  show E 18 68813 160 [(0, .ref 169)] [] z_236
  refine r_aload_n hE dX11_init_160 rfl ?_
  refine r_bipush (v := 64) hE dX11_init_161 (by decide) ?_
  refine r_newa (at0 := .int) (t := 0) (N := 64) hE (by decide) rfl z_aI dX11_init_163 (by decide) (by decide) (by decide) ⟨by decide, by decide⟩ ?_
  show E 19 68877 165 [(0, .ref 169)] [.ref 188, .ref 169] z_237
  refine r_putF hE f_X11_74 dX11_init_165 (List.mem_of_getElem? (i := 106) rfl) (fs := [.int 0, .ref 170, .ref 171, .int 0, .ref 172, .int 0, .int 0, .int 0, .int 0, .int 0, .int (-1), .ref 173, .int 0, .int 0, .ref 174, .ref 175, .ref 176, .ref 177, .ref 178, .ref 179, .ref 180, .ref 181, .ref 182, .int 0, .ref 183, .ref 184, .ref 185, .ref 186, .ref 187, .null]) rfl rfl rfl (Nat.le_of_ble_eq_true rfl) ?_
  show E 19 68877 168 [(0, .ref 169)] [] z_238
  exact r_return hE dX11_init_168 rfl (Nat.le_refl _) (Nat.le_refl _) ⟨rfl, rfl⟩

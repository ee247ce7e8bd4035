/-! the JDK: length, charAt, indexOf of a fixed text -/
set_option maxRecDepth 100000 in
theorem fl_J0_38 : Cond.fieldLink RJ0 38 "java/lang/String" "COMPACT_STRINGS" "Z" ∈ gT := (x_gin (List.mem_append_right _ (tb_3 _ (List.mem_of_getElem? (i := 117) rfl))) rfl)
set_option maxRecDepth 100000 in
theorem fl_J0_9 : Cond.fieldLink RJ0 9 "java/lang/String" "value" "[B" ∈ gT := (x_gin (List.mem_append_right _ (tb_8 _ (List.mem_of_getElem? (i := 116) rfl))) rfl)
set_option maxRecDepth 100000 in
theorem fl_J0_15 : Cond.fieldLink RJ0 15 "java/lang/String" "coder" "B" ∈ gT := (x_gin (List.mem_append_right _ (tb_8 _ (List.mem_of_getElem? (i := 117) rfl))) rfl)
set_option maxRecDepth 100000 in
theorem fl_J0_1053 : Cond.fieldLink RJ0 1053 "jdk/internal/util/Preconditions" "SIOOBE_FORMATTER" "Ljava/util/function/BiFunction;" ∈ gT := (x_gin (List.mem_append_right _ (tb_3 _ (List.mem_of_getElem? (i := 133) rfl))) rfl)
/-- the formatter of the JDK's checks is null or the fixed thing 29 -/
def y_fm (V : x_E) : Prop := ∃ v : Value, (v = .null ∨ v = .ref 29) ∧ ∀ (U : State) (H : Heap), V.2.2.2.2.2.2 U H → va_Z "jdk/internal/util/Preconditions" "SIOOBE_FORMATTER" "Ljava/util/function/BiFunction;" (x_tv V v) (x_A V) U H
def y_bt (i : Nat) : List Int32 := y_byt.getD i []
theorem y_sT {V : x_E} (hV : y_V V) {i : Nat} (hi : i < 29) : ∀ (U : State) (H : Heap), V.2.2.2.2.2.2 U H → va_T .byte (V.2.2.2.2.1 (32 + i)) (y_bt i).length (fun j => .int ((y_bt i).getD j 0)) (x_A V) U H := fun U H hI => ((hV.2 U H hI).1 i hi).2.2.2
theorem y_sC {V : x_E} (hV : y_V V) {i : Nat} (hi : i < 29) : ∀ (U : State) (H : Heap), V.2.2.2.2.2.2 U H → va_OF "java/lang/String" "coder" "B" (x_tv V (.int 0)) (V.2.2.2.2.1 i) (x_A V) U H := fun U H hI => ((hV.2 U H hI).1 i hi).2.1
theorem y_sV {V : x_E} (hV : y_V V) {i : Nat} (hi : i < 29) : ∀ (U : State) (H : Heap), V.2.2.2.2.2.2 U H → va_OF "java/lang/String" "value" "[B" (x_tv V (.ref (32 + i))) (V.2.2.2.2.1 i) (x_A V) U H := fun U H hI => by rw [x_tv_fix (by omega)]; exact ((hV.2 U H hI).1 i hi).2.2.1
theorem y_sO {V : x_E} (hV : y_V V) {i : Nat} (hi : i < 29) : ∀ (U : State) (H : Heap), V.2.2.2.2.2.2 U H → va_O RJ0 (V.2.2.2.2.1 i) (x_A V) U H := fun U H hI => ((hV.2 U H hI).1 i hi).1
theorem y_sK {V : x_E} (hV : y_V V) : ∀ (U : State) (H : Heap), V.2.2.2.2.2.2 U H → va_Z "java/lang/String" "COMPACT_STRINGS" "Z" (x_tv V (.int 1)) (x_A V) U H := fun U H hI => (hV.2 U H hI).2.2.2.2.1
theorem y_bt_len {i : Nat} (hi : i < 29) : (y_bt i).length < 200 := (by decide +kernel : ∀ i, i < 29 → (y_bt i).length < 200) i hi
theorem y_bt_ok {i j : Nat} (hi : i < 29) : ((((y_bt i).getD j 0) &&& 255).toUInt32 % 65536).toInt32 = (y_bt i).getD j 0 ∧ narrow .char (.int ((y_bt i).getD j 0)) = .int ((y_bt i).getD j 0) := by
  by_cases hj : j < 200
  · exact (by decide +kernel : ∀ i, i < 29 → ∀ j, j < 200 → ((((y_bt i).getD j 0) &&& 255).toUInt32 % 65536).toInt32 = (y_bt i).getD j 0 ∧ narrow .char (.int ((y_bt i).getD j 0)) = .int ((y_bt i).getD j 0)) i hi j hj
  · have h1 := y_bt_len hi
    have h2 : (y_bt i).getD j 0 = 0 := by rw [List.getD_eq_getElem?_getD, List.getElem?_eq_none (by omega)]; rfl
    rw [h2]; decide +kernel
theorem j_coder {V : x_E} (hV : y_V V) {S : x_S} {i : Nat} (hi : i < 29) : x_Fn V yJ0_coder_7d493 cJ0_coder_7d493 1 (some .byte) 0 [.ref i] S (some (.int 0)) S := by
  refine x_fn (by decide) (Nat.le_of_ble_eq_true rfl) (fun E hE => ?_)
  change E 0 0 0 [(0, .ref i)] [] S
  refine r_gets (v := .int 1) hE (y_sK hV) fl_J0_38 dJ0_coder_7d493_0 ?_
  refine r_if_eq hE dJ0_coder_7d493_3 rfl (fun h => absurd h (by decide)) (fun _ => ?_)
  refine r_aload_n hE dJ0_coder_7d493_6 rfl ?_
  refine r_getfI (v := .int 0) hE (by omega) (y_sC hV hi) fl_J0_15 dJ0_coder_7d493_7 ?_
  refine r_goto hE dJ0_coder_7d493_10 rfl ?_
  exact r_ireturn hE dJ0_coder_7d493_14 rfl rfl (Nat.zero_le _) (Nat.zero_le _) ⟨rfl, rfl⟩
theorem j_isLatin1 {V : x_E} (hV : y_V V) {S : x_S} {i : Nat} (hi : i < 29) : x_Fn V yJ0_isLatin1_aae02 cJ0_isLatin1_aae02 1 (some .boolean) 0 [.ref i] S (some (.int 1)) S := by
  refine x_fn (by decide) (Nat.le_of_ble_eq_true rfl) (fun E hE => ?_)
  change E 0 0 0 [(0, .ref i)] [] S
  refine r_gets (v := .int 1) hE (y_sK hV) fl_J0_38 dJ0_isLatin1_aae02_0 ?_
  refine r_if_eq hE dJ0_isLatin1_aae02_3 rfl (fun h => absurd h (by decide)) (fun _ => ?_)
  refine r_aload_n hE dJ0_isLatin1_aae02_6 rfl ?_
  refine r_getfI (v := .int 0) hE (by omega) (y_sC hV hi) fl_J0_15 dJ0_isLatin1_aae02_7 ?_
  refine r_if_ne hE dJ0_isLatin1_aae02_10 rfl (fun h => absurd rfl h) (fun _ => ?_)
  refine r_iconst (v := 1) hE dJ0_isLatin1_aae02_13 (by decide) ?_
  refine r_goto hE dJ0_isLatin1_aae02_14 rfl ?_
  exact r_ireturn hE dJ0_isLatin1_aae02_18 rfl rfl (Nat.zero_le _) (Nat.zero_le _) ⟨rfl, rfl⟩
section R69
variable {V : x_E} {own nm : String} {cc : ByteArray} {nL d MC MS pc ce sl : Nat} {ret : Option FieldType} {Q : Option Value → x_S → Prop} {E : x_P} {ls : List (Nat × Value)} {st st0 : List Value} {S : x_S} {i : Nat} {y : MethodName} {cc2 : ByteArray} {nL2 d2 : Nat} {ret2 : Option FieldType} {r : Option Value}
/-- a call of a text's own method -/
theorem t_invvI (hE : x_X V own cc nL ret d MC MS nm Q E) (hV : y_V V) {h : Nat} (hh : h < 29) (hcl : y.cls = RJ0) (a : List Value) (hC : x_Fn V y cc2 nL2 ret2 d2 (.ref h :: a) S r S) (hY : x_YV y cc2 nL2 ret2 a.length) (hl : Cond.methodLink own i y ∈ gT) (hd : decode cc pc = .ok (.invokevirtual i, 3)) (hst : st0 = a.reverse ++ .ref h :: st) (hdd : d2 + 1 ≤ d) (hcap : ce ≤ MC ∧ sl ≤ MS) (hW : (st.map fun v => v.category).sum ≤ 8) (kk : E ce sl (pc + 3) ls (r.toList ++ st) S) : E ce sl pc ls st0 S :=
  r_invvI hE (by omega) a (by rw [hcl]; exact y_sO hV hh) hC hY hl hd hst hdd hcap hW ⟨rfl, rfl⟩ (fun r0 S' h9 => by rw [h9.1, h9.2]; exact kk)
end R69
theorem j_length {V : x_E} (hV : y_V V) {S : x_S} {i : Nat} (hi : i < 29) : x_Fn V yJ0_length_8abf5 cJ0_length_8abf5 1 (some .int) 1 [.ref i] S (some (.int (nI (y_bt i).length))) S := by
  refine x_fn (by decide) (Nat.le_of_ble_eq_true rfl) (fun E hE => ?_)
  change E 0 0 0 [(0, .ref i)] [] S
  refine r_aload_n hE dJ0_length_8abf5_0 rfl ?_
  refine r_getfI (v := .ref (32 + i)) hE (by omega) (y_sV hV hi) fl_J0_9 dJ0_length_8abf5_1 ?_
  refine r_tlen (v := nI (y_bt i).length) hE (by omega) (y_sT hV hi) dJ0_length_8abf5_4 rfl ?_
  refine r_aload_n hE dJ0_length_8abf5_5 rfl ?_
  refine t_invvI hE hV hi rfl [] (j_coder hV hi) v_yJ0_coder_7d493 m_J0_335 dJ0_length_8abf5_6 rfl (by decide) (by decide) (Nat.le_of_ble_eq_true rfl) ?_
  refine r_ishr hE dJ0_length_8abf5_9 ?_
  refine r_top (y := nI (y_bt i).length) (by rw [show ((0 : Int32) &&& 31) = 0 from by decide]; exact Int32.shiftRight_zero ..) ?_
  exact r_ireturn hE dJ0_length_8abf5_10 rfl rfl (Nat.zero_le _) (Nat.zero_le _) ⟨rfl, rfl⟩
theorem j_check3 {V : x_E} (hV : y_V V) {S : x_S} {a b : Nat} {v : Value} (hv : v = .null ∨ v = .ref 29) (hab : a < b) (hb : b < 200) : x_Fn V yJ3_checkIndex_8e157 cJ3_checkIndex_8e157 3 (some .int) 0 [.int (nI a), .int (nI b), v] S (some (.int (nI a))) S := by
  refine x_fn (by decide) (by rcases hv with rfl | rfl <;> exact Nat.le_of_ble_eq_true rfl) (fun E hE => ?_)
  have hv9 : E 0 0 0 (lv_args 0 [.int (nI a), .int (nI b), v]) [] S = E 0 0 0 [(0, .int (nI a)), (1, .int (nI b)), (2, v)] [] S := by rcases hv with rfl | rfl <;> rfl
  rw [hv9]
  change E 0 0 0 [(0, .int (nI a)), (1, .int (nI b)), (2, v)] [] S
  refine r_iload_n hE dJ3_checkIndex_8e157_0 rfl ?_
  refine r_if_lt hE dJ3_checkIndex_8e157_1 rfl (fun h => absurd ((nI_ltI (a := a) (b := 0) (by omega) (by omega)).mp h) (by omega)) (fun _ => ?_)
  refine r_iload_n hE dJ3_checkIndex_8e157_4 rfl ?_
  refine r_iload_n hE dJ3_checkIndex_8e157_5 rfl ?_
  refine r_icmp_ltN hE dJ3_checkIndex_8e157_6 rfl (by omega) (by omega) (fun _ => ?_) (fun h => absurd hab (by omega))
  refine r_iload_n hE dJ3_checkIndex_8e157_16 rfl ?_
  exact r_ireturn hE dJ3_checkIndex_8e157_17 rfl rfl (Nat.zero_le _) (Nat.zero_le _) ⟨rfl, rfl⟩
theorem j_checkIndex {V : x_E} (hV : y_V V) {S : x_S} (hF : y_fm V) {a b : Nat} (hab : a < b) (hb : b < 200) : x_Fn V yJ0_checkIndex_df160 cJ0_checkIndex_df160 2 none 1 [.int (nI a), .int (nI b)] S none S := by
  refine x_fn (by decide) (Nat.le_of_ble_eq_true rfl) (fun E hE => ?_)
  change E 0 0 0 [(0, .int (nI a)), (1, .int (nI b))] [] S
  obtain ⟨v, hv, hZ⟩ := hF
  refine r_iload_n hE dJ0_checkIndex_df160_0 rfl ?_
  refine r_iload_n hE dJ0_checkIndex_df160_1 rfl ?_
  refine r_gets (v := v) hE hZ fl_J0_1053 dJ0_checkIndex_df160_2 ?_
  refine t_invs hE [.int (nI a), .int (nI b), v] (j_check3 hV hv hab hb) s_yJ3_checkIndex_8e157 m_J0_1059 dJ0_checkIndex_df160_5 rfl (by decide) (by decide) (by decide) ?_
  refine r_pop hE dJ0_checkIndex_df160_8 rfl ?_
  exact r_return hE dJ0_checkIndex_df160_9 rfl (Nat.zero_le _) (Nat.zero_le _) ⟨rfl, rfl⟩
theorem j_charAtL {V : x_E} (hV : y_V V) {S : x_S} (hF : y_fm V) {i a : Nat} (hi : i < 29) (ha : a < (y_bt i).length) : x_Fn V yJ1_charAt_3b067 cJ1_charAt_3b067 2 (some .char) 2 [.ref (32 + i), .int (nI a)] S (some (.int ((y_bt i).getD a 0))) S := by
  refine x_fn (by decide) (Nat.le_of_ble_eq_true rfl) (fun E hE => ?_)
  change E 0 0 0 [(0, .ref (32 + i)), (1, .int (nI a))] [] S
  have hl9 := y_bt_len hi
  refine r_iload_n hE dJ1_charAt_3b067_0 rfl ?_
  refine r_aload_n hE dJ1_charAt_3b067_1 rfl ?_
  refine r_tlen (v := nI (y_bt i).length) hE (by omega) (y_sT hV hi) dJ1_charAt_3b067_2 rfl ?_
  refine t_invs hE [.int (nI a), .int (nI (y_bt i).length)] (j_checkIndex hV hF ha hl9) s_yJ0_checkIndex_df160 m_J1_9 dJ1_charAt_3b067_3 rfl (by decide) (by decide) (by decide) ?_
  refine r_aload_n hE dJ1_charAt_3b067_6 rfl ?_
  refine r_iload_n hE dJ1_charAt_3b067_7 rfl ?_
  refine r_tbld hE (by omega) (y_sT hV hi) dJ1_charAt_3b067_8 (vp_in_nI ha (by omega)) ?_
  rw [nI_clamp (by omega)]
  refine r_sipush (v := 255) hE dJ1_charAt_3b067_9 (by decide) ?_
  refine r_iand hE dJ1_charAt_3b067_12 ?_
  refine r_i2c hE dJ1_charAt_3b067_13 ?_
  rw [(y_bt_ok hi).1]
  exact r_ireturn hE dJ1_charAt_3b067_14 rfl (y_bt_ok hi).2 (Nat.zero_le _) (Nat.zero_le _) ⟨rfl, rfl⟩
theorem j_charAt {V : x_E} (hV : y_V V) {S : x_S} (hF : y_fm V) {i a : Nat} (hi : i < 29) (ha : a < (y_bt i).length) : x_Fn V yJ0_charAt_5068e cJ0_charAt_5068e 2 (some .char) 3 [.ref i, .int (nI a)] S (some (.int ((y_bt i).getD a 0))) S := by
  refine x_fn (by decide) (Nat.le_of_ble_eq_true rfl) (fun E hE => ?_)
  change E 0 0 0 [(0, .ref i), (1, .int (nI a))] [] S
  refine r_aload_n hE dJ0_charAt_5068e_0 rfl ?_
  refine t_invvI hE hV hi rfl [] (j_isLatin1 hV hi) v_yJ0_isLatin1_aae02 m_J0_492 dJ0_charAt_5068e_1 rfl (by decide) (by decide) (by decide) ?_
  refine r_if_eq hE dJ0_charAt_5068e_4 rfl (fun h => absurd h (by decide)) (fun _ => ?_)
  refine r_aload_n hE dJ0_charAt_5068e_7 rfl ?_
  refine r_getfI (v := .ref (32 + i)) hE (by omega) (y_sV hV hi) fl_J0_9 dJ0_charAt_5068e_8 ?_
  refine r_iload_n hE dJ0_charAt_5068e_11 rfl ?_
  refine t_invs hE [.ref (32 + i), .int (nI a)] (j_charAtL hV hF hi ha) s_yJ1_charAt_3b067 m_J0_495 dJ0_charAt_5068e_12 rfl (by decide) (by decide) (by decide) ?_
  exact r_ireturn hE dJ0_charAt_5068e_15 rfl (y_bt_ok hi).2 (Nat.zero_le _) (Nat.zero_le _) ⟨rfl, rfl⟩

/-! the JDK: indexOf of a fixed text -/
def y_ixk (l : List Int32) (c : Int32) : Nat → Nat → Int32
  | 0, _ => -1
  | f + 1, p => if l.getD p 0 = c then nI p else y_ixk l c f (p + 1)
theorem j_canEncode {V : x_E} (hV : y_V V) {S : x_S} {c : Nat} (hc : c < 256) : x_Fn V yJ1_canEncode_9a6ad cJ1_canEncode_9a6ad 1 (some .boolean) 0 [.int (nI c)] S (some (.int 1)) S := by
  refine x_fn (by decide) (Nat.le_of_ble_eq_true rfl) (fun E hE => ?_)
  change E 0 0 0 [(0, .int (nI c))] [] S
  refine r_iload_n hE dJ1_canEncode_9a6ad_0 rfl ?_
  refine r_if_lt hE dJ1_canEncode_9a6ad_1 rfl (fun h => absurd ((nI_ltI (a := c) (b := 0) (by omega) (by omega)).mp h) (by omega)) (fun _ => ?_)
  refine r_iload_n hE dJ1_canEncode_9a6ad_4 rfl ?_
  refine r_sipush (v := 255) hE dJ1_canEncode_9a6ad_5 (by decide) ?_
  refine r_icmp_gt hE dJ1_canEncode_9a6ad_8 rfl (fun h => absurd ((nI_ltI (a := 255) (b := c) (by omega) (by omega)).mp h) (by omega)) (fun _ => ?_)
  refine r_iconst (v := 1) hE dJ1_canEncode_9a6ad_11 (by decide) ?_
  refine r_goto hE dJ1_canEncode_9a6ad_12 rfl ?_
  exact r_ireturn hE dJ1_canEncode_9a6ad_16 rfl rfl (Nat.zero_le _) (Nat.zero_le _) ⟨rfl, rfl⟩
theorem j_indexOfChar {V : x_E} (hV : y_V V) {S : x_S} {i : Nat} {x : Int32} (hi : i < 29) : x_Fn V yJ1_indexOfChar_4cfef cJ1_indexOfChar_4cfef 6 (some .int) 0 [.ref (32 + i), .int x, .int (nI 0), .int (nI (y_bt i).length)] S (some (.int (y_ixk (y_bt i) x.toInt8.toInt32 (y_bt i).length 0))) S := by
  refine x_fn (by decide) (Nat.le_of_ble_eq_true rfl) (fun E hE => ?_)
  change E 0 0 0 [(0, .ref (32 + i)), (1, .int x), (2, .int (nI 0)), (3, .int (nI (y_bt i).length))] [] S
  have hl9 := y_bt_len hi
  have l1 : ∀ f p : Nat, f + p = (y_bt i).length → y_ixk (y_bt i) x.toInt8.toInt32 f p = y_ixk (y_bt i) x.toInt8.toInt32 (y_bt i).length 0 → E 0 0 7 [(0, .ref (32 + i)), (1, .int x), (2, .int (nI 0)), (3, .int (nI (y_bt i).length)), (4, .int x.toInt8.toInt32), (5, .int (nI p))] [] S := by
    intro f
    induction f with
    | zero =>
      intro p hp hw
      refine r_iload hE dJ1_indexOfChar_4cfef_7 rfl ?_
      refine r_iload_n hE dJ1_indexOfChar_4cfef_9 rfl ?_
      refine r_icmp_geN hE dJ1_indexOfChar_4cfef_10 rfl (by omega) (by omega) (fun _ => ?_) (fun h => absurd h (by omega))
      refine r_iconst (v := -1) hE dJ1_indexOfChar_4cfef_31 (by decide) ?_
      exact r_ireturn hE dJ1_indexOfChar_4cfef_32 rfl rfl (Nat.zero_le _) (Nat.zero_le _) ⟨by rw [← hw]; rfl, rfl⟩
    | succ f ih =>
      intro p hp hw
      refine r_iload hE dJ1_indexOfChar_4cfef_7 rfl ?_
      refine r_iload_n hE dJ1_indexOfChar_4cfef_9 rfl ?_
      refine r_icmp_geN hE dJ1_indexOfChar_4cfef_10 rfl (by omega) (by omega) (fun h => absurd h (by omega)) (fun _ => ?_)
      refine r_aload_n hE dJ1_indexOfChar_4cfef_13 rfl ?_
      refine r_iload hE dJ1_indexOfChar_4cfef_14 rfl ?_
      refine r_tbld hE (by omega) (y_sT hV hi) dJ1_indexOfChar_4cfef_16 (vp_in_nI (show p < (y_bt i).length by omega) (by omega)) ?_
      rw [nI_clamp (by omega)]
      refine r_iload hE dJ1_indexOfChar_4cfef_17 rfl ?_
      refine r_icmp_ne hE dJ1_indexOfChar_4cfef_19 rfl (fun h => ?_) (fun h => ?_)
      · refine r_iincN (a := p) (b := 1) (ls2 := [(0, .ref (32 + i)), (1, .int x), (2, .int (nI 0)), (3, .int (nI (y_bt i).length)), (4, .int x.toInt8.toInt32), (5, .int (nI (p + 1)))]) hE dJ1_indexOfChar_4cfef_25 rfl rfl (by decide) rfl ?_
        refine r_goto (tgt := 7) hE dJ1_indexOfChar_4cfef_28 (by decide) ?_
        exact ih (p + 1) (by omega) (by rw [← hw, y_ixk, if_neg h])
      · refine r_iload hE dJ1_indexOfChar_4cfef_22 rfl ?_
        exact r_ireturn hE dJ1_indexOfChar_4cfef_24 rfl rfl (Nat.zero_le _) (Nat.zero_le _) ⟨by rw [← hw, y_ixk, if_pos h], rfl⟩
  refine r_iload_n hE dJ1_indexOfChar_4cfef_0 rfl ?_
  refine r_i2b hE dJ1_indexOfChar_4cfef_1 ?_
  refine r_istore (ls2 := [(0, .ref (32 + i)), (1, .int x), (2, .int (nI 0)), (3, .int (nI (y_bt i).length)), (4, .int x.toInt8.toInt32)]) hE dJ1_indexOfChar_4cfef_2 (by decide) rfl ?_
  refine r_iload_n hE dJ1_indexOfChar_4cfef_4 rfl ?_
  refine r_istore (ls2 := [(0, .ref (32 + i)), (1, .int x), (2, .int (nI 0)), (3, .int (nI (y_bt i).length)), (4, .int x.toInt8.toInt32), (5, .int (nI 0))]) hE dJ1_indexOfChar_4cfef_5 (by decide) rfl ?_
  exact l1 _ 0 (by omega) rfl
theorem j_indexOfL {V : x_E} (hV : y_V V) {S : x_S} {i c : Nat} (hc : c < 256) (hi : i < 29) (h0 : 0 < (y_bt i).length) : x_Fn V yJ1_indexOf_4cfef cJ1_indexOf_4cfef 4 (some .int) 1 [.ref (32 + i), .int (nI c), .int 0, .int (nI (y_bt i).length)] S (some (.int (y_ixk (y_bt i) (nI c).toInt8.toInt32 (y_bt i).length 0))) S := by
  refine x_fn (by decide) (Nat.le_of_ble_eq_true rfl) (fun E hE => ?_)
  change E 0 0 0 [(0, .ref (32 + i)), (1, .int (nI c)), (2, .int 0), (3, .int (nI (y_bt i).length))] [] S
  have hl9 := y_bt_len hi
  refine r_iload_n hE dJ1_indexOf_4cfef_0 rfl ?_
  refine t_invs hE [.int (nI c)] (j_canEncode hV hc) s_yJ1_canEncode_9a6ad m_J1_88 dJ1_indexOf_4cfef_1 rfl (by decide) (by decide) (by decide) ?_
  refine r_if_ne hE dJ1_indexOf_4cfef_4 rfl (fun _ => ?_) (fun h => absurd h (by decide))
  refine r_iload_n hE dJ1_indexOf_4cfef_9 rfl ?_
  refine r_iconst (v := 0) hE dJ1_indexOf_4cfef_10 (by decide) ?_
  refine r_mmax hE m_J1_92 dJ1_indexOf_4cfef_11 (by decide) (Nat.le_of_ble_eq_true rfl) ⟨Nat.le_refl _, Nat.le_refl _⟩ ?_
  refine r_top (y := nI 0) (by decide) ?_
  refine r_istore_n (ls2 := [(0, .ref (32 + i)), (1, .int (nI c)), (2, .int (nI 0)), (3, .int (nI (y_bt i).length))]) hE dJ1_indexOf_4cfef_14 (by decide) rfl ?_
  refine r_iload_n hE dJ1_indexOf_4cfef_15 rfl ?_
  refine r_aload_n hE dJ1_indexOf_4cfef_16 rfl ?_
  refine r_tlen (v := nI (y_bt i).length) hE (by omega) (y_sT hV hi) dJ1_indexOf_4cfef_17 rfl ?_
  refine r_mmin hE m_J1_38 dJ1_indexOf_4cfef_18 (by decide) (Nat.le_of_ble_eq_true rfl) ⟨Nat.le_refl _, Nat.le_refl _⟩ ?_
  refine r_top (y := nI (y_bt i).length) (ite_self _) ?_
  refine r_istore_n (ls2 := [(0, .ref (32 + i)), (1, .int (nI c)), (2, .int (nI 0)), (3, .int (nI (y_bt i).length))]) hE dJ1_indexOf_4cfef_21 (by decide) rfl ?_
  refine r_iload_n hE dJ1_indexOf_4cfef_22 rfl ?_
  refine r_iload_n hE dJ1_indexOf_4cfef_23 rfl ?_
  refine r_icmp_ltN hE dJ1_indexOf_4cfef_24 rfl (by omega) (by omega) (fun _ => ?_) (fun h => absurd h (by omega))
  refine r_aload_n hE dJ1_indexOf_4cfef_29 rfl ?_
  refine r_iload_n hE dJ1_indexOf_4cfef_30 rfl ?_
  refine r_iload_n hE dJ1_indexOf_4cfef_31 rfl ?_
  refine r_iload_n hE dJ1_indexOf_4cfef_32 rfl ?_
  refine t_invs hE [.ref (32 + i), .int (nI c), .int (nI 0), .int (nI (y_bt i).length)] (j_indexOfChar hV hi) s_yJ1_indexOfChar_4cfef m_J1_95 dJ1_indexOf_4cfef_33 rfl (by decide) (by decide) (by decide) ?_
  exact r_ireturn hE dJ1_indexOf_4cfef_36 rfl rfl (Nat.zero_le _) (Nat.zero_le _) ⟨rfl, rfl⟩
theorem j_indexOf2 {V : x_E} (hV : y_V V) {S : x_S} {i c : Nat} (hc : c < 256) (hi : i < 29) (h0 : 0 < (y_bt i).length) : x_Fn V yJ0_indexOf_7cf53 cJ0_indexOf_7cf53 3 (some .int) 2 [.ref i, .int (nI c), .int 0] S (some (.int (y_ixk (y_bt i) (nI c).toInt8.toInt32 (y_bt i).length 0))) S := by
  refine x_fn (by decide) (Nat.le_of_ble_eq_true rfl) (fun E hE => ?_)
  change E 0 0 0 [(0, .ref i), (1, .int (nI c)), (2, .int 0)] [] S
  refine r_aload_n hE dJ0_indexOf_7cf53_0 rfl ?_
  refine t_invvI hE hV hi rfl [] (j_isLatin1 hV hi) v_yJ0_isLatin1_aae02 m_J0_492 dJ0_indexOf_7cf53_1 rfl (by decide) (by decide) (by decide) ?_
  refine r_if_eq hE dJ0_indexOf_7cf53_4 rfl (fun h => absurd h (by decide)) (fun _ => ?_)
  refine r_aload_n hE dJ0_indexOf_7cf53_7 rfl ?_
  refine r_getfI (v := .ref (32 + i)) hE (by omega) (y_sV hV hi) fl_J0_9 dJ0_indexOf_7cf53_8 ?_
  refine r_iload_n hE dJ0_indexOf_7cf53_11 rfl ?_
  refine r_iload_n hE dJ0_indexOf_7cf53_12 rfl ?_
  refine r_aload_n hE dJ0_indexOf_7cf53_13 rfl ?_
  refine t_invvI hE hV hi rfl [] (j_length hV hi) v_yJ0_length_8abf5 m_J0_505 dJ0_indexOf_7cf53_14 rfl (by decide) (by decide) (Nat.le_of_ble_eq_true rfl) ?_
  refine t_invs hE [.ref (32 + i), .int (nI c), .int 0, .int (nI (y_bt i).length)] (j_indexOfL hV hc hi h0) s_yJ1_indexOf_4cfef m_J0_637 dJ0_indexOf_7cf53_17 rfl (by decide) (by decide) (by decide) ?_
  refine r_goto (tgt := 36) hE dJ0_indexOf_7cf53_20 (by decide) ?_
  exact r_ireturn hE dJ0_indexOf_7cf53_36 rfl rfl (Nat.zero_le _) (Nat.zero_le _) ⟨rfl, rfl⟩
theorem j_indexOf {V : x_E} (hV : y_V V) {S : x_S} {i c : Nat} (hc : c < 256) (hi : i < 29) (h0 : 0 < (y_bt i).length) : x_Fn V yJ0_indexOf_0f7a4 cJ0_indexOf_0f7a4 2 (some .int) 3 [.ref i, .int (nI c)] S (some (.int (y_ixk (y_bt i) (nI c).toInt8.toInt32 (y_bt i).length 0))) S := by
  refine x_fn (by decide) (Nat.le_of_ble_eq_true rfl) (fun E hE => ?_)
  change E 0 0 0 [(0, .ref i), (1, .int (nI c))] [] S
  refine r_aload_n hE dJ0_indexOf_0f7a4_0 rfl ?_
  refine r_iload_n hE dJ0_indexOf_0f7a4_1 rfl ?_
  refine r_iconst (v := 0) hE dJ0_indexOf_0f7a4_2 (by decide) ?_
  refine t_invvI hE hV hi rfl [.int (nI c), .int 0] (j_indexOf2 hV hc hi h0) v_yJ0_indexOf_7cf53 m_J0_633 dJ0_indexOf_0f7a4_3 rfl (by decide) (by decide) (by decide) ?_
  exact r_ireturn hE dJ0_indexOf_0f7a4_6 rfl rfl (Nat.zero_le _) (Nat.zero_le _) ⟨rfl, rfl⟩

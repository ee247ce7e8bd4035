set_option maxRecDepth 100000 in
theorem hN_X3_77 {V : x_E} (hV : y_V V) : ∀ (U : State) (H : Heap), V.2.2.2.2.2.2 U H → va_Nw (.methodLinkNest RX3 77 yX10_hasBit "DarkSitting") U := fun U H hI => (hV.2 U H hI).2.2.2.2.2.2.1 _ (List.mem_of_getElem? (i := 3) rfl)
set_option maxRecDepth 100000 in
theorem hN_X3_71 {V : x_E} (hV : y_V V) : ∀ (U : State) (H : Heap), V.2.2.2.2.2.2 U H → va_Nw (.methodLinkNest RX3 71 yX10_firstBits "DarkSitting") U := fun U H hI => (hV.2 U H hI).2.2.2.2.2.2.1 _ (List.mem_of_getElem? (i := 4) rfl)
set_option maxRecDepth 100000 in
theorem hNf_X6_111 {V : x_E} (hV : y_V V) : ∀ (U : State) (H : Heap), V.2.2.2.2.2.2 U H → va_Nw (.fieldLinkNest RX6 111 "DarkSitting" "SETS_OF_SIZE" "[I" "DarkSitting") U := fun U H hI => (hV.2 U H hI).2.2.2.2.2.2.1 _ (List.mem_of_getElem? (i := 16) rfl)
set_option maxRecDepth 100000 in
theorem hNf_X6_100 {V : x_E} (hV : y_V V) : ∀ (U : State) (H : Heap), V.2.2.2.2.2.2 U H → va_Nw (.fieldLinkNest RX6 100 "DarkSitting" "SETS_WITH_LIMB" "[I" "DarkSitting") U := fun U H hI => (hV.2 U H hI).2.2.2.2.2.2.1 _ (List.mem_of_getElem? (i := 17) rfl)
set_option maxRecDepth 100000 in
theorem hN_X6_107 {V : x_E} (hV : y_V V) : ∀ (U : State) (H : Heap), V.2.2.2.2.2.2 U H → va_Nw (.methodLinkNest RX6 107 yX10_hasBit "DarkSitting") U := fun U H hI => (hV.2 U H hI).2.2.2.2.2.2.1 _ (List.mem_of_getElem? (i := 18) rfl)
set_option maxRecDepth 100000 in
theorem hN_X1_68 {V : x_E} (hV : y_V V) : ∀ (U : State) (H : Heap), V.2.2.2.2.2.2 U H → va_Nw (.methodLinkNest RX1 68 yX10_hasBit "DarkSitting") U := fun U H hI => (hV.2 U H hI).2.2.2.2.2.2.1 _ (List.mem_of_getElem? (i := 19) rfl)
set_option maxRecDepth 100000 in
theorem hN_X9_26 {V : x_E} (hV : y_V V) : ∀ (U : State) (H : Heap), V.2.2.2.2.2.2 U H → va_Nw (.methodLinkNest RX9 26 yX10_hasBit "DarkSitting") U := fun U H hI => (hV.2 U H hI).2.2.2.2.2.2.1 _ (List.mem_of_getElem? (i := 20) rfl)
set_option maxRecDepth 100000 in
theorem hNf_X9_30 {V : x_E} (hV : y_V V) : ∀ (U : State) (H : Heap), V.2.2.2.2.2.2 U H → va_Nw (.fieldLinkNest RX9 30 "DarkSitting" "SETS_WITH_LIMB" "[I" "DarkSitting") U := fun U H hI => (hV.2 U H hI).2.2.2.2.2.2.1 _ (List.mem_of_getElem? (i := 21) rfl)
set_option maxRecDepth 100000 in
theorem hN_X0_84 {V : x_E} (hV : y_V V) : ∀ (U : State) (H : Heap), V.2.2.2.2.2.2 U H → va_Nw (.methodLinkNest RX0 84 yX10_hasBit "DarkSitting") U := fun U H hI => (hV.2 U H hI).2.2.2.2.2.2.1 _ (List.mem_of_getElem? (i := 22) rfl)
set_option maxRecDepth 100000 in
theorem hNf_X0_77 {V : x_E} (hV : y_V V) : ∀ (U : State) (H : Heap), V.2.2.2.2.2.2 U H → va_Nw (.fieldLinkNest RX0 77 "DarkSitting" "SETS_WITH_HANDS" "[I" "DarkSitting") U := fun U H hI => (hV.2 U H hI).2.2.2.2.2.2.1 _ (List.mem_of_getElem? (i := 23) rfl)
set_option maxRecDepth 100000 in
theorem hNf_X0_81 {V : x_E} (hV : y_V V) : ∀ (U : State) (H : Heap), V.2.2.2.2.2.2 U H → va_Nw (.fieldLinkNest RX0 81 "DarkSitting" "SETS_WITH_FEET" "[I" "DarkSitting") U := fun U H hI => (hV.2 U H hI).2.2.2.2.2.2.1 _ (List.mem_of_getElem? (i := 24) rfl)
set_option maxRecDepth 100000 in
theorem hNf_X1_122 {V : x_E} (hV : y_V V) : ∀ (U : State) (H : Heap), V.2.2.2.2.2.2 U H → va_Nw (.fieldLinkNest RX1 122 "DarkSitting" "SETS_WITH_LIMB" "[I" "DarkSitting") U := fun U H hI => (hV.2 U H hI).2.2.2.2.2.2.1 _ (List.mem_of_getElem? (i := 25) rfl)
set_option maxRecDepth 100000 in
theorem hN_X0_66 {V : x_E} (hV : y_V V) : ∀ (U : State) (H : Heap), V.2.2.2.2.2.2 U H → va_Nw (.methodLinkNest RX0 66 yX10_firstBits "DarkSitting") U := fun U H hI => (hV.2 U H hI).2.2.2.2.2.2.1 _ (List.mem_of_getElem? (i := 26) rfl)
theorem y_Z61 {V : x_E} (hV : y_V V) : ∀ (U : State) (H : Heap), V.2.2.2.2.2.2 U H → va_Z "DarkSitting" "SETS_WITH_LIMB" "[I" (x_tv V (.ref 61)) (x_A V) U H := fun U H hI => by
  rw [x_tv_fix (by decide)]
  exact (hV.2 U H hI).2.2.1.1
theorem y_Z62 {V : x_E} (hV : y_V V) : ∀ (U : State) (H : Heap), V.2.2.2.2.2.2 U H → va_Z "DarkSitting" "SETS_OF_SIZE" "[I" (x_tv V (.ref 62)) (x_A V) U H := fun U H hI => by
  rw [x_tv_fix (by decide)]
  exact (hV.2 U H hI).2.2.2.1.1.1
theorem y_Z30 {V : x_E} (hV : y_V V) : ∀ (U : State) (H : Heap), V.2.2.2.2.2.2 U H → va_Z "DarkSitting" "SETS_WITH_HANDS" "[I" (x_tv V (.ref 30)) (x_A V) U H := fun U H hI => by
  rw [x_tv_fix (by decide)]
  exact (hV.2 U H hI).2.2.2.1.2.1.1
theorem y_Z31 {V : x_E} (hV : y_V V) : ∀ (U : State) (H : Heap), V.2.2.2.2.2.2 U H → va_Z "DarkSitting" "SETS_WITH_FEET" "[I" (x_tv V (.ref 31)) (x_A V) U H := fun U H hI => by
  rw [x_tv_fix (by decide)]
  exact (hV.2 U H hI).2.2.2.1.2.2.1
section R33
variable {V : x_E} {own nm : String} {cc : ByteArray} {nL d MC MS pc ce sl : Nat} {ret : Option FieldType} {Q : Option Value → x_S → Prop} {E : x_P} {ls : List (Nat × Value)} {st : List Value} {S : x_S} {n : Nat} {L : List Nat} {D : y_D}
theorem t_swl (hE : x_X V own cc nL ret d MC MS nm Q E) (hV : y_V V) {e : Nat} (hd : decode cc pc = .ok (.iaload, 1)) (he : e < 4) (kk : E ce sl (pc + 1) ls (.int (y_swl e) :: st) S) : E ce sl pc ls (.int (nI e) :: .ref 61 :: st) S := r_tald hE (by decide) (fun U H hI => (hV.2 U H hI).2.2.1.2) hd (vp_in_nI he (by decide)) (by rw [nI_clamp (by omega)]; exact kk)
theorem t_sos (hE : x_X V own cc nL ret d MC MS nm Q E) (hV : y_V V) {e : Nat} (hd : decode cc pc = .ok (.iaload, 1)) (he : e < 5) (kk : E ce sl (pc + 1) ls (.int (y_sos e) :: st) S) : E ce sl pc ls (.int (nI e) :: .ref 62 :: st) S := r_tald hE (by decide) (fun U H hI => (hV.2 U H hI).2.2.2.1.1.2) hd (vp_in_nI he (by decide)) (by rw [nI_clamp (by omega)]; exact kk)
theorem t_shn (hE : x_X V own cc nL ret d MC MS nm Q E) (hV : y_V V) {e : Nat} (hd : decode cc pc = .ok (.iaload, 1)) (he : e < 3) (kk : E ce sl (pc + 1) ls (.int (y_shn e) :: st) S) : E ce sl pc ls (.int (nI e) :: .ref 30 :: st) S := r_tald hE (by decide) (fun U H hI => (hV.2 U H hI).2.2.2.1.2.1.2) hd (vp_in_nI he (by decide)) (by rw [nI_clamp (by omega)]; exact kk)
theorem t_sft (hE : x_X V own cc nL ret d MC MS nm Q E) (hV : y_V V) {e : Nat} (hd : decode cc pc = .ok (.iaload, 1)) (he : e < 3) (kk : E ce sl (pc + 1) ls (.int (y_sft e) :: st) S) : E ce sl pc ls (.int (nI e) :: .ref 31 :: st) S := r_tald hE (by decide) (fun U H hI => (hV.2 U H hI).2.2.2.1.2.2.2) hd (vp_in_nI he (by decide)) (by rw [nI_clamp (by omega)]; exact kk)
theorem y_row_lay {r : Nat} (h : y_dh r) {c : y_c} (hk : c.2.2.2.1 = 0) : y_lay r c = .inl (0, c.2.2.2.2, .inl c.1) := by
  rw [y_dh_lay h]
  unfold y_dyn
  rw [if_neg (by rw [hk]; decide), if_neg (by rw [hk]; decide)]
theorem t_dlen (hE : x_X V own cc nL ret d MC MS nm Q E) {s len : Nat} (hs : y_dh s) (hk : (D s).2.2.2.1 = 0) (hl : (D s).2.2.2.2 = len) (hd : decode cc pc = .ok (.arraylength, 1)) (hm : s ∈ L) (kk : E ce sl (pc + 1) ls (.int (nI len) :: st) (y_mk n L D)) : E ce sl pc ls (.ref s :: st) (y_mk n L D) := by
  subst hl
  exact r_alen hE (by decide) hd hm (y_row_lay hs hk) rfl kk
theorem t_diald (hE : x_X V own cc nL ret d MC MS nm Q E) {s len e : Nat} (hs : y_dh s) (hk : (D s).2.2.2.1 = 0) (hl : (D s).2.2.2.2 = len) (hd : decode cc pc = .ok (.iaload, 1)) (hm : s ∈ L) (he : e < len) (hlen : len < 2 ^ 31) (kk : E ce sl (pc + 1) ls (.int ((D s).1 e) :: st) (y_mk n L D)) : E ce sl pc ls (.int (nI e) :: .ref s :: st) (y_mk n L D) := by
  subst hl
  exact r_iald hE hd hm (y_row_lay hs hk) (vp_in_nI he hlen) (by rw [nI_clamp (by omega)]; exact kk)
end R33
/-! Integer.bitCount, numberOfTrailingZeros -/
def y_b1 (x : Int32) : Int32 := x - ((x.toUInt32 >>> ((1 : Int32).toUInt32 &&& Int32.toUInt32 31)).toInt32 &&& 1431655765)
def y_b2 (x : Int32) : Int32 := (x &&& 858993459) + ((x.toUInt32 >>> ((2 : Int32).toUInt32 &&& Int32.toUInt32 31)).toInt32 &&& 858993459)
def y_b3 (x : Int32) : Int32 := (x + (x.toUInt32 >>> ((4 : Int32).toUInt32 &&& Int32.toUInt32 31)).toInt32) &&& 252645135
def y_b4 (x : Int32) : Int32 := x + (x.toUInt32 >>> ((8 : Int32).toUInt32 &&& Int32.toUInt32 31)).toInt32
def y_b5 (x : Int32) : Int32 := x + (x.toUInt32 >>> ((16 : Int32).toUInt32 &&& Int32.toUInt32 31)).toInt32
def y_pop (c : Nat) : Nat := c % 2 + c / 2 % 2 + c / 4 % 2 + c / 8 % 2 + c / 16 % 2 + c / 32 % 2
theorem y_pop_ok : ∀ c, c < 64 → y_b5 (y_b4 (y_b3 (y_b2 (y_b1 (nI c))))) &&& 63 = nI (y_pop c) := by decide +kernel
theorem j_bitCount {V : x_E} {n : Nat} {L : List Nat} {D : y_D} {c : Nat} (hc : c < 64) : x_Fn V yJ6_bitCount_0f7a4 cJ6_bitCount_0f7a4 1 (some .int) 0 [.int (nI c)] (y_mk n L D) (some (.int (nI (y_pop c)))) (y_mk n L D) := by
  refine x_fn (by decide) (Nat.le_of_ble_eq_true rfl) (fun E hE => ?_)
  change E 0 0 0 [(0, .int (nI c))] [] (y_mk n L D)
  refine r_iload_n hE dJ6_bitCount_0f7a4_0 rfl ?_
  refine r_iload_n hE dJ6_bitCount_0f7a4_1 rfl ?_
  refine r_iconst (v := 1) hE dJ6_bitCount_0f7a4_2 (by decide) ?_
  refine r_iushr hE dJ6_bitCount_0f7a4_3 ?_
  refine r_ldcw (v := 1431655765) hE dJ6_bitCount_0f7a4_4 (x_gin (List.mem_append_right _ (tb_5 _ (List.mem_of_getElem? (i := 54) rfl))) rfl) ?_
  refine r_iand hE dJ6_bitCount_0f7a4_7 ?_
  refine r_isub hE dJ6_bitCount_0f7a4_8 ?_
  refine r_top (y := (y_b1 (nI c))) rfl ?_
  refine r_istore_n (ls2 := [(0, .int (y_b1 (nI c)))]) hE dJ6_bitCount_0f7a4_9 (by decide) rfl ?_
  refine r_iload_n hE dJ6_bitCount_0f7a4_10 rfl ?_
  refine r_ldcw (v := 858993459) hE dJ6_bitCount_0f7a4_11 (x_gin (List.mem_append_right _ (tb_5 _ (List.mem_of_getElem? (i := 55) rfl))) rfl) ?_
  refine r_iand hE dJ6_bitCount_0f7a4_14 ?_
  refine r_iload_n hE dJ6_bitCount_0f7a4_15 rfl ?_
  refine r_iconst (v := 2) hE dJ6_bitCount_0f7a4_16 (by decide) ?_
  refine r_iushr hE dJ6_bitCount_0f7a4_17 ?_
  refine r_ldcw (v := 858993459) hE dJ6_bitCount_0f7a4_18 (x_gin (List.mem_append_right _ (tb_5 _ (List.mem_of_getElem? (i := 55) rfl))) rfl) ?_
  refine r_iand hE dJ6_bitCount_0f7a4_21 ?_
  refine r_iadd hE dJ6_bitCount_0f7a4_22 ?_
  refine r_top (y := (y_b2 (y_b1 (nI c)))) rfl ?_
  refine r_istore_n (ls2 := [(0, .int (y_b2 (y_b1 (nI c))))]) hE dJ6_bitCount_0f7a4_23 (by decide) rfl ?_
  refine r_iload_n hE dJ6_bitCount_0f7a4_24 rfl ?_
  refine r_iload_n hE dJ6_bitCount_0f7a4_25 rfl ?_
  refine r_iconst (v := 4) hE dJ6_bitCount_0f7a4_26 (by decide) ?_
  refine r_iushr hE dJ6_bitCount_0f7a4_27 ?_
  refine r_iadd hE dJ6_bitCount_0f7a4_28 ?_
  refine r_ldcw (v := 252645135) hE dJ6_bitCount_0f7a4_29 (x_gin (List.mem_append_right _ (tb_5 _ (List.mem_of_getElem? (i := 56) rfl))) rfl) ?_
  refine r_iand hE dJ6_bitCount_0f7a4_32 ?_
  refine r_top (y := (y_b3 (y_b2 (y_b1 (nI c))))) rfl ?_
  refine r_istore_n (ls2 := [(0, .int (y_b3 (y_b2 (y_b1 (nI c)))))]) hE dJ6_bitCount_0f7a4_33 (by decide) rfl ?_
  refine r_iload_n hE dJ6_bitCount_0f7a4_34 rfl ?_
  refine r_iload_n hE dJ6_bitCount_0f7a4_35 rfl ?_
  refine r_bipush (v := 8) hE dJ6_bitCount_0f7a4_36 (by decide) ?_
  refine r_iushr hE dJ6_bitCount_0f7a4_38 ?_
  refine r_iadd hE dJ6_bitCount_0f7a4_39 ?_
  refine r_top (y := (y_b4 (y_b3 (y_b2 (y_b1 (nI c)))))) rfl ?_
  refine r_istore_n (ls2 := [(0, .int (y_b4 (y_b3 (y_b2 (y_b1 (nI c))))))]) hE dJ6_bitCount_0f7a4_40 (by decide) rfl ?_
  refine r_iload_n hE dJ6_bitCount_0f7a4_41 rfl ?_
  refine r_iload_n hE dJ6_bitCount_0f7a4_42 rfl ?_
  refine r_bipush (v := 16) hE dJ6_bitCount_0f7a4_43 (by decide) ?_
  refine r_iushr hE dJ6_bitCount_0f7a4_45 ?_
  refine r_iadd hE dJ6_bitCount_0f7a4_46 ?_
  refine r_top (y := (y_b5 (y_b4 (y_b3 (y_b2 (y_b1 (nI c))))))) rfl ?_
  refine r_istore_n (ls2 := [(0, .int (y_b5 (y_b4 (y_b3 (y_b2 (y_b1 (nI c)))))))]) hE dJ6_bitCount_0f7a4_47 (by decide) rfl ?_
  refine r_iload_n hE dJ6_bitCount_0f7a4_48 rfl ?_
  refine r_bipush (v := 63) hE dJ6_bitCount_0f7a4_49 (by decide) ?_
  refine r_iand hE dJ6_bitCount_0f7a4_51 ?_
  refine r_ireturn hE dJ6_bitCount_0f7a4_52 rfl rfl (Nat.zero_le _) (Nat.zero_le _) ?_
  exact ⟨congrArg (fun z => some (Value.int z)) (y_pop_ok c hc), rfl⟩
def y_tz (c : Nat) : Nat := if c = 0 then 32 else if c % 2 = 1 then 0 else if c % 4 = 2 then 1 else if c % 8 = 4 then 2 else if c % 16 = 8 then 3 else if c % 32 = 16 then 4 else 5
def y_t1 (x : Int32) : Int32 := (x ^^^ (-1)) &&& (x - 1)
theorem y_t_256 : ∀ c, c < 64 → y_t1 (nI c) ≤ 256 ∧ y_t1 (nI c) ≤ 65536 := by decide +kernel
theorem y_tzA : ∀ c, c < 64 → 0 < y_t1 (nI c) → y_t1 (nI c) ≤ 16 → y_t1 (nI c) ≤ 4 → 1 + ((y_t1 (nI c)).toUInt32 >>> ((Int32.toUInt32 1) &&& Int32.toUInt32 31)).toInt32 = nI (y_tz c) := by decide +kernel
theorem y_tzB : ∀ c, c < 64 → 0 < y_t1 (nI c) → y_t1 (nI c) ≤ 16 → ¬ y_t1 (nI c) ≤ 4 → 1 + 2 + ((((y_t1 (nI c)).toUInt32 >>> ((Int32.toUInt32 2) &&& Int32.toUInt32 31)).toInt32).toUInt32 >>> ((Int32.toUInt32 1) &&& Int32.toUInt32 31)).toInt32 = nI (y_tz c) := by decide +kernel
theorem y_tzC : ∀ c, c < 64 → 0 < y_t1 (nI c) → ¬ y_t1 (nI c) ≤ 16 → ((y_t1 (nI c)).toUInt32 >>> ((Int32.toUInt32 4) &&& Int32.toUInt32 31)).toInt32 ≤ 4 → 1 + 4 + ((((y_t1 (nI c)).toUInt32 >>> ((Int32.toUInt32 4) &&& Int32.toUInt32 31)).toInt32).toUInt32 >>> ((Int32.toUInt32 1) &&& Int32.toUInt32 31)).toInt32 = nI (y_tz c) := by decide +kernel
theorem y_tzD : ∀ c, c < 64 → 0 < y_t1 (nI c) → ¬ y_t1 (nI c) ≤ 16 → ¬ ((y_t1 (nI c)).toUInt32 >>> ((Int32.toUInt32 4) &&& Int32.toUInt32 31)).toInt32 ≤ 4 → 1 + 4 + 2 + ((((((y_t1 (nI c)).toUInt32 >>> ((Int32.toUInt32 4) &&& Int32.toUInt32 31)).toInt32).toUInt32 >>> ((Int32.toUInt32 2) &&& Int32.toUInt32 31)).toInt32).toUInt32 >>> ((Int32.toUInt32 1) &&& Int32.toUInt32 31)).toInt32 = nI (y_tz c) := by decide +kernel
theorem j_ntz {V : x_E} {n : Nat} {L : List Nat} {D : y_D} (c : Nat) (hc : c < 64) : x_Fn V yJ6_numberOfTrailingZeros_0f7a4 cJ6_numberOfTrailingZeros_0f7a4 2 (some .int) 0 [.int (nI c)] (y_mk n L D) (some (.int (nI (y_tz c)))) (y_mk n L D) := by
  refine x_fn (by decide) (Nat.le_of_ble_eq_true rfl) (fun E hE => ?_)
  change E 0 0 0 [(0, .int (nI c))] [] (y_mk n L D)
  refine r_iload_n hE dJ6_numberOfTrailingZeros_0f7a4_0 rfl ?_
  refine r_iconst (v := (-1)) hE dJ6_numberOfTrailingZeros_0f7a4_1 (by decide) ?_
  refine r_ixor hE dJ6_numberOfTrailingZeros_0f7a4_2 ?_
  refine r_iload_n hE dJ6_numberOfTrailingZeros_0f7a4_3 rfl ?_
  refine r_iconst (v := 1) hE dJ6_numberOfTrailingZeros_0f7a4_4 (by decide) ?_
  refine r_isub hE dJ6_numberOfTrailingZeros_0f7a4_5 ?_
  refine r_iand hE dJ6_numberOfTrailingZeros_0f7a4_6 ?_
  refine r_top (y := (y_t1 (nI c))) rfl ?_
  refine r_istore_n (ls2 := [(0, .int (y_t1 (nI c)))]) hE dJ6_numberOfTrailingZeros_0f7a4_7 (by decide) rfl ?_
  refine r_iload_n hE dJ6_numberOfTrailingZeros_0f7a4_8 rfl ?_
  refine r_if_gt (tgt := 17) hE dJ6_numberOfTrailingZeros_0f7a4_9 (by decide) (fun c9 => ?_) (fun c9 => ?_)
  · refine r_iconst (v := 1) hE dJ6_numberOfTrailingZeros_0f7a4_17 (by decide) ?_
    refine r_istore_n (ls2 := [(0, .int (y_t1 (nI c))), (1, .int 1)]) hE dJ6_numberOfTrailingZeros_0f7a4_18 (by decide) rfl ?_
    refine r_iload_n hE dJ6_numberOfTrailingZeros_0f7a4_19 rfl ?_
    refine r_ldcw (v := 65536) hE dJ6_numberOfTrailingZeros_0f7a4_20 (x_gin (List.mem_append_right _ (tb_2 _ (List.mem_of_getElem? (i := 141) rfl))) rfl) ?_
    refine r_icmp_le (tgt := 34) hE dJ6_numberOfTrailingZeros_0f7a4_23 (by decide) (fun c23 => ?_) (fun c23 => ?_)
    · refine r_iload_n hE dJ6_numberOfTrailingZeros_0f7a4_34 rfl ?_
      refine r_sipush (v := 256) hE dJ6_numberOfTrailingZeros_0f7a4_35 (by decide) ?_
      refine r_icmp_le (tgt := 49) hE dJ6_numberOfTrailingZeros_0f7a4_38 (by decide) (fun c38 => ?_) (fun c38 => ?_)
      · refine r_iload_n hE dJ6_numberOfTrailingZeros_0f7a4_49 rfl ?_
        refine r_bipush (v := 16) hE dJ6_numberOfTrailingZeros_0f7a4_50 (by decide) ?_
        refine r_icmp_le (tgt := 62) hE dJ6_numberOfTrailingZeros_0f7a4_52 (by decide) (fun c52 => ?_) (fun c52 => ?_)
        · refine r_iload_n hE dJ6_numberOfTrailingZeros_0f7a4_62 rfl ?_
          refine r_iconst (v := 4) hE dJ6_numberOfTrailingZeros_0f7a4_63 (by decide) ?_
          refine r_icmp_le (tgt := 74) hE dJ6_numberOfTrailingZeros_0f7a4_64 (by decide) (fun c64 => ?_) (fun c64 => ?_)
          · refine r_iload_n hE dJ6_numberOfTrailingZeros_0f7a4_74 rfl ?_
            refine r_iload_n hE dJ6_numberOfTrailingZeros_0f7a4_75 rfl ?_
            refine r_iconst (v := 1) hE dJ6_numberOfTrailingZeros_0f7a4_76 (by decide) ?_
            refine r_iushr hE dJ6_numberOfTrailingZeros_0f7a4_77 ?_
            refine r_iadd hE dJ6_numberOfTrailingZeros_0f7a4_78 ?_
            refine r_ireturn hE dJ6_numberOfTrailingZeros_0f7a4_79 rfl rfl (Nat.zero_le _) (Nat.zero_le _) ?_
            first
            | exact absurd (y_t_256 c hc).2 c23
            | exact absurd (y_t_256 c hc).1 c38
            | exact ⟨congrArg (fun z => some (Value.int z)) (y_tzA c hc c9 c52 c64), rfl⟩
            | exact ⟨congrArg (fun z => some (Value.int z)) (y_tzB c hc c9 c52 c64), rfl⟩
            | exact ⟨congrArg (fun z => some (Value.int z)) (y_tzC c hc c9 c52 c64), rfl⟩
            | exact ⟨congrArg (fun z => some (Value.int z)) (y_tzD c hc c9 c52 c64), rfl⟩
          · refine r_iinc (v := 1 + 2) (ls2 := [(0, .int (y_t1 (nI c))), (1, .int (1 + 2))]) hE dJ6_numberOfTrailingZeros_0f7a4_67 rfl rfl (by decide) rfl ?_
            refine r_iload_n hE dJ6_numberOfTrailingZeros_0f7a4_70 rfl ?_
            refine r_iconst (v := 2) hE dJ6_numberOfTrailingZeros_0f7a4_71 (by decide) ?_
            refine r_iushr hE dJ6_numberOfTrailingZeros_0f7a4_72 ?_
            refine r_istore_n (ls2 := [(0, .int (((y_t1 (nI c)).toUInt32 >>> ((Int32.toUInt32 2) &&& Int32.toUInt32 31)).toInt32)), (1, .int (1 + 2))]) hE dJ6_numberOfTrailingZeros_0f7a4_73 (by decide) rfl ?_
            refine r_iload_n hE dJ6_numberOfTrailingZeros_0f7a4_74 rfl ?_
            refine r_iload_n hE dJ6_numberOfTrailingZeros_0f7a4_75 rfl ?_
            refine r_iconst (v := 1) hE dJ6_numberOfTrailingZeros_0f7a4_76 (by decide) ?_
            refine r_iushr hE dJ6_numberOfTrailingZeros_0f7a4_77 ?_
            refine r_iadd hE dJ6_numberOfTrailingZeros_0f7a4_78 ?_
            refine r_ireturn hE dJ6_numberOfTrailingZeros_0f7a4_79 rfl rfl (Nat.zero_le _) (Nat.zero_le _) ?_
            first
            | exact absurd (y_t_256 c hc).2 c23
            | exact absurd (y_t_256 c hc).1 c38
            | exact ⟨congrArg (fun z => some (Value.int z)) (y_tzA c hc c9 c52 c64), rfl⟩
            | exact ⟨congrArg (fun z => some (Value.int z)) (y_tzB c hc c9 c52 c64), rfl⟩
            | exact ⟨congrArg (fun z => some (Value.int z)) (y_tzC c hc c9 c52 c64), rfl⟩
            | exact ⟨congrArg (fun z => some (Value.int z)) (y_tzD c hc c9 c52 c64), rfl⟩
        · refine r_iinc (v := 1 + 4) (ls2 := [(0, .int (y_t1 (nI c))), (1, .int (1 + 4))]) hE dJ6_numberOfTrailingZeros_0f7a4_55 rfl rfl (by decide) rfl ?_
          refine r_iload_n hE dJ6_numberOfTrailingZeros_0f7a4_58 rfl ?_
          refine r_iconst (v := 4) hE dJ6_numberOfTrailingZeros_0f7a4_59 (by decide) ?_
          refine r_iushr hE dJ6_numberOfTrailingZeros_0f7a4_60 ?_
          refine r_istore_n (ls2 := [(0, .int (((y_t1 (nI c)).toUInt32 >>> ((Int32.toUInt32 4) &&& Int32.toUInt32 31)).toInt32)), (1, .int (1 + 4))]) hE dJ6_numberOfTrailingZeros_0f7a4_61 (by decide) rfl ?_
          refine r_iload_n hE dJ6_numberOfTrailingZeros_0f7a4_62 rfl ?_
          refine r_iconst (v := 4) hE dJ6_numberOfTrailingZeros_0f7a4_63 (by decide) ?_
          refine r_icmp_le (tgt := 74) hE dJ6_numberOfTrailingZeros_0f7a4_64 (by decide) (fun c64 => ?_) (fun c64 => ?_)
          · refine r_iload_n hE dJ6_numberOfTrailingZeros_0f7a4_74 rfl ?_
            refine r_iload_n hE dJ6_numberOfTrailingZeros_0f7a4_75 rfl ?_
            refine r_iconst (v := 1) hE dJ6_numberOfTrailingZeros_0f7a4_76 (by decide) ?_
            refine r_iushr hE dJ6_numberOfTrailingZeros_0f7a4_77 ?_
            refine r_iadd hE dJ6_numberOfTrailingZeros_0f7a4_78 ?_
            refine r_ireturn hE dJ6_numberOfTrailingZeros_0f7a4_79 rfl rfl (Nat.zero_le _) (Nat.zero_le _) ?_
            first
            | exact absurd (y_t_256 c hc).2 c23
            | exact absurd (y_t_256 c hc).1 c38
            | exact ⟨congrArg (fun z => some (Value.int z)) (y_tzA c hc c9 c52 c64), rfl⟩
            | exact ⟨congrArg (fun z => some (Value.int z)) (y_tzB c hc c9 c52 c64), rfl⟩
            | exact ⟨congrArg (fun z => some (Value.int z)) (y_tzC c hc c9 c52 c64), rfl⟩
            | exact ⟨congrArg (fun z => some (Value.int z)) (y_tzD c hc c9 c52 c64), rfl⟩
          · refine r_iinc (v := (1 + 4) + 2) (ls2 := [(0, .int (((y_t1 (nI c)).toUInt32 >>> ((Int32.toUInt32 4) &&& Int32.toUInt32 31)).toInt32)), (1, .int ((1 + 4) + 2))]) hE dJ6_numberOfTrailingZeros_0f7a4_67 rfl rfl (by decide) rfl ?_
            refine r_iload_n hE dJ6_numberOfTrailingZeros_0f7a4_70 rfl ?_
            refine r_iconst (v := 2) hE dJ6_numberOfTrailingZeros_0f7a4_71 (by decide) ?_
            refine r_iushr hE dJ6_numberOfTrailingZeros_0f7a4_72 ?_
            refine r_istore_n (ls2 := [(0, .int (((((y_t1 (nI c)).toUInt32 >>> ((Int32.toUInt32 4) &&& Int32.toUInt32 31)).toInt32).toUInt32 >>> ((Int32.toUInt32 2) &&& Int32.toUInt32 31)).toInt32)), (1, .int ((1 + 4) + 2))]) hE dJ6_numberOfTrailingZeros_0f7a4_73 (by decide) rfl ?_
            refine r_iload_n hE dJ6_numberOfTrailingZeros_0f7a4_74 rfl ?_
            refine r_iload_n hE dJ6_numberOfTrailingZeros_0f7a4_75 rfl ?_
            refine r_iconst (v := 1) hE dJ6_numberOfTrailingZeros_0f7a4_76 (by decide) ?_
            refine r_iushr hE dJ6_numberOfTrailingZeros_0f7a4_77 ?_
            refine r_iadd hE dJ6_numberOfTrailingZeros_0f7a4_78 ?_
            refine r_ireturn hE dJ6_numberOfTrailingZeros_0f7a4_79 rfl rfl (Nat.zero_le _) (Nat.zero_le _) ?_
            first
            | exact absurd (y_t_256 c hc).2 c23
            | exact absurd (y_t_256 c hc).1 c38
            | exact ⟨congrArg (fun z => some (Value.int z)) (y_tzA c hc c9 c52 c64), rfl⟩
            | exact ⟨congrArg (fun z => some (Value.int z)) (y_tzB c hc c9 c52 c64), rfl⟩
            | exact ⟨congrArg (fun z => some (Value.int z)) (y_tzC c hc c9 c52 c64), rfl⟩
            | exact ⟨congrArg (fun z => some (Value.int z)) (y_tzD c hc c9 c52 c64), rfl⟩
      · refine r_iinc (v := 1 + 8) (ls2 := [(0, .int (y_t1 (nI c))), (1, .int (1 + 8))]) hE dJ6_numberOfTrailingZeros_0f7a4_41 rfl rfl (by decide) rfl ?_
        refine r_iload_n hE dJ6_numberOfTrailingZeros_0f7a4_44 rfl ?_
        refine r_bipush (v := 8) hE dJ6_numberOfTrailingZeros_0f7a4_45 (by decide) ?_
        refine r_iushr hE dJ6_numberOfTrailingZeros_0f7a4_47 ?_
        refine r_istore_n (ls2 := [(0, .int (((y_t1 (nI c)).toUInt32 >>> ((Int32.toUInt32 8) &&& Int32.toUInt32 31)).toInt32)), (1, .int (1 + 8))]) hE dJ6_numberOfTrailingZeros_0f7a4_48 (by decide) rfl ?_
        refine r_iload_n hE dJ6_numberOfTrailingZeros_0f7a4_49 rfl ?_
        refine r_bipush (v := 16) hE dJ6_numberOfTrailingZeros_0f7a4_50 (by decide) ?_
        refine r_icmp_le (tgt := 62) hE dJ6_numberOfTrailingZeros_0f7a4_52 (by decide) (fun c52 => ?_) (fun c52 => ?_)
        · refine r_iload_n hE dJ6_numberOfTrailingZeros_0f7a4_62 rfl ?_
          refine r_iconst (v := 4) hE dJ6_numberOfTrailingZeros_0f7a4_63 (by decide) ?_
          refine r_icmp_le (tgt := 74) hE dJ6_numberOfTrailingZeros_0f7a4_64 (by decide) (fun c64 => ?_) (fun c64 => ?_)
          · refine r_iload_n hE dJ6_numberOfTrailingZeros_0f7a4_74 rfl ?_
            refine r_iload_n hE dJ6_numberOfTrailingZeros_0f7a4_75 rfl ?_
            refine r_iconst (v := 1) hE dJ6_numberOfTrailingZeros_0f7a4_76 (by decide) ?_
            refine r_iushr hE dJ6_numberOfTrailingZeros_0f7a4_77 ?_
            refine r_iadd hE dJ6_numberOfTrailingZeros_0f7a4_78 ?_
            refine r_ireturn hE dJ6_numberOfTrailingZeros_0f7a4_79 rfl rfl (Nat.zero_le _) (Nat.zero_le _) ?_
            first
            | exact absurd (y_t_256 c hc).2 c23
            | exact absurd (y_t_256 c hc).1 c38
            | exact ⟨congrArg (fun z => some (Value.int z)) (y_tzA c hc c9 c52 c64), rfl⟩
            | exact ⟨congrArg (fun z => some (Value.int z)) (y_tzB c hc c9 c52 c64), rfl⟩
            | exact ⟨congrArg (fun z => some (Value.int z)) (y_tzC c hc c9 c52 c64), rfl⟩
            | exact ⟨congrArg (fun z => some (Value.int z)) (y_tzD c hc c9 c52 c64), rfl⟩
          · refine r_iinc (v := (1 + 8) + 2) (ls2 := [(0, .int (((y_t1 (nI c)).toUInt32 >>> ((Int32.toUInt32 8) &&& Int32.toUInt32 31)).toInt32)), (1, .int ((1 + 8) + 2))]) hE dJ6_numberOfTrailingZeros_0f7a4_67 rfl rfl (by decide) rfl ?_
            refine r_iload_n hE dJ6_numberOfTrailingZeros_0f7a4_70 rfl ?_
            refine r_iconst (v := 2) hE dJ6_numberOfTrailingZeros_0f7a4_71 (by decide) ?_
            refine r_iushr hE dJ6_numberOfTrailingZeros_0f7a4_72 ?_
            refine r_istore_n (ls2 := [(0, .int (((((y_t1 (nI c)).toUInt32 >>> ((Int32.toUInt32 8) &&& Int32.toUInt32 31)).toInt32).toUInt32 >>> ((Int32.toUInt32 2) &&& Int32.toUInt32 31)).toInt32)), (1, .int ((1 + 8) + 2))]) hE dJ6_numberOfTrailingZeros_0f7a4_73 (by decide) rfl ?_
            refine r_iload_n hE dJ6_numberOfTrailingZeros_0f7a4_74 rfl ?_
            refine r_iload_n hE dJ6_numberOfTrailingZeros_0f7a4_75 rfl ?_
            refine r_iconst (v := 1) hE dJ6_numberOfTrailingZeros_0f7a4_76 (by decide) ?_
            refine r_iushr hE dJ6_numberOfTrailingZeros_0f7a4_77 ?_
            refine r_iadd hE dJ6_numberOfTrailingZeros_0f7a4_78 ?_
            refine r_ireturn hE dJ6_numberOfTrailingZeros_0f7a4_79 rfl rfl (Nat.zero_le _) (Nat.zero_le _) ?_
            first
            | exact absurd (y_t_256 c hc).2 c23
            | exact absurd (y_t_256 c hc).1 c38
            | exact ⟨congrArg (fun z => some (Value.int z)) (y_tzA c hc c9 c52 c64), rfl⟩
            | exact ⟨congrArg (fun z => some (Value.int z)) (y_tzB c hc c9 c52 c64), rfl⟩
            | exact ⟨congrArg (fun z => some (Value.int z)) (y_tzC c hc c9 c52 c64), rfl⟩
            | exact ⟨congrArg (fun z => some (Value.int z)) (y_tzD c hc c9 c52 c64), rfl⟩
        · refine r_iinc (v := (1 + 8) + 4) (ls2 := [(0, .int (((y_t1 (nI c)).toUInt32 >>> ((Int32.toUInt32 8) &&& Int32.toUInt32 31)).toInt32)), (1, .int ((1 + 8) + 4))]) hE dJ6_numberOfTrailingZeros_0f7a4_55 rfl rfl (by decide) rfl ?_
          refine r_iload_n hE dJ6_numberOfTrailingZeros_0f7a4_58 rfl ?_
          refine r_iconst (v := 4) hE dJ6_numberOfTrailingZeros_0f7a4_59 (by decide) ?_
          refine r_iushr hE dJ6_numberOfTrailingZeros_0f7a4_60 ?_
          refine r_istore_n (ls2 := [(0, .int (((((y_t1 (nI c)).toUInt32 >>> ((Int32.toUInt32 8) &&& Int32.toUInt32 31)).toInt32).toUInt32 >>> ((Int32.toUInt32 4) &&& Int32.toUInt32 31)).toInt32)), (1, .int ((1 + 8) + 4))]) hE dJ6_numberOfTrailingZeros_0f7a4_61 (by decide) rfl ?_
          refine r_iload_n hE dJ6_numberOfTrailingZeros_0f7a4_62 rfl ?_
          refine r_iconst (v := 4) hE dJ6_numberOfTrailingZeros_0f7a4_63 (by decide) ?_
          refine r_icmp_le (tgt := 74) hE dJ6_numberOfTrailingZeros_0f7a4_64 (by decide) (fun c64 => ?_) (fun c64 => ?_)
          · refine r_iload_n hE dJ6_numberOfTrailingZeros_0f7a4_74 rfl ?_
            refine r_iload_n hE dJ6_numberOfTrailingZeros_0f7a4_75 rfl ?_
            refine r_iconst (v := 1) hE dJ6_numberOfTrailingZeros_0f7a4_76 (by decide) ?_
            refine r_iushr hE dJ6_numberOfTrailingZeros_0f7a4_77 ?_
            refine r_iadd hE dJ6_numberOfTrailingZeros_0f7a4_78 ?_
            refine r_ireturn hE dJ6_numberOfTrailingZeros_0f7a4_79 rfl rfl (Nat.zero_le _) (Nat.zero_le _) ?_
            first
            | exact absurd (y_t_256 c hc).2 c23
            | exact absurd (y_t_256 c hc).1 c38
            | exact ⟨congrArg (fun z => some (Value.int z)) (y_tzA c hc c9 c52 c64), rfl⟩
            | exact ⟨congrArg (fun z => some (Value.int z)) (y_tzB c hc c9 c52 c64), rfl⟩
            | exact ⟨congrArg (fun z => some (Value.int z)) (y_tzC c hc c9 c52 c64), rfl⟩
            | exact ⟨congrArg (fun z => some (Value.int z)) (y_tzD c hc c9 c52 c64), rfl⟩
          · refine r_iinc (v := ((1 + 8) + 4) + 2) (ls2 := [(0, .int (((((y_t1 (nI c)).toUInt32 >>> ((Int32.toUInt32 8) &&& Int32.toUInt32 31)).toInt32).toUInt32 >>> ((Int32.toUInt32 4) &&& Int32.toUInt32 31)).toInt32)), (1, .int (((1 + 8) + 4) + 2))]) hE dJ6_numberOfTrailingZeros_0f7a4_67 rfl rfl (by decide) rfl ?_
            refine r_iload_n hE dJ6_numberOfTrailingZeros_0f7a4_70 rfl ?_
            refine r_iconst (v := 2) hE dJ6_numberOfTrailingZeros_0f7a4_71 (by decide) ?_
            refine r_iushr hE dJ6_numberOfTrailingZeros_0f7a4_72 ?_
            refine r_istore_n (ls2 := [(0, .int (((((((y_t1 (nI c)).toUInt32 >>> ((Int32.toUInt32 8) &&& Int32.toUInt32 31)).toInt32).toUInt32 >>> ((Int32.toUInt32 4) &&& Int32.toUInt32 31)).toInt32).toUInt32 >>> ((Int32.toUInt32 2) &&& Int32.toUInt32 31)).toInt32)), (1, .int (((1 + 8) + 4) + 2))]) hE dJ6_numberOfTrailingZeros_0f7a4_73 (by decide) rfl ?_
            refine r_iload_n hE dJ6_numberOfTrailingZeros_0f7a4_74 rfl ?_
            refine r_iload_n hE dJ6_numberOfTrailingZeros_0f7a4_75 rfl ?_
            refine r_iconst (v := 1) hE dJ6_numberOfTrailingZeros_0f7a4_76 (by decide) ?_
            refine r_iushr hE dJ6_numberOfTrailingZeros_0f7a4_77 ?_
            refine r_iadd hE dJ6_numberOfTrailingZeros_0f7a4_78 ?_
            refine r_ireturn hE dJ6_numberOfTrailingZeros_0f7a4_79 rfl rfl (Nat.zero_le _) (Nat.zero_le _) ?_
            first
            | exact absurd (y_t_256 c hc).2 c23
            | exact absurd (y_t_256 c hc).1 c38
            | exact ⟨congrArg (fun z => some (Value.int z)) (y_tzA c hc c9 c52 c64), rfl⟩
            | exact ⟨congrArg (fun z => some (Value.int z)) (y_tzB c hc c9 c52 c64), rfl⟩
            | exact ⟨congrArg (fun z => some (Value.int z)) (y_tzC c hc c9 c52 c64), rfl⟩
            | exact ⟨congrArg (fun z => some (Value.int z)) (y_tzD c hc c9 c52 c64), rfl⟩
    · refine r_iinc (v := 1 + 16) (ls2 := [(0, .int (y_t1 (nI c))), (1, .int (1 + 16))]) hE dJ6_numberOfTrailingZeros_0f7a4_26 rfl rfl (by decide) rfl ?_
      refine r_iload_n hE dJ6_numberOfTrailingZeros_0f7a4_29 rfl ?_
      refine r_bipush (v := 16) hE dJ6_numberOfTrailingZeros_0f7a4_30 (by decide) ?_
      refine r_iushr hE dJ6_numberOfTrailingZeros_0f7a4_32 ?_
      refine r_istore_n (ls2 := [(0, .int (((y_t1 (nI c)).toUInt32 >>> ((Int32.toUInt32 16) &&& Int32.toUInt32 31)).toInt32)), (1, .int (1 + 16))]) hE dJ6_numberOfTrailingZeros_0f7a4_33 (by decide) rfl ?_
      refine r_iload_n hE dJ6_numberOfTrailingZeros_0f7a4_34 rfl ?_
      refine r_sipush (v := 256) hE dJ6_numberOfTrailingZeros_0f7a4_35 (by decide) ?_
      refine r_icmp_le (tgt := 49) hE dJ6_numberOfTrailingZeros_0f7a4_38 (by decide) (fun c38 => ?_) (fun c38 => ?_)
      · refine r_iload_n hE dJ6_numberOfTrailingZeros_0f7a4_49 rfl ?_
        refine r_bipush (v := 16) hE dJ6_numberOfTrailingZeros_0f7a4_50 (by decide) ?_
        refine r_icmp_le (tgt := 62) hE dJ6_numberOfTrailingZeros_0f7a4_52 (by decide) (fun c52 => ?_) (fun c52 => ?_)
        · refine r_iload_n hE dJ6_numberOfTrailingZeros_0f7a4_62 rfl ?_
          refine r_iconst (v := 4) hE dJ6_numberOfTrailingZeros_0f7a4_63 (by decide) ?_
          refine r_icmp_le (tgt := 74) hE dJ6_numberOfTrailingZeros_0f7a4_64 (by decide) (fun c64 => ?_) (fun c64 => ?_)
          · refine r_iload_n hE dJ6_numberOfTrailingZeros_0f7a4_74 rfl ?_
            refine r_iload_n hE dJ6_numberOfTrailingZeros_0f7a4_75 rfl ?_
            refine r_iconst (v := 1) hE dJ6_numberOfTrailingZeros_0f7a4_76 (by decide) ?_
            refine r_iushr hE dJ6_numberOfTrailingZeros_0f7a4_77 ?_
            refine r_iadd hE dJ6_numberOfTrailingZeros_0f7a4_78 ?_
            refine r_ireturn hE dJ6_numberOfTrailingZeros_0f7a4_79 rfl rfl (Nat.zero_le _) (Nat.zero_le _) ?_
            first
            | exact absurd (y_t_256 c hc).2 c23
            | exact absurd (y_t_256 c hc).1 c38
            | exact ⟨congrArg (fun z => some (Value.int z)) (y_tzA c hc c9 c52 c64), rfl⟩
            | exact ⟨congrArg (fun z => some (Value.int z)) (y_tzB c hc c9 c52 c64), rfl⟩
            | exact ⟨congrArg (fun z => some (Value.int z)) (y_tzC c hc c9 c52 c64), rfl⟩
            | exact ⟨congrArg (fun z => some (Value.int z)) (y_tzD c hc c9 c52 c64), rfl⟩
          · refine r_iinc (v := (1 + 16) + 2) (ls2 := [(0, .int (((y_t1 (nI c)).toUInt32 >>> ((Int32.toUInt32 16) &&& Int32.toUInt32 31)).toInt32)), (1, .int ((1 + 16) + 2))]) hE dJ6_numberOfTrailingZeros_0f7a4_67 rfl rfl (by decide) rfl ?_
            refine r_iload_n hE dJ6_numberOfTrailingZeros_0f7a4_70 rfl ?_
            refine r_iconst (v := 2) hE dJ6_numberOfTrailingZeros_0f7a4_71 (by decide) ?_
            refine r_iushr hE dJ6_numberOfTrailingZeros_0f7a4_72 ?_
            refine r_istore_n (ls2 := [(0, .int (((((y_t1 (nI c)).toUInt32 >>> ((Int32.toUInt32 16) &&& Int32.toUInt32 31)).toInt32).toUInt32 >>> ((Int32.toUInt32 2) &&& Int32.toUInt32 31)).toInt32)), (1, .int ((1 + 16) + 2))]) hE dJ6_numberOfTrailingZeros_0f7a4_73 (by decide) rfl ?_
            refine r_iload_n hE dJ6_numberOfTrailingZeros_0f7a4_74 rfl ?_
            refine r_iload_n hE dJ6_numberOfTrailingZeros_0f7a4_75 rfl ?_
            refine r_iconst (v := 1) hE dJ6_numberOfTrailingZeros_0f7a4_76 (by decide) ?_
            refine r_iushr hE dJ6_numberOfTrailingZeros_0f7a4_77 ?_
            refine r_iadd hE dJ6_numberOfTrailingZeros_0f7a4_78 ?_
            refine r_ireturn hE dJ6_numberOfTrailingZeros_0f7a4_79 rfl rfl (Nat.zero_le _) (Nat.zero_le _) ?_
            first
            | exact absurd (y_t_256 c hc).2 c23
            | exact absurd (y_t_256 c hc).1 c38
            | exact ⟨congrArg (fun z => some (Value.int z)) (y_tzA c hc c9 c52 c64), rfl⟩
            | exact ⟨congrArg (fun z => some (Value.int z)) (y_tzB c hc c9 c52 c64), rfl⟩
            | exact ⟨congrArg (fun z => some (Value.int z)) (y_tzC c hc c9 c52 c64), rfl⟩
            | exact ⟨congrArg (fun z => some (Value.int z)) (y_tzD c hc c9 c52 c64), rfl⟩
        · refine r_iinc (v := (1 + 16) + 4) (ls2 := [(0, .int (((y_t1 (nI c)).toUInt32 >>> ((Int32.toUInt32 16) &&& Int32.toUInt32 31)).toInt32)), (1, .int ((1 + 16) + 4))]) hE dJ6_numberOfTrailingZeros_0f7a4_55 rfl rfl (by decide) rfl ?_
          refine r_iload_n hE dJ6_numberOfTrailingZeros_0f7a4_58 rfl ?_
          refine r_iconst (v := 4) hE dJ6_numberOfTrailingZeros_0f7a4_59 (by decide) ?_
          refine r_iushr hE dJ6_numberOfTrailingZeros_0f7a4_60 ?_
          refine r_istore_n (ls2 := [(0, .int (((((y_t1 (nI c)).toUInt32 >>> ((Int32.toUInt32 16) &&& Int32.toUInt32 31)).toInt32).toUInt32 >>> ((Int32.toUInt32 4) &&& Int32.toUInt32 31)).toInt32)), (1, .int ((1 + 16) + 4))]) hE dJ6_numberOfTrailingZeros_0f7a4_61 (by decide) rfl ?_
          refine r_iload_n hE dJ6_numberOfTrailingZeros_0f7a4_62 rfl ?_
          refine r_iconst (v := 4) hE dJ6_numberOfTrailingZeros_0f7a4_63 (by decide) ?_
          refine r_icmp_le (tgt := 74) hE dJ6_numberOfTrailingZeros_0f7a4_64 (by decide) (fun c64 => ?_) (fun c64 => ?_)
          · refine r_iload_n hE dJ6_numberOfTrailingZeros_0f7a4_74 rfl ?_
            refine r_iload_n hE dJ6_numberOfTrailingZeros_0f7a4_75 rfl ?_
            refine r_iconst (v := 1) hE dJ6_numberOfTrailingZeros_0f7a4_76 (by decide) ?_
            refine r_iushr hE dJ6_numberOfTrailingZeros_0f7a4_77 ?_
            refine r_iadd hE dJ6_numberOfTrailingZeros_0f7a4_78 ?_
            refine r_ireturn hE dJ6_numberOfTrailingZeros_0f7a4_79 rfl rfl (Nat.zero_le _) (Nat.zero_le _) ?_
            first
            | exact absurd (y_t_256 c hc).2 c23
            | exact absurd (y_t_256 c hc).1 c38
            | exact ⟨congrArg (fun z => some (Value.int z)) (y_tzA c hc c9 c52 c64), rfl⟩
            | exact ⟨congrArg (fun z => some (Value.int z)) (y_tzB c hc c9 c52 c64), rfl⟩
            | exact ⟨congrArg (fun z => some (Value.int z)) (y_tzC c hc c9 c52 c64), rfl⟩
            | exact ⟨congrArg (fun z => some (Value.int z)) (y_tzD c hc c9 c52 c64), rfl⟩
          · refine r_iinc (v := ((1 + 16) + 4) + 2) (ls2 := [(0, .int (((((y_t1 (nI c)).toUInt32 >>> ((Int32.toUInt32 16) &&& Int32.toUInt32 31)).toInt32).toUInt32 >>> ((Int32.toUInt32 4) &&& Int32.toUInt32 31)).toInt32)), (1, .int (((1 + 16) + 4) + 2))]) hE dJ6_numberOfTrailingZeros_0f7a4_67 rfl rfl (by decide) rfl ?_
            refine r_iload_n hE dJ6_numberOfTrailingZeros_0f7a4_70 rfl ?_
            refine r_iconst (v := 2) hE dJ6_numberOfTrailingZeros_0f7a4_71 (by decide) ?_
            refine r_iushr hE dJ6_numberOfTrailingZeros_0f7a4_72 ?_
            refine r_istore_n (ls2 := [(0, .int (((((((y_t1 (nI c)).toUInt32 >>> ((Int32.toUInt32 16) &&& Int32.toUInt32 31)).toInt32).toUInt32 >>> ((Int32.toUInt32 4) &&& Int32.toUInt32 31)).toInt32).toUInt32 >>> ((Int32.toUInt32 2) &&& Int32.toUInt32 31)).toInt32)), (1, .int (((1 + 16) + 4) + 2))]) hE dJ6_numberOfTrailingZeros_0f7a4_73 (by decide) rfl ?_
            refine r_iload_n hE dJ6_numberOfTrailingZeros_0f7a4_74 rfl ?_
            refine r_iload_n hE dJ6_numberOfTrailingZeros_0f7a4_75 rfl ?_
            refine r_iconst (v := 1) hE dJ6_numberOfTrailingZeros_0f7a4_76 (by decide) ?_
            refine r_iushr hE dJ6_numberOfTrailingZeros_0f7a4_77 ?_
            refine r_iadd hE dJ6_numberOfTrailingZeros_0f7a4_78 ?_
            refine r_ireturn hE dJ6_numberOfTrailingZeros_0f7a4_79 rfl rfl (Nat.zero_le _) (Nat.zero_le _) ?_
            first
            | exact absurd (y_t_256 c hc).2 c23
            | exact absurd (y_t_256 c hc).1 c38
            | exact ⟨congrArg (fun z => some (Value.int z)) (y_tzA c hc c9 c52 c64), rfl⟩
            | exact ⟨congrArg (fun z => some (Value.int z)) (y_tzB c hc c9 c52 c64), rfl⟩
            | exact ⟨congrArg (fun z => some (Value.int z)) (y_tzC c hc c9 c52 c64), rfl⟩
            | exact ⟨congrArg (fun z => some (Value.int z)) (y_tzD c hc c9 c52 c64), rfl⟩
      · refine r_iinc (v := (1 + 16) + 8) (ls2 := [(0, .int (((y_t1 (nI c)).toUInt32 >>> ((Int32.toUInt32 16) &&& Int32.toUInt32 31)).toInt32)), (1, .int ((1 + 16) + 8))]) hE dJ6_numberOfTrailingZeros_0f7a4_41 rfl rfl (by decide) rfl ?_
        refine r_iload_n hE dJ6_numberOfTrailingZeros_0f7a4_44 rfl ?_
        refine r_bipush (v := 8) hE dJ6_numberOfTrailingZeros_0f7a4_45 (by decide) ?_
        refine r_iushr hE dJ6_numberOfTrailingZeros_0f7a4_47 ?_
        refine r_istore_n (ls2 := [(0, .int (((((y_t1 (nI c)).toUInt32 >>> ((Int32.toUInt32 16) &&& Int32.toUInt32 31)).toInt32).toUInt32 >>> ((Int32.toUInt32 8) &&& Int32.toUInt32 31)).toInt32)), (1, .int ((1 + 16) + 8))]) hE dJ6_numberOfTrailingZeros_0f7a4_48 (by decide) rfl ?_
        refine r_iload_n hE dJ6_numberOfTrailingZeros_0f7a4_49 rfl ?_
        refine r_bipush (v := 16) hE dJ6_numberOfTrailingZeros_0f7a4_50 (by decide) ?_
        refine r_icmp_le (tgt := 62) hE dJ6_numberOfTrailingZeros_0f7a4_52 (by decide) (fun c52 => ?_) (fun c52 => ?_)
        · refine r_iload_n hE dJ6_numberOfTrailingZeros_0f7a4_62 rfl ?_
          refine r_iconst (v := 4) hE dJ6_numberOfTrailingZeros_0f7a4_63 (by decide) ?_
          refine r_icmp_le (tgt := 74) hE dJ6_numberOfTrailingZeros_0f7a4_64 (by decide) (fun c64 => ?_) (fun c64 => ?_)
          · refine r_iload_n hE dJ6_numberOfTrailingZeros_0f7a4_74 rfl ?_
            refine r_iload_n hE dJ6_numberOfTrailingZeros_0f7a4_75 rfl ?_
            refine r_iconst (v := 1) hE dJ6_numberOfTrailingZeros_0f7a4_76 (by decide) ?_
            refine r_iushr hE dJ6_numberOfTrailingZeros_0f7a4_77 ?_
            refine r_iadd hE dJ6_numberOfTrailingZeros_0f7a4_78 ?_
            refine r_ireturn hE dJ6_numberOfTrailingZeros_0f7a4_79 rfl rfl (Nat.zero_le _) (Nat.zero_le _) ?_
            first
            | exact absurd (y_t_256 c hc).2 c23
            | exact absurd (y_t_256 c hc).1 c38
            | exact ⟨congrArg (fun z => some (Value.int z)) (y_tzA c hc c9 c52 c64), rfl⟩
            | exact ⟨congrArg (fun z => some (Value.int z)) (y_tzB c hc c9 c52 c64), rfl⟩
            | exact ⟨congrArg (fun z => some (Value.int z)) (y_tzC c hc c9 c52 c64), rfl⟩
            | exact ⟨congrArg (fun z => some (Value.int z)) (y_tzD c hc c9 c52 c64), rfl⟩
          · refine r_iinc (v := ((1 + 16) + 8) + 2) (ls2 := [(0, .int (((((y_t1 (nI c)).toUInt32 >>> ((Int32.toUInt32 16) &&& Int32.toUInt32 31)).toInt32).toUInt32 >>> ((Int32.toUInt32 8) &&& Int32.toUInt32 31)).toInt32)), (1, .int (((1 + 16) + 8) + 2))]) hE dJ6_numberOfTrailingZeros_0f7a4_67 rfl rfl (by decide) rfl ?_
            refine r_iload_n hE dJ6_numberOfTrailingZeros_0f7a4_70 rfl ?_
            refine r_iconst (v := 2) hE dJ6_numberOfTrailingZeros_0f7a4_71 (by decide) ?_
            refine r_iushr hE dJ6_numberOfTrailingZeros_0f7a4_72 ?_
            refine r_istore_n (ls2 := [(0, .int (((((((y_t1 (nI c)).toUInt32 >>> ((Int32.toUInt32 16) &&& Int32.toUInt32 31)).toInt32).toUInt32 >>> ((Int32.toUInt32 8) &&& Int32.toUInt32 31)).toInt32).toUInt32 >>> ((Int32.toUInt32 2) &&& Int32.toUInt32 31)).toInt32)), (1, .int (((1 + 16) + 8) + 2))]) hE dJ6_numberOfTrailingZeros_0f7a4_73 (by decide) rfl ?_
            refine r_iload_n hE dJ6_numberOfTrailingZeros_0f7a4_74 rfl ?_
            refine r_iload_n hE dJ6_numberOfTrailingZeros_0f7a4_75 rfl ?_
            refine r_iconst (v := 1) hE dJ6_numberOfTrailingZeros_0f7a4_76 (by decide) ?_
            refine r_iushr hE dJ6_numberOfTrailingZeros_0f7a4_77 ?_
            refine r_iadd hE dJ6_numberOfTrailingZeros_0f7a4_78 ?_
            refine r_ireturn hE dJ6_numberOfTrailingZeros_0f7a4_79 rfl rfl (Nat.zero_le _) (Nat.zero_le _) ?_
            first
            | exact absurd (y_t_256 c hc).2 c23
            | exact absurd (y_t_256 c hc).1 c38
            | exact ⟨congrArg (fun z => some (Value.int z)) (y_tzA c hc c9 c52 c64), rfl⟩
            | exact ⟨congrArg (fun z => some (Value.int z)) (y_tzB c hc c9 c52 c64), rfl⟩
            | exact ⟨congrArg (fun z => some (Value.int z)) (y_tzC c hc c9 c52 c64), rfl⟩
            | exact ⟨congrArg (fun z => some (Value.int z)) (y_tzD c hc c9 c52 c64), rfl⟩
        · refine r_iinc (v := ((1 + 16) + 8) + 4) (ls2 := [(0, .int (((((y_t1 (nI c)).toUInt32 >>> ((Int32.toUInt32 16) &&& Int32.toUInt32 31)).toInt32).toUInt32 >>> ((Int32.toUInt32 8) &&& Int32.toUInt32 31)).toInt32)), (1, .int (((1 + 16) + 8) + 4))]) hE dJ6_numberOfTrailingZeros_0f7a4_55 rfl rfl (by decide) rfl ?_
          refine r_iload_n hE dJ6_numberOfTrailingZeros_0f7a4_58 rfl ?_
          refine r_iconst (v := 4) hE dJ6_numberOfTrailingZeros_0f7a4_59 (by decide) ?_
          refine r_iushr hE dJ6_numberOfTrailingZeros_0f7a4_60 ?_
          refine r_istore_n (ls2 := [(0, .int (((((((y_t1 (nI c)).toUInt32 >>> ((Int32.toUInt32 16) &&& Int32.toUInt32 31)).toInt32).toUInt32 >>> ((Int32.toUInt32 8) &&& Int32.toUInt32 31)).toInt32).toUInt32 >>> ((Int32.toUInt32 4) &&& Int32.toUInt32 31)).toInt32)), (1, .int (((1 + 16) + 8) + 4))]) hE dJ6_numberOfTrailingZeros_0f7a4_61 (by decide) rfl ?_
          refine r_iload_n hE dJ6_numberOfTrailingZeros_0f7a4_62 rfl ?_
          refine r_iconst (v := 4) hE dJ6_numberOfTrailingZeros_0f7a4_63 (by decide) ?_
          refine r_icmp_le (tgt := 74) hE dJ6_numberOfTrailingZeros_0f7a4_64 (by decide) (fun c64 => ?_) (fun c64 => ?_)
          · refine r_iload_n hE dJ6_numberOfTrailingZeros_0f7a4_74 rfl ?_
            refine r_iload_n hE dJ6_numberOfTrailingZeros_0f7a4_75 rfl ?_
            refine r_iconst (v := 1) hE dJ6_numberOfTrailingZeros_0f7a4_76 (by decide) ?_
            refine r_iushr hE dJ6_numberOfTrailingZeros_0f7a4_77 ?_
            refine r_iadd hE dJ6_numberOfTrailingZeros_0f7a4_78 ?_
            refine r_ireturn hE dJ6_numberOfTrailingZeros_0f7a4_79 rfl rfl (Nat.zero_le _) (Nat.zero_le _) ?_
            first
            | exact absurd (y_t_256 c hc).2 c23
            | exact absurd (y_t_256 c hc).1 c38
            | exact ⟨congrArg (fun z => some (Value.int z)) (y_tzA c hc c9 c52 c64), rfl⟩
            | exact ⟨congrArg (fun z => some (Value.int z)) (y_tzB c hc c9 c52 c64), rfl⟩
            | exact ⟨congrArg (fun z => some (Value.int z)) (y_tzC c hc c9 c52 c64), rfl⟩
            | exact ⟨congrArg (fun z => some (Value.int z)) (y_tzD c hc c9 c52 c64), rfl⟩
          · refine r_iinc (v := (((1 + 16) + 8) + 4) + 2) (ls2 := [(0, .int (((((((y_t1 (nI c)).toUInt32 >>> ((Int32.toUInt32 16) &&& Int32.toUInt32 31)).toInt32).toUInt32 >>> ((Int32.toUInt32 8) &&& Int32.toUInt32 31)).toInt32).toUInt32 >>> ((Int32.toUInt32 4) &&& Int32.toUInt32 31)).toInt32)), (1, .int ((((1 + 16) + 8) + 4) + 2))]) hE dJ6_numberOfTrailingZeros_0f7a4_67 rfl rfl (by decide) rfl ?_
            refine r_iload_n hE dJ6_numberOfTrailingZeros_0f7a4_70 rfl ?_
            refine r_iconst (v := 2) hE dJ6_numberOfTrailingZeros_0f7a4_71 (by decide) ?_
            refine r_iushr hE dJ6_numberOfTrailingZeros_0f7a4_72 ?_
            refine r_istore_n (ls2 := [(0, .int (((((((((y_t1 (nI c)).toUInt32 >>> ((Int32.toUInt32 16) &&& Int32.toUInt32 31)).toInt32).toUInt32 >>> ((Int32.toUInt32 8) &&& Int32.toUInt32 31)).toInt32).toUInt32 >>> ((Int32.toUInt32 4) &&& Int32.toUInt32 31)).toInt32).toUInt32 >>> ((Int32.toUInt32 2) &&& Int32.toUInt32 31)).toInt32)), (1, .int ((((1 + 16) + 8) + 4) + 2))]) hE dJ6_numberOfTrailingZeros_0f7a4_73 (by decide) rfl ?_
            refine r_iload_n hE dJ6_numberOfTrailingZeros_0f7a4_74 rfl ?_
            refine r_iload_n hE dJ6_numberOfTrailingZeros_0f7a4_75 rfl ?_
            refine r_iconst (v := 1) hE dJ6_numberOfTrailingZeros_0f7a4_76 (by decide) ?_
            refine r_iushr hE dJ6_numberOfTrailingZeros_0f7a4_77 ?_
            refine r_iadd hE dJ6_numberOfTrailingZeros_0f7a4_78 ?_
            refine r_ireturn hE dJ6_numberOfTrailingZeros_0f7a4_79 rfl rfl (Nat.zero_le _) (Nat.zero_le _) ?_
            first
            | exact absurd (y_t_256 c hc).2 c23
            | exact absurd (y_t_256 c hc).1 c38
            | exact ⟨congrArg (fun z => some (Value.int z)) (y_tzA c hc c9 c52 c64), rfl⟩
            | exact ⟨congrArg (fun z => some (Value.int z)) (y_tzB c hc c9 c52 c64), rfl⟩
            | exact ⟨congrArg (fun z => some (Value.int z)) (y_tzC c hc c9 c52 c64), rfl⟩
            | exact ⟨congrArg (fun z => some (Value.int z)) (y_tzD c hc c9 c52 c64), rfl⟩
  · refine r_iload_n hE dJ6_numberOfTrailingZeros_0f7a4_12 rfl ?_
    refine r_bipush (v := 32) hE dJ6_numberOfTrailingZeros_0f7a4_13 (by decide) ?_
    refine r_iand hE dJ6_numberOfTrailingZeros_0f7a4_15 ?_
    refine r_ireturn hE dJ6_numberOfTrailingZeros_0f7a4_16 rfl rfl (Nat.zero_le _) (Nat.zero_le _) ?_
    refine ⟨congrArg (fun z => some (Value.int z)) ?_, rfl⟩
    clear hE
    revert c9
    revert hc
    revert c
    decide +kernel
theorem k_lineCount {V : x_E} {n : Nat} {L : List Nat} {D : y_D} {r s len : Nat} (hm_r : r ∈ L) (hd_r : y_dh r) (hk_r : (D r).2.2.2.1 = 1) (hs_r : (D r).2.2.1 0 = some s) (hm_s : s ∈ L) (hd_s : y_dh s) (hk_s : (D s).2.2.2.1 = 0) (hl_s : (D s).2.2.2.2 = len) (hlen : len < 2 ^ 31) : x_Fn V yX4_lineCount cX4_lineCount 1 (some .int) 0 [.ref r] (y_mk n L D) (some (.int (nI (len / 3)))) (y_mk n L D) := by
  refine x_fn (by decide) (Nat.le_of_ble_eq_true rfl) (fun E hE => ?_)
  change E 0 0 0 [(0, .ref r)] [] (y_mk n L D)
  refine r_aload_n hE dX4_lineCount_0 rfl ?_
  refine r_getf hE f_X4_7 dX4_lineCount_1 hm_r (y_rule_lay hd_r (show ((D) r).2.2.2.1 = _ from hk_r)) (show _ = some (Value.ref s) by show some (va_rf ((D r).2.2.1 0)) = _; rw [hs_r]; rfl) ?_
  refine t_dlen (len := len) hE hd_s (show ((D) s).2.2.2.1 = _ from hk_s) (show ((D) s).2.2.2.2 = _ from hl_s) dX4_lineCount_4 hm_s ?_
  refine r_iconst (v := 3) hE dX4_lineCount_5 (by decide) ?_
  refine r_idivN (a := len) (b := 3) hE dX4_lineCount_6 (by omega) (by omega) (by omega) ?_
  refine r_ireturn hE dX4_lineCount_7 rfl rfl (Nat.zero_le _) (Nat.zero_le _) ?_
  exact ⟨rfl, rfl⟩
def y_sc1 (f : Int32) (i : Nat) (t : Int32) : Int32 := if y_bit f i then t &&& y_swl i else t
def y_sc (f : Int32) : Nat → Int32
  | 0 => 65535
  | i + 1 => y_sc1 f i (y_sc f i)
def y_fr1 (f : Int32) (i : Nat) (t : Int32) : Int32 := if y_bit f i then (t &&& y_swl i) ||| ((t &&& (y_swl i ^^^ (-1))) <<< (nI (2 ^ i) &&& 31)) else t
def y_fr (f s : Int32) : Nat → Int32
  | 0 => s
  | i + 1 => y_fr1 f i (y_fr f s i)
theorem k_setsItChanges {V : x_E} {n : Nat} {L : List Nat} {D : y_D} (hV : y_V V) {w : Nat} (hm_w : w ∈ L) (hd_w : y_dh w) (hk_w : (D w).2.2.2.1 = 2) : x_Fn V yX9_setsItChanges cX9_setsItChanges 3 (some .int) 1 [.ref w] (y_mk n L D) (some (.int (65535 &&& (y_sc ((D w).1 0) 4 ^^^ (-1))))) (y_mk n L D) := by
  refine x_fn (by decide) (Nat.le_of_ble_eq_true rfl) (fun E hE => ?_)
  change E 0 0 0 [(0, .ref w)] [] (y_mk n L D)
  have lp : ∀ (i : Nat), i ≤ 4 → E 0 0 5 [(0, .ref w), (1, .int (y_sc ((D w).1 0) i)), (2, .int (nI i))] [] (y_mk n L D) := by
    intro i
    induction hm9 : (4 - i) using Nat.strongRecOn generalizing i with
    | _ m9 ih =>
      intro hi
      refine r_iload_n hE dX9_setsItChanges_5 rfl ?_
      refine r_iconst (v := 4) hE dX9_setsItChanges_6 (by decide) ?_
      refine r_icmp_geN (a := i) (b := 4) (tgt := 35) hE dX9_setsItChanges_7 (by decide) (by omega) (by decide) (fun c7 => ?_) (fun c7 => ?_)
      · refine r_ldc (v := 65535) hE dX9_setsItChanges_35 (x_gin (List.mem_append_right _ (tb_4 _ (List.mem_of_getElem? (i := 234) rfl))) rfl) ?_
        refine r_iload_n hE dX9_setsItChanges_37 rfl ?_
        refine r_iconst (v := (-1)) hE dX9_setsItChanges_38 (by decide) ?_
        refine r_ixor hE dX9_setsItChanges_39 ?_
        refine r_iand hE dX9_setsItChanges_40 ?_
        refine r_ireturn hE dX9_setsItChanges_41 rfl rfl (Nat.zero_le _) (Nat.zero_le _) ?_
        have hi2 : i = 4 := by omega
        subst hi2
        exact ⟨rfl, rfl⟩
      · refine r_aload_n hE dX9_setsItChanges_10 rfl ?_
        refine r_getf hE f_X9_9 dX9_setsItChanges_11 hm_w (y_way_lay hd_w (show ((D) w).2.2.2.1 = _ from hk_w)) rfl ?_
        refine r_iload_n hE dX9_setsItChanges_14 rfl ?_
        refine t_invsN (r := (some (.int (y_b (y_bit ((D w).1 0) i))))) (S2 := (y_mk n L D)) hE [.int ((D w).1 0), .int (nI i)] (k_hasBit) s_yX10_hasBit (hN_X9_26 hV) dX9_setsItChanges_15 rfl (by decide) ⟨Nat.le_refl _, Nat.le_refl _⟩ (Nat.le_of_ble_eq_true rfl) ?_
        show E 0 0 18 [(0, .ref w), (1, .int (y_sc ((D w).1 0) i)), (2, .int (nI i))] [.int (y_b (y_bit ((D w).1 0) i))] (y_mk n L D)
        refine r_ifb_eq (tgt := 29) hE dX9_setsItChanges_18 (by decide) (fun c18 => ?_) (fun c18 => ?_)
        · refine r_iincN (a := i) (b := 1) (ls2 := [(0, .ref w), (1, .int (y_sc ((D w).1 0) i)), (2, .int (nI (i + 1)))]) hE dX9_setsItChanges_29 rfl rfl (by decide) rfl ?_
          refine r_goto (tgt := 5) hE dX9_setsItChanges_32 (by decide) ?_
          have e9 : y_sc ((D w).1 0) (i + 1) = y_sc ((D w).1 0) i := by
            show y_sc1 ((D w).1 0) i (y_sc ((D w).1 0) i) = _
            unfold y_sc1
            first | exact if_pos c18 | exact if_neg c18
          refine r_locs hE (ls2 := [(0, .ref w), (1, .int (y_sc ((D w).1 0) (i + 1))), (2, .int (nI (i + 1)))]) ?_ (ih (4 - (i + 1)) (by omega) (i + 1) rfl (by omega))
          rw [e9]
          simp [x_lk]
        · refine r_iload_n hE dX9_setsItChanges_21 rfl ?_
          refine r_getsN (v := .ref 61) hE (y_Z61 hV) (hNf_X9_30 hV) dX9_setsItChanges_22 ?_
          refine r_iload_n hE dX9_setsItChanges_25 rfl ?_
          refine t_swl (e := i) hE hV dX9_setsItChanges_26 (by omega) ?_
          refine r_iand hE dX9_setsItChanges_27 ?_
          refine r_istore_n (ls2 := [(0, .ref w), (1, .int ((y_sc ((D w).1 0) i) &&& (y_swl i))), (2, .int (nI i))]) hE dX9_setsItChanges_28 (by decide) rfl ?_
          refine r_iincN (a := i) (b := 1) (ls2 := [(0, .ref w), (1, .int ((y_sc ((D w).1 0) i) &&& (y_swl i))), (2, .int (nI (i + 1)))]) hE dX9_setsItChanges_29 rfl rfl (by decide) rfl ?_
          refine r_goto (tgt := 5) hE dX9_setsItChanges_32 (by decide) ?_
          have e9 : y_sc ((D w).1 0) (i + 1) = (y_sc ((D w).1 0) i) &&& (y_swl i) := by
            show y_sc1 ((D w).1 0) i (y_sc ((D w).1 0) i) = _
            unfold y_sc1
            first | exact if_pos c18 | exact if_neg c18
          refine r_locs hE (ls2 := [(0, .ref w), (1, .int (y_sc ((D w).1 0) (i + 1))), (2, .int (nI (i + 1)))]) ?_ (ih (4 - (i + 1)) (by omega) (i + 1) rfl (by omega))
          rw [e9]
          simp [x_lk]
  refine r_ldc (v := 65535) hE dX9_setsItChanges_0 (x_gin (List.mem_append_right _ (tb_4 _ (List.mem_of_getElem? (i := 234) rfl))) rfl) ?_
  refine r_istore_n (ls2 := [(0, .ref w), (1, .int 65535)]) hE dX9_setsItChanges_2 (by decide) rfl ?_
  refine r_iconst (v := 0) hE dX9_setsItChanges_3 (by decide) ?_
  refine r_istore_n (ls2 := [(0, .ref w), (1, .int 65535), (2, .int 0)]) hE dX9_setsItChanges_4 (by decide) rfl ?_
  exact lp 0 (by omega)
theorem k_freed {V : x_E} {n : Nat} {L : List Nat} {D : y_D} (hV : y_V V) {s : Int32} {w : Nat} (hm_w : w ∈ L) (hd_w : y_dh w) (hk_w : (D w).2.2.2.1 = 2) : x_Fn V yX9_freed cX9_freed 5 (some .int) 1 [.ref w, .int s] (y_mk n L D) (some (.int (y_fr ((D w).1 0) s 4))) (y_mk n L D) := by
  refine x_fn (by decide) (Nat.le_of_ble_eq_true rfl) (fun E hE => ?_)
  change E 0 0 0 [(0, .ref w), (1, .int s)] [] (y_mk n L D)
  have lp : ∀ (i : Nat), i ≤ 4 → E 0 0 4 [(0, .ref w), (1, .int s), (2, .int (y_fr ((D w).1 0) s i)), (3, .int (nI i))] [] (y_mk n L D) := by
    intro i
    induction hm9 : (4 - i) using Nat.strongRecOn generalizing i with
    | _ m9 ih =>
      intro hi
      refine r_iload_n hE dX9_freed_4 rfl ?_
      refine r_iconst (v := 4) hE dX9_freed_5 (by decide) ?_
      refine r_icmp_geN (a := i) (b := 4) (tgt := 52) hE dX9_freed_6 (by decide) (by omega) (by decide) (fun c6 => ?_) (fun c6 => ?_)
      · refine r_iload_n hE dX9_freed_52 rfl ?_
        refine r_ireturn hE dX9_freed_53 rfl rfl (Nat.zero_le _) (Nat.zero_le _) ?_
        have hi2 : i = 4 := by omega
        subst hi2
        exact ⟨rfl, rfl⟩
      · refine r_aload_n hE dX9_freed_9 rfl ?_
        refine r_getf hE f_X9_9 dX9_freed_10 hm_w (y_way_lay hd_w (show ((D) w).2.2.2.1 = _ from hk_w)) rfl ?_
        refine r_iload_n hE dX9_freed_13 rfl ?_
        refine t_invsN (r := (some (.int (y_b (y_bit ((D w).1 0) i))))) (S2 := (y_mk n L D)) hE [.int ((D w).1 0), .int (nI i)] (k_hasBit) s_yX10_hasBit (hN_X9_26 hV) dX9_freed_14 rfl (by decide) ⟨Nat.le_refl _, Nat.le_refl _⟩ (Nat.le_of_ble_eq_true rfl) ?_
        show E 0 0 17 [(0, .ref w), (1, .int s), (2, .int (y_fr ((D w).1 0) s i)), (3, .int (nI i))] [.int (y_b (y_bit ((D w).1 0) i))] (y_mk n L D)
        refine r_ifb_eq (tgt := 46) hE dX9_freed_17 (by decide) (fun c17 => ?_) (fun c17 => ?_)
        · refine r_iincN (a := i) (b := 1) (ls2 := [(0, .ref w), (1, .int s), (2, .int (y_fr ((D w).1 0) s i)), (3, .int (nI (i + 1)))]) hE dX9_freed_46 rfl rfl (by decide) rfl ?_
          refine r_goto (tgt := 4) hE dX9_freed_49 (by decide) ?_
          have e9 : y_fr ((D w).1 0) s (i + 1) = y_fr ((D w).1 0) s i := by
            show y_fr1 ((D w).1 0) i (y_fr ((D w).1 0) s i) = _
            unfold y_fr1
            first | exact if_pos c17 | exact if_neg c17
          refine r_locs hE (ls2 := [(0, .ref w), (1, .int s), (2, .int (y_fr ((D w).1 0) s (i + 1))), (3, .int (nI (i + 1)))]) ?_ (ih (4 - (i + 1)) (by omega) (i + 1) rfl (by omega))
          rw [e9]
          simp [x_lk]
        · refine r_iload_n hE dX9_freed_20 rfl ?_
          refine r_getsN (v := .ref 61) hE (y_Z61 hV) (hNf_X9_30 hV) dX9_freed_21 ?_
          refine r_iload_n hE dX9_freed_24 rfl ?_
          refine t_swl (e := i) hE hV dX9_freed_25 (by omega) ?_
          refine r_iconst (v := (-1)) hE dX9_freed_26 (by decide) ?_
          refine r_ixor hE dX9_freed_27 ?_
          refine r_iand hE dX9_freed_28 ?_
          refine r_istore (ls2 := [(0, .ref w), (1, .int s), (2, .int (y_fr ((D w).1 0) s i)), (3, .int (nI i)), (4, .int ((y_fr ((D w).1 0) s i) &&& ((y_swl i) ^^^ (-1))))]) hE dX9_freed_29 (by decide) rfl ?_
          refine r_iload_n hE dX9_freed_31 rfl ?_
          refine r_getsN (v := .ref 61) hE (y_Z61 hV) (hNf_X9_30 hV) dX9_freed_32 ?_
          refine r_iload_n hE dX9_freed_35 rfl ?_
          refine t_swl (e := i) hE hV dX9_freed_36 (by omega) ?_
          refine r_iand hE dX9_freed_37 ?_
          refine r_iload hE dX9_freed_38 rfl ?_
          refine r_iconst (v := 1) hE dX9_freed_40 (by decide) ?_
          refine r_iload_n hE dX9_freed_41 rfl ?_
          refine r_shl1N (k := i) hE dX9_freed_42 (by omega) ?_
          refine r_ishl hE dX9_freed_43 ?_
          refine r_ior hE dX9_freed_44 ?_
          refine r_istore_n (ls2 := [(0, .ref w), (1, .int s), (2, .int (((y_fr ((D w).1 0) s i) &&& (y_swl i)) ||| (((y_fr ((D w).1 0) s i) &&& ((y_swl i) ^^^ (-1))) <<< ((nI (2 ^ i)) &&& 31)))), (3, .int (nI i)), (4, .int ((y_fr ((D w).1 0) s i) &&& ((y_swl i) ^^^ (-1))))]) hE dX9_freed_45 (by decide) rfl ?_
          refine r_iincN (a := i) (b := 1) (ls2 := [(0, .ref w), (1, .int s), (2, .int (((y_fr ((D w).1 0) s i) &&& (y_swl i)) ||| (((y_fr ((D w).1 0) s i) &&& ((y_swl i) ^^^ (-1))) <<< ((nI (2 ^ i)) &&& 31)))), (3, .int (nI (i + 1))), (4, .int ((y_fr ((D w).1 0) s i) &&& ((y_swl i) ^^^ (-1))))]) hE dX9_freed_46 rfl rfl (by decide) rfl ?_
          refine r_goto (tgt := 4) hE dX9_freed_49 (by decide) ?_
          have e9 : y_fr ((D w).1 0) s (i + 1) = ((y_fr ((D w).1 0) s i) &&& (y_swl i)) ||| (((y_fr ((D w).1 0) s i) &&& ((y_swl i) ^^^ (-1))) <<< ((nI (2 ^ i)) &&& 31)) := by
            show y_fr1 ((D w).1 0) i (y_fr ((D w).1 0) s i) = _
            unfold y_fr1
            first | exact if_pos c17 | exact if_neg c17
          refine r_locs hE (ls2 := [(0, .ref w), (1, .int s), (2, .int (y_fr ((D w).1 0) s (i + 1))), (3, .int (nI (i + 1)))]) ?_ (ih (4 - (i + 1)) (by omega) (i + 1) rfl (by omega))
          rw [e9]
          simp [x_lk]
  refine r_iload_n hE dX9_freed_0 rfl ?_
  refine r_istore_n (ls2 := [(0, .ref w), (1, .int s), (2, .int s)]) hE dX9_freed_1 (by decide) rfl ?_
  refine r_iconst (v := 0) hE dX9_freed_2 (by decide) ?_
  refine r_istore_n (ls2 := [(0, .ref w), (1, .int s), (2, .int s), (3, .int 0)]) hE dX9_freed_3 (by decide) rfl ?_
  exact lp 0 (by omega)

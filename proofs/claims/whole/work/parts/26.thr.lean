def y_nms : List String := ["java/lang/RuntimeException", "java/lang/Exception"]
theorem y_nw_on : ∀ w ∈ y_nw, w.onTables = true := by decide +kernel
theorem y_thr {V : x_E} (hV : y_V V) {cc : ByteArray} {pc ik is ic si : Nat} {cls text : String} (h1 : Bundle.fit cls = true) (h3 : Cond.classLink "DarkSitting" ik cls ∈ gT) (h4 : Cond.initialized cls ∈ gT) (hs : y_str[si]? = some ("DarkSitting", is, text)) (hat : ∀ w ∈ vx_atS "DarkSitting" ic cls y_nms, w ∈ gT ∨ w ∈ y_nw) (hg : ∀ w ∈ Cond.classLink "DarkSitting" ik cls :: Cond.initialized cls :: vx_atS "DarkSitting" ic cls y_nms, vx_ot w = true)
    (d0 : decode cc pc = .ok (.new ik, 3)) (d3 : decode cc (pc + 3) = .ok (.dup, 1)) (d4 : decode cc (pc + 4) = .ok (.ldc_w is, 3)) (d7 : decode cc (pc + 7) = .ok (.invokespecial ic, 3)) (d10 : decode cc (pc + 10) = .ok (.athrow, 1)) : x_Th V "DarkSitting" cc pc cls y_nms := by
  refine ⟨text, ik, is, ic, V.2.2.2.2.1 si, h1, by decide +kernel, h3, h4, fun U H hI => (hV.2 U H hI).2.1 si _ hs, fun U H A hI hts w hw => ?_, hg, fun U H hI => (hV.2 U H hI).2.2.2.2.2.2.2.1, d0, d3, d4, d7, d10⟩
  rcases hat w hw with h | h
  · exact hts w h
  · exact va_Nw.use (y_nw_on w h) ((hV.2 U H hI).2.2.2.2.2.2.1 w h)
abbrev y_IAE : String := "java/lang/IllegalArgumentException"
abbrev y_UOE : String := "java/lang/UnsupportedOperationException"
abbrev y_IOB : String := "java/lang/IndexOutOfBoundsException"
abbrev y_NSE : String := "java/util/NoSuchElementException"
set_option maxRecDepth 100000 in
theorem y_th_demand {V : x_E} (hV : y_V V) : x_Th V "DarkSitting" cX10_demand 4 y_IAE y_nms := y_thr hV (si := 0) (by decide +kernel) (x_gin (List.mem_append_right _ (tb_2 _ (List.mem_of_getElem? (i := 228) rfl))) rfl) (x_gin (List.mem_append_right _ (tb_1 _ (List.mem_of_getElem? (i := 15) rfl))) rfl) rfl (by decide +kernel) (by decide +kernel) dX10_demand_4 dX10_demand_7 dX10_demand_8 dX10_demand_11 dX10_demand_14
set_option maxRecDepth 100000 in
theorem y_th_demandRow {V : x_E} (hV : y_V V) : x_Th V "DarkSitting" cX10_demandRow 9 y_IOB y_nms := y_thr hV (si := 4) (by decide +kernel) (x_gin (List.mem_append_right _ (tb_4 _ (List.mem_of_getElem? (i := 109) rfl))) rfl) (x_gin (List.mem_append_right _ (tb_1 _ (List.mem_of_getElem? (i := 26) rfl))) rfl) rfl (by decide +kernel) (by decide +kernel) dX10_demandRow_9 dX10_demandRow_12 dX10_demandRow_13 dX10_demandRow_16 dX10_demandRow_19
set_option maxRecDepth 100000 in
theorem y_th_demandRoom {V : x_E} (hV : y_V V) : x_Th V "DarkSitting" cX10_demandRoom 4 y_UOE y_nms := y_thr hV (si := 1) (by decide +kernel) (x_gin (List.mem_append_right _ (tb_3 _ (List.mem_of_getElem? (i := 63) rfl))) rfl) (x_gin (List.mem_append_right _ (tb_1 _ (List.mem_of_getElem? (i := 16) rfl))) rfl) rfl (by decide +kernel) (by decide +kernel) dX10_demandRoom_4 dX10_demandRoom_7 dX10_demandRoom_8 dX10_demandRoom_11 dX10_demandRoom_14
theorem k_demand {V : x_E} (hV : y_V V) {n : Nat} {L : List Nat} {D : y_D} {p : Prop} [Decidable p] : x_Cx V yX10_demand cX10_demand 1 none 6 1 6 (fun a0 S0 => a0 = [.int (y_b p)] ∧ S0 = y_mk n L D) (fun _ _ r9 S' => r9 = none ∧ p ∧ S' = y_mk n L D) (fun _ _ E9 S' => E9 = y_IAE ∧ ¬ p ∧ ∃ n2, n ≤ n2 ∧ S' = y_mk n2 L D) := by
  refine x_cx (by decide) hV.1 (fun a0 S0 h => by rw [h.1]; exact Nat.le_of_ble_eq_true rfl) (fun a0 S0 h E EX hX => ?_)
  obtain ⟨rfl, rfl⟩ := h
  have hE := hX.x
  change E 0 0 0 [(0, .int (y_b p))] [] (y_mk n L D)
  refine r_iload_n hE dX10_demand_0 rfl ?_
  refine r_ifb_ne (tgt := 15) hE dX10_demand_1 (by decide) (fun c1 => ?_) (fun c1 => ?_)
  · refine r_return hE dX10_demand_15 rfl (Nat.zero_le _) (Nat.zero_le _) ?_
    exact ⟨rfl, c1, rfl⟩
  · exact r_throw hX (y_th_demand hV) (fun z hz => by cases hz) (by decide) (fun k9 hk9 => ⟨rfl, c1, k9, hk9, rfl⟩) (by decide) (by decide)
theorem k_demandRoom {V : x_E} (hV : y_V V) {n : Nat} {L : List Nat} {D : y_D} {p : Prop} [Decidable p] : x_Cx V yX10_demandRoom cX10_demandRoom 1 none 6 1 6 (fun a0 S0 => a0 = [.int (y_b p)] ∧ S0 = y_mk n L D) (fun _ _ r9 S' => r9 = none ∧ p ∧ S' = y_mk n L D) (fun _ _ E9 S' => E9 = y_UOE ∧ ¬ p ∧ ∃ n2, n ≤ n2 ∧ S' = y_mk n2 L D) := by
  refine x_cx (by decide) hV.1 (fun a0 S0 h => by rw [h.1]; exact Nat.le_of_ble_eq_true rfl) (fun a0 S0 h E EX hX => ?_)
  obtain ⟨rfl, rfl⟩ := h
  have hE := hX.x
  change E 0 0 0 [(0, .int (y_b p))] [] (y_mk n L D)
  refine r_iload_n hE dX10_demandRoom_0 rfl ?_
  refine r_ifb_ne (tgt := 15) hE dX10_demandRoom_1 (by decide) (fun c1 => ?_) (fun c1 => ?_)
  · refine r_return hE dX10_demandRoom_15 rfl (Nat.zero_le _) (Nat.zero_le _) ?_
    exact ⟨rfl, c1, rfl⟩
  · exact r_throw hX (y_th_demandRoom hV) (fun z hz => by cases hz) (by decide) (fun k9 hk9 => ⟨rfl, c1, k9, hk9, rfl⟩) (by decide) (by decide)
theorem k_demandRow {V : x_E} (hV : y_V V) {n : Nat} {L : List Nat} {D : y_D} {r k : Int32} : x_Cx V yX10_demandRow cX10_demandRow 2 none 6 1 6 (fun a0 S0 => a0 = [.int r, .int k] ∧ S0 = y_mk n L D) (fun _ _ r9 S' => r9 = none ∧ (0 ≤ r ∧ r < k) ∧ S' = y_mk n L D) (fun _ _ E9 S' => E9 = y_IOB ∧ ¬ (0 ≤ r ∧ r < k) ∧ ∃ n2, n ≤ n2 ∧ S' = y_mk n2 L D) := by
  refine x_cx (by decide) hV.1 (fun a0 S0 h => by rw [h.1]; exact Nat.le_of_ble_eq_true rfl) (fun a0 S0 h E EX hX => ?_)
  obtain ⟨rfl, rfl⟩ := h
  have hE := hX.x
  change E 0 0 0 [(0, .int r), (1, .int k)] [] (y_mk n L D)
  refine r_iload_n hE dX10_demandRow_0 rfl ?_
  refine r_if_lt (tgt := 9) hE dX10_demandRow_1 (by decide) (fun c1 => ?_) (fun c1 => ?_)
  · exact r_throw hX (y_th_demandRow hV) (fun z hz => by cases hz) (by decide) (fun k9 hk9 => ⟨rfl, by grind, k9, hk9, rfl⟩) (by decide) (by decide)
  · refine r_iload_n hE dX10_demandRow_4 rfl ?_
    refine r_iload_n hE dX10_demandRow_5 rfl ?_
    refine r_icmp_lt (tgt := 20) hE dX10_demandRow_6 (by decide) (fun c6 => ?_) (fun c6 => ?_)
    · refine r_return hE dX10_demandRow_20 rfl (Nat.zero_le _) (Nat.zero_le _) ?_
      exact ⟨rfl, by grind, rfl⟩
    · exact r_throw hX (y_th_demandRow hV) (fun z hz => by cases hz) (by decide) (fun k9 hk9 => ⟨rfl, by grind, k9, hk9, rfl⟩) (by decide) (by decide)
section R26
variable {V : x_E} {own nm : String} {cc : ByteArray} {nL d MC MS pc ce sl : Nat} {ret : Option FieldType} {hh : List (Nat × Nat × Nat × Nat)} {Q : Option Value → x_S → Prop} {QX : String → x_S → Prop} {E : x_P} {EX : x_PX} {ls : List (Nat × Value)} {st st0 : List Value} {n i : Nat} {L : List Nat} {D : y_D}
theorem t_demand (hX : x_XX V own cc nL ret d MC MS nm hh Q QX E EX) (hV : y_V V) {p : Prop} [Decidable p] (a : List Value) (hd : decode cc pc = .ok (.invokestatic i, 3)) (hl : Cond.methodLink own i yX10_demand ∈ gT) (ha : a = [.int (y_b p)]) (hdd : 7 ≤ d) (hcap : ce + 1 ≤ MC ∧ sl + 6 ≤ MS) (hW : (st.map fun v => v.category).sum ≤ 8) (kk : p → E (ce + 1) (sl + 6) (pc + 3) ls st (y_mk n L D)) (kx : ¬ p → ∀ n2, n ≤ n2 → EX (ce + 1) (sl + 6) pc ls st (y_mk n2 L D) y_IAE) : E ce sl pc ls (a.reverse ++ st) (y_mk n L D) := by
  subst ha
  exact r_invsX hX [.int (y_b p)] (k_demand hV) s_yX10_demand hl hd rfl hdd hcap hW ⟨rfl, rfl⟩ (fun r S2 h => by obtain ⟨rfl, hp, rfl⟩ := h; exact kk hp) (fun E9 S2 h => by obtain ⟨rfl, hp, n2, hn2, rfl⟩ := h; exact kx hp n2 hn2)
theorem t_demandRoom (hX : x_XX V own cc nL ret d MC MS nm hh Q QX E EX) (hV : y_V V) {p : Prop} [Decidable p] (a : List Value) (hd : decode cc pc = .ok (.invokestatic i, 3)) (hl : Cond.methodLink own i yX10_demandRoom ∈ gT) (ha : a = [.int (y_b p)]) (hdd : 7 ≤ d) (hcap : ce + 1 ≤ MC ∧ sl + 6 ≤ MS) (hW : (st.map fun v => v.category).sum ≤ 8) (kk : p → E (ce + 1) (sl + 6) (pc + 3) ls st (y_mk n L D)) (kx : ¬ p → ∀ n2, n ≤ n2 → EX (ce + 1) (sl + 6) pc ls st (y_mk n2 L D) y_UOE) : E ce sl pc ls (a.reverse ++ st) (y_mk n L D) := by
  subst ha
  exact r_invsX hX [.int (y_b p)] (k_demandRoom hV) s_yX10_demandRoom hl hd rfl hdd hcap hW ⟨rfl, rfl⟩ (fun r S2 h => by obtain ⟨rfl, hp, rfl⟩ := h; exact kk hp) (fun E9 S2 h => by obtain ⟨rfl, hp, n2, hn2, rfl⟩ := h; exact kx hp n2 hn2)
theorem t_demandRow (hX : x_XX V own cc nL ret d MC MS nm hh Q QX E EX) (hV : y_V V) {r k : Int32} (a : List Value) (hd : decode cc pc = .ok (.invokestatic i, 3)) (hl : Cond.methodLink own i yX10_demandRow ∈ gT) (ha : a = [.int r, .int k]) (hdd : 7 ≤ d) (hcap : ce + 1 ≤ MC ∧ sl + 6 ≤ MS) (hW : (st.map fun v => v.category).sum ≤ 8) (kk : (0 ≤ r ∧ r < k) → E (ce + 1) (sl + 6) (pc + 3) ls st (y_mk n L D)) (kx : ¬ (0 ≤ r ∧ r < k) → ∀ n2, n ≤ n2 → EX (ce + 1) (sl + 6) pc ls st (y_mk n2 L D) y_IOB) : E ce sl pc ls (a.reverse ++ st) (y_mk n L D) := by
  subst ha
  exact r_invsX hX [.int r, .int k] (k_demandRow hV) s_yX10_demandRow hl hd rfl hdd hcap hW ⟨rfl, rfl⟩ (fun r S2 h => by obtain ⟨rfl, hp, rfl⟩ := h; exact kk hp) (fun E9 S2 h => by obtain ⟨rfl, hp, n2, hn2, rfl⟩ := h; exact kx hp n2 hn2)
end R26
/-- a call of the face: it answers v and the state is D2, or it throws and the state is as it was -/
def y_Fi (V : x_E) (y : MethodName) (cc : ByteArray) (nL : Nat) (ret : Option FieldType) (d mc ms : Nat) (a : List Value) (n : Nat) (L : List Nat) (D : y_D) (P : Int32 → y_D → Prop) (X : String → Prop) : Prop := x_Cx V y cc nL ret d mc ms (fun a0 S0 => a0 = a ∧ S0 = y_mk n L D) (fun _ _ r S' => ∃ (v : Int32) (D2 : y_D), r = some (.int v) ∧ S' = y_mk n L D2 ∧ P v D2) (fun _ _ E9 S' => X E9 ∧ ∃ n2, n ≤ n2 ∧ S' = y_mk n2 L D)
def y_Fj (V : x_E) (y : MethodName) (cc : ByteArray) (nL : Nat) (ret : Option FieldType) (d mc ms : Nat) (a : List Value) (n : Nat) (L : List Nat) (D : y_D) (P : Int64 → y_D → Prop) (X : String → Prop) : Prop := x_Cx V y cc nL ret d mc ms (fun a0 S0 => a0 = a ∧ S0 = y_mk n L D) (fun _ _ r S' => ∃ (v : Int64) (D2 : y_D), r = some (.long v) ∧ S' = y_mk n L D2 ∧ P v D2) (fun _ _ E9 S' => X E9 ∧ ∃ n2, n ≤ n2 ∧ S' = y_mk n2 L D)
def y_Fv (V : x_E) (y : MethodName) (cc : ByteArray) (nL : Nat) (ret : Option FieldType) (d mc ms : Nat) (a : List Value) (n : Nat) (L : List Nat) (D : y_D) (P : y_D → Prop) (X : String → Prop) : Prop := x_Cx V y cc nL ret d mc ms (fun a0 S0 => a0 = a ∧ S0 = y_mk n L D) (fun _ _ r S' => ∃ (D2 : y_D), r = none ∧ S' = y_mk n L D2 ∧ P D2) (fun _ _ E9 S' => X E9 ∧ ∃ n2, n ≤ n2 ∧ S' = y_mk n2 L D)

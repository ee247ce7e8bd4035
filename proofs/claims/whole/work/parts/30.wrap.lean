/-! the law: its wrappers, which catch -/
/-- what a wrapper answers: 0 and the answer in out[0], or the exception's number -/
def y_WQ {α : Type} (g : α → Int64) (n : Nat) (L : List Nat) (D : y_D) (P : α → y_D → Prop) (X : String → Prop) (es : List String) (r : Option Value) (S' : x_S) : Prop := (∃ (v : α) (D2 : y_D), P v D2 ∧ r = some (.int 0) ∧ S' = y_mk n L (y_sl D2 189 0 (g v))) ∨ (∃ (k : Nat) (E9 : String) (n2 : Nat), es[k]? = some E9 ∧ X E9 ∧ r = some (.int (nI (k + 1))) ∧ n ≤ n2 ∧ S' = y_mk n2 L D)
def y_WV (n : Nat) (L : List Nat) (D : y_D) (P : y_D → Prop) (X : String → Prop) (es : List String) (r : Option Value) (S' : x_S) : Prop := (∃ (D2 : y_D), P D2 ∧ r = some (.int 0) ∧ S' = y_mk n L D2) ∨ (∃ (k : Nat) (E9 : String) (n2 : Nat), es[k]? = some E9 ∧ X E9 ∧ r = some (.int (nI (k + 1))) ∧ n ≤ n2 ∧ S' = y_mk n2 L D)
def y_gi (v : Int32) : Int64 := v.toInt64
def y_gb (v : Int32) : Int64 := if v = 0 then 0 else 1
def y_gl (v : Int64) : Int64 := v
set_option maxRecDepth 100000 in
theorem cl_L_13 : Cond.classLink RL 13 y_IAE ∈ gT := (x_gin (List.mem_append_right _ (tb_2 _ (List.mem_of_getElem? (i := 216) rfl))) rfl)
set_option maxRecDepth 100000 in
theorem cl_L_15 : Cond.classLink RL 15 y_UOE ∈ gT := (x_gin (List.mem_append_right _ (tb_2 _ (List.mem_of_getElem? (i := 217) rfl))) rfl)
set_option maxRecDepth 100000 in
theorem cl_L_31 : Cond.classLink RL 31 y_IOB ∈ gT := (x_gin (List.mem_append_right _ (tb_4 _ (List.mem_of_getElem? (i := 100) rfl))) rfl)
set_option maxRecDepth 100000 in
theorem cl_L_33 : Cond.classLink RL 33 y_NSE ∈ gT := (x_gin (List.mem_append_right _ (tb_4 _ (List.mem_of_getElem? (i := 101) rfl))) rfl)
set_option maxRecDepth 100000 in
theorem ct_IAE {V : x_E} (hV : y_V V) : ∀ (U : State) (H : Heap), V.2.2.2.2.2.2 U H → va_Nw (.castable y_IAE y_IAE) U := fun U H hI => (hV.2 U H hI).2.2.2.2.2.2.1 _ (List.mem_of_getElem? (i := 5) rfl)
theorem nc_IAE_UOE {V : x_E} (hV : y_V V) : ∀ (U : State) (H : Heap), V.2.2.2.2.2.2 U H → va_Nc y_IAE y_UOE U := fun U H hI => (hV.2 U H hI).2.2.2.2.2.2.2.2.2.2 (y_IAE, y_UOE) (List.mem_of_getElem? (i := 0) rfl)
theorem nc_IAE_IOB {V : x_E} (hV : y_V V) : ∀ (U : State) (H : Heap), V.2.2.2.2.2.2 U H → va_Nc y_IAE y_IOB U := fun U H hI => (hV.2 U H hI).2.2.2.2.2.2.2.2.2.2 (y_IAE, y_IOB) (List.mem_of_getElem? (i := 1) rfl)
theorem nc_IAE_NSE {V : x_E} (hV : y_V V) : ∀ (U : State) (H : Heap), V.2.2.2.2.2.2 U H → va_Nc y_IAE y_NSE U := fun U H hI => (hV.2 U H hI).2.2.2.2.2.2.2.2.2.2 (y_IAE, y_NSE) (List.mem_of_getElem? (i := 2) rfl)
set_option maxRecDepth 100000 in
theorem ct_UOE {V : x_E} (hV : y_V V) : ∀ (U : State) (H : Heap), V.2.2.2.2.2.2 U H → va_Nw (.castable y_UOE y_UOE) U := fun U H hI => (hV.2 U H hI).2.2.2.2.2.2.1 _ (List.mem_of_getElem? (i := 12) rfl)
theorem nc_UOE_IAE {V : x_E} (hV : y_V V) : ∀ (U : State) (H : Heap), V.2.2.2.2.2.2 U H → va_Nc y_UOE y_IAE U := fun U H hI => (hV.2 U H hI).2.2.2.2.2.2.2.2.2.2 (y_UOE, y_IAE) (List.mem_of_getElem? (i := 3) rfl)
theorem nc_UOE_IOB {V : x_E} (hV : y_V V) : ∀ (U : State) (H : Heap), V.2.2.2.2.2.2 U H → va_Nc y_UOE y_IOB U := fun U H hI => (hV.2 U H hI).2.2.2.2.2.2.2.2.2.2 (y_UOE, y_IOB) (List.mem_of_getElem? (i := 4) rfl)
theorem nc_UOE_NSE {V : x_E} (hV : y_V V) : ∀ (U : State) (H : Heap), V.2.2.2.2.2.2 U H → va_Nc y_UOE y_NSE U := fun U H hI => (hV.2 U H hI).2.2.2.2.2.2.2.2.2.2 (y_UOE, y_NSE) (List.mem_of_getElem? (i := 5) rfl)
set_option maxRecDepth 100000 in
theorem ct_IOB {V : x_E} (hV : y_V V) : ∀ (U : State) (H : Heap), V.2.2.2.2.2.2 U H → va_Nw (.castable y_IOB y_IOB) U := fun U H hI => (hV.2 U H hI).2.2.2.2.2.2.1 _ (List.mem_of_getElem? (i := 14) rfl)
theorem nc_IOB_IAE {V : x_E} (hV : y_V V) : ∀ (U : State) (H : Heap), V.2.2.2.2.2.2 U H → va_Nc y_IOB y_IAE U := fun U H hI => (hV.2 U H hI).2.2.2.2.2.2.2.2.2.2 (y_IOB, y_IAE) (List.mem_of_getElem? (i := 6) rfl)
theorem nc_IOB_UOE {V : x_E} (hV : y_V V) : ∀ (U : State) (H : Heap), V.2.2.2.2.2.2 U H → va_Nc y_IOB y_UOE U := fun U H hI => (hV.2 U H hI).2.2.2.2.2.2.2.2.2.2 (y_IOB, y_UOE) (List.mem_of_getElem? (i := 7) rfl)
theorem nc_IOB_NSE {V : x_E} (hV : y_V V) : ∀ (U : State) (H : Heap), V.2.2.2.2.2.2 U H → va_Nc y_IOB y_NSE U := fun U H hI => (hV.2 U H hI).2.2.2.2.2.2.2.2.2.2 (y_IOB, y_NSE) (List.mem_of_getElem? (i := 8) rfl)
set_option maxRecDepth 100000 in
theorem ct_NSE {V : x_E} (hV : y_V V) : ∀ (U : State) (H : Heap), V.2.2.2.2.2.2 U H → va_Nw (.castable y_NSE y_NSE) U := fun U H hI => (hV.2 U H hI).2.2.2.2.2.2.1 _ (List.mem_of_getElem? (i := 15) rfl)
theorem nc_NSE_IAE {V : x_E} (hV : y_V V) : ∀ (U : State) (H : Heap), V.2.2.2.2.2.2 U H → va_Nc y_NSE y_IAE U := fun U H hI => (hV.2 U H hI).2.2.2.2.2.2.2.2.2.2 (y_NSE, y_IAE) (List.mem_of_getElem? (i := 9) rfl)
theorem nc_NSE_UOE {V : x_E} (hV : y_V V) : ∀ (U : State) (H : Heap), V.2.2.2.2.2.2 U H → va_Nc y_NSE y_UOE U := fun U H hI => (hV.2 U H hI).2.2.2.2.2.2.2.2.2.2 (y_NSE, y_UOE) (List.mem_of_getElem? (i := 10) rfl)
theorem nc_NSE_IOB {V : x_E} (hV : y_V V) : ∀ (U : State) (H : Heap), V.2.2.2.2.2.2 U H → va_Nc y_NSE y_IOB U := fun U H hI => (hV.2 U H hI).2.2.2.2.2.2.2.2.2.2 (y_NSE, y_IOB) (List.mem_of_getElem? (i := 11) rfl)
set_option maxRecDepth 100000 in
theorem w_YW_person : x_YW yL_person cL_person 5 (some .int) [(0, 10, 13, 13), (0, 10, 17, 15)] 4 := ⟨(x_gin (List.mem_append_right _ (tb_2 _ (List.mem_of_getElem? (i := 215) rfl))) rfl), (x_gin (List.mem_append_right _ (tb_1 _ (List.mem_of_getElem? (i := 0) rfl))) rfl), by decide +kernel, by decide, (x_gin (List.mem_append_right _ (tb_2 _ (List.mem_of_getElem? (i := 214) rfl))) rfl)⟩
theorem w_person {V : x_E} (hV : y_V V) {n : Nat} {L : List Nat} {D : y_D} (hL : y_ok L) {p0 p1 : Int32} {d mc ms : Nat} {P : Int32 → y_D → Prop} {X : String → Prop} (hF : y_Fi V yX10_person cX10_person 3 (some .int) d mc ms [.ref 64, .int p0, .int p1] n L D P X) (hX9 : ∀ E9, X E9 → E9 = y_IAE ∨ E9 = y_UOE) : x_Ch V yL_person cL_person 5 (some .int) [(0, 10, 13, 13), (0, 10, 17, 15)] (d + 1) mc ms (fun a0 S0 => a0 = [.ref 64, .int p0, .int p1, .ref 189] ∧ S0 = y_mk n L D) (fun _ _ r S1 => y_WQ y_gi n L D P X [y_IAE, y_UOE] r S1) := by
  refine x_ch (by decide) (fun a0 S0 h => by rw [h.1]; exact Nat.le_of_ble_eq_true rfl) (fun a0 S0 h E EX hX => ?_)
  obtain ⟨rfl, rfl⟩ := h
  have hE := hX.x
  change E 0 0 0 [(0, .ref 64), (1, .int p0), (2, .int p1), (3, .ref 189)] [] (y_mk n L D)
  refine r_aload_n hE dL_person_0 rfl ?_
  refine r_iconst (v := nI 0) hE dL_person_1 (by decide) ?_
  refine r_aload_n hE dL_person_2 rfl ?_
  refine r_iload_n hE dL_person_3 rfl ?_
  refine r_iload_n hE dL_person_4 rfl ?_
  refine r_invvX hX (h := 64) (st := [.int (nI 0), .ref 189]) [.int p0, .int p1] hF v_yX10_person m_L_7 dL_person_5 rfl (hL 64 (by decide)) rfl rfl (Nat.le_refl _) ⟨by omega, by omega⟩ (Nat.le_of_ble_eq_true rfl) ⟨rfl, rfl⟩ (fun r0 S0 h => ?_) (fun E9 S0 h => ?_)
  · obtain ⟨v, D2, rfl, rfl, hp⟩ := h
    change E _ _ 8 [(0, .ref 64), (1, .int p0), (2, .int p1), (3, .ref 189)] [.int v, .int (nI 0), .ref 189] (y_mk n L D2)
    refine r_i2l hE dL_person_8 ?_
    refine t_lastN (e := 0) hE y_J_189 dL_person_9 (hL 189 (by decide)) (by decide) (by decide) ?_
    refine r_goto (tgt := 21) hE dL_person_10 (by decide) ?_
    refine r_iconst (v := 0) hE dL_person_21 (by decide) ?_
    refine r_ireturn hE dL_person_22 rfl rfl (by omega) (by omega) ?_
    exact Or.inl ⟨v, D2, hp, rfl, rfl⟩
  · obtain ⟨hx, n2, hn, rfl⟩ := h
    rcases hX9 E9 hx with rfl | rfl
    · refine r_catch hX (E9 := y_IAE) (name := y_IAE) (k := 4) (pcH := 15) (ls2 := [(0, .ref 64), (1, .int p0), (2, .int p1), (3, .ref 189)]) [] ⟨0, 10, 13, 13⟩ [⟨0, 10, 17, 15⟩] rfl (fun z hz => by cases hz) rfl (by decide) cl_L_13 (ct_IAE hV) (Or.inl ⟨dL_person_13, rfl⟩) (by decide) rfl ?_
      refine r_iconst (v := nI 1) hE dL_person_15 (by decide) ?_
      refine r_ireturn hE dL_person_16 rfl rfl (by omega) (by omega) ?_
      exact Or.inr ⟨0, _, n2, rfl, hx, rfl, hn, rfl⟩
    · refine r_catch hX (E9 := y_UOE) (name := y_UOE) (k := 4) (pcH := 19) (ls2 := [(0, .ref 64), (1, .int p0), (2, .int p1), (3, .ref 189)]) [⟨0, 10, 13, 13⟩] ⟨0, 10, 17, 15⟩ [] rfl (fun z hz => by obtain rfl := List.mem_singleton.mp hz; exact Or.inr ⟨by decide, y_IAE, cl_L_13, nc_UOE_IAE hV⟩) rfl (by decide) cl_L_15 (ct_UOE hV) (Or.inl ⟨dL_person_17, rfl⟩) (by decide) rfl ?_
      refine r_iconst (v := nI 2) hE dL_person_19 (by decide) ?_
      refine r_ireturn hE dL_person_20 rfl rfl (by omega) (by omega) ?_
      exact Or.inr ⟨1, _, n2, rfl, hx, rfl, hn, rfl⟩
set_option maxRecDepth 100000 in
theorem w_YW_rule : x_YW yL_rule cL_rule 3 (some .int) [(0, 8, 11, 13), (0, 8, 14, 15)] 2 := ⟨(x_gin (List.mem_append_right _ (tb_3 _ (List.mem_of_getElem? (i := 89) rfl))) rfl), (x_gin (List.mem_append_right _ (tb_1 _ (List.mem_of_getElem? (i := 0) rfl))) rfl), by decide +kernel, by decide, (x_gin (List.mem_append_right _ (tb_3 _ (List.mem_of_getElem? (i := 88) rfl))) rfl)⟩
set_option maxRecDepth 100000 in
theorem w_YW_way : x_YW yL_way cL_way 3 (some .int) [(0, 8, 11, 13), (0, 8, 14, 15)] 2 := ⟨(x_gin (List.mem_append_right _ (tb_4 _ (List.mem_of_getElem? (i := 75) rfl))) rfl), (x_gin (List.mem_append_right _ (tb_1 _ (List.mem_of_getElem? (i := 0) rfl))) rfl), by decide +kernel, by decide, (x_gin (List.mem_append_right _ (tb_4 _ (List.mem_of_getElem? (i := 74) rfl))) rfl)⟩
set_option maxRecDepth 100000 in
theorem w_YW_thing : x_YW yL_thing cL_thing 6 (some .int) [(0, 12, 15, 13), (0, 12, 19, 15)] 5 := ⟨(x_gin (List.mem_append_right _ (tb_4 _ (List.mem_of_getElem? (i := 92) rfl))) rfl), (x_gin (List.mem_append_right _ (tb_1 _ (List.mem_of_getElem? (i := 0) rfl))) rfl), by decide +kernel, by decide, (x_gin (List.mem_append_right _ (tb_4 _ (List.mem_of_getElem? (i := 91) rfl))) rfl)⟩
theorem w_thing {V : x_E} (hV : y_V V) {n : Nat} {L : List Nat} {D : y_D} (hL : y_ok L) {p0 p1 p2 : Int32} {d mc ms : Nat} {P : Int32 → y_D → Prop} {X : String → Prop} (hF : y_Fi V yX10_thing cX10_thing 4 (some .int) d mc ms [.ref 64, .int p0, .int p1, .int p2] n L D P X) (hX9 : ∀ E9, X E9 → E9 = y_IAE ∨ E9 = y_UOE) : x_Ch V yL_thing cL_thing 6 (some .int) [(0, 12, 15, 13), (0, 12, 19, 15)] (d + 1) mc ms (fun a0 S0 => a0 = [.ref 64, .int p0, .int p1, .int p2, .ref 189] ∧ S0 = y_mk n L D) (fun _ _ r S1 => y_WQ y_gi n L D P X [y_IAE, y_UOE] r S1) := by
  refine x_ch (by decide) (fun a0 S0 h => by rw [h.1]; exact Nat.le_of_ble_eq_true rfl) (fun a0 S0 h E EX hX => ?_)
  obtain ⟨rfl, rfl⟩ := h
  have hE := hX.x
  change E 0 0 0 [(0, .ref 64), (1, .int p0), (2, .int p1), (3, .int p2), (4, .ref 189)] [] (y_mk n L D)
  refine r_aload hE dL_thing_0 rfl ?_
  refine r_iconst (v := nI 0) hE dL_thing_2 (by decide) ?_
  refine r_aload_n hE dL_thing_3 rfl ?_
  refine r_iload_n hE dL_thing_4 rfl ?_
  refine r_iload_n hE dL_thing_5 rfl ?_
  refine r_iload_n hE dL_thing_6 rfl ?_
  refine r_invvX hX (h := 64) (st := [.int (nI 0), .ref 189]) [.int p0, .int p1, .int p2] hF v_yX10_thing m_L_24 dL_thing_7 rfl (hL 64 (by decide)) rfl rfl (Nat.le_refl _) ⟨by omega, by omega⟩ (Nat.le_of_ble_eq_true rfl) ⟨rfl, rfl⟩ (fun r0 S0 h => ?_) (fun E9 S0 h => ?_)
  · obtain ⟨v, D2, rfl, rfl, hp⟩ := h
    change E _ _ 10 [(0, .ref 64), (1, .int p0), (2, .int p1), (3, .int p2), (4, .ref 189)] [.int v, .int (nI 0), .ref 189] (y_mk n L D2)
    refine r_i2l hE dL_thing_10 ?_
    refine t_lastN (e := 0) hE y_J_189 dL_thing_11 (hL 189 (by decide)) (by decide) (by decide) ?_
    refine r_goto (tgt := 23) hE dL_thing_12 (by decide) ?_
    refine r_iconst (v := 0) hE dL_thing_23 (by decide) ?_
    refine r_ireturn hE dL_thing_24 rfl rfl (by omega) (by omega) ?_
    exact Or.inl ⟨v, D2, hp, rfl, rfl⟩
  · obtain ⟨hx, n2, hn, rfl⟩ := h
    rcases hX9 E9 hx with rfl | rfl
    · refine r_catch hX (E9 := y_IAE) (name := y_IAE) (k := 5) (pcH := 17) (ls2 := [(0, .ref 64), (1, .int p0), (2, .int p1), (3, .int p2), (4, .ref 189)]) [] ⟨0, 12, 15, 13⟩ [⟨0, 12, 19, 15⟩] rfl (fun z hz => by cases hz) rfl (by decide) cl_L_13 (ct_IAE hV) (Or.inl ⟨dL_thing_15, rfl⟩) (by decide) rfl ?_
      refine r_iconst (v := nI 1) hE dL_thing_17 (by decide) ?_
      refine r_ireturn hE dL_thing_18 rfl rfl (by omega) (by omega) ?_
      exact Or.inr ⟨0, _, n2, rfl, hx, rfl, hn, rfl⟩
    · refine r_catch hX (E9 := y_UOE) (name := y_UOE) (k := 5) (pcH := 21) (ls2 := [(0, .ref 64), (1, .int p0), (2, .int p1), (3, .int p2), (4, .ref 189)]) [⟨0, 12, 15, 13⟩] ⟨0, 12, 19, 15⟩ [] rfl (fun z hz => by obtain rfl := List.mem_singleton.mp hz; exact Or.inr ⟨by decide, y_IAE, cl_L_13, nc_UOE_IAE hV⟩) rfl (by decide) cl_L_15 (ct_UOE hV) (Or.inl ⟨dL_thing_19, rfl⟩) (by decide) rfl ?_
      refine r_iconst (v := nI 2) hE dL_thing_21 (by decide) ?_
      refine r_ireturn hE dL_thing_22 rfl rfl (by omega) (by omega) ?_
      exact Or.inr ⟨1, _, n2, rfl, hx, rfl, hn, rfl⟩
set_option maxRecDepth 100000 in
theorem w_YW_look : x_YW yL_look cL_look 5 (some .int) [(0, 10, 13, 31), (0, 10, 17, 33)] 4 := ⟨(x_gin (List.mem_append_right _ (tb_4 _ (List.mem_of_getElem? (i := 99) rfl))) rfl), (x_gin (List.mem_append_right _ (tb_1 _ (List.mem_of_getElem? (i := 0) rfl))) rfl), by decide +kernel, by decide, (x_gin (List.mem_append_right _ (tb_4 _ (List.mem_of_getElem? (i := 98) rfl))) rfl)⟩
theorem w_look {V : x_E} (hV : y_V V) {n : Nat} {L : List Nat} {D : y_D} (hL : y_ok L) {p0 p1 : Int32} {d mc ms : Nat} {P : Int32 → y_D → Prop} {X : String → Prop} (hF : y_Fi V yX10_look cX10_look 4 (some .int) d mc ms [.ref 64, .int p0, .int p1] n L D P X) (hX9 : ∀ E9, X E9 → E9 = y_IOB ∨ E9 = y_NSE) : x_Ch V yL_look cL_look 5 (some .int) [(0, 10, 13, 31), (0, 10, 17, 33)] (d + 1) mc ms (fun a0 S0 => a0 = [.ref 64, .int p0, .int p1, .ref 189] ∧ S0 = y_mk n L D) (fun _ _ r S1 => y_WQ y_gi n L D P X [y_IOB, y_NSE] r S1) := by
  refine x_ch (by decide) (fun a0 S0 h => by rw [h.1]; exact Nat.le_of_ble_eq_true rfl) (fun a0 S0 h E EX hX => ?_)
  obtain ⟨rfl, rfl⟩ := h
  have hE := hX.x
  change E 0 0 0 [(0, .ref 64), (1, .int p0), (2, .int p1), (3, .ref 189)] [] (y_mk n L D)
  refine r_aload_n hE dL_look_0 rfl ?_
  refine r_iconst (v := nI 0) hE dL_look_1 (by decide) ?_
  refine r_aload_n hE dL_look_2 rfl ?_
  refine r_iload_n hE dL_look_3 rfl ?_
  refine r_iload_n hE dL_look_4 rfl ?_
  refine r_invvX hX (h := 64) (st := [.int (nI 0), .ref 189]) [.int p0, .int p1] hF v_yX10_look m_L_28 dL_look_5 rfl (hL 64 (by decide)) rfl rfl (Nat.le_refl _) ⟨by omega, by omega⟩ (Nat.le_of_ble_eq_true rfl) ⟨rfl, rfl⟩ (fun r0 S0 h => ?_) (fun E9 S0 h => ?_)
  · obtain ⟨v, D2, rfl, rfl, hp⟩ := h
    change E _ _ 8 [(0, .ref 64), (1, .int p0), (2, .int p1), (3, .ref 189)] [.int v, .int (nI 0), .ref 189] (y_mk n L D2)
    refine r_i2l hE dL_look_8 ?_
    refine t_lastN (e := 0) hE y_J_189 dL_look_9 (hL 189 (by decide)) (by decide) (by decide) ?_
    refine r_goto (tgt := 21) hE dL_look_10 (by decide) ?_
    refine r_iconst (v := 0) hE dL_look_21 (by decide) ?_
    refine r_ireturn hE dL_look_22 rfl rfl (by omega) (by omega) ?_
    exact Or.inl ⟨v, D2, hp, rfl, rfl⟩
  · obtain ⟨hx, n2, hn, rfl⟩ := h
    rcases hX9 E9 hx with rfl | rfl
    · refine r_catch hX (E9 := y_IOB) (name := y_IOB) (k := 4) (pcH := 15) (ls2 := [(0, .ref 64), (1, .int p0), (2, .int p1), (3, .ref 189)]) [] ⟨0, 10, 13, 31⟩ [⟨0, 10, 17, 33⟩] rfl (fun z hz => by cases hz) rfl (by decide) cl_L_31 (ct_IOB hV) (Or.inl ⟨dL_look_13, rfl⟩) (by decide) rfl ?_
      refine r_iconst (v := nI 1) hE dL_look_15 (by decide) ?_
      refine r_ireturn hE dL_look_16 rfl rfl (by omega) (by omega) ?_
      exact Or.inr ⟨0, _, n2, rfl, hx, rfl, hn, rfl⟩
    · refine r_catch hX (E9 := y_NSE) (name := y_NSE) (k := 4) (pcH := 19) (ls2 := [(0, .ref 64), (1, .int p0), (2, .int p1), (3, .ref 189)]) [⟨0, 10, 13, 31⟩] ⟨0, 10, 17, 33⟩ [] rfl (fun z hz => by obtain rfl := List.mem_singleton.mp hz; exact Or.inr ⟨by decide, y_IOB, cl_L_31, nc_NSE_IOB hV⟩) rfl (by decide) cl_L_33 (ct_NSE hV) (Or.inl ⟨dL_look_17, rfl⟩) (by decide) rfl ?_
      refine r_iconst (v := nI 2) hE dL_look_19 (by decide) ?_
      refine r_ireturn hE dL_look_20 rfl rfl (by omega) (by omega) ?_
      exact Or.inr ⟨1, _, n2, rfl, hx, rfl, hn, rfl⟩
set_option maxRecDepth 100000 in
theorem w_YW_needs : x_YW yL_needs cL_needs 8 (some .int) [(0, 23, 26, 31), (0, 23, 30, 13)] 7 := ⟨(x_gin (List.mem_append_right _ (tb_4 _ (List.mem_of_getElem? (i := 165) rfl))) rfl), (x_gin (List.mem_append_right _ (tb_1 _ (List.mem_of_getElem? (i := 0) rfl))) rfl), by decide +kernel, by decide, (x_gin (List.mem_append_right _ (tb_4 _ (List.mem_of_getElem? (i := 164) rfl))) rfl)⟩
theorem w_needs {V : x_E} (hV : y_V V) {n : Nat} {L : List Nat} {D : y_D} (hL : y_ok L) {p0 p1 p2 p3 p4 : Int32} {d mc ms : Nat} {P : Int32 → y_D → Prop} {X : String → Prop} (hF : y_Fi V yX10_needs cX10_needs 6 (some .boolean) d mc ms [.ref 64, .int p0, .int p1, .int p2, .int p3, .int p4] n L D P X) (hX9 : ∀ E9, X E9 → E9 = y_IOB ∨ E9 = y_IAE) : x_Ch V yL_needs cL_needs 8 (some .int) [(0, 23, 26, 31), (0, 23, 30, 13)] (d + 1) mc ms (fun a0 S0 => a0 = [.ref 64, .int p0, .int p1, .int p2, .int p3, .int p4, .ref 189] ∧ S0 = y_mk n L D) (fun _ _ r S1 => y_WQ y_gb n L D P X [y_IOB, y_IAE] r S1) := by
  refine x_ch (by decide) (fun a0 S0 h => by rw [h.1]; exact Nat.le_of_ble_eq_true rfl) (fun a0 S0 h E EX hX => ?_)
  obtain ⟨rfl, rfl⟩ := h
  have hE := hX.x
  change E 0 0 0 [(0, .ref 64), (1, .int p0), (2, .int p1), (3, .int p2), (4, .int p3), (5, .int p4), (6, .ref 189)] [] (y_mk n L D)
  refine r_aload hE dL_needs_0 rfl ?_
  refine r_iconst (v := nI 0) hE dL_needs_2 (by decide) ?_
  refine r_aload_n hE dL_needs_3 rfl ?_
  refine r_iload_n hE dL_needs_4 rfl ?_
  refine r_iload_n hE dL_needs_5 rfl ?_
  refine r_iload_n hE dL_needs_6 rfl ?_
  refine r_iload hE dL_needs_7 rfl ?_
  refine r_iload hE dL_needs_9 rfl ?_
  refine r_invvX hX (h := 64) (st := [.int (nI 0), .ref 189]) [.int p0, .int p1, .int p2, .int p3, .int p4] hF v_yX10_needs m_L_35 dL_needs_11 rfl (hL 64 (by decide)) rfl rfl (Nat.le_refl _) ⟨by omega, by omega⟩ (Nat.le_of_ble_eq_true rfl) ⟨rfl, rfl⟩ (fun r0 S0 h => ?_) (fun E9 S0 h => ?_)
  · obtain ⟨v, D2, rfl, rfl, hp⟩ := h
    change E _ _ 14 [(0, .ref 64), (1, .int p0), (2, .int p1), (3, .int p2), (4, .int p3), (5, .int p4), (6, .ref 189)] [.int v, .int (nI 0), .ref 189] (y_mk n L D2)
    refine r_if_eq (tgt := 21) hE dL_needs_14 (by decide) (fun c9 => ?_) (fun c9 => ?_)
    · refine r_lconst (v := 0) hE dL_needs_21 (by decide) ?_
      refine t_lastN (e := 0) hE y_J_189 dL_needs_22 (hL 189 (by decide)) (by decide) (by decide) ?_
      refine r_goto (tgt := 34) hE dL_needs_23 (by decide) ?_
      refine r_iconst (v := 0) hE dL_needs_34 (by decide) ?_
      refine r_ireturn hE dL_needs_35 rfl rfl (by omega) (by omega) ?_
      exact Or.inl ⟨v, D2, hp, rfl, by rw [show y_gb v = 0 from if_pos c9]⟩
    · refine r_lconst (v := 1) hE dL_needs_17 (by decide) ?_
      refine r_goto (tgt := 22) hE dL_needs_18 (by decide) ?_
      refine t_lastN (e := 0) hE y_J_189 dL_needs_22 (hL 189 (by decide)) (by decide) (by decide) ?_
      refine r_goto (tgt := 34) hE dL_needs_23 (by decide) ?_
      refine r_iconst (v := 0) hE dL_needs_34 (by decide) ?_
      refine r_ireturn hE dL_needs_35 rfl rfl (by omega) (by omega) ?_
      exact Or.inl ⟨v, D2, hp, rfl, by rw [show y_gb v = 1 from if_neg c9]⟩
  · obtain ⟨hx, n2, hn, rfl⟩ := h
    rcases hX9 E9 hx with rfl | rfl
    · refine r_catch hX (E9 := y_IOB) (name := y_IOB) (k := 7) (pcH := 28) (ls2 := [(0, .ref 64), (1, .int p0), (2, .int p1), (3, .int p2), (4, .int p3), (5, .int p4), (6, .ref 189)]) [] ⟨0, 23, 26, 31⟩ [⟨0, 23, 30, 13⟩] rfl (fun z hz => by cases hz) rfl (by decide) cl_L_31 (ct_IOB hV) (Or.inl ⟨dL_needs_26, rfl⟩) (by decide) rfl ?_
      refine r_iconst (v := nI 1) hE dL_needs_28 (by decide) ?_
      refine r_ireturn hE dL_needs_29 rfl rfl (by omega) (by omega) ?_
      exact Or.inr ⟨0, _, n2, rfl, hx, rfl, hn, rfl⟩
    · refine r_catch hX (E9 := y_IAE) (name := y_IAE) (k := 7) (pcH := 32) (ls2 := [(0, .ref 64), (1, .int p0), (2, .int p1), (3, .int p2), (4, .int p3), (5, .int p4), (6, .ref 189)]) [⟨0, 23, 26, 31⟩] ⟨0, 23, 30, 13⟩ [] rfl (fun z hz => by obtain rfl := List.mem_singleton.mp hz; exact Or.inr ⟨by decide, y_IOB, cl_L_31, nc_IAE_IOB hV⟩) rfl (by decide) cl_L_13 (ct_IAE hV) (Or.inl ⟨dL_needs_30, rfl⟩) (by decide) rfl ?_
      refine r_iconst (v := nI 2) hE dL_needs_32 (by decide) ?_
      refine r_ireturn hE dL_needs_33 rfl rfl (by omega) (by omega) ?_
      exact Or.inr ⟨1, _, n2, rfl, hx, rfl, hn, rfl⟩
set_option maxRecDepth 100000 in
theorem w_YW_note : x_YW yL_note cL_note 5 (some .int) [(0, 10, 13, 31), (0, 10, 17, 13), (0, 10, 21, 15)] 4 := ⟨(x_gin (List.mem_append_right _ (tb_4 _ (List.mem_of_getElem? (i := 207) rfl))) rfl), (x_gin (List.mem_append_right _ (tb_1 _ (List.mem_of_getElem? (i := 0) rfl))) rfl), by decide +kernel, by decide, (x_gin (List.mem_append_right _ (tb_4 _ (List.mem_of_getElem? (i := 206) rfl))) rfl)⟩
theorem w_note {V : x_E} (hV : y_V V) {n : Nat} {L : List Nat} {D : y_D} (hL : y_ok L) {p0 p1 : Int32} {d mc ms : Nat} {P : Int32 → y_D → Prop} {X : String → Prop} (hF : y_Fi V yX10_note cX10_note 3 (some .int) d mc ms [.ref 64, .int p0, .int p1] n L D P X) (hX9 : ∀ E9, X E9 → E9 = y_IOB ∨ E9 = y_IAE ∨ E9 = y_UOE) : x_Ch V yL_note cL_note 5 (some .int) [(0, 10, 13, 31), (0, 10, 17, 13), (0, 10, 21, 15)] (d + 1) mc ms (fun a0 S0 => a0 = [.ref 64, .int p0, .int p1, .ref 189] ∧ S0 = y_mk n L D) (fun _ _ r S1 => y_WQ y_gi n L D P X [y_IOB, y_IAE, y_UOE] r S1) := by
  refine x_ch (by decide) (fun a0 S0 h => by rw [h.1]; exact Nat.le_of_ble_eq_true rfl) (fun a0 S0 h E EX hX => ?_)
  obtain ⟨rfl, rfl⟩ := h
  have hE := hX.x
  change E 0 0 0 [(0, .ref 64), (1, .int p0), (2, .int p1), (3, .ref 189)] [] (y_mk n L D)
  refine r_aload_n hE dL_note_0 rfl ?_
  refine r_iconst (v := nI 0) hE dL_note_1 (by decide) ?_
  refine r_aload_n hE dL_note_2 rfl ?_
  refine r_iload_n hE dL_note_3 rfl ?_
  refine r_iload_n hE dL_note_4 rfl ?_
  refine r_invvX hX (h := 64) (st := [.int (nI 0), .ref 189]) [.int p0, .int p1] hF v_yX10_note m_L_39 dL_note_5 rfl (hL 64 (by decide)) rfl rfl (Nat.le_refl _) ⟨by omega, by omega⟩ (Nat.le_of_ble_eq_true rfl) ⟨rfl, rfl⟩ (fun r0 S0 h => ?_) (fun E9 S0 h => ?_)
  · obtain ⟨v, D2, rfl, rfl, hp⟩ := h
    change E _ _ 8 [(0, .ref 64), (1, .int p0), (2, .int p1), (3, .ref 189)] [.int v, .int (nI 0), .ref 189] (y_mk n L D2)
    refine r_i2l hE dL_note_8 ?_
    refine t_lastN (e := 0) hE y_J_189 dL_note_9 (hL 189 (by decide)) (by decide) (by decide) ?_
    refine r_goto (tgt := 25) hE dL_note_10 (by decide) ?_
    refine r_iconst (v := 0) hE dL_note_25 (by decide) ?_
    refine r_ireturn hE dL_note_26 rfl rfl (by omega) (by omega) ?_
    exact Or.inl ⟨v, D2, hp, rfl, rfl⟩
  · obtain ⟨hx, n2, hn, rfl⟩ := h
    rcases hX9 E9 hx with rfl | rfl | rfl
    · refine r_catch hX (E9 := y_IOB) (name := y_IOB) (k := 4) (pcH := 15) (ls2 := [(0, .ref 64), (1, .int p0), (2, .int p1), (3, .ref 189)]) [] ⟨0, 10, 13, 31⟩ [⟨0, 10, 17, 13⟩, ⟨0, 10, 21, 15⟩] rfl (fun z hz => by cases hz) rfl (by decide) cl_L_31 (ct_IOB hV) (Or.inl ⟨dL_note_13, rfl⟩) (by decide) rfl ?_
      refine r_iconst (v := nI 1) hE dL_note_15 (by decide) ?_
      refine r_ireturn hE dL_note_16 rfl rfl (by omega) (by omega) ?_
      exact Or.inr ⟨0, _, n2, rfl, hx, rfl, hn, rfl⟩
    · refine r_catch hX (E9 := y_IAE) (name := y_IAE) (k := 4) (pcH := 19) (ls2 := [(0, .ref 64), (1, .int p0), (2, .int p1), (3, .ref 189)]) [⟨0, 10, 13, 31⟩] ⟨0, 10, 17, 13⟩ [⟨0, 10, 21, 15⟩] rfl (fun z hz => by obtain rfl := List.mem_singleton.mp hz; exact Or.inr ⟨by decide, y_IOB, cl_L_31, nc_IAE_IOB hV⟩) rfl (by decide) cl_L_13 (ct_IAE hV) (Or.inl ⟨dL_note_17, rfl⟩) (by decide) rfl ?_
      refine r_iconst (v := nI 2) hE dL_note_19 (by decide) ?_
      refine r_ireturn hE dL_note_20 rfl rfl (by omega) (by omega) ?_
      exact Or.inr ⟨1, _, n2, rfl, hx, rfl, hn, rfl⟩
    · refine r_catch hX (E9 := y_UOE) (name := y_UOE) (k := 4) (pcH := 23) (ls2 := [(0, .ref 64), (1, .int p0), (2, .int p1), (3, .ref 189)]) [⟨0, 10, 13, 31⟩, ⟨0, 10, 17, 13⟩] ⟨0, 10, 21, 15⟩ [] rfl (fun z hz => by simp only [List.mem_cons, List.not_mem_nil, or_false] at hz; rcases hz with rfl | rfl; exact Or.inr ⟨by decide, y_IOB, cl_L_31, nc_UOE_IOB hV⟩; exact Or.inr ⟨by decide, y_IAE, cl_L_13, nc_UOE_IAE hV⟩) rfl (by decide) cl_L_15 (ct_UOE hV) (Or.inl ⟨dL_note_21, rfl⟩) (by decide) rfl ?_
      refine r_iconst (v := nI 3) hE dL_note_23 (by decide) ?_
      refine r_ireturn hE dL_note_24 rfl rfl (by omega) (by omega) ?_
      exact Or.inr ⟨2, _, n2, rfl, hx, rfl, hn, rfl⟩
set_option maxRecDepth 100000 in
theorem w_YW_can : x_YW yL_can cL_can 6 (some .int) [(0, 19, 22, 31)] 5 := ⟨(x_gin (List.mem_append_right _ (tb_4 _ (List.mem_of_getElem? (i := 214) rfl))) rfl), (x_gin (List.mem_append_right _ (tb_1 _ (List.mem_of_getElem? (i := 0) rfl))) rfl), by decide +kernel, by decide, (x_gin (List.mem_append_right _ (tb_4 _ (List.mem_of_getElem? (i := 213) rfl))) rfl)⟩
theorem w_can {V : x_E} (hV : y_V V) {n : Nat} {L : List Nat} {D : y_D} (hL : y_ok L) {p0 p1 p2 : Int32} {d mc ms : Nat} {P : Int32 → y_D → Prop} {X : String → Prop} (hF : y_Fi V yX10_can cX10_can 4 (some .boolean) d mc ms [.ref 64, .int p0, .int p1, .int p2] n L D P X) (hX9 : ∀ E9, X E9 → E9 = y_IOB) : x_Ch V yL_can cL_can 6 (some .int) [(0, 19, 22, 31)] (d + 1) mc ms (fun a0 S0 => a0 = [.ref 64, .int p0, .int p1, .int p2, .ref 189] ∧ S0 = y_mk n L D) (fun _ _ r S1 => y_WQ y_gb n L D P X [y_IOB] r S1) := by
  refine x_ch (by decide) (fun a0 S0 h => by rw [h.1]; exact Nat.le_of_ble_eq_true rfl) (fun a0 S0 h E EX hX => ?_)
  obtain ⟨rfl, rfl⟩ := h
  have hE := hX.x
  change E 0 0 0 [(0, .ref 64), (1, .int p0), (2, .int p1), (3, .int p2), (4, .ref 189)] [] (y_mk n L D)
  refine r_aload hE dL_can_0 rfl ?_
  refine r_iconst (v := nI 0) hE dL_can_2 (by decide) ?_
  refine r_aload_n hE dL_can_3 rfl ?_
  refine r_iload_n hE dL_can_4 rfl ?_
  refine r_iload_n hE dL_can_5 rfl ?_
  refine r_iload_n hE dL_can_6 rfl ?_
  refine r_invvX hX (h := 64) (st := [.int (nI 0), .ref 189]) [.int p0, .int p1, .int p2] hF v_yX10_can m_L_42 dL_can_7 rfl (hL 64 (by decide)) rfl rfl (Nat.le_refl _) ⟨by omega, by omega⟩ (Nat.le_of_ble_eq_true rfl) ⟨rfl, rfl⟩ (fun r0 S0 h => ?_) (fun E9 S0 h => ?_)
  · obtain ⟨v, D2, rfl, rfl, hp⟩ := h
    change E _ _ 10 [(0, .ref 64), (1, .int p0), (2, .int p1), (3, .int p2), (4, .ref 189)] [.int v, .int (nI 0), .ref 189] (y_mk n L D2)
    refine r_if_eq (tgt := 17) hE dL_can_10 (by decide) (fun c9 => ?_) (fun c9 => ?_)
    · refine r_lconst (v := 0) hE dL_can_17 (by decide) ?_
      refine t_lastN (e := 0) hE y_J_189 dL_can_18 (hL 189 (by decide)) (by decide) (by decide) ?_
      refine r_goto (tgt := 26) hE dL_can_19 (by decide) ?_
      refine r_iconst (v := 0) hE dL_can_26 (by decide) ?_
      refine r_ireturn hE dL_can_27 rfl rfl (by omega) (by omega) ?_
      exact Or.inl ⟨v, D2, hp, rfl, by rw [show y_gb v = 0 from if_pos c9]⟩
    · refine r_lconst (v := 1) hE dL_can_13 (by decide) ?_
      refine r_goto (tgt := 18) hE dL_can_14 (by decide) ?_
      refine t_lastN (e := 0) hE y_J_189 dL_can_18 (hL 189 (by decide)) (by decide) (by decide) ?_
      refine r_goto (tgt := 26) hE dL_can_19 (by decide) ?_
      refine r_iconst (v := 0) hE dL_can_26 (by decide) ?_
      refine r_ireturn hE dL_can_27 rfl rfl (by omega) (by omega) ?_
      exact Or.inl ⟨v, D2, hp, rfl, by rw [show y_gb v = 1 from if_neg c9]⟩
  · obtain ⟨hx, n2, hn, rfl⟩ := h
    obtain rfl := hX9 E9 hx
    refine r_catch hX (E9 := y_IOB) (name := y_IOB) (k := 5) (pcH := 24) (ls2 := [(0, .ref 64), (1, .int p0), (2, .int p1), (3, .int p2), (4, .ref 189)]) [] ⟨0, 19, 22, 31⟩ [] rfl (fun z hz => by cases hz) rfl (by decide) cl_L_31 (ct_IOB hV) (Or.inl ⟨dL_can_22, rfl⟩) (by decide) rfl ?_
    refine r_iconst (v := nI 1) hE dL_can_24 (by decide) ?_
    refine r_ireturn hE dL_can_25 rfl rfl (by omega) (by omega) ?_
    exact Or.inr ⟨0, _, n2, rfl, hx, rfl, hn, rfl⟩
set_option maxRecDepth 100000 in
theorem w_YW_fewest : x_YW yL_fewest cL_fewest 5 (some .int) [(0, 10, 13, 31)] 4 := ⟨(x_gin (List.mem_append_right _ (tb_5 _ (List.mem_of_getElem? (i := 41) rfl))) rfl), (x_gin (List.mem_append_right _ (tb_1 _ (List.mem_of_getElem? (i := 0) rfl))) rfl), by decide +kernel, by decide, (x_gin (List.mem_append_right _ (tb_5 _ (List.mem_of_getElem? (i := 40) rfl))) rfl)⟩
theorem w_fewest {V : x_E} (hV : y_V V) {n : Nat} {L : List Nat} {D : y_D} (hL : y_ok L) {p0 p1 : Int32} {d mc ms : Nat} {P : Int32 → y_D → Prop} {X : String → Prop} (hF : y_Fi V yX10_fewest cX10_fewest 6 (some .int) d mc ms [.ref 64, .int p0, .int p1] n L D P X) (hX9 : ∀ E9, X E9 → E9 = y_IOB) : x_Ch V yL_fewest cL_fewest 5 (some .int) [(0, 10, 13, 31)] (d + 1) mc ms (fun a0 S0 => a0 = [.ref 64, .int p0, .int p1, .ref 189] ∧ S0 = y_mk n L D) (fun _ _ r S1 => y_WQ y_gi n L D P X [y_IOB] r S1) := by
  refine x_ch (by decide) (fun a0 S0 h => by rw [h.1]; exact Nat.le_of_ble_eq_true rfl) (fun a0 S0 h E EX hX => ?_)
  obtain ⟨rfl, rfl⟩ := h
  have hE := hX.x
  change E 0 0 0 [(0, .ref 64), (1, .int p0), (2, .int p1), (3, .ref 189)] [] (y_mk n L D)
  refine r_aload_n hE dL_fewest_0 rfl ?_
  refine r_iconst (v := nI 0) hE dL_fewest_1 (by decide) ?_
  refine r_aload_n hE dL_fewest_2 rfl ?_
  refine r_iload_n hE dL_fewest_3 rfl ?_
  refine r_iload_n hE dL_fewest_4 rfl ?_
  refine r_invvX hX (h := 64) (st := [.int (nI 0), .ref 189]) [.int p0, .int p1] hF v_yX10_fewest m_L_46 dL_fewest_5 rfl (hL 64 (by decide)) rfl rfl (Nat.le_refl _) ⟨by omega, by omega⟩ (Nat.le_of_ble_eq_true rfl) ⟨rfl, rfl⟩ (fun r0 S0 h => ?_) (fun E9 S0 h => ?_)
  · obtain ⟨v, D2, rfl, rfl, hp⟩ := h
    change E _ _ 8 [(0, .ref 64), (1, .int p0), (2, .int p1), (3, .ref 189)] [.int v, .int (nI 0), .ref 189] (y_mk n L D2)
    refine r_i2l hE dL_fewest_8 ?_
    refine t_lastN (e := 0) hE y_J_189 dL_fewest_9 (hL 189 (by decide)) (by decide) (by decide) ?_
    refine r_goto (tgt := 17) hE dL_fewest_10 (by decide) ?_
    refine r_iconst (v := 0) hE dL_fewest_17 (by decide) ?_
    refine r_ireturn hE dL_fewest_18 rfl rfl (by omega) (by omega) ?_
    exact Or.inl ⟨v, D2, hp, rfl, rfl⟩
  · obtain ⟨hx, n2, hn, rfl⟩ := h
    obtain rfl := hX9 E9 hx
    refine r_catch hX (E9 := y_IOB) (name := y_IOB) (k := 4) (pcH := 15) (ls2 := [(0, .ref 64), (1, .int p0), (2, .int p1), (3, .ref 189)]) [] ⟨0, 10, 13, 31⟩ [] rfl (fun z hz => by cases hz) rfl (by decide) cl_L_31 (ct_IOB hV) (Or.inl ⟨dL_fewest_13, rfl⟩) (by decide) rfl ?_
    refine r_iconst (v := nI 1) hE dL_fewest_15 (by decide) ?_
    refine r_ireturn hE dL_fewest_16 rfl rfl (by omega) (by omega) ?_
    exact Or.inr ⟨0, _, n2, rfl, hx, rfl, hn, rfl⟩
set_option maxRecDepth 100000 in
theorem w_YW_earliest : x_YW yL_earliest cL_earliest 7 (some .int) [(0, 14, 17, 31)] 6 := ⟨(x_gin (List.mem_append_right _ (tb_5 _ (List.mem_of_getElem? (i := 59) rfl))) rfl), (x_gin (List.mem_append_right _ (tb_1 _ (List.mem_of_getElem? (i := 0) rfl))) rfl), by decide +kernel, by decide, (x_gin (List.mem_append_right _ (tb_5 _ (List.mem_of_getElem? (i := 58) rfl))) rfl)⟩
theorem w_earliest {V : x_E} (hV : y_V V) {n : Nat} {L : List Nat} {D : y_D} (hL : y_ok L) {p0 p1 p2 p3 : Int32} {d mc ms : Nat} {P : Int32 → y_D → Prop} {X : String → Prop} (hF : y_Fi V yX10_earliest cX10_earliest 5 (some .int) d mc ms [.ref 64, .int p0, .int p1, .int p2, .int p3] n L D P X) (hX9 : ∀ E9, X E9 → E9 = y_IOB) : x_Ch V yL_earliest cL_earliest 7 (some .int) [(0, 14, 17, 31)] (d + 1) mc ms (fun a0 S0 => a0 = [.ref 64, .int p0, .int p1, .int p2, .int p3, .ref 189] ∧ S0 = y_mk n L D) (fun _ _ r S1 => y_WQ y_gi n L D P X [y_IOB] r S1) := by
  refine x_ch (by decide) (fun a0 S0 h => by rw [h.1]; exact Nat.le_of_ble_eq_true rfl) (fun a0 S0 h E EX hX => ?_)
  obtain ⟨rfl, rfl⟩ := h
  have hE := hX.x
  change E 0 0 0 [(0, .ref 64), (1, .int p0), (2, .int p1), (3, .int p2), (4, .int p3), (5, .ref 189)] [] (y_mk n L D)
  refine r_aload hE dL_earliest_0 rfl ?_
  refine r_iconst (v := nI 0) hE dL_earliest_2 (by decide) ?_
  refine r_aload_n hE dL_earliest_3 rfl ?_
  refine r_iload_n hE dL_earliest_4 rfl ?_
  refine r_iload_n hE dL_earliest_5 rfl ?_
  refine r_iload_n hE dL_earliest_6 rfl ?_
  refine r_iload hE dL_earliest_7 rfl ?_
  refine r_invvX hX (h := 64) (st := [.int (nI 0), .ref 189]) [.int p0, .int p1, .int p2, .int p3] hF v_yX10_earliest m_L_50 dL_earliest_9 rfl (hL 64 (by decide)) rfl rfl (Nat.le_refl _) ⟨by omega, by omega⟩ (Nat.le_of_ble_eq_true rfl) ⟨rfl, rfl⟩ (fun r0 S0 h => ?_) (fun E9 S0 h => ?_)
  · obtain ⟨v, D2, rfl, rfl, hp⟩ := h
    change E _ _ 12 [(0, .ref 64), (1, .int p0), (2, .int p1), (3, .int p2), (4, .int p3), (5, .ref 189)] [.int v, .int (nI 0), .ref 189] (y_mk n L D2)
    refine r_i2l hE dL_earliest_12 ?_
    refine t_lastN (e := 0) hE y_J_189 dL_earliest_13 (hL 189 (by decide)) (by decide) (by decide) ?_
    refine r_goto (tgt := 21) hE dL_earliest_14 (by decide) ?_
    refine r_iconst (v := 0) hE dL_earliest_21 (by decide) ?_
    refine r_ireturn hE dL_earliest_22 rfl rfl (by omega) (by omega) ?_
    exact Or.inl ⟨v, D2, hp, rfl, rfl⟩
  · obtain ⟨hx, n2, hn, rfl⟩ := h
    obtain rfl := hX9 E9 hx
    refine r_catch hX (E9 := y_IOB) (name := y_IOB) (k := 6) (pcH := 19) (ls2 := [(0, .ref 64), (1, .int p0), (2, .int p1), (3, .int p2), (4, .int p3), (5, .ref 189)]) [] ⟨0, 14, 17, 31⟩ [] rfl (fun z hz => by cases hz) rfl (by decide) cl_L_31 (ct_IOB hV) (Or.inl ⟨dL_earliest_17, rfl⟩) (by decide) rfl ?_
    refine r_iconst (v := nI 1) hE dL_earliest_19 (by decide) ?_
    refine r_ireturn hE dL_earliest_20 rfl rfl (by omega) (by omega) ?_
    exact Or.inr ⟨0, _, n2, rfl, hx, rfl, hn, rfl⟩
set_option maxRecDepth 100000 in
theorem w_YW_may : x_YW yL_may cL_may 7 (some .int) [(0, 14, 17, 31), (0, 14, 21, 13)] 6 := ⟨(x_gin (List.mem_append_right _ (tb_5 _ (List.mem_of_getElem? (i := 72) rfl))) rfl), (x_gin (List.mem_append_right _ (tb_1 _ (List.mem_of_getElem? (i := 0) rfl))) rfl), by decide +kernel, by decide, (x_gin (List.mem_append_right _ (tb_5 _ (List.mem_of_getElem? (i := 71) rfl))) rfl)⟩
theorem w_may {V : x_E} (hV : y_V V) {n : Nat} {L : List Nat} {D : y_D} (hL : y_ok L) {p0 p1 p2 p3 : Int32} {d mc ms : Nat} {P : Int32 → y_D → Prop} {X : String → Prop} (hF : y_Fi V yX10_may cX10_may 5 (some .int) d mc ms [.ref 64, .int p0, .int p1, .int p2, .int p3] n L D P X) (hX9 : ∀ E9, X E9 → E9 = y_IOB ∨ E9 = y_IAE) : x_Ch V yL_may cL_may 7 (some .int) [(0, 14, 17, 31), (0, 14, 21, 13)] (d + 1) mc ms (fun a0 S0 => a0 = [.ref 64, .int p0, .int p1, .int p2, .int p3, .ref 189] ∧ S0 = y_mk n L D) (fun _ _ r S1 => y_WQ y_gi n L D P X [y_IOB, y_IAE] r S1) := by
  refine x_ch (by decide) (fun a0 S0 h => by rw [h.1]; exact Nat.le_of_ble_eq_true rfl) (fun a0 S0 h E EX hX => ?_)
  obtain ⟨rfl, rfl⟩ := h
  have hE := hX.x
  change E 0 0 0 [(0, .ref 64), (1, .int p0), (2, .int p1), (3, .int p2), (4, .int p3), (5, .ref 189)] [] (y_mk n L D)
  refine r_aload hE dL_may_0 rfl ?_
  refine r_iconst (v := nI 0) hE dL_may_2 (by decide) ?_
  refine r_aload_n hE dL_may_3 rfl ?_
  refine r_iload_n hE dL_may_4 rfl ?_
  refine r_iload_n hE dL_may_5 rfl ?_
  refine r_iload_n hE dL_may_6 rfl ?_
  refine r_iload hE dL_may_7 rfl ?_
  refine r_invvX hX (h := 64) (st := [.int (nI 0), .ref 189]) [.int p0, .int p1, .int p2, .int p3] hF v_yX10_may m_L_54 dL_may_9 rfl (hL 64 (by decide)) rfl rfl (Nat.le_refl _) ⟨by omega, by omega⟩ (Nat.le_of_ble_eq_true rfl) ⟨rfl, rfl⟩ (fun r0 S0 h => ?_) (fun E9 S0 h => ?_)
  · obtain ⟨v, D2, rfl, rfl, hp⟩ := h
    change E _ _ 12 [(0, .ref 64), (1, .int p0), (2, .int p1), (3, .int p2), (4, .int p3), (5, .ref 189)] [.int v, .int (nI 0), .ref 189] (y_mk n L D2)
    refine r_i2l hE dL_may_12 ?_
    refine t_lastN (e := 0) hE y_J_189 dL_may_13 (hL 189 (by decide)) (by decide) (by decide) ?_
    refine r_goto (tgt := 25) hE dL_may_14 (by decide) ?_
    refine r_iconst (v := 0) hE dL_may_25 (by decide) ?_
    refine r_ireturn hE dL_may_26 rfl rfl (by omega) (by omega) ?_
    exact Or.inl ⟨v, D2, hp, rfl, rfl⟩
  · obtain ⟨hx, n2, hn, rfl⟩ := h
    rcases hX9 E9 hx with rfl | rfl
    · refine r_catch hX (E9 := y_IOB) (name := y_IOB) (k := 6) (pcH := 19) (ls2 := [(0, .ref 64), (1, .int p0), (2, .int p1), (3, .int p2), (4, .int p3), (5, .ref 189)]) [] ⟨0, 14, 17, 31⟩ [⟨0, 14, 21, 13⟩] rfl (fun z hz => by cases hz) rfl (by decide) cl_L_31 (ct_IOB hV) (Or.inl ⟨dL_may_17, rfl⟩) (by decide) rfl ?_
      refine r_iconst (v := nI 1) hE dL_may_19 (by decide) ?_
      refine r_ireturn hE dL_may_20 rfl rfl (by omega) (by omega) ?_
      exact Or.inr ⟨0, _, n2, rfl, hx, rfl, hn, rfl⟩
    · refine r_catch hX (E9 := y_IAE) (name := y_IAE) (k := 6) (pcH := 23) (ls2 := [(0, .ref 64), (1, .int p0), (2, .int p1), (3, .int p2), (4, .int p3), (5, .ref 189)]) [⟨0, 14, 17, 31⟩] ⟨0, 14, 21, 13⟩ [] rfl (fun z hz => by obtain rfl := List.mem_singleton.mp hz; exact Or.inr ⟨by decide, y_IOB, cl_L_31, nc_IAE_IOB hV⟩) rfl (by decide) cl_L_13 (ct_IAE hV) (Or.inl ⟨dL_may_21, rfl⟩) (by decide) rfl ?_
      refine r_iconst (v := nI 2) hE dL_may_23 (by decide) ?_
      refine r_ireturn hE dL_may_24 rfl rfl (by omega) (by omega) ?_
      exact Or.inr ⟨1, _, n2, rfl, hx, rfl, hn, rfl⟩
set_option maxRecDepth 100000 in
theorem w_YW_shut : x_YW yL_shut cL_shut 4 (some .int) [(0, 9, 12, 31)] 3 := ⟨(x_gin (List.mem_append_right _ (tb_5 _ (List.mem_of_getElem? (i := 83) rfl))) rfl), (x_gin (List.mem_append_right _ (tb_1 _ (List.mem_of_getElem? (i := 0) rfl))) rfl), by decide +kernel, by decide, (x_gin (List.mem_append_right _ (tb_5 _ (List.mem_of_getElem? (i := 82) rfl))) rfl)⟩
theorem w_shut {V : x_E} (hV : y_V V) {n : Nat} {L : List Nat} {D : y_D} (hL : y_ok L) {p0 : Int32} {d mc ms : Nat} {P : Int32 → y_D → Prop} {X : String → Prop} (hF : y_Fi V yX10_shut cX10_shut 4 (some .int) d mc ms [.ref 64, .int p0] n L D P X) (hX9 : ∀ E9, X E9 → E9 = y_IOB) : x_Ch V yL_shut cL_shut 4 (some .int) [(0, 9, 12, 31)] (d + 1) mc ms (fun a0 S0 => a0 = [.ref 64, .int p0, .ref 189] ∧ S0 = y_mk n L D) (fun _ _ r S1 => y_WQ y_gi n L D P X [y_IOB] r S1) := by
  refine x_ch (by decide) (fun a0 S0 h => by rw [h.1]; exact Nat.le_of_ble_eq_true rfl) (fun a0 S0 h E EX hX => ?_)
  obtain ⟨rfl, rfl⟩ := h
  have hE := hX.x
  change E 0 0 0 [(0, .ref 64), (1, .int p0), (2, .ref 189)] [] (y_mk n L D)
  refine r_aload_n hE dL_shut_0 rfl ?_
  refine r_iconst (v := nI 0) hE dL_shut_1 (by decide) ?_
  refine r_aload_n hE dL_shut_2 rfl ?_
  refine r_iload_n hE dL_shut_3 rfl ?_
  refine r_invvX hX (h := 64) (st := [.int (nI 0), .ref 189]) [.int p0] hF v_yX10_shut m_L_57 dL_shut_4 rfl (hL 64 (by decide)) rfl rfl (Nat.le_refl _) ⟨by omega, by omega⟩ (Nat.le_of_ble_eq_true rfl) ⟨rfl, rfl⟩ (fun r0 S0 h => ?_) (fun E9 S0 h => ?_)
  · obtain ⟨v, D2, rfl, rfl, hp⟩ := h
    change E _ _ 7 [(0, .ref 64), (1, .int p0), (2, .ref 189)] [.int v, .int (nI 0), .ref 189] (y_mk n L D2)
    refine r_i2l hE dL_shut_7 ?_
    refine t_lastN (e := 0) hE y_J_189 dL_shut_8 (hL 189 (by decide)) (by decide) (by decide) ?_
    refine r_goto (tgt := 15) hE dL_shut_9 (by decide) ?_
    refine r_iconst (v := 0) hE dL_shut_15 (by decide) ?_
    refine r_ireturn hE dL_shut_16 rfl rfl (by omega) (by omega) ?_
    exact Or.inl ⟨v, D2, hp, rfl, rfl⟩
  · obtain ⟨hx, n2, hn, rfl⟩ := h
    obtain rfl := hX9 E9 hx
    refine r_catch hX (E9 := y_IOB) (name := y_IOB) (k := 3) (pcH := 13) (ls2 := [(0, .ref 64), (1, .int p0), (2, .ref 189)]) [] ⟨0, 9, 12, 31⟩ [] rfl (fun z hz => by cases hz) rfl (by decide) cl_L_31 (ct_IOB hV) (Or.inr ⟨3, rfl, dL_shut_12, rfl⟩) (by decide) rfl ?_
    refine r_iconst (v := nI 1) hE dL_shut_13 (by decide) ?_
    refine r_ireturn hE dL_shut_14 rfl rfl (by omega) (by omega) ?_
    exact Or.inr ⟨0, _, n2, rfl, hx, rfl, hn, rfl⟩
set_option maxRecDepth 100000 in
theorem w_YW_opens : x_YW yL_opens cL_opens 5 (some .int) [(0, 10, 13, 31)] 4 := ⟨(x_gin (List.mem_append_right _ (tb_5 _ (List.mem_of_getElem? (i := 96) rfl))) rfl), (x_gin (List.mem_append_right _ (tb_1 _ (List.mem_of_getElem? (i := 0) rfl))) rfl), by decide +kernel, by decide, (x_gin (List.mem_append_right _ (tb_5 _ (List.mem_of_getElem? (i := 95) rfl))) rfl)⟩
theorem w_opens {V : x_E} (hV : y_V V) {n : Nat} {L : List Nat} {D : y_D} (hL : y_ok L) {p0 p1 : Int32} {d mc ms : Nat} {P : Int32 → y_D → Prop} {X : String → Prop} (hF : y_Fi V yX10_opens cX10_opens 6 (some .int) d mc ms [.ref 64, .int p0, .int p1] n L D P X) (hX9 : ∀ E9, X E9 → E9 = y_IOB) : x_Ch V yL_opens cL_opens 5 (some .int) [(0, 10, 13, 31)] (d + 1) mc ms (fun a0 S0 => a0 = [.ref 64, .int p0, .int p1, .ref 189] ∧ S0 = y_mk n L D) (fun _ _ r S1 => y_WQ y_gi n L D P X [y_IOB] r S1) := by
  refine x_ch (by decide) (fun a0 S0 h => by rw [h.1]; exact Nat.le_of_ble_eq_true rfl) (fun a0 S0 h E EX hX => ?_)
  obtain ⟨rfl, rfl⟩ := h
  have hE := hX.x
  change E 0 0 0 [(0, .ref 64), (1, .int p0), (2, .int p1), (3, .ref 189)] [] (y_mk n L D)
  refine r_aload_n hE dL_opens_0 rfl ?_
  refine r_iconst (v := nI 0) hE dL_opens_1 (by decide) ?_
  refine r_aload_n hE dL_opens_2 rfl ?_
  refine r_iload_n hE dL_opens_3 rfl ?_
  refine r_iload_n hE dL_opens_4 rfl ?_
  refine r_invvX hX (h := 64) (st := [.int (nI 0), .ref 189]) [.int p0, .int p1] hF v_yX10_opens m_L_61 dL_opens_5 rfl (hL 64 (by decide)) rfl rfl (Nat.le_refl _) ⟨by omega, by omega⟩ (Nat.le_of_ble_eq_true rfl) ⟨rfl, rfl⟩ (fun r0 S0 h => ?_) (fun E9 S0 h => ?_)
  · obtain ⟨v, D2, rfl, rfl, hp⟩ := h
    change E _ _ 8 [(0, .ref 64), (1, .int p0), (2, .int p1), (3, .ref 189)] [.int v, .int (nI 0), .ref 189] (y_mk n L D2)
    refine r_i2l hE dL_opens_8 ?_
    refine t_lastN (e := 0) hE y_J_189 dL_opens_9 (hL 189 (by decide)) (by decide) (by decide) ?_
    refine r_goto (tgt := 17) hE dL_opens_10 (by decide) ?_
    refine r_iconst (v := 0) hE dL_opens_17 (by decide) ?_
    refine r_ireturn hE dL_opens_18 rfl rfl (by omega) (by omega) ?_
    exact Or.inl ⟨v, D2, hp, rfl, rfl⟩
  · obtain ⟨hx, n2, hn, rfl⟩ := h
    obtain rfl := hX9 E9 hx
    refine r_catch hX (E9 := y_IOB) (name := y_IOB) (k := 4) (pcH := 15) (ls2 := [(0, .ref 64), (1, .int p0), (2, .int p1), (3, .ref 189)]) [] ⟨0, 10, 13, 31⟩ [] rfl (fun z hz => by cases hz) rfl (by decide) cl_L_31 (ct_IOB hV) (Or.inl ⟨dL_opens_13, rfl⟩) (by decide) rfl ?_
    refine r_iconst (v := nI 1) hE dL_opens_15 (by decide) ?_
    refine r_ireturn hE dL_opens_16 rfl rfl (by omega) (by omega) ?_
    exact Or.inr ⟨0, _, n2, rfl, hx, rfl, hn, rfl⟩
set_option maxRecDepth 100000 in
theorem w_YW_trap : x_YW yL_trap cL_trap 6 (some .int) [(0, 12, 15, 31), (0, 12, 19, 13), (0, 12, 23, 15)] 5 := ⟨(x_gin (List.mem_append_right _ (tb_5 _ (List.mem_of_getElem? (i := 103) rfl))) rfl), (x_gin (List.mem_append_right _ (tb_1 _ (List.mem_of_getElem? (i := 0) rfl))) rfl), by decide +kernel, by decide, (x_gin (List.mem_append_right _ (tb_5 _ (List.mem_of_getElem? (i := 102) rfl))) rfl)⟩
theorem w_trap {V : x_E} (hV : y_V V) {n : Nat} {L : List Nat} {D : y_D} (hL : y_ok L) {p0 p1 p2 : Int32} {d mc ms : Nat} {P : Int32 → y_D → Prop} {X : String → Prop} (hF : y_Fi V yX10_trap cX10_trap 4 (some .int) d mc ms [.ref 64, .int p0, .int p1, .int p2] n L D P X) (hX9 : ∀ E9, X E9 → E9 = y_IOB ∨ E9 = y_IAE ∨ E9 = y_UOE) : x_Ch V yL_trap cL_trap 6 (some .int) [(0, 12, 15, 31), (0, 12, 19, 13), (0, 12, 23, 15)] (d + 1) mc ms (fun a0 S0 => a0 = [.ref 64, .int p0, .int p1, .int p2, .ref 189] ∧ S0 = y_mk n L D) (fun _ _ r S1 => y_WQ y_gi n L D P X [y_IOB, y_IAE, y_UOE] r S1) := by
  refine x_ch (by decide) (fun a0 S0 h => by rw [h.1]; exact Nat.le_of_ble_eq_true rfl) (fun a0 S0 h E EX hX => ?_)
  obtain ⟨rfl, rfl⟩ := h
  have hE := hX.x
  change E 0 0 0 [(0, .ref 64), (1, .int p0), (2, .int p1), (3, .int p2), (4, .ref 189)] [] (y_mk n L D)
  refine r_aload hE dL_trap_0 rfl ?_
  refine r_iconst (v := nI 0) hE dL_trap_2 (by decide) ?_
  refine r_aload_n hE dL_trap_3 rfl ?_
  refine r_iload_n hE dL_trap_4 rfl ?_
  refine r_iload_n hE dL_trap_5 rfl ?_
  refine r_iload_n hE dL_trap_6 rfl ?_
  refine r_invvX hX (h := 64) (st := [.int (nI 0), .ref 189]) [.int p0, .int p1, .int p2] hF v_yX10_trap m_L_64 dL_trap_7 rfl (hL 64 (by decide)) rfl rfl (Nat.le_refl _) ⟨by omega, by omega⟩ (Nat.le_of_ble_eq_true rfl) ⟨rfl, rfl⟩ (fun r0 S0 h => ?_) (fun E9 S0 h => ?_)
  · obtain ⟨v, D2, rfl, rfl, hp⟩ := h
    change E _ _ 10 [(0, .ref 64), (1, .int p0), (2, .int p1), (3, .int p2), (4, .ref 189)] [.int v, .int (nI 0), .ref 189] (y_mk n L D2)
    refine r_i2l hE dL_trap_10 ?_
    refine t_lastN (e := 0) hE y_J_189 dL_trap_11 (hL 189 (by decide)) (by decide) (by decide) ?_
    refine r_goto (tgt := 27) hE dL_trap_12 (by decide) ?_
    refine r_iconst (v := 0) hE dL_trap_27 (by decide) ?_
    refine r_ireturn hE dL_trap_28 rfl rfl (by omega) (by omega) ?_
    exact Or.inl ⟨v, D2, hp, rfl, rfl⟩
  · obtain ⟨hx, n2, hn, rfl⟩ := h
    rcases hX9 E9 hx with rfl | rfl | rfl
    · refine r_catch hX (E9 := y_IOB) (name := y_IOB) (k := 5) (pcH := 17) (ls2 := [(0, .ref 64), (1, .int p0), (2, .int p1), (3, .int p2), (4, .ref 189)]) [] ⟨0, 12, 15, 31⟩ [⟨0, 12, 19, 13⟩, ⟨0, 12, 23, 15⟩] rfl (fun z hz => by cases hz) rfl (by decide) cl_L_31 (ct_IOB hV) (Or.inl ⟨dL_trap_15, rfl⟩) (by decide) rfl ?_
      refine r_iconst (v := nI 1) hE dL_trap_17 (by decide) ?_
      refine r_ireturn hE dL_trap_18 rfl rfl (by omega) (by omega) ?_
      exact Or.inr ⟨0, _, n2, rfl, hx, rfl, hn, rfl⟩
    · refine r_catch hX (E9 := y_IAE) (name := y_IAE) (k := 5) (pcH := 21) (ls2 := [(0, .ref 64), (1, .int p0), (2, .int p1), (3, .int p2), (4, .ref 189)]) [⟨0, 12, 15, 31⟩] ⟨0, 12, 19, 13⟩ [⟨0, 12, 23, 15⟩] rfl (fun z hz => by obtain rfl := List.mem_singleton.mp hz; exact Or.inr ⟨by decide, y_IOB, cl_L_31, nc_IAE_IOB hV⟩) rfl (by decide) cl_L_13 (ct_IAE hV) (Or.inl ⟨dL_trap_19, rfl⟩) (by decide) rfl ?_
      refine r_iconst (v := nI 2) hE dL_trap_21 (by decide) ?_
      refine r_ireturn hE dL_trap_22 rfl rfl (by omega) (by omega) ?_
      exact Or.inr ⟨1, _, n2, rfl, hx, rfl, hn, rfl⟩
    · refine r_catch hX (E9 := y_UOE) (name := y_UOE) (k := 5) (pcH := 25) (ls2 := [(0, .ref 64), (1, .int p0), (2, .int p1), (3, .int p2), (4, .ref 189)]) [⟨0, 12, 15, 31⟩, ⟨0, 12, 19, 13⟩] ⟨0, 12, 23, 15⟩ [] rfl (fun z hz => by simp only [List.mem_cons, List.not_mem_nil, or_false] at hz; rcases hz with rfl | rfl; exact Or.inr ⟨by decide, y_IOB, cl_L_31, nc_UOE_IOB hV⟩; exact Or.inr ⟨by decide, y_IAE, cl_L_13, nc_UOE_IAE hV⟩) rfl (by decide) cl_L_15 (ct_UOE hV) (Or.inl ⟨dL_trap_23, rfl⟩) (by decide) rfl ?_
      refine r_iconst (v := nI 3) hE dL_trap_25 (by decide) ?_
      refine r_ireturn hE dL_trap_26 rfl rfl (by omega) (by omega) ?_
      exact Or.inr ⟨2, _, n2, rfl, hx, rfl, hn, rfl⟩
set_option maxRecDepth 100000 in
theorem w_YW_story : x_YW yL_story cL_story 6 (some .int) [(0, 12, 15, 13), (0, 12, 19, 15)] 5 := ⟨(x_gin (List.mem_append_right _ (tb_5 _ (List.mem_of_getElem? (i := 110) rfl))) rfl), (x_gin (List.mem_append_right _ (tb_1 _ (List.mem_of_getElem? (i := 0) rfl))) rfl), by decide +kernel, by decide, (x_gin (List.mem_append_right _ (tb_5 _ (List.mem_of_getElem? (i := 109) rfl))) rfl)⟩
theorem w_story {V : x_E} (hV : y_V V) {n : Nat} {L : List Nat} {D : y_D} (hL : y_ok L) {p0 p1 p2 : Int32} {d mc ms : Nat} {P : Int32 → y_D → Prop} {X : String → Prop} (hF : y_Fi V yX10_story cX10_story 4 (some .int) d mc ms [.ref 64, .int p0, .int p1, .int p2] n L D P X) (hX9 : ∀ E9, X E9 → E9 = y_IAE ∨ E9 = y_UOE) : x_Ch V yL_story cL_story 6 (some .int) [(0, 12, 15, 13), (0, 12, 19, 15)] (d + 1) mc ms (fun a0 S0 => a0 = [.ref 64, .int p0, .int p1, .int p2, .ref 189] ∧ S0 = y_mk n L D) (fun _ _ r S1 => y_WQ y_gi n L D P X [y_IAE, y_UOE] r S1) := by
  refine x_ch (by decide) (fun a0 S0 h => by rw [h.1]; exact Nat.le_of_ble_eq_true rfl) (fun a0 S0 h E EX hX => ?_)
  obtain ⟨rfl, rfl⟩ := h
  have hE := hX.x
  change E 0 0 0 [(0, .ref 64), (1, .int p0), (2, .int p1), (3, .int p2), (4, .ref 189)] [] (y_mk n L D)
  refine r_aload hE dL_story_0 rfl ?_
  refine r_iconst (v := nI 0) hE dL_story_2 (by decide) ?_
  refine r_aload_n hE dL_story_3 rfl ?_
  refine r_iload_n hE dL_story_4 rfl ?_
  refine r_iload_n hE dL_story_5 rfl ?_
  refine r_iload_n hE dL_story_6 rfl ?_
  refine r_invvX hX (h := 64) (st := [.int (nI 0), .ref 189]) [.int p0, .int p1, .int p2] hF v_yX10_story m_L_67 dL_story_7 rfl (hL 64 (by decide)) rfl rfl (Nat.le_refl _) ⟨by omega, by omega⟩ (Nat.le_of_ble_eq_true rfl) ⟨rfl, rfl⟩ (fun r0 S0 h => ?_) (fun E9 S0 h => ?_)
  · obtain ⟨v, D2, rfl, rfl, hp⟩ := h
    change E _ _ 10 [(0, .ref 64), (1, .int p0), (2, .int p1), (3, .int p2), (4, .ref 189)] [.int v, .int (nI 0), .ref 189] (y_mk n L D2)
    refine r_i2l hE dL_story_10 ?_
    refine t_lastN (e := 0) hE y_J_189 dL_story_11 (hL 189 (by decide)) (by decide) (by decide) ?_
    refine r_goto (tgt := 23) hE dL_story_12 (by decide) ?_
    refine r_iconst (v := 0) hE dL_story_23 (by decide) ?_
    refine r_ireturn hE dL_story_24 rfl rfl (by omega) (by omega) ?_
    exact Or.inl ⟨v, D2, hp, rfl, rfl⟩
  · obtain ⟨hx, n2, hn, rfl⟩ := h
    rcases hX9 E9 hx with rfl | rfl
    · refine r_catch hX (E9 := y_IAE) (name := y_IAE) (k := 5) (pcH := 17) (ls2 := [(0, .ref 64), (1, .int p0), (2, .int p1), (3, .int p2), (4, .ref 189)]) [] ⟨0, 12, 15, 13⟩ [⟨0, 12, 19, 15⟩] rfl (fun z hz => by cases hz) rfl (by decide) cl_L_13 (ct_IAE hV) (Or.inl ⟨dL_story_15, rfl⟩) (by decide) rfl ?_
      refine r_iconst (v := nI 1) hE dL_story_17 (by decide) ?_
      refine r_ireturn hE dL_story_18 rfl rfl (by omega) (by omega) ?_
      exact Or.inr ⟨0, _, n2, rfl, hx, rfl, hn, rfl⟩
    · refine r_catch hX (E9 := y_UOE) (name := y_UOE) (k := 5) (pcH := 21) (ls2 := [(0, .ref 64), (1, .int p0), (2, .int p1), (3, .int p2), (4, .ref 189)]) [⟨0, 12, 15, 13⟩] ⟨0, 12, 19, 15⟩ [] rfl (fun z hz => by obtain rfl := List.mem_singleton.mp hz; exact Or.inr ⟨by decide, y_IAE, cl_L_13, nc_UOE_IAE hV⟩) rfl (by decide) cl_L_15 (ct_UOE hV) (Or.inl ⟨dL_story_19, rfl⟩) (by decide) rfl ?_
      refine r_iconst (v := nI 2) hE dL_story_21 (by decide) ?_
      refine r_ireturn hE dL_story_22 rfl rfl (by omega) (by omega) ?_
      exact Or.inr ⟨1, _, n2, rfl, hx, rfl, hn, rfl⟩
set_option maxRecDepth 100000 in
theorem w_YW_night : x_YW yL_night cL_night 8 (some .int) [(0, 16, 19, 31), (0, 16, 23, 13), (0, 16, 27, 15)] 7 := ⟨(x_gin (List.mem_append_right _ (tb_5 _ (List.mem_of_getElem? (i := 117) rfl))) rfl), (x_gin (List.mem_append_right _ (tb_1 _ (List.mem_of_getElem? (i := 0) rfl))) rfl), by decide +kernel, by decide, (x_gin (List.mem_append_right _ (tb_5 _ (List.mem_of_getElem? (i := 116) rfl))) rfl)⟩
theorem w_night {V : x_E} (hV : y_V V) {n : Nat} {L : List Nat} {D : y_D} (hL : y_ok L) {p0 p1 p2 p3 p4 : Int32} {d mc ms : Nat} {P : Int32 → y_D → Prop} {X : String → Prop} (hF : y_Fi V yX10_night cX10_night 6 (some .int) d mc ms [.ref 64, .int p0, .int p1, .int p2, .int p3, .int p4] n L D P X) (hX9 : ∀ E9, X E9 → E9 = y_IOB ∨ E9 = y_IAE ∨ E9 = y_UOE) : x_Ch V yL_night cL_night 8 (some .int) [(0, 16, 19, 31), (0, 16, 23, 13), (0, 16, 27, 15)] (d + 1) mc ms (fun a0 S0 => a0 = [.ref 64, .int p0, .int p1, .int p2, .int p3, .int p4, .ref 189] ∧ S0 = y_mk n L D) (fun _ _ r S1 => y_WQ y_gi n L D P X [y_IOB, y_IAE, y_UOE] r S1) := by
  refine x_ch (by decide) (fun a0 S0 h => by rw [h.1]; exact Nat.le_of_ble_eq_true rfl) (fun a0 S0 h E EX hX => ?_)
  obtain ⟨rfl, rfl⟩ := h
  have hE := hX.x
  change E 0 0 0 [(0, .ref 64), (1, .int p0), (2, .int p1), (3, .int p2), (4, .int p3), (5, .int p4), (6, .ref 189)] [] (y_mk n L D)
  refine r_aload hE dL_night_0 rfl ?_
  refine r_iconst (v := nI 0) hE dL_night_2 (by decide) ?_
  refine r_aload_n hE dL_night_3 rfl ?_
  refine r_iload_n hE dL_night_4 rfl ?_
  refine r_iload_n hE dL_night_5 rfl ?_
  refine r_iload_n hE dL_night_6 rfl ?_
  refine r_iload hE dL_night_7 rfl ?_
  refine r_iload hE dL_night_9 rfl ?_
  refine r_invvX hX (h := 64) (st := [.int (nI 0), .ref 189]) [.int p0, .int p1, .int p2, .int p3, .int p4] hF v_yX10_night m_L_70 dL_night_11 rfl (hL 64 (by decide)) rfl rfl (Nat.le_refl _) ⟨by omega, by omega⟩ (Nat.le_of_ble_eq_true rfl) ⟨rfl, rfl⟩ (fun r0 S0 h => ?_) (fun E9 S0 h => ?_)
  · obtain ⟨v, D2, rfl, rfl, hp⟩ := h
    change E _ _ 14 [(0, .ref 64), (1, .int p0), (2, .int p1), (3, .int p2), (4, .int p3), (5, .int p4), (6, .ref 189)] [.int v, .int (nI 0), .ref 189] (y_mk n L D2)
    refine r_i2l hE dL_night_14 ?_
    refine t_lastN (e := 0) hE y_J_189 dL_night_15 (hL 189 (by decide)) (by decide) (by decide) ?_
    refine r_goto (tgt := 31) hE dL_night_16 (by decide) ?_
    refine r_iconst (v := 0) hE dL_night_31 (by decide) ?_
    refine r_ireturn hE dL_night_32 rfl rfl (by omega) (by omega) ?_
    exact Or.inl ⟨v, D2, hp, rfl, rfl⟩
  · obtain ⟨hx, n2, hn, rfl⟩ := h
    rcases hX9 E9 hx with rfl | rfl | rfl
    · refine r_catch hX (E9 := y_IOB) (name := y_IOB) (k := 7) (pcH := 21) (ls2 := [(0, .ref 64), (1, .int p0), (2, .int p1), (3, .int p2), (4, .int p3), (5, .int p4), (6, .ref 189)]) [] ⟨0, 16, 19, 31⟩ [⟨0, 16, 23, 13⟩, ⟨0, 16, 27, 15⟩] rfl (fun z hz => by cases hz) rfl (by decide) cl_L_31 (ct_IOB hV) (Or.inl ⟨dL_night_19, rfl⟩) (by decide) rfl ?_
      refine r_iconst (v := nI 1) hE dL_night_21 (by decide) ?_
      refine r_ireturn hE dL_night_22 rfl rfl (by omega) (by omega) ?_
      exact Or.inr ⟨0, _, n2, rfl, hx, rfl, hn, rfl⟩
    · refine r_catch hX (E9 := y_IAE) (name := y_IAE) (k := 7) (pcH := 25) (ls2 := [(0, .ref 64), (1, .int p0), (2, .int p1), (3, .int p2), (4, .int p3), (5, .int p4), (6, .ref 189)]) [⟨0, 16, 19, 31⟩] ⟨0, 16, 23, 13⟩ [⟨0, 16, 27, 15⟩] rfl (fun z hz => by obtain rfl := List.mem_singleton.mp hz; exact Or.inr ⟨by decide, y_IOB, cl_L_31, nc_IAE_IOB hV⟩) rfl (by decide) cl_L_13 (ct_IAE hV) (Or.inl ⟨dL_night_23, rfl⟩) (by decide) rfl ?_
      refine r_iconst (v := nI 2) hE dL_night_25 (by decide) ?_
      refine r_ireturn hE dL_night_26 rfl rfl (by omega) (by omega) ?_
      exact Or.inr ⟨1, _, n2, rfl, hx, rfl, hn, rfl⟩
    · refine r_catch hX (E9 := y_UOE) (name := y_UOE) (k := 7) (pcH := 29) (ls2 := [(0, .ref 64), (1, .int p0), (2, .int p1), (3, .int p2), (4, .int p3), (5, .int p4), (6, .ref 189)]) [⟨0, 16, 19, 31⟩, ⟨0, 16, 23, 13⟩] ⟨0, 16, 27, 15⟩ [] rfl (fun z hz => by simp only [List.mem_cons, List.not_mem_nil, or_false] at hz; rcases hz with rfl | rfl; exact Or.inr ⟨by decide, y_IOB, cl_L_31, nc_UOE_IOB hV⟩; exact Or.inr ⟨by decide, y_IAE, cl_L_13, nc_UOE_IAE hV⟩) rfl (by decide) cl_L_15 (ct_UOE hV) (Or.inl ⟨dL_night_27, rfl⟩) (by decide) rfl ?_
      refine r_iconst (v := nI 3) hE dL_night_29 (by decide) ?_
      refine r_ireturn hE dL_night_30 rfl rfl (by omega) (by omega) ?_
      exact Or.inr ⟨2, _, n2, rfl, hx, rfl, hn, rfl⟩
set_option maxRecDepth 100000 in
theorem w_YW_odds : x_YW yL_odds cL_odds 4 (some .int) [(0, 9, 12, 31)] 3 := ⟨(x_gin (List.mem_append_right _ (tb_5 _ (List.mem_of_getElem? (i := 128) rfl))) rfl), (x_gin (List.mem_append_right _ (tb_1 _ (List.mem_of_getElem? (i := 0) rfl))) rfl), by decide +kernel, by decide, (x_gin (List.mem_append_right _ (tb_5 _ (List.mem_of_getElem? (i := 127) rfl))) rfl)⟩
theorem w_odds {V : x_E} (hV : y_V V) {n : Nat} {L : List Nat} {D : y_D} (hL : y_ok L) {p0 : Int32} {d mc ms : Nat} {P : Int32 → y_D → Prop} {X : String → Prop} (hF : y_Fi V yX10_odds cX10_odds 2 (some .int) d mc ms [.ref 64, .int p0] n L D P X) (hX9 : ∀ E9, X E9 → E9 = y_IOB) : x_Ch V yL_odds cL_odds 4 (some .int) [(0, 9, 12, 31)] (d + 1) mc ms (fun a0 S0 => a0 = [.ref 64, .int p0, .ref 189] ∧ S0 = y_mk n L D) (fun _ _ r S1 => y_WQ y_gi n L D P X [y_IOB] r S1) := by
  refine x_ch (by decide) (fun a0 S0 h => by rw [h.1]; exact Nat.le_of_ble_eq_true rfl) (fun a0 S0 h E EX hX => ?_)
  obtain ⟨rfl, rfl⟩ := h
  have hE := hX.x
  change E 0 0 0 [(0, .ref 64), (1, .int p0), (2, .ref 189)] [] (y_mk n L D)
  refine r_aload_n hE dL_odds_0 rfl ?_
  refine r_iconst (v := nI 0) hE dL_odds_1 (by decide) ?_
  refine r_aload_n hE dL_odds_2 rfl ?_
  refine r_iload_n hE dL_odds_3 rfl ?_
  refine r_invvX hX (h := 64) (st := [.int (nI 0), .ref 189]) [.int p0] hF v_yX10_odds m_L_74 dL_odds_4 rfl (hL 64 (by decide)) rfl rfl (Nat.le_refl _) ⟨by omega, by omega⟩ (Nat.le_of_ble_eq_true rfl) ⟨rfl, rfl⟩ (fun r0 S0 h => ?_) (fun E9 S0 h => ?_)
  · obtain ⟨v, D2, rfl, rfl, hp⟩ := h
    change E _ _ 7 [(0, .ref 64), (1, .int p0), (2, .ref 189)] [.int v, .int (nI 0), .ref 189] (y_mk n L D2)
    refine r_i2l hE dL_odds_7 ?_
    refine t_lastN (e := 0) hE y_J_189 dL_odds_8 (hL 189 (by decide)) (by decide) (by decide) ?_
    refine r_goto (tgt := 15) hE dL_odds_9 (by decide) ?_
    refine r_iconst (v := 0) hE dL_odds_15 (by decide) ?_
    refine r_ireturn hE dL_odds_16 rfl rfl (by omega) (by omega) ?_
    exact Or.inl ⟨v, D2, hp, rfl, rfl⟩
  · obtain ⟨hx, n2, hn, rfl⟩ := h
    obtain rfl := hX9 E9 hx
    refine r_catch hX (E9 := y_IOB) (name := y_IOB) (k := 3) (pcH := 13) (ls2 := [(0, .ref 64), (1, .int p0), (2, .ref 189)]) [] ⟨0, 9, 12, 31⟩ [] rfl (fun z hz => by cases hz) rfl (by decide) cl_L_31 (ct_IOB hV) (Or.inr ⟨3, rfl, dL_odds_12, rfl⟩) (by decide) rfl ?_
    refine r_iconst (v := nI 1) hE dL_odds_13 (by decide) ?_
    refine r_ireturn hE dL_odds_14 rfl rfl (by omega) (by omega) ?_
    exact Or.inr ⟨0, _, n2, rfl, hx, rfl, hn, rfl⟩
set_option maxRecDepth 100000 in
theorem w_YW_oddsBy : x_YW yL_oddsBy cL_oddsBy 5 (some .int) [(0, 10, 13, 31), (0, 10, 17, 13)] 4 := ⟨(x_gin (List.mem_append_right _ (tb_5 _ (List.mem_of_getElem? (i := 160) rfl))) rfl), (x_gin (List.mem_append_right _ (tb_1 _ (List.mem_of_getElem? (i := 0) rfl))) rfl), by decide +kernel, by decide, (x_gin (List.mem_append_right _ (tb_5 _ (List.mem_of_getElem? (i := 159) rfl))) rfl)⟩
theorem w_oddsBy {V : x_E} (hV : y_V V) {n : Nat} {L : List Nat} {D : y_D} (hL : y_ok L) {p0 p1 : Int32} {d mc ms : Nat} {P : Int32 → y_D → Prop} {X : String → Prop} (hF : y_Fi V yX10_oddsBy cX10_oddsBy 3 (some .int) d mc ms [.ref 64, .int p0, .int p1] n L D P X) (hX9 : ∀ E9, X E9 → E9 = y_IOB ∨ E9 = y_IAE) : x_Ch V yL_oddsBy cL_oddsBy 5 (some .int) [(0, 10, 13, 31), (0, 10, 17, 13)] (d + 1) mc ms (fun a0 S0 => a0 = [.ref 64, .int p0, .int p1, .ref 189] ∧ S0 = y_mk n L D) (fun _ _ r S1 => y_WQ y_gi n L D P X [y_IOB, y_IAE] r S1) := by
  refine x_ch (by decide) (fun a0 S0 h => by rw [h.1]; exact Nat.le_of_ble_eq_true rfl) (fun a0 S0 h E EX hX => ?_)
  obtain ⟨rfl, rfl⟩ := h
  have hE := hX.x
  change E 0 0 0 [(0, .ref 64), (1, .int p0), (2, .int p1), (3, .ref 189)] [] (y_mk n L D)
  refine r_aload_n hE dL_oddsBy_0 rfl ?_
  refine r_iconst (v := nI 0) hE dL_oddsBy_1 (by decide) ?_
  refine r_aload_n hE dL_oddsBy_2 rfl ?_
  refine r_iload_n hE dL_oddsBy_3 rfl ?_
  refine r_iload_n hE dL_oddsBy_4 rfl ?_
  refine r_invvX hX (h := 64) (st := [.int (nI 0), .ref 189]) [.int p0, .int p1] hF v_yX10_oddsBy m_L_77 dL_oddsBy_5 rfl (hL 64 (by decide)) rfl rfl (Nat.le_refl _) ⟨by omega, by omega⟩ (Nat.le_of_ble_eq_true rfl) ⟨rfl, rfl⟩ (fun r0 S0 h => ?_) (fun E9 S0 h => ?_)
  · obtain ⟨v, D2, rfl, rfl, hp⟩ := h
    change E _ _ 8 [(0, .ref 64), (1, .int p0), (2, .int p1), (3, .ref 189)] [.int v, .int (nI 0), .ref 189] (y_mk n L D2)
    refine r_i2l hE dL_oddsBy_8 ?_
    refine t_lastN (e := 0) hE y_J_189 dL_oddsBy_9 (hL 189 (by decide)) (by decide) (by decide) ?_
    refine r_goto (tgt := 21) hE dL_oddsBy_10 (by decide) ?_
    refine r_iconst (v := 0) hE dL_oddsBy_21 (by decide) ?_
    refine r_ireturn hE dL_oddsBy_22 rfl rfl (by omega) (by omega) ?_
    exact Or.inl ⟨v, D2, hp, rfl, rfl⟩
  · obtain ⟨hx, n2, hn, rfl⟩ := h
    rcases hX9 E9 hx with rfl | rfl
    · refine r_catch hX (E9 := y_IOB) (name := y_IOB) (k := 4) (pcH := 15) (ls2 := [(0, .ref 64), (1, .int p0), (2, .int p1), (3, .ref 189)]) [] ⟨0, 10, 13, 31⟩ [⟨0, 10, 17, 13⟩] rfl (fun z hz => by cases hz) rfl (by decide) cl_L_31 (ct_IOB hV) (Or.inl ⟨dL_oddsBy_13, rfl⟩) (by decide) rfl ?_
      refine r_iconst (v := nI 1) hE dL_oddsBy_15 (by decide) ?_
      refine r_ireturn hE dL_oddsBy_16 rfl rfl (by omega) (by omega) ?_
      exact Or.inr ⟨0, _, n2, rfl, hx, rfl, hn, rfl⟩
    · refine r_catch hX (E9 := y_IAE) (name := y_IAE) (k := 4) (pcH := 19) (ls2 := [(0, .ref 64), (1, .int p0), (2, .int p1), (3, .ref 189)]) [⟨0, 10, 13, 31⟩] ⟨0, 10, 17, 13⟩ [] rfl (fun z hz => by obtain rfl := List.mem_singleton.mp hz; exact Or.inr ⟨by decide, y_IOB, cl_L_31, nc_IAE_IOB hV⟩) rfl (by decide) cl_L_13 (ct_IAE hV) (Or.inl ⟨dL_oddsBy_17, rfl⟩) (by decide) rfl ?_
      refine r_iconst (v := nI 2) hE dL_oddsBy_19 (by decide) ?_
      refine r_ireturn hE dL_oddsBy_20 rfl rfl (by omega) (by omega) ?_
      exact Or.inr ⟨1, _, n2, rfl, hx, rfl, hn, rfl⟩
set_option maxRecDepth 100000 in
theorem w_YW_factor : x_YW yL_factor cL_factor 5 (some .int) [(0, 9, 12, 31)] 4 := ⟨(x_gin (List.mem_append_right _ (tb_5 _ (List.mem_of_getElem? (i := 167) rfl))) rfl), (x_gin (List.mem_append_right _ (tb_1 _ (List.mem_of_getElem? (i := 0) rfl))) rfl), by decide +kernel, by decide, (x_gin (List.mem_append_right _ (tb_5 _ (List.mem_of_getElem? (i := 166) rfl))) rfl)⟩
theorem w_factor {V : x_E} (hV : y_V V) {n : Nat} {L : List Nat} {D : y_D} (hL : y_ok L) {p0 p1 : Int32} {d mc ms : Nat} {P : Int64 → y_D → Prop} {X : String → Prop} (hF : y_Fj V yX10_factor cX10_factor 3 (some .long) d mc ms [.ref 64, .int p0, .int p1] n L D P X) (hX9 : ∀ E9, X E9 → E9 = y_IOB) : x_Ch V yL_factor cL_factor 5 (some .int) [(0, 9, 12, 31)] (d + 1) mc ms (fun a0 S0 => a0 = [.ref 64, .int p0, .int p1, .ref 189] ∧ S0 = y_mk n L D) (fun _ _ r S1 => y_WQ y_gl n L D P X [y_IOB] r S1) := by
  refine x_ch (by decide) (fun a0 S0 h => by rw [h.1]; exact Nat.le_of_ble_eq_true rfl) (fun a0 S0 h E EX hX => ?_)
  obtain ⟨rfl, rfl⟩ := h
  have hE := hX.x
  change E 0 0 0 [(0, .ref 64), (1, .int p0), (2, .int p1), (3, .ref 189)] [] (y_mk n L D)
  refine r_aload_n hE dL_factor_0 rfl ?_
  refine r_iconst (v := nI 0) hE dL_factor_1 (by decide) ?_
  refine r_aload_n hE dL_factor_2 rfl ?_
  refine r_iload_n hE dL_factor_3 rfl ?_
  refine r_iload_n hE dL_factor_4 rfl ?_
  refine r_invvX hX (h := 64) (st := [.int (nI 0), .ref 189]) [.int p0, .int p1] hF v_yX10_factor m_L_80 dL_factor_5 rfl (hL 64 (by decide)) rfl rfl (Nat.le_refl _) ⟨by omega, by omega⟩ (Nat.le_of_ble_eq_true rfl) ⟨rfl, rfl⟩ (fun r0 S0 h => ?_) (fun E9 S0 h => ?_)
  · obtain ⟨v, D2, rfl, rfl, hp⟩ := h
    change E _ _ 8 [(0, .ref 64), (1, .int p0), (2, .int p1), (3, .ref 189)] [.long v, .int (nI 0), .ref 189] (y_mk n L D2)
    refine t_lastN (e := 0) hE y_J_189 dL_factor_8 (hL 189 (by decide)) (by decide) (by decide) ?_
    refine r_goto (tgt := 16) hE dL_factor_9 (by decide) ?_
    refine r_iconst (v := 0) hE dL_factor_16 (by decide) ?_
    refine r_ireturn hE dL_factor_17 rfl rfl (by omega) (by omega) ?_
    exact Or.inl ⟨v, D2, hp, rfl, rfl⟩
  · obtain ⟨hx, n2, hn, rfl⟩ := h
    obtain rfl := hX9 E9 hx
    refine r_catch hX (E9 := y_IOB) (name := y_IOB) (k := 4) (pcH := 14) (ls2 := [(0, .ref 64), (1, .int p0), (2, .int p1), (3, .ref 189)]) [] ⟨0, 9, 12, 31⟩ [] rfl (fun z hz => by cases hz) rfl (by decide) cl_L_31 (ct_IOB hV) (Or.inl ⟨dL_factor_12, rfl⟩) (by decide) rfl ?_
    refine r_iconst (v := nI 1) hE dL_factor_14 (by decide) ?_
    refine r_ireturn hE dL_factor_15 rfl rfl (by omega) (by omega) ?_
    exact Or.inr ⟨0, _, n2, rfl, hx, rfl, hn, rfl⟩
set_option maxRecDepth 100000 in
theorem w_YW_says : x_YW yL_says cL_says 4 (some .int) [(0, 8, 11, 31)] 3 := ⟨(x_gin (List.mem_append_right _ (tb_5 _ (List.mem_of_getElem? (i := 174) rfl))) rfl), (x_gin (List.mem_append_right _ (tb_1 _ (List.mem_of_getElem? (i := 0) rfl))) rfl), by decide +kernel, by decide, (x_gin (List.mem_append_right _ (tb_5 _ (List.mem_of_getElem? (i := 173) rfl))) rfl)⟩
theorem w_says {V : x_E} (hV : y_V V) {n : Nat} {L : List Nat} {D : y_D} (hL : y_ok L) {p0 : Int32} {d mc ms : Nat} {P : Int64 → y_D → Prop} {X : String → Prop} (hF : y_Fj V yX10_says cX10_says 7 (some .long) d mc ms [.ref 64, .int p0] n L D P X) (hX9 : ∀ E9, X E9 → E9 = y_IOB) : x_Ch V yL_says cL_says 4 (some .int) [(0, 8, 11, 31)] (d + 1) mc ms (fun a0 S0 => a0 = [.ref 64, .int p0, .ref 189] ∧ S0 = y_mk n L D) (fun _ _ r S1 => y_WQ y_gl n L D P X [y_IOB] r S1) := by
  refine x_ch (by decide) (fun a0 S0 h => by rw [h.1]; exact Nat.le_of_ble_eq_true rfl) (fun a0 S0 h E EX hX => ?_)
  obtain ⟨rfl, rfl⟩ := h
  have hE := hX.x
  change E 0 0 0 [(0, .ref 64), (1, .int p0), (2, .ref 189)] [] (y_mk n L D)
  refine r_aload_n hE dL_says_0 rfl ?_
  refine r_iconst (v := nI 0) hE dL_says_1 (by decide) ?_
  refine r_aload_n hE dL_says_2 rfl ?_
  refine r_iload_n hE dL_says_3 rfl ?_
  refine r_invvX hX (h := 64) (st := [.int (nI 0), .ref 189]) [.int p0] hF v_yX10_says m_L_84 dL_says_4 rfl (hL 64 (by decide)) rfl rfl (Nat.le_refl _) ⟨by omega, by omega⟩ (Nat.le_of_ble_eq_true rfl) ⟨rfl, rfl⟩ (fun r0 S0 h => ?_) (fun E9 S0 h => ?_)
  · obtain ⟨v, D2, rfl, rfl, hp⟩ := h
    change E _ _ 7 [(0, .ref 64), (1, .int p0), (2, .ref 189)] [.long v, .int (nI 0), .ref 189] (y_mk n L D2)
    refine t_lastN (e := 0) hE y_J_189 dL_says_7 (hL 189 (by decide)) (by decide) (by decide) ?_
    refine r_goto (tgt := 14) hE dL_says_8 (by decide) ?_
    refine r_iconst (v := 0) hE dL_says_14 (by decide) ?_
    refine r_ireturn hE dL_says_15 rfl rfl (by omega) (by omega) ?_
    exact Or.inl ⟨v, D2, hp, rfl, rfl⟩
  · obtain ⟨hx, n2, hn, rfl⟩ := h
    obtain rfl := hX9 E9 hx
    refine r_catch hX (E9 := y_IOB) (name := y_IOB) (k := 3) (pcH := 12) (ls2 := [(0, .ref 64), (1, .int p0), (2, .ref 189)]) [] ⟨0, 8, 11, 31⟩ [] rfl (fun z hz => by cases hz) rfl (by decide) cl_L_31 (ct_IOB hV) (Or.inr ⟨3, rfl, dL_says_11, rfl⟩) (by decide) rfl ?_
    refine r_iconst (v := nI 1) hE dL_says_12 (by decide) ?_
    refine r_ireturn hE dL_says_13 rfl rfl (by omega) (by omega) ?_
    exact Or.inr ⟨0, _, n2, rfl, hx, rfl, hn, rfl⟩
set_option maxRecDepth 100000 in
theorem w_YW_with : x_YW yL_with cL_with 5 (some .int) [(0, 10, 13, 31), (0, 10, 17, 33)] 4 := ⟨(x_gin (List.mem_append_right _ (tb_5 _ (List.mem_of_getElem? (i := 184) rfl))) rfl), (x_gin (List.mem_append_right _ (tb_1 _ (List.mem_of_getElem? (i := 0) rfl))) rfl), by decide +kernel, by decide, (x_gin (List.mem_append_right _ (tb_5 _ (List.mem_of_getElem? (i := 183) rfl))) rfl)⟩
theorem w_with {V : x_E} (hV : y_V V) {n : Nat} {L : List Nat} {D : y_D} (hL : y_ok L) {p0 p1 : Int32} {d mc ms : Nat} {P : Int32 → y_D → Prop} {X : String → Prop} (hF : y_Fi V yX10_with cX10_with 9 (some .int) d mc ms [.ref 64, .int p0, .int p1] n L D P X) (hX9 : ∀ E9, X E9 → E9 = y_IOB ∨ E9 = y_NSE) : x_Ch V yL_with cL_with 5 (some .int) [(0, 10, 13, 31), (0, 10, 17, 33)] (d + 1) mc ms (fun a0 S0 => a0 = [.ref 64, .int p0, .int p1, .ref 189] ∧ S0 = y_mk n L D) (fun _ _ r S1 => y_WQ y_gi n L D P X [y_IOB, y_NSE] r S1) := by
  refine x_ch (by decide) (fun a0 S0 h => by rw [h.1]; exact Nat.le_of_ble_eq_true rfl) (fun a0 S0 h E EX hX => ?_)
  obtain ⟨rfl, rfl⟩ := h
  have hE := hX.x
  change E 0 0 0 [(0, .ref 64), (1, .int p0), (2, .int p1), (3, .ref 189)] [] (y_mk n L D)
  refine r_aload_n hE dL_with_0 rfl ?_
  refine r_iconst (v := nI 0) hE dL_with_1 (by decide) ?_
  refine r_aload_n hE dL_with_2 rfl ?_
  refine r_iload_n hE dL_with_3 rfl ?_
  refine r_iload_n hE dL_with_4 rfl ?_
  refine r_invvX hX (h := 64) (st := [.int (nI 0), .ref 189]) [.int p0, .int p1] hF v_yX10_with m_L_88 dL_with_5 rfl (hL 64 (by decide)) rfl rfl (Nat.le_refl _) ⟨by omega, by omega⟩ (Nat.le_of_ble_eq_true rfl) ⟨rfl, rfl⟩ (fun r0 S0 h => ?_) (fun E9 S0 h => ?_)
  · obtain ⟨v, D2, rfl, rfl, hp⟩ := h
    change E _ _ 8 [(0, .ref 64), (1, .int p0), (2, .int p1), (3, .ref 189)] [.int v, .int (nI 0), .ref 189] (y_mk n L D2)
    refine r_i2l hE dL_with_8 ?_
    refine t_lastN (e := 0) hE y_J_189 dL_with_9 (hL 189 (by decide)) (by decide) (by decide) ?_
    refine r_goto (tgt := 21) hE dL_with_10 (by decide) ?_
    refine r_iconst (v := 0) hE dL_with_21 (by decide) ?_
    refine r_ireturn hE dL_with_22 rfl rfl (by omega) (by omega) ?_
    exact Or.inl ⟨v, D2, hp, rfl, rfl⟩
  · obtain ⟨hx, n2, hn, rfl⟩ := h
    rcases hX9 E9 hx with rfl | rfl
    · refine r_catch hX (E9 := y_IOB) (name := y_IOB) (k := 4) (pcH := 15) (ls2 := [(0, .ref 64), (1, .int p0), (2, .int p1), (3, .ref 189)]) [] ⟨0, 10, 13, 31⟩ [⟨0, 10, 17, 33⟩] rfl (fun z hz => by cases hz) rfl (by decide) cl_L_31 (ct_IOB hV) (Or.inl ⟨dL_with_13, rfl⟩) (by decide) rfl ?_
      refine r_iconst (v := nI 1) hE dL_with_15 (by decide) ?_
      refine r_ireturn hE dL_with_16 rfl rfl (by omega) (by omega) ?_
      exact Or.inr ⟨0, _, n2, rfl, hx, rfl, hn, rfl⟩
    · refine r_catch hX (E9 := y_NSE) (name := y_NSE) (k := 4) (pcH := 19) (ls2 := [(0, .ref 64), (1, .int p0), (2, .int p1), (3, .ref 189)]) [⟨0, 10, 13, 31⟩] ⟨0, 10, 17, 33⟩ [] rfl (fun z hz => by obtain rfl := List.mem_singleton.mp hz; exact Or.inr ⟨by decide, y_IOB, cl_L_31, nc_NSE_IOB hV⟩) rfl (by decide) cl_L_33 (ct_NSE hV) (Or.inl ⟨dL_with_17, rfl⟩) (by decide) rfl ?_
      refine r_iconst (v := nI 2) hE dL_with_19 (by decide) ?_
      refine r_ireturn hE dL_with_20 rfl rfl (by omega) (by omega) ?_
      exact Or.inr ⟨1, _, n2, rfl, hx, rfl, hn, rfl⟩
set_option maxRecDepth 100000 in
theorem w_YW_knew : x_YW yL_knew cL_knew 3 (some .int) [(0, 5, 8, 13)] 2 := ⟨(x_gin (List.mem_append_right _ (tb_5 _ (List.mem_of_getElem? (i := 198) rfl))) rfl), (x_gin (List.mem_append_right _ (tb_1 _ (List.mem_of_getElem? (i := 0) rfl))) rfl), by decide +kernel, by decide, (x_gin (List.mem_append_right _ (tb_5 _ (List.mem_of_getElem? (i := 197) rfl))) rfl)⟩
theorem w_knew {V : x_E} (hV : y_V V) {n : Nat} {L : List Nat} {D : y_D} (hL : y_ok L) {p0 : Int32} {d mc ms : Nat} {P : y_D → Prop} {X : String → Prop} (hF : y_Fv V yX10_knew cX10_knew 2 none d mc ms [.ref 64, .int p0] n L D P X) (hX9 : ∀ E9, X E9 → E9 = y_IAE) : x_Ch V yL_knew cL_knew 3 (some .int) [(0, 5, 8, 13)] (d + 1) mc ms (fun a0 S0 => a0 = [.ref 64, .int p0] ∧ S0 = y_mk n L D) (fun _ _ r S1 => y_WV n L D P X [y_IAE] r S1) := by
  refine x_ch (by decide) (fun a0 S0 h => by rw [h.1]; exact Nat.le_of_ble_eq_true rfl) (fun a0 S0 h E EX hX => ?_)
  obtain ⟨rfl, rfl⟩ := h
  have hE := hX.x
  change E 0 0 0 [(0, .ref 64), (1, .int p0)] [] (y_mk n L D)
  refine r_aload_n hE dL_knew_0 rfl ?_
  refine r_iload_n hE dL_knew_1 rfl ?_
  refine r_invvX hX (h := 64) (st := []) [.int p0] hF v_yX10_knew m_L_91 dL_knew_2 rfl (hL 64 (by decide)) rfl rfl (Nat.le_refl _) ⟨by omega, by omega⟩ (Nat.le_of_ble_eq_true rfl) ⟨rfl, rfl⟩ (fun r0 S0 h => ?_) (fun E9 S0 h => ?_)
  · obtain ⟨D2, rfl, rfl, hp⟩ := h
    change E _ _ 5 [(0, .ref 64), (1, .int p0)] [] (y_mk n L D2)
    refine r_goto (tgt := 11) hE dL_knew_5 (by decide) ?_
    refine r_iconst (v := 0) hE dL_knew_11 (by decide) ?_
    refine r_ireturn hE dL_knew_12 rfl rfl (by omega) (by omega) ?_
    exact Or.inl ⟨D2, hp, rfl, rfl⟩
  · obtain ⟨hx, n2, hn, rfl⟩ := h
    obtain rfl := hX9 E9 hx
    refine r_catch hX (E9 := y_IAE) (name := y_IAE) (k := 2) (pcH := 9) (ls2 := [(0, .ref 64), (1, .int p0)]) [] ⟨0, 5, 8, 13⟩ [] rfl (fun z hz => by cases hz) rfl (by decide) cl_L_13 (ct_IAE hV) (Or.inr ⟨2, rfl, dL_knew_8, rfl⟩) (by decide) rfl ?_
    refine r_iconst (v := nI 1) hE dL_knew_9 (by decide) ?_
    refine r_ireturn hE dL_knew_10 rfl rfl (by omega) (by omega) ?_
    exact Or.inr ⟨0, _, n2, rfl, hx, rfl, hn, rfl⟩
set_option maxRecDepth 100000 in
theorem w_YW_told : x_YW yL_told cL_told 6 (some .int) [(0, 12, 15, 31), (0, 12, 19, 13), (0, 12, 23, 15)] 5 := ⟨(x_gin (List.mem_append_right _ (tb_5 _ (List.mem_of_getElem? (i := 205) rfl))) rfl), (x_gin (List.mem_append_right _ (tb_1 _ (List.mem_of_getElem? (i := 0) rfl))) rfl), by decide +kernel, by decide, (x_gin (List.mem_append_right _ (tb_5 _ (List.mem_of_getElem? (i := 204) rfl))) rfl)⟩
theorem w_told {V : x_E} (hV : y_V V) {n : Nat} {L : List Nat} {D : y_D} (hL : y_ok L) {p0 p1 p2 : Int32} {d mc ms : Nat} {P : Int32 → y_D → Prop} {X : String → Prop} (hF : y_Fi V yX10_told cX10_told 4 (some .int) d mc ms [.ref 64, .int p0, .int p1, .int p2] n L D P X) (hX9 : ∀ E9, X E9 → E9 = y_IOB ∨ E9 = y_IAE ∨ E9 = y_UOE) : x_Ch V yL_told cL_told 6 (some .int) [(0, 12, 15, 31), (0, 12, 19, 13), (0, 12, 23, 15)] (d + 1) mc ms (fun a0 S0 => a0 = [.ref 64, .int p0, .int p1, .int p2, .ref 189] ∧ S0 = y_mk n L D) (fun _ _ r S1 => y_WQ y_gi n L D P X [y_IOB, y_IAE, y_UOE] r S1) := by
  refine x_ch (by decide) (fun a0 S0 h => by rw [h.1]; exact Nat.le_of_ble_eq_true rfl) (fun a0 S0 h E EX hX => ?_)
  obtain ⟨rfl, rfl⟩ := h
  have hE := hX.x
  change E 0 0 0 [(0, .ref 64), (1, .int p0), (2, .int p1), (3, .int p2), (4, .ref 189)] [] (y_mk n L D)
  refine r_aload hE dL_told_0 rfl ?_
  refine r_iconst (v := nI 0) hE dL_told_2 (by decide) ?_
  refine r_aload_n hE dL_told_3 rfl ?_
  refine r_iload_n hE dL_told_4 rfl ?_
  refine r_iload_n hE dL_told_5 rfl ?_
  refine r_iload_n hE dL_told_6 rfl ?_
  refine r_invvX hX (h := 64) (st := [.int (nI 0), .ref 189]) [.int p0, .int p1, .int p2] hF v_yX10_told m_L_95 dL_told_7 rfl (hL 64 (by decide)) rfl rfl (Nat.le_refl _) ⟨by omega, by omega⟩ (Nat.le_of_ble_eq_true rfl) ⟨rfl, rfl⟩ (fun r0 S0 h => ?_) (fun E9 S0 h => ?_)
  · obtain ⟨v, D2, rfl, rfl, hp⟩ := h
    change E _ _ 10 [(0, .ref 64), (1, .int p0), (2, .int p1), (3, .int p2), (4, .ref 189)] [.int v, .int (nI 0), .ref 189] (y_mk n L D2)
    refine r_i2l hE dL_told_10 ?_
    refine t_lastN (e := 0) hE y_J_189 dL_told_11 (hL 189 (by decide)) (by decide) (by decide) ?_
    refine r_goto (tgt := 27) hE dL_told_12 (by decide) ?_
    refine r_iconst (v := 0) hE dL_told_27 (by decide) ?_
    refine r_ireturn hE dL_told_28 rfl rfl (by omega) (by omega) ?_
    exact Or.inl ⟨v, D2, hp, rfl, rfl⟩
  · obtain ⟨hx, n2, hn, rfl⟩ := h
    rcases hX9 E9 hx with rfl | rfl | rfl
    · refine r_catch hX (E9 := y_IOB) (name := y_IOB) (k := 5) (pcH := 17) (ls2 := [(0, .ref 64), (1, .int p0), (2, .int p1), (3, .int p2), (4, .ref 189)]) [] ⟨0, 12, 15, 31⟩ [⟨0, 12, 19, 13⟩, ⟨0, 12, 23, 15⟩] rfl (fun z hz => by cases hz) rfl (by decide) cl_L_31 (ct_IOB hV) (Or.inl ⟨dL_told_15, rfl⟩) (by decide) rfl ?_
      refine r_iconst (v := nI 1) hE dL_told_17 (by decide) ?_
      refine r_ireturn hE dL_told_18 rfl rfl (by omega) (by omega) ?_
      exact Or.inr ⟨0, _, n2, rfl, hx, rfl, hn, rfl⟩
    · refine r_catch hX (E9 := y_IAE) (name := y_IAE) (k := 5) (pcH := 21) (ls2 := [(0, .ref 64), (1, .int p0), (2, .int p1), (3, .int p2), (4, .ref 189)]) [⟨0, 12, 15, 31⟩] ⟨0, 12, 19, 13⟩ [⟨0, 12, 23, 15⟩] rfl (fun z hz => by obtain rfl := List.mem_singleton.mp hz; exact Or.inr ⟨by decide, y_IOB, cl_L_31, nc_IAE_IOB hV⟩) rfl (by decide) cl_L_13 (ct_IAE hV) (Or.inl ⟨dL_told_19, rfl⟩) (by decide) rfl ?_
      refine r_iconst (v := nI 2) hE dL_told_21 (by decide) ?_
      refine r_ireturn hE dL_told_22 rfl rfl (by omega) (by omega) ?_
      exact Or.inr ⟨1, _, n2, rfl, hx, rfl, hn, rfl⟩
    · refine r_catch hX (E9 := y_UOE) (name := y_UOE) (k := 5) (pcH := 25) (ls2 := [(0, .ref 64), (1, .int p0), (2, .int p1), (3, .int p2), (4, .ref 189)]) [⟨0, 12, 15, 31⟩, ⟨0, 12, 19, 13⟩] ⟨0, 12, 23, 15⟩ [] rfl (fun z hz => by simp only [List.mem_cons, List.not_mem_nil, or_false] at hz; rcases hz with rfl | rfl; exact Or.inr ⟨by decide, y_IOB, cl_L_31, nc_UOE_IOB hV⟩; exact Or.inr ⟨by decide, y_IAE, cl_L_13, nc_UOE_IAE hV⟩) rfl (by decide) cl_L_15 (ct_UOE hV) (Or.inl ⟨dL_told_23, rfl⟩) (by decide) rfl ?_
      refine r_iconst (v := nI 3) hE dL_told_25 (by decide) ?_
      refine r_ireturn hE dL_told_26 rfl rfl (by omega) (by omega) ?_
      exact Or.inr ⟨2, _, n2, rfl, hx, rfl, hn, rfl⟩
set_option maxRecDepth 100000 in
theorem w_YW_knows : x_YW yL_knows cL_knows 4 (some .int) [(0, 9, 12, 13)] 3 := ⟨(x_gin (List.mem_append_right _ (tb_5 _ (List.mem_of_getElem? (i := 212) rfl))) rfl), (x_gin (List.mem_append_right _ (tb_1 _ (List.mem_of_getElem? (i := 0) rfl))) rfl), by decide +kernel, by decide, (x_gin (List.mem_append_right _ (tb_5 _ (List.mem_of_getElem? (i := 211) rfl))) rfl)⟩
theorem w_knows {V : x_E} (hV : y_V V) {n : Nat} {L : List Nat} {D : y_D} (hL : y_ok L) {p0 : Int32} {d mc ms : Nat} {P : Int32 → y_D → Prop} {X : String → Prop} (hF : y_Fi V yX10_knows cX10_knows 2 (some .int) d mc ms [.ref 64, .int p0] n L D P X) (hX9 : ∀ E9, X E9 → E9 = y_IAE) : x_Ch V yL_knows cL_knows 4 (some .int) [(0, 9, 12, 13)] (d + 1) mc ms (fun a0 S0 => a0 = [.ref 64, .int p0, .ref 189] ∧ S0 = y_mk n L D) (fun _ _ r S1 => y_WQ y_gi n L D P X [y_IAE] r S1) := by
  refine x_ch (by decide) (fun a0 S0 h => by rw [h.1]; exact Nat.le_of_ble_eq_true rfl) (fun a0 S0 h E EX hX => ?_)
  obtain ⟨rfl, rfl⟩ := h
  have hE := hX.x
  change E 0 0 0 [(0, .ref 64), (1, .int p0), (2, .ref 189)] [] (y_mk n L D)
  refine r_aload_n hE dL_knows_0 rfl ?_
  refine r_iconst (v := nI 0) hE dL_knows_1 (by decide) ?_
  refine r_aload_n hE dL_knows_2 rfl ?_
  refine r_iload_n hE dL_knows_3 rfl ?_
  refine r_invvX hX (h := 64) (st := [.int (nI 0), .ref 189]) [.int p0] hF v_yX10_knows m_L_98 dL_knows_4 rfl (hL 64 (by decide)) rfl rfl (Nat.le_refl _) ⟨by omega, by omega⟩ (Nat.le_of_ble_eq_true rfl) ⟨rfl, rfl⟩ (fun r0 S0 h => ?_) (fun E9 S0 h => ?_)
  · obtain ⟨v, D2, rfl, rfl, hp⟩ := h
    change E _ _ 7 [(0, .ref 64), (1, .int p0), (2, .ref 189)] [.int v, .int (nI 0), .ref 189] (y_mk n L D2)
    refine r_i2l hE dL_knows_7 ?_
    refine t_lastN (e := 0) hE y_J_189 dL_knows_8 (hL 189 (by decide)) (by decide) (by decide) ?_
    refine r_goto (tgt := 15) hE dL_knows_9 (by decide) ?_
    refine r_iconst (v := 0) hE dL_knows_15 (by decide) ?_
    refine r_ireturn hE dL_knows_16 rfl rfl (by omega) (by omega) ?_
    exact Or.inl ⟨v, D2, hp, rfl, rfl⟩
  · obtain ⟨hx, n2, hn, rfl⟩ := h
    obtain rfl := hX9 E9 hx
    refine r_catch hX (E9 := y_IAE) (name := y_IAE) (k := 3) (pcH := 13) (ls2 := [(0, .ref 64), (1, .int p0), (2, .ref 189)]) [] ⟨0, 9, 12, 13⟩ [] rfl (fun z hz => by cases hz) rfl (by decide) cl_L_13 (ct_IAE hV) (Or.inr ⟨3, rfl, dL_knows_12, rfl⟩) (by decide) rfl ?_
    refine r_iconst (v := nI 1) hE dL_knows_13 (by decide) ?_
    refine r_ireturn hE dL_knows_14 rfl rfl (by omega) (by omega) ?_
    exact Or.inr ⟨0, _, n2, rfl, hx, rfl, hn, rfl⟩
set_option maxRecDepth 100000 in
theorem w_YW_whence : x_YW yL_whence cL_whence 5 (some .int) [(0, 10, 13, 13)] 4 := ⟨(x_gin (List.mem_append_right _ (tb_5 _ (List.mem_of_getElem? (i := 227) rfl))) rfl), (x_gin (List.mem_append_right _ (tb_1 _ (List.mem_of_getElem? (i := 0) rfl))) rfl), by decide +kernel, by decide, (x_gin (List.mem_append_right _ (tb_5 _ (List.mem_of_getElem? (i := 226) rfl))) rfl)⟩
theorem w_whence {V : x_E} (hV : y_V V) {n : Nat} {L : List Nat} {D : y_D} (hL : y_ok L) {p0 p1 : Int32} {d mc ms : Nat} {P : Int32 → y_D → Prop} {X : String → Prop} (hF : y_Fi V yX10_whence cX10_whence 3 (some .int) d mc ms [.ref 64, .int p0, .int p1] n L D P X) (hX9 : ∀ E9, X E9 → E9 = y_IAE) : x_Ch V yL_whence cL_whence 5 (some .int) [(0, 10, 13, 13)] (d + 1) mc ms (fun a0 S0 => a0 = [.ref 64, .int p0, .int p1, .ref 189] ∧ S0 = y_mk n L D) (fun _ _ r S1 => y_WQ y_gi n L D P X [y_IAE] r S1) := by
  refine x_ch (by decide) (fun a0 S0 h => by rw [h.1]; exact Nat.le_of_ble_eq_true rfl) (fun a0 S0 h E EX hX => ?_)
  obtain ⟨rfl, rfl⟩ := h
  have hE := hX.x
  change E 0 0 0 [(0, .ref 64), (1, .int p0), (2, .int p1), (3, .ref 189)] [] (y_mk n L D)
  refine r_aload_n hE dL_whence_0 rfl ?_
  refine r_iconst (v := nI 0) hE dL_whence_1 (by decide) ?_
  refine r_aload_n hE dL_whence_2 rfl ?_
  refine r_iload_n hE dL_whence_3 rfl ?_
  refine r_iload_n hE dL_whence_4 rfl ?_
  refine r_invvX hX (h := 64) (st := [.int (nI 0), .ref 189]) [.int p0, .int p1] hF v_yX10_whence m_L_101 dL_whence_5 rfl (hL 64 (by decide)) rfl rfl (Nat.le_refl _) ⟨by omega, by omega⟩ (Nat.le_of_ble_eq_true rfl) ⟨rfl, rfl⟩ (fun r0 S0 h => ?_) (fun E9 S0 h => ?_)
  · obtain ⟨v, D2, rfl, rfl, hp⟩ := h
    change E _ _ 8 [(0, .ref 64), (1, .int p0), (2, .int p1), (3, .ref 189)] [.int v, .int (nI 0), .ref 189] (y_mk n L D2)
    refine r_i2l hE dL_whence_8 ?_
    refine t_lastN (e := 0) hE y_J_189 dL_whence_9 (hL 189 (by decide)) (by decide) (by decide) ?_
    refine r_goto (tgt := 17) hE dL_whence_10 (by decide) ?_
    refine r_iconst (v := 0) hE dL_whence_17 (by decide) ?_
    refine r_ireturn hE dL_whence_18 rfl rfl (by omega) (by omega) ?_
    exact Or.inl ⟨v, D2, hp, rfl, rfl⟩
  · obtain ⟨hx, n2, hn, rfl⟩ := h
    obtain rfl := hX9 E9 hx
    refine r_catch hX (E9 := y_IAE) (name := y_IAE) (k := 4) (pcH := 15) (ls2 := [(0, .ref 64), (1, .int p0), (2, .int p1), (3, .ref 189)]) [] ⟨0, 10, 13, 13⟩ [] rfl (fun z hz => by cases hz) rfl (by decide) cl_L_13 (ct_IAE hV) (Or.inl ⟨dL_whence_13, rfl⟩) (by decide) rfl ?_
    refine r_iconst (v := nI 1) hE dL_whence_15 (by decide) ?_
    refine r_ireturn hE dL_whence_16 rfl rfl (by omega) (by omega) ?_
    exact Or.inr ⟨0, _, n2, rfl, hx, rfl, hn, rfl⟩
set_option maxRecDepth 100000 in
theorem w_YW_knot : x_YW yL_knot cL_knot 7 (some .int) [(0, 14, 17, 13), (0, 14, 21, 15)] 6 := ⟨(x_gin (List.mem_append_right _ (tb_6 _ (List.mem_of_getElem? (i := 2) rfl))) rfl), (x_gin (List.mem_append_right _ (tb_1 _ (List.mem_of_getElem? (i := 0) rfl))) rfl), by decide +kernel, by decide, (x_gin (List.mem_append_right _ (tb_6 _ (List.mem_of_getElem? (i := 1) rfl))) rfl)⟩
theorem w_knot {V : x_E} (hV : y_V V) {n : Nat} {L : List Nat} {D : y_D} (hL : y_ok L) {p0 p1 p2 p3 : Int32} {d mc ms : Nat} {P : Int32 → y_D → Prop} {X : String → Prop} (hF : y_Fi V yX10_knot cX10_knot 5 (some .int) d mc ms [.ref 64, .int p0, .int p1, .int p2, .int p3] n L D P X) (hX9 : ∀ E9, X E9 → E9 = y_IAE ∨ E9 = y_UOE) : x_Ch V yL_knot cL_knot 7 (some .int) [(0, 14, 17, 13), (0, 14, 21, 15)] (d + 1) mc ms (fun a0 S0 => a0 = [.ref 64, .int p0, .int p1, .int p2, .int p3, .ref 189] ∧ S0 = y_mk n L D) (fun _ _ r S1 => y_WQ y_gi n L D P X [y_IAE, y_UOE] r S1) := by
  refine x_ch (by decide) (fun a0 S0 h => by rw [h.1]; exact Nat.le_of_ble_eq_true rfl) (fun a0 S0 h E EX hX => ?_)
  obtain ⟨rfl, rfl⟩ := h
  have hE := hX.x
  change E 0 0 0 [(0, .ref 64), (1, .int p0), (2, .int p1), (3, .int p2), (4, .int p3), (5, .ref 189)] [] (y_mk n L D)
  refine r_aload hE dL_knot_0 rfl ?_
  refine r_iconst (v := nI 0) hE dL_knot_2 (by decide) ?_
  refine r_aload_n hE dL_knot_3 rfl ?_
  refine r_iload_n hE dL_knot_4 rfl ?_
  refine r_iload_n hE dL_knot_5 rfl ?_
  refine r_iload_n hE dL_knot_6 rfl ?_
  refine r_iload hE dL_knot_7 rfl ?_
  refine r_invvX hX (h := 64) (st := [.int (nI 0), .ref 189]) [.int p0, .int p1, .int p2, .int p3] hF v_yX10_knot m_L_104 dL_knot_9 rfl (hL 64 (by decide)) rfl rfl (Nat.le_refl _) ⟨by omega, by omega⟩ (Nat.le_of_ble_eq_true rfl) ⟨rfl, rfl⟩ (fun r0 S0 h => ?_) (fun E9 S0 h => ?_)
  · obtain ⟨v, D2, rfl, rfl, hp⟩ := h
    change E _ _ 12 [(0, .ref 64), (1, .int p0), (2, .int p1), (3, .int p2), (4, .int p3), (5, .ref 189)] [.int v, .int (nI 0), .ref 189] (y_mk n L D2)
    refine r_i2l hE dL_knot_12 ?_
    refine t_lastN (e := 0) hE y_J_189 dL_knot_13 (hL 189 (by decide)) (by decide) (by decide) ?_
    refine r_goto (tgt := 25) hE dL_knot_14 (by decide) ?_
    refine r_iconst (v := 0) hE dL_knot_25 (by decide) ?_
    refine r_ireturn hE dL_knot_26 rfl rfl (by omega) (by omega) ?_
    exact Or.inl ⟨v, D2, hp, rfl, rfl⟩
  · obtain ⟨hx, n2, hn, rfl⟩ := h
    rcases hX9 E9 hx with rfl | rfl
    · refine r_catch hX (E9 := y_IAE) (name := y_IAE) (k := 6) (pcH := 19) (ls2 := [(0, .ref 64), (1, .int p0), (2, .int p1), (3, .int p2), (4, .int p3), (5, .ref 189)]) [] ⟨0, 14, 17, 13⟩ [⟨0, 14, 21, 15⟩] rfl (fun z hz => by cases hz) rfl (by decide) cl_L_13 (ct_IAE hV) (Or.inl ⟨dL_knot_17, rfl⟩) (by decide) rfl ?_
      refine r_iconst (v := nI 1) hE dL_knot_19 (by decide) ?_
      refine r_ireturn hE dL_knot_20 rfl rfl (by omega) (by omega) ?_
      exact Or.inr ⟨0, _, n2, rfl, hx, rfl, hn, rfl⟩
    · refine r_catch hX (E9 := y_UOE) (name := y_UOE) (k := 6) (pcH := 23) (ls2 := [(0, .ref 64), (1, .int p0), (2, .int p1), (3, .int p2), (4, .int p3), (5, .ref 189)]) [⟨0, 14, 17, 13⟩] ⟨0, 14, 21, 15⟩ [] rfl (fun z hz => by obtain rfl := List.mem_singleton.mp hz; exact Or.inr ⟨by decide, y_IAE, cl_L_13, nc_UOE_IAE hV⟩) rfl (by decide) cl_L_15 (ct_UOE hV) (Or.inl ⟨dL_knot_21, rfl⟩) (by decide) rfl ?_
      refine r_iconst (v := nI 2) hE dL_knot_23 (by decide) ?_
      refine r_ireturn hE dL_knot_24 rfl rfl (by omega) (by omega) ?_
      exact Or.inr ⟨1, _, n2, rfl, hx, rfl, hn, rfl⟩
set_option maxRecDepth 100000 in
theorem w_YW_rope : x_YW yL_rope cL_rope 3 (some .int) [(0, 5, 8, 13)] 2 := ⟨(x_gin (List.mem_append_right _ (tb_6 _ (List.mem_of_getElem? (i := 9) rfl))) rfl), (x_gin (List.mem_append_right _ (tb_1 _ (List.mem_of_getElem? (i := 0) rfl))) rfl), by decide +kernel, by decide, (x_gin (List.mem_append_right _ (tb_6 _ (List.mem_of_getElem? (i := 8) rfl))) rfl)⟩
theorem w_rope {V : x_E} (hV : y_V V) {n : Nat} {L : List Nat} {D : y_D} (hL : y_ok L) {p0 : Int32} {d mc ms : Nat} {P : y_D → Prop} {X : String → Prop} (hF : y_Fv V yX10_rope cX10_rope 2 none d mc ms [.ref 64, .int p0] n L D P X) (hX9 : ∀ E9, X E9 → E9 = y_IAE) : x_Ch V yL_rope cL_rope 3 (some .int) [(0, 5, 8, 13)] (d + 1) mc ms (fun a0 S0 => a0 = [.ref 64, .int p0] ∧ S0 = y_mk n L D) (fun _ _ r S1 => y_WV n L D P X [y_IAE] r S1) := by
  refine x_ch (by decide) (fun a0 S0 h => by rw [h.1]; exact Nat.le_of_ble_eq_true rfl) (fun a0 S0 h E EX hX => ?_)
  obtain ⟨rfl, rfl⟩ := h
  have hE := hX.x
  change E 0 0 0 [(0, .ref 64), (1, .int p0)] [] (y_mk n L D)
  refine r_aload_n hE dL_rope_0 rfl ?_
  refine r_iload_n hE dL_rope_1 rfl ?_
  refine r_invvX hX (h := 64) (st := []) [.int p0] hF v_yX10_rope m_L_108 dL_rope_2 rfl (hL 64 (by decide)) rfl rfl (Nat.le_refl _) ⟨by omega, by omega⟩ (Nat.le_of_ble_eq_true rfl) ⟨rfl, rfl⟩ (fun r0 S0 h => ?_) (fun E9 S0 h => ?_)
  · obtain ⟨D2, rfl, rfl, hp⟩ := h
    change E _ _ 5 [(0, .ref 64), (1, .int p0)] [] (y_mk n L D2)
    refine r_goto (tgt := 11) hE dL_rope_5 (by decide) ?_
    refine r_iconst (v := 0) hE dL_rope_11 (by decide) ?_
    refine r_ireturn hE dL_rope_12 rfl rfl (by omega) (by omega) ?_
    exact Or.inl ⟨D2, hp, rfl, rfl⟩
  · obtain ⟨hx, n2, hn, rfl⟩ := h
    obtain rfl := hX9 E9 hx
    refine r_catch hX (E9 := y_IAE) (name := y_IAE) (k := 2) (pcH := 9) (ls2 := [(0, .ref 64), (1, .int p0)]) [] ⟨0, 5, 8, 13⟩ [] rfl (fun z hz => by cases hz) rfl (by decide) cl_L_13 (ct_IAE hV) (Or.inr ⟨2, rfl, dL_rope_8, rfl⟩) (by decide) rfl ?_
    refine r_iconst (v := nI 1) hE dL_rope_9 (by decide) ?_
    refine r_ireturn hE dL_rope_10 rfl rfl (by omega) (by omega) ?_
    exact Or.inr ⟨0, _, n2, rfl, hx, rfl, hn, rfl⟩
set_option maxRecDepth 100000 in
theorem w_YW_tale : x_YW yL_tale cL_tale 6 (some .int) [(0, 12, 15, 13)] 5 := ⟨(x_gin (List.mem_append_right _ (tb_6 _ (List.mem_of_getElem? (i := 16) rfl))) rfl), (x_gin (List.mem_append_right _ (tb_1 _ (List.mem_of_getElem? (i := 0) rfl))) rfl), by decide +kernel, by decide, (x_gin (List.mem_append_right _ (tb_6 _ (List.mem_of_getElem? (i := 15) rfl))) rfl)⟩
theorem w_tale {V : x_E} (hV : y_V V) {n : Nat} {L : List Nat} {D : y_D} (hL : y_ok L) {p0 p1 p2 : Int32} {d mc ms : Nat} {P : Int32 → y_D → Prop} {X : String → Prop} (hF : y_Fi V yX10_tale cX10_tale 7 (some .int) d mc ms [.ref 64, .int p0, .int p1, .int p2] n L D P X) (hX9 : ∀ E9, X E9 → E9 = y_IAE) : x_Ch V yL_tale cL_tale 6 (some .int) [(0, 12, 15, 13)] (d + 1) mc ms (fun a0 S0 => a0 = [.ref 64, .int p0, .int p1, .int p2, .ref 189] ∧ S0 = y_mk n L D) (fun _ _ r S1 => y_WQ y_gi n L D P X [y_IAE] r S1) := by
  refine x_ch (by decide) (fun a0 S0 h => by rw [h.1]; exact Nat.le_of_ble_eq_true rfl) (fun a0 S0 h E EX hX => ?_)
  obtain ⟨rfl, rfl⟩ := h
  have hE := hX.x
  change E 0 0 0 [(0, .ref 64), (1, .int p0), (2, .int p1), (3, .int p2), (4, .ref 189)] [] (y_mk n L D)
  refine r_aload hE dL_tale_0 rfl ?_
  refine r_iconst (v := nI 0) hE dL_tale_2 (by decide) ?_
  refine r_aload_n hE dL_tale_3 rfl ?_
  refine r_iload_n hE dL_tale_4 rfl ?_
  refine r_iload_n hE dL_tale_5 rfl ?_
  refine r_iload_n hE dL_tale_6 rfl ?_
  refine r_invvX hX (h := 64) (st := [.int (nI 0), .ref 189]) [.int p0, .int p1, .int p2] hF v_yX10_tale m_L_111 dL_tale_7 rfl (hL 64 (by decide)) rfl rfl (Nat.le_refl _) ⟨by omega, by omega⟩ (Nat.le_of_ble_eq_true rfl) ⟨rfl, rfl⟩ (fun r0 S0 h => ?_) (fun E9 S0 h => ?_)
  · obtain ⟨v, D2, rfl, rfl, hp⟩ := h
    change E _ _ 10 [(0, .ref 64), (1, .int p0), (2, .int p1), (3, .int p2), (4, .ref 189)] [.int v, .int (nI 0), .ref 189] (y_mk n L D2)
    refine r_i2l hE dL_tale_10 ?_
    refine t_lastN (e := 0) hE y_J_189 dL_tale_11 (hL 189 (by decide)) (by decide) (by decide) ?_
    refine r_goto (tgt := 19) hE dL_tale_12 (by decide) ?_
    refine r_iconst (v := 0) hE dL_tale_19 (by decide) ?_
    refine r_ireturn hE dL_tale_20 rfl rfl (by omega) (by omega) ?_
    exact Or.inl ⟨v, D2, hp, rfl, rfl⟩
  · obtain ⟨hx, n2, hn, rfl⟩ := h
    obtain rfl := hX9 E9 hx
    refine r_catch hX (E9 := y_IAE) (name := y_IAE) (k := 5) (pcH := 17) (ls2 := [(0, .ref 64), (1, .int p0), (2, .int p1), (3, .int p2), (4, .ref 189)]) [] ⟨0, 12, 15, 13⟩ [] rfl (fun z hz => by cases hz) rfl (by decide) cl_L_13 (ct_IAE hV) (Or.inl ⟨dL_tale_15, rfl⟩) (by decide) rfl ?_
    refine r_iconst (v := nI 1) hE dL_tale_17 (by decide) ?_
    refine r_ireturn hE dL_tale_18 rfl rfl (by omega) (by omega) ?_
    exact Or.inr ⟨0, _, n2, rfl, hx, rfl, hn, rfl⟩
set_option maxRecDepth 100000 in
theorem w_YW_cold : x_YW yL_cold cL_cold 6 (some .int) [(0, 12, 15, 13)] 5 := ⟨(x_gin (List.mem_append_right _ (tb_6 _ (List.mem_of_getElem? (i := 29) rfl))) rfl), (x_gin (List.mem_append_right _ (tb_1 _ (List.mem_of_getElem? (i := 0) rfl))) rfl), by decide +kernel, by decide, (x_gin (List.mem_append_right _ (tb_6 _ (List.mem_of_getElem? (i := 28) rfl))) rfl)⟩
theorem w_cold {V : x_E} (hV : y_V V) {n : Nat} {L : List Nat} {D : y_D} (hL : y_ok L) {p0 p1 p2 : Int32} {d mc ms : Nat} {P : Int32 → y_D → Prop} {X : String → Prop} (hF : y_Fi V yX10_cold cX10_cold 7 (some .int) d mc ms [.ref 64, .int p0, .int p1, .int p2] n L D P X) (hX9 : ∀ E9, X E9 → E9 = y_IAE) : x_Ch V yL_cold cL_cold 6 (some .int) [(0, 12, 15, 13)] (d + 1) mc ms (fun a0 S0 => a0 = [.ref 64, .int p0, .int p1, .int p2, .ref 189] ∧ S0 = y_mk n L D) (fun _ _ r S1 => y_WQ y_gi n L D P X [y_IAE] r S1) := by
  refine x_ch (by decide) (fun a0 S0 h => by rw [h.1]; exact Nat.le_of_ble_eq_true rfl) (fun a0 S0 h E EX hX => ?_)
  obtain ⟨rfl, rfl⟩ := h
  have hE := hX.x
  change E 0 0 0 [(0, .ref 64), (1, .int p0), (2, .int p1), (3, .int p2), (4, .ref 189)] [] (y_mk n L D)
  refine r_aload hE dL_cold_0 rfl ?_
  refine r_iconst (v := nI 0) hE dL_cold_2 (by decide) ?_
  refine r_aload_n hE dL_cold_3 rfl ?_
  refine r_iload_n hE dL_cold_4 rfl ?_
  refine r_iload_n hE dL_cold_5 rfl ?_
  refine r_iload_n hE dL_cold_6 rfl ?_
  refine r_invvX hX (h := 64) (st := [.int (nI 0), .ref 189]) [.int p0, .int p1, .int p2] hF v_yX10_cold m_L_114 dL_cold_7 rfl (hL 64 (by decide)) rfl rfl (Nat.le_refl _) ⟨by omega, by omega⟩ (Nat.le_of_ble_eq_true rfl) ⟨rfl, rfl⟩ (fun r0 S0 h => ?_) (fun E9 S0 h => ?_)
  · obtain ⟨v, D2, rfl, rfl, hp⟩ := h
    change E _ _ 10 [(0, .ref 64), (1, .int p0), (2, .int p1), (3, .int p2), (4, .ref 189)] [.int v, .int (nI 0), .ref 189] (y_mk n L D2)
    refine r_i2l hE dL_cold_10 ?_
    refine t_lastN (e := 0) hE y_J_189 dL_cold_11 (hL 189 (by decide)) (by decide) (by decide) ?_
    refine r_goto (tgt := 19) hE dL_cold_12 (by decide) ?_
    refine r_iconst (v := 0) hE dL_cold_19 (by decide) ?_
    refine r_ireturn hE dL_cold_20 rfl rfl (by omega) (by omega) ?_
    exact Or.inl ⟨v, D2, hp, rfl, rfl⟩
  · obtain ⟨hx, n2, hn, rfl⟩ := h
    obtain rfl := hX9 E9 hx
    refine r_catch hX (E9 := y_IAE) (name := y_IAE) (k := 5) (pcH := 17) (ls2 := [(0, .ref 64), (1, .int p0), (2, .int p1), (3, .int p2), (4, .ref 189)]) [] ⟨0, 12, 15, 13⟩ [] rfl (fun z hz => by cases hz) rfl (by decide) cl_L_13 (ct_IAE hV) (Or.inl ⟨dL_cold_15, rfl⟩) (by decide) rfl ?_
    refine r_iconst (v := nI 1) hE dL_cold_17 (by decide) ?_
    refine r_ireturn hE dL_cold_18 rfl rfl (by omega) (by omega) ?_
    exact Or.inr ⟨0, _, n2, rfl, hx, rfl, hn, rfl⟩

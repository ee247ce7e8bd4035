/-! what is given of the start -/
def s_tm (i : Nat) : Term := Term.string (y_str.getD i ("", 0, "")).1 (y_str.getD i ("", 0, "")).2.1
def s_vl (i : Nat) : Term := Term.field (s_tm i) "java/lang/String" "value" "[B"
def s_ws (i : Nat) : List Cond := [Cond.exactly (s_tm i) "java/lang/String", Cond.eq (Term.field (s_tm i) "java/lang/String" "coder" "B") (Term.int 0), Cond.arrayOf (s_vl i) .byte, Cond.eq (Term.length (s_vl i)) (Term.int (Int32.ofNat (y_byt.getD i []).length))] ++ (List.range (y_byt.getD i []).length).map (fun j => Cond.eq (Term.elem (s_vl i) (Term.int (Int32.ofNat j))) (Term.int ((y_byt.getD i []).getD j 0)))
set_option maxRecDepth 100000 in
theorem s_at0 : ((flatC narrow_1).drop 124).take 43 = s_ws 0 := rfl
set_option maxRecDepth 100000 in
theorem s_at1 : ((flatC narrow_1).drop 167).take 37 = s_ws 1 := rfl
set_option maxRecDepth 100000 in
theorem s_at2 : ((flatC narrow_1).drop 204).take 119 = s_ws 2 := rfl
set_option maxRecDepth 100000 in
theorem s_at3 : ((flatC narrow_1).drop 323).take 10 = s_ws 3 := rfl
set_option maxRecDepth 100000 in
theorem s_at4 : ((flatC narrow_1).drop 333).take 24 = s_ws 4 := rfl
set_option maxRecDepth 100000 in
theorem s_at5 : ((flatC narrow_1).drop 357).take 25 = s_ws 5 := rfl
set_option maxRecDepth 100000 in
theorem s_at6 : ((flatC narrow_1).drop 382).take 8 = s_ws 6 := rfl
set_option maxRecDepth 100000 in
theorem s_at7 : ((flatC narrow_1).drop 390).take 7 = s_ws 7 := rfl
set_option maxRecDepth 100000 in
theorem s_at8 : ((flatC narrow_1).drop 397).take 7 = s_ws 8 := rfl
set_option maxRecDepth 100000 in
theorem s_at9 : ((flatC narrow_1).drop 404).take 8 = s_ws 9 := rfl
set_option maxRecDepth 100000 in
theorem s_at10 : ((flatC narrow_1).drop 412).take 6 = s_ws 10 := rfl
set_option maxRecDepth 100000 in
theorem s_at11 : ((flatC narrow_1).drop 418).take 6 = s_ws 11 := rfl
set_option maxRecDepth 100000 in
theorem s_at12 : ((flatC narrow_1).drop 424).take 8 = s_ws 12 := rfl
set_option maxRecDepth 100000 in
theorem s_at13 : ((flatC narrow_1).drop 432).take 8 = s_ws 13 := rfl
set_option maxRecDepth 100000 in
theorem s_at14 : ((flatC narrow_1).drop 440).take 9 = s_ws 14 := rfl
set_option maxRecDepth 100000 in
theorem s_at15 : ((flatC narrow_1).drop 449).take 8 = s_ws 15 := rfl
set_option maxRecDepth 100000 in
theorem s_at16 : ((flatC narrow_1).drop 457).take 7 = s_ws 16 := rfl
set_option maxRecDepth 100000 in
theorem s_at17 : ((flatC narrow_1).drop 464).take 8 = s_ws 17 := rfl
set_option maxRecDepth 100000 in
theorem s_at18 : ((flatC narrow_1).drop 472).take 10 = s_ws 18 := rfl
set_option maxRecDepth 100000 in
theorem s_at19 : ((flatC narrow_1).drop 482).take 9 = s_ws 19 := rfl
set_option maxRecDepth 100000 in
theorem s_at20 : ((flatC narrow_1).drop 491).take 8 = s_ws 20 := rfl
set_option maxRecDepth 100000 in
theorem s_at21 : ((flatC narrow_1).drop 499).take 8 = s_ws 21 := rfl
set_option maxRecDepth 100000 in
theorem s_at22 : ((flatC narrow_1).drop 507).take 9 = s_ws 22 := rfl
set_option maxRecDepth 100000 in
theorem s_at23 : ((flatC narrow_1).drop 516).take 10 = s_ws 23 := rfl
set_option maxRecDepth 100000 in
theorem s_at24 : ((flatC narrow_1).drop 526).take 9 = s_ws 24 := rfl
set_option maxRecDepth 100000 in
theorem s_at25 : ((flatC narrow_1).drop 535).take 9 = s_ws 25 := rfl
set_option maxRecDepth 100000 in
theorem s_at26 : ((flatC narrow_1).drop 544).take 9 = s_ws 26 := rfl
set_option maxRecDepth 100000 in
theorem s_at27 : ((flatC narrow_1).drop 553).take 7 = s_ws 27 := rfl
set_option maxRecDepth 100000 in
theorem s_at28 : ((flatC narrow_1).drop 560).take 6 = s_ws 28 := rfl
theorem s_in {i off n : Nat} (h : ((flatC narrow_1).drop off).take n = s_ws i) : ∀ c ∈ s_ws i, c ∈ flatC narrow_1 := fun c hc => List.mem_of_mem_drop (List.mem_of_mem_take (by rw [h]; exact hc))
theorem s_all : ∀ i, i < 29 → ∀ c ∈ s_ws i, c ∈ flatC narrow_1 := by
  intro i hi
  have k : i = 0 ∨ i = 1 ∨ i = 2 ∨ i = 3 ∨ i = 4 ∨ i = 5 ∨ i = 6 ∨ i = 7 ∨ i = 8 ∨ i = 9 ∨ i = 10 ∨ i = 11 ∨ i = 12 ∨ i = 13 ∨ i = 14 ∨ i = 15 ∨ i = 16 ∨ i = 17 ∨ i = 18 ∨ i = 19 ∨ i = 20 ∨ i = 21 ∨ i = 22 ∨ i = 23 ∨ i = 24 ∨ i = 25 ∨ i = 26 ∨ i = 27 ∨ i = 28 := by omega
  rcases k with rfl | rfl | rfl | rfl | rfl | rfl | rfl | rfl | rfl | rfl | rfl | rfl | rfl | rfl | rfl | rfl | rfl | rfl | rfl | rfl | rfl | rfl | rfl | rfl | rfl | rfl | rfl | rfl | rfl
  · exact s_in s_at0
  · exact s_in s_at1
  · exact s_in s_at2
  · exact s_in s_at3
  · exact s_in s_at4
  · exact s_in s_at5
  · exact s_in s_at6
  · exact s_in s_at7
  · exact s_in s_at8
  · exact s_in s_at9
  · exact s_in s_at10
  · exact s_in s_at11
  · exact s_in s_at12
  · exact s_in s_at13
  · exact s_in s_at14
  · exact s_in s_at15
  · exact s_in s_at16
  · exact s_in s_at17
  · exact s_in s_at18
  · exact s_in s_at19
  · exact s_in s_at20
  · exact s_in s_at21
  · exact s_in s_at22
  · exact s_in s_at23
  · exact s_in s_at24
  · exact s_in s_at25
  · exact s_in s_at26
  · exact s_in s_at27
  · exact s_in s_at28
section SG
variable {args : Array Value} {s : State} {A : Nat → Prop}
theorem s_S1 (hn : ∀ c ∈ flatC narrow_1, c.before args s = true) (hA : ∀ a : Nat, a < s.heap.size → ¬ A a) (i : Nat) : ∃ q : Nat × Nat, i < 29 → (s_tm i).eval args s none [] s = some (.ref q.1) ∧ va_O "java/lang/String" q.1 A s s.heap ∧ va_OF "java/lang/String" "coder" "B" (.int 0) q.1 A s s.heap ∧ va_OF "java/lang/String" "value" "[B" (.ref q.2) q.1 A s s.heap ∧ va_T .byte q.2 (y_byt.getD i []).length (fun j => .int ((y_byt.getD i []).getD j 0)) A s s.heap := by
  by_cases hi : i < 29
  · have hw : ∀ c ∈ s_ws i, c.before args s = true := fun c hc => hn c (s_all i hi c hc)
    have h1 : (Cond.exactly (s_tm i) "java/lang/String").before args s = true := hw _ (List.mem_append_left _ List.mem_cons_self)
    have h2 : (Cond.eq (Term.field (s_tm i) "java/lang/String" "coder" "B") (Term.int 0)).before args s = true := hw _ (List.mem_append_left _ (List.mem_cons_of_mem _ List.mem_cons_self))
    have h3 : (Cond.arrayOf (s_vl i) .byte).before args s = true := hw _ (List.mem_append_left _ (List.mem_cons_of_mem _ (List.mem_cons_of_mem _ List.mem_cons_self)))
    have h4 : (Cond.eq (Term.length (s_vl i)) (Term.int (Int32.ofNat (y_byt.getD i []).length))).before args s = true := hw _ (List.mem_append_left _ (List.mem_cons_of_mem _ (List.mem_cons_of_mem _ (List.mem_cons_of_mem _ List.mem_cons_self))))
    have h5 : ∀ j : Nat, j < (y_byt.getD i []).length → (Cond.eq (Term.elem (s_vl i) (Term.int (Int32.ofNat j))) (Term.int ((y_byt.getD i []).getD j 0))).before args s = true := fun j hj => hw _ (List.mem_append_right _ (List.mem_map.mpr ⟨j, List.mem_range.mpr hj, rfl⟩))
    have hlen : (y_byt.getD i []).length < 2 ^ 31 := (by decide +kernel : ∀ i, i < 29 → (y_byt.getD i []).length < 2 ^ 31) i hi
    obtain ⟨a, c, cA, kA, q1, q2, q3, q4, q5, q6, -⟩ := Cond.exactly_spec (args := args) (first := s) (o := none) (s := s) (idx := []) (t := s_tm i) (cls := "java/lang/String") h1
    obtain ⟨t, ht, hT⟩ := va_Tof (f := fun j => .int ((y_byt.getD i []).getD j 0)) (A := A) hlen h3 (va_eqt h4) (fun j hj => va_eqt (h5 j hj)) hA
    exact ⟨(a, t), fun _ => ⟨q1, ⟨cA, q3, q5, by rw [q6]; exact q2, hA a (Array.getElem?_eq_some_iff.mp q3).1⟩, vk_OFof q1 (va_eqt h2) hA, vk_OFof q1 ht hA, hT⟩⟩
  · exact ⟨(0, 0), fun h => absurd h hi⟩
set_option maxRecDepth 100000 in
theorem s_sr (hts : ∀ w ∈ lw_tbl, w.before args s = true) : ∀ q ∈ y_str, (Cond.stringRef q.1 q.2.1 q.2.2).before args s = true := (List.forall_mem_cons.mpr ⟨hts _ (List.mem_append_right _ (tb_3 _ (List.mem_of_getElem? (i := 30) rfl))), (List.forall_mem_cons.mpr ⟨hts _ (List.mem_append_right _ (tb_3 _ (List.mem_of_getElem? (i := 72) rfl))), (List.forall_mem_cons.mpr ⟨hts _ (List.mem_append_right _ (tb_3 _ (List.mem_of_getElem? (i := 108) rfl))), (List.forall_mem_cons.mpr ⟨hts _ (List.mem_append_right _ (tb_3 _ (List.mem_of_getElem? (i := 173) rfl))), (List.forall_mem_cons.mpr ⟨hts _ (List.mem_append_right _ (tb_4 _ (List.mem_of_getElem? (i := 118) rfl))), (List.forall_mem_cons.mpr ⟨hts _ (List.mem_append_right _ (tb_4 _ (List.mem_of_getElem? (i := 137) rfl))), (List.forall_mem_cons.mpr ⟨hts _ (List.mem_append_right _ (tb_6 _ (List.mem_of_getElem? (i := 222) rfl))), (List.forall_mem_cons.mpr ⟨hts _ (List.mem_append_right _ (tb_6 _ (List.mem_of_getElem? (i := 229) rfl))), (List.forall_mem_cons.mpr ⟨hts _ (List.mem_append_right _ (tb_6 _ (List.mem_of_getElem? (i := 230) rfl))), (List.forall_mem_cons.mpr ⟨hts _ (List.mem_append_right _ (tb_6 _ (List.mem_of_getElem? (i := 231) rfl))), (List.forall_mem_cons.mpr ⟨hts _ (List.mem_append_right _ (tb_7 _ (List.mem_of_getElem? (i := 0) rfl))), (List.forall_mem_cons.mpr ⟨hts _ (List.mem_append_right _ (tb_7 _ (List.mem_of_getElem? (i := 5) rfl))), (List.forall_mem_cons.mpr ⟨hts _ (List.mem_append_right _ (tb_7 _ (List.mem_of_getElem? (i := 10) rfl))), (List.forall_mem_cons.mpr ⟨hts _ (List.mem_append_right _ (tb_7 _ (List.mem_of_getElem? (i := 11) rfl))), (List.forall_mem_cons.mpr ⟨hts _ (List.mem_append_right _ (tb_7 _ (List.mem_of_getElem? (i := 12) rfl))), (List.forall_mem_cons.mpr ⟨hts _ (List.mem_append_right _ (tb_7 _ (List.mem_of_getElem? (i := 13) rfl))), (List.forall_mem_cons.mpr ⟨hts _ (List.mem_append_right _ (tb_7 _ (List.mem_of_getElem? (i := 30) rfl))), (List.forall_mem_cons.mpr ⟨hts _ (List.mem_append_right _ (tb_7 _ (List.mem_of_getElem? (i := 43) rfl))), (List.forall_mem_cons.mpr ⟨hts _ (List.mem_append_right _ (tb_7 _ (List.mem_of_getElem? (i := 44) rfl))), (List.forall_mem_cons.mpr ⟨hts _ (List.mem_append_right _ (tb_7 _ (List.mem_of_getElem? (i := 45) rfl))), (List.forall_mem_cons.mpr ⟨hts _ (List.mem_append_right _ (tb_7 _ (List.mem_of_getElem? (i := 46) rfl))), (List.forall_mem_cons.mpr ⟨hts _ (List.mem_append_right _ (tb_7 _ (List.mem_of_getElem? (i := 47) rfl))), (List.forall_mem_cons.mpr ⟨hts _ (List.mem_append_right _ (tb_7 _ (List.mem_of_getElem? (i := 48) rfl))), (List.forall_mem_cons.mpr ⟨hts _ (List.mem_append_right _ (tb_7 _ (List.mem_of_getElem? (i := 61) rfl))), (List.forall_mem_cons.mpr ⟨hts _ (List.mem_append_right _ (tb_7 _ (List.mem_of_getElem? (i := 62) rfl))), (List.forall_mem_cons.mpr ⟨hts _ (List.mem_append_right _ (tb_7 _ (List.mem_of_getElem? (i := 63) rfl))), (List.forall_mem_cons.mpr ⟨hts _ (List.mem_append_right _ (tb_7 _ (List.mem_of_getElem? (i := 64) rfl))), (List.forall_mem_cons.mpr ⟨hts _ (List.mem_append_right _ (tb_7 _ (List.mem_of_getElem? (i := 65) rfl))), (List.forall_mem_cons.mpr ⟨hts _ (List.mem_append_right _ (tb_7 _ (List.mem_of_getElem? (i := 66) rfl))), (fun _ h => absurd h List.not_mem_nil)⟩)⟩)⟩)⟩)⟩)⟩)⟩)⟩)⟩)⟩)⟩)⟩)⟩)⟩)⟩)⟩)⟩)⟩)⟩)⟩)⟩)⟩)⟩)⟩)⟩)⟩)⟩)⟩)⟩)
set_option maxRecDepth 100000 in
theorem s_nw (hts : ∀ w ∈ lw_tbl, w.before args s = true) : ∀ w ∈ y_nw, va_Nw w s := fun w hw => va_Nw.of ((by decide +kernel : ∀ w ∈ y_nw, w.onTables = true) w hw) (((List.forall_mem_cons.mpr ⟨hts _ (List.mem_append_right _ (tb_1 _ (List.mem_of_getElem? (i := 39) rfl))), (List.forall_mem_cons.mpr ⟨hts _ (List.mem_append_right _ (tb_1 _ (List.mem_of_getElem? (i := 45) rfl))), (List.forall_mem_cons.mpr ⟨hts _ (List.mem_append_right _ (tb_1 _ (List.mem_of_getElem? (i := 231) rfl))), (List.forall_mem_cons.mpr ⟨hts _ (List.mem_append_right _ (tb_2 _ (List.mem_of_getElem? (i := 162) rfl))), (List.forall_mem_cons.mpr ⟨hts _ (List.mem_append_right _ (tb_2 _ (List.mem_of_getElem? (i := 169) rfl))), (List.forall_mem_cons.mpr ⟨hts _ (List.mem_append_right _ (tb_2 _ (List.mem_of_getElem? (i := 230) rfl))), (List.forall_mem_cons.mpr ⟨hts _ (List.mem_append_right _ (tb_2 _ (List.mem_of_getElem? (i := 231) rfl))), (List.forall_mem_cons.mpr ⟨hts _ (List.mem_append_right _ (tb_2 _ (List.mem_of_getElem? (i := 232) rfl))), (List.forall_mem_cons.mpr ⟨hts _ (List.mem_append_right _ (tb_2 _ (List.mem_of_getElem? (i := 233) rfl))), (List.forall_mem_cons.mpr ⟨hts _ (List.mem_append_right _ (tb_2 _ (List.mem_of_getElem? (i := 234) rfl))), (List.forall_mem_cons.mpr ⟨hts _ (List.mem_append_right _ (tb_2 _ (List.mem_of_getElem? (i := 235) rfl))), (List.forall_mem_cons.mpr ⟨hts _ (List.mem_append_right _ (tb_2 _ (List.mem_of_getElem? (i := 236) rfl))), (List.forall_mem_cons.mpr ⟨hts _ (List.mem_append_right _ (tb_3 _ (List.mem_of_getElem? (i := 65) rfl))), (List.forall_mem_cons.mpr ⟨hts _ (List.mem_append_right _ (tb_4 _ (List.mem_of_getElem? (i := 62) rfl))), (List.forall_mem_cons.mpr ⟨hts _ (List.mem_append_right _ (tb_4 _ (List.mem_of_getElem? (i := 111) rfl))), (List.forall_mem_cons.mpr ⟨hts _ (List.mem_append_right _ (tb_4 _ (List.mem_of_getElem? (i := 130) rfl))), (List.forall_mem_cons.mpr ⟨hts _ (List.mem_append_right _ (tb_4 _ (List.mem_of_getElem? (i := 180) rfl))), (List.forall_mem_cons.mpr ⟨hts _ (List.mem_append_right _ (tb_4 _ (List.mem_of_getElem? (i := 193) rfl))), (List.forall_mem_cons.mpr ⟨hts _ (List.mem_append_right _ (tb_4 _ (List.mem_of_getElem? (i := 199) rfl))), (List.forall_mem_cons.mpr ⟨hts _ (List.mem_append_right _ (tb_4 _ (List.mem_of_getElem? (i := 229) rfl))), (List.forall_mem_cons.mpr ⟨hts _ (List.mem_append_right _ (tb_4 _ (List.mem_of_getElem? (i := 235) rfl))), (List.forall_mem_cons.mpr ⟨hts _ (List.mem_append_right _ (tb_4 _ (List.mem_of_getElem? (i := 236) rfl))), (List.forall_mem_cons.mpr ⟨hts _ (List.mem_append_right _ (tb_5 _ (List.mem_of_getElem? (i := 12) rfl))), (List.forall_mem_cons.mpr ⟨hts _ (List.mem_append_right _ (tb_5 _ (List.mem_of_getElem? (i := 14) rfl))), (List.forall_mem_cons.mpr ⟨hts _ (List.mem_append_right _ (tb_5 _ (List.mem_of_getElem? (i := 16) rfl))), (List.forall_mem_cons.mpr ⟨hts _ (List.mem_append_right _ (tb_5 _ (List.mem_of_getElem? (i := 25) rfl))), (List.forall_mem_cons.mpr ⟨hts _ (List.mem_append_right _ (tb_5 _ (List.mem_of_getElem? (i := 50) rfl))), (List.forall_mem_cons.mpr ⟨hts _ (List.mem_append_right _ (tb_8 _ (List.mem_of_getElem? (i := 99) rfl))), (List.forall_mem_cons.mpr ⟨hts _ (List.mem_append_right _ (tb_8 _ (List.mem_of_getElem? (i := 100) rfl))), (List.forall_mem_cons.mpr ⟨hts _ (List.mem_append_right _ (tb_8 _ (List.mem_of_getElem? (i := 101) rfl))), (List.forall_mem_cons.mpr ⟨hts _ (List.mem_append_right _ (tb_8 _ (List.mem_of_getElem? (i := 102) rfl))), (List.forall_mem_cons.mpr ⟨hts _ (List.mem_append_right _ (tb_8 _ (List.mem_of_getElem? (i := 103) rfl))), (List.forall_mem_cons.mpr ⟨hts _ (List.mem_append_right _ (tb_8 _ (List.mem_of_getElem? (i := 104) rfl))), (List.forall_mem_cons.mpr ⟨hts _ (List.mem_append_right _ (tb_8 _ (List.mem_of_getElem? (i := 105) rfl))), (List.forall_mem_cons.mpr ⟨hts _ (List.mem_append_right _ (tb_8 _ (List.mem_of_getElem? (i := 106) rfl))), (List.forall_mem_cons.mpr ⟨hts _ (List.mem_append_right _ (tb_8 _ (List.mem_of_getElem? (i := 107) rfl))), (List.forall_mem_cons.mpr ⟨hts _ (List.mem_append_right _ (tb_8 _ (List.mem_of_getElem? (i := 108) rfl))), (List.forall_mem_cons.mpr ⟨hts _ (List.mem_append_right _ (tb_8 _ (List.mem_of_getElem? (i := 109) rfl))), (List.forall_mem_cons.mpr ⟨hts _ (List.mem_append_right _ (tb_8 _ (List.mem_of_getElem? (i := 110) rfl))), (List.forall_mem_cons.mpr ⟨hts _ (List.mem_append_right _ (tb_8 _ (List.mem_of_getElem? (i := 111) rfl))), (List.forall_mem_cons.mpr ⟨hts _ (List.mem_append_right _ (tb_8 _ (List.mem_of_getElem? (i := 112) rfl))), (List.forall_mem_cons.mpr ⟨hts _ (List.mem_append_right _ (tb_8 _ (List.mem_of_getElem? (i := 113) rfl))), (List.forall_mem_cons.mpr ⟨hts _ (List.mem_append_right _ (tb_8 _ (List.mem_of_getElem? (i := 114) rfl))), (List.forall_mem_cons.mpr ⟨hts _ (List.mem_append_right _ (tb_8 _ (List.mem_of_getElem? (i := 115) rfl))), (fun _ h => absurd h List.not_mem_nil)⟩)⟩)⟩)⟩)⟩)⟩)⟩)⟩)⟩)⟩)⟩)⟩)⟩)⟩)⟩)⟩)⟩)⟩)⟩)⟩)⟩)⟩)⟩)⟩)⟩)⟩)⟩)⟩)⟩)⟩)⟩)⟩)⟩)⟩)⟩)⟩)⟩)⟩)⟩)⟩)⟩)⟩)⟩)⟩) : ∀ w ∈ y_nw, w.before args s = true) w hw)
set_option maxRecDepth 100000 in
theorem s_nc (hn : ∀ c ∈ flatC narrow_1, c.before args s = true) : ∀ q ∈ y_ncs, va_Nc q.1 q.2 s := (List.forall_mem_cons.mpr ⟨va_Nc.of (hn _ (List.mem_of_getElem? (i := 61) rfl)), (List.forall_mem_cons.mpr ⟨va_Nc.of (hn _ (List.mem_of_getElem? (i := 75) rfl)), (List.forall_mem_cons.mpr ⟨va_Nc.of (hn _ (List.mem_of_getElem? (i := 89) rfl)), (List.forall_mem_cons.mpr ⟨va_Nc.of (hn _ (List.mem_of_getElem? (i := 47) rfl)), (List.forall_mem_cons.mpr ⟨va_Nc.of (hn _ (List.mem_of_getElem? (i := 76) rfl)), (List.forall_mem_cons.mpr ⟨va_Nc.of (hn _ (List.mem_of_getElem? (i := 90) rfl)), (List.forall_mem_cons.mpr ⟨va_Nc.of (hn _ (List.mem_of_getElem? (i := 48) rfl)), (List.forall_mem_cons.mpr ⟨va_Nc.of (hn _ (List.mem_of_getElem? (i := 62) rfl)), (List.forall_mem_cons.mpr ⟨va_Nc.of (hn _ (List.mem_of_getElem? (i := 91) rfl)), (List.forall_mem_cons.mpr ⟨va_Nc.of (hn _ (List.mem_of_getElem? (i := 49) rfl)), (List.forall_mem_cons.mpr ⟨va_Nc.of (hn _ (List.mem_of_getElem? (i := 63) rfl)), (List.forall_mem_cons.mpr ⟨va_Nc.of (hn _ (List.mem_of_getElem? (i := 77) rfl)), (fun _ h => absurd h List.not_mem_nil)⟩)⟩)⟩)⟩)⟩)⟩)⟩)⟩)⟩)⟩)⟩)⟩)
set_option maxRecDepth 100000 in
theorem s_swl (hts : ∀ w ∈ lw_tbl, w.before args s = true) (hn : ∀ c ∈ flatC narrow_1, c.before args s = true) (hA : ∀ a : Nat, a < s.heap.size → ¬ A a) : ∃ t : Nat, va_Z "DarkSitting" "SETS_WITH_LIMB" "[I" (.ref t) A s s.heap ∧ va_T .int t 4 (fun j => .int (y_swl j)) A s s.heap := by
  have he : ∀ j : Nat, j < 4 → (Term.elem (Term.static "DarkSitting" "SETS_WITH_LIMB" "[I") (.int (Int32.ofNat j))).eval args s none [] s = some (.int (y_swl j)) := by
    intro j hj
    rcases (by omega : j = 0 ∨ j = 1 ∨ j = 2 ∨ j = 3) with rfl | rfl | rfl | rfl
    · exact va_eqt (hn _ (List.mem_of_getElem? (i := 20) rfl))
    · exact va_eqt (hn _ (List.mem_of_getElem? (i := 21) rfl))
    · exact va_eqt (hn _ (List.mem_of_getElem? (i := 22) rfl))
    · exact va_eqt (hn _ (List.mem_of_getElem? (i := 23) rfl))
  obtain ⟨t, ht, hT⟩ := va_Tof (tm := Term.static "DarkSitting" "SETS_WITH_LIMB" "[I") (ty := .int) (N := 4) (f := fun j => .int (y_swl j)) (A := A) (by decide) (hn _ (List.mem_of_getElem? (i := 18) rfl)) (va_eqt (hn _ (List.mem_of_getElem? (i := 19) rfl))) he hA
  exact ⟨t, va_Zref (hts _ (List.mem_append_right _ (tb_4 _ (List.mem_of_getElem? (i := 194) rfl)))) (hts _ (List.mem_append_right _ (tb_1 _ (List.mem_of_getElem? (i := 1) rfl)))) ht hA, hT⟩
set_option maxRecDepth 100000 in
theorem s_sos (hts : ∀ w ∈ lw_tbl, w.before args s = true) (hn : ∀ c ∈ flatC narrow_1, c.before args s = true) (hA : ∀ a : Nat, a < s.heap.size → ¬ A a) : ∃ t : Nat, va_Z "DarkSitting" "SETS_OF_SIZE" "[I" (.ref t) A s s.heap ∧ va_T .int t 5 (fun j => .int (y_sos j)) A s s.heap := by
  have he : ∀ j : Nat, j < 5 → (Term.elem (Term.static "DarkSitting" "SETS_OF_SIZE" "[I") (.int (Int32.ofNat j))).eval args s none [] s = some (.int (y_sos j)) := by
    intro j hj
    rcases (by omega : j = 0 ∨ j = 1 ∨ j = 2 ∨ j = 3 ∨ j = 4) with rfl | rfl | rfl | rfl | rfl
    · exact va_eqt (hn _ (List.mem_of_getElem? (i := 12) rfl))
    · exact va_eqt (hn _ (List.mem_of_getElem? (i := 13) rfl))
    · exact va_eqt (hn _ (List.mem_of_getElem? (i := 14) rfl))
    · exact va_eqt (hn _ (List.mem_of_getElem? (i := 15) rfl))
    · exact va_eqt (hn _ (List.mem_of_getElem? (i := 16) rfl))
  obtain ⟨t, ht, hT⟩ := va_Tof (tm := Term.static "DarkSitting" "SETS_OF_SIZE" "[I") (ty := .int) (N := 5) (f := fun j => .int (y_sos j)) (A := A) (by decide) (hn _ (List.mem_of_getElem? (i := 10) rfl)) (va_eqt (hn _ (List.mem_of_getElem? (i := 11) rfl))) he hA
  exact ⟨t, va_Zref (hts _ (List.mem_append_right _ (tb_4 _ (List.mem_of_getElem? (i := 181) rfl)))) (hts _ (List.mem_append_right _ (tb_1 _ (List.mem_of_getElem? (i := 1) rfl)))) ht hA, hT⟩
set_option maxRecDepth 100000 in
theorem s_shn (hts : ∀ w ∈ lw_tbl, w.before args s = true) (hn : ∀ c ∈ flatC narrow_1, c.before args s = true) (hA : ∀ a : Nat, a < s.heap.size → ¬ A a) : ∃ t : Nat, va_Z "DarkSitting" "SETS_WITH_HANDS" "[I" (.ref t) A s s.heap ∧ va_T .int t 3 (fun j => .int (y_shn j)) A s s.heap := by
  have he : ∀ j : Nat, j < 3 → (Term.elem (Term.static "DarkSitting" "SETS_WITH_HANDS" "[I") (.int (Int32.ofNat j))).eval args s none [] s = some (.int (y_shn j)) := by
    intro j hj
    rcases (by omega : j = 0 ∨ j = 1 ∨ j = 2) with rfl | rfl | rfl
    · exact va_eqt (hn _ (List.mem_of_getElem? (i := 27) rfl))
    · exact va_eqt (hn _ (List.mem_of_getElem? (i := 28) rfl))
    · exact va_eqt (hn _ (List.mem_of_getElem? (i := 29) rfl))
  obtain ⟨t, ht, hT⟩ := va_Tof (tm := Term.static "DarkSitting" "SETS_WITH_HANDS" "[I") (ty := .int) (N := 3) (f := fun j => .int (y_shn j)) (A := A) (by decide) (hn _ (List.mem_of_getElem? (i := 25) rfl)) (va_eqt (hn _ (List.mem_of_getElem? (i := 26) rfl))) he hA
  exact ⟨t, va_Zref (hts _ (List.mem_append_right _ (tb_5 _ (List.mem_of_getElem? (i := 15) rfl)))) (hts _ (List.mem_append_right _ (tb_1 _ (List.mem_of_getElem? (i := 1) rfl)))) ht hA, hT⟩
set_option maxRecDepth 100000 in
theorem s_sft (hts : ∀ w ∈ lw_tbl, w.before args s = true) (hn : ∀ c ∈ flatC narrow_1, c.before args s = true) (hA : ∀ a : Nat, a < s.heap.size → ¬ A a) : ∃ t : Nat, va_Z "DarkSitting" "SETS_WITH_FEET" "[I" (.ref t) A s s.heap ∧ va_T .int t 3 (fun j => .int (y_sft j)) A s s.heap := by
  have he : ∀ j : Nat, j < 3 → (Term.elem (Term.static "DarkSitting" "SETS_WITH_FEET" "[I") (.int (Int32.ofNat j))).eval args s none [] s = some (.int (y_sft j)) := by
    intro j hj
    rcases (by omega : j = 0 ∨ j = 1 ∨ j = 2) with rfl | rfl | rfl
    · exact va_eqt (hn _ (List.mem_of_getElem? (i := 33) rfl))
    · exact va_eqt (hn _ (List.mem_of_getElem? (i := 34) rfl))
    · exact va_eqt (hn _ (List.mem_of_getElem? (i := 35) rfl))
  obtain ⟨t, ht, hT⟩ := va_Tof (tm := Term.static "DarkSitting" "SETS_WITH_FEET" "[I") (ty := .int) (N := 3) (f := fun j => .int (y_sft j)) (A := A) (by decide) (hn _ (List.mem_of_getElem? (i := 31) rfl)) (va_eqt (hn _ (List.mem_of_getElem? (i := 32) rfl))) he hA
  exact ⟨t, va_Zref (hts _ (List.mem_append_right _ (tb_5 _ (List.mem_of_getElem? (i := 17) rfl)))) (hts _ (List.mem_append_right _ (tb_1 _ (List.mem_of_getElem? (i := 1) rfl)))) ht hA, hT⟩
set_option maxRecDepth 100000 in
theorem s_fm (hts : ∀ w ∈ lw_tbl, w.before args s = true) (hn : ∀ c ∈ flatC narrow_1, c.before args s = true) (hA : ∀ a : Nat, a < s.heap.size → ¬ A a) : va_Zq "jdk/internal/util/Preconditions" "SIOOBE_FORMATTER" "Ljava/util/function/BiFunction;" A s s.heap := va_Zqof (hts _ (List.mem_append_right _ (tb_3 _ (List.mem_of_getElem? (i := 134) rfl)))) (hts _ (List.mem_append_right _ (tb_1 _ (List.mem_of_getElem? (i := 21) rfl)))) (hn _ (List.mem_of_getElem? (i := 5) rfl)) hA
set_option maxRecDepth 100000 in
theorem s_us (hts : ∀ w ∈ lw_tbl, w.before args s = true) (hn : ∀ c ∈ flatC narrow_1, c.before args s = true) (hA : ∀ a : Nat, a < s.heap.size → ¬ A a) : vx_Zq Bundle.tN "UNASSIGNED_STACK" Bundle.steD A s s.heap := vx_Zqof (hts _ (List.mem_append_right _ (tb_3 _ (List.mem_of_getElem? (i := 15) rfl)))) (hts _ (List.mem_append_right _ (tb_1 _ (List.mem_of_getElem? (i := 12) rfl)))) (hn _ (List.mem_of_getElem? (i := 2) rfl)) hA
set_option maxRecDepth 100000 in
theorem s_ss (hts : ∀ w ∈ lw_tbl, w.before args s = true) (hn : ∀ c ∈ flatC narrow_1, c.before args s = true) (hA : ∀ a : Nat, a < s.heap.size → ¬ A a) : vx_Zq Bundle.tN "SUPPRESSED_SENTINEL" Bundle.listD A s s.heap := vx_Zqof (hts _ (List.mem_append_right _ (tb_3 _ (List.mem_of_getElem? (i := 17) rfl)))) (hts _ (List.mem_append_right _ (tb_1 _ (List.mem_of_getElem? (i := 12) rfl)))) (hn _ (List.mem_of_getElem? (i := 3) rfl)) hA
set_option maxRecDepth 100000 in
theorem s_cs (hts : ∀ w ∈ lw_tbl, w.before args s = true) (hn : ∀ c ∈ flatC narrow_1, c.before args s = true) (hA : ∀ a : Nat, a < s.heap.size → ¬ A a) : va_Z "java/lang/String" "COMPACT_STRINGS" "Z" (.int 1) A s s.heap := va_Zof (hts _ (List.mem_append_right _ (tb_3 _ (List.mem_of_getElem? (i := 118) rfl)))) (hts _ (List.mem_append_right _ (tb_1 _ (List.mem_of_getElem? (i := 19) rfl)))) (va_eqt (hn _ (List.mem_of_getElem? (i := 4) rfl))) hA
set_option maxRecDepth 100000 in
theorem s_I0 (hts : ∀ w ∈ lw_tbl, w.before args s = true) (hn : ∀ c ∈ flatC narrow_1, c.before args s = true) (hA : ∀ a : Nat, a < s.heap.size → ¬ A a) (k29 k63 : Nat) : ∃ K : Nat → Nat, K 29 = k29 ∧ K 63 = k63 ∧ y_I0 K A s s.heap := by
  obtain ⟨ad, had⟩ := Classical.axiomOfChoice (s_S1 hn hA)
  obtain ⟨t61, h61⟩ := s_swl hts hn hA
  obtain ⟨t62, h62⟩ := s_sos hts hn hA
  obtain ⟨t30, h30⟩ := s_shn hts hn hA
  obtain ⟨t31, h31⟩ := s_sft hts hn hA
  refine ⟨fun i => if i < 29 then (ad i).1 else if i = 29 then k29 else if i = 30 then t30 else if i = 31 then t31 else if i < 61 then (ad (i - 32)).2 else if i = 61 then t61 else if i = 62 then t62 else k63, rfl, rfl, fun i hi => ?_, fun i q hq => ?_, h61, ⟨h62, h30, h31⟩, s_cs hts hn hA, s_fm hts hn hA, s_nw hts, ⟨s_us hts hn hA, s_ss hts hn hA⟩, va_AO.of (hts _ (List.mem_append_right _ (tb_1 _ (List.mem_of_getElem? (i := 125) rfl)))), va_AO.of (hts _ (List.mem_append_right _ (tb_1 _ (List.mem_of_getElem? (i := 127) rfl)))), s_nc hn⟩
  · have e1 : (fun i => if i < 29 then (ad i).1 else if i = 29 then k29 else if i = 30 then t30 else if i = 31 then t31 else if i < 61 then (ad (i - 32)).2 else if i = 61 then t61 else if i = 62 then t62 else k63) i = (ad i).1 := if_pos hi
    have e2 : (fun i => if i < 29 then (ad i).1 else if i = 29 then k29 else if i = 30 then t30 else if i = 31 then t31 else if i < 61 then (ad (i - 32)).2 else if i = 61 then t61 else if i = 62 then t62 else k63) (32 + i) = (ad i).2 := by
      show (if 32 + i < 29 then (ad (32 + i)).1 else if 32 + i = 29 then k29 else if 32 + i = 30 then t30 else if 32 + i = 31 then t31 else if 32 + i < 61 then (ad (32 + i - 32)).2 else if 32 + i = 61 then t61 else if 32 + i = 62 then t62 else k63) = _
      rw [if_neg (by omega), if_neg (by omega), if_neg (by omega), if_neg (by omega), if_pos (by omega), show 32 + i - 32 = i by omega]
    unfold y_S1
    rw [e1, e2]
    exact (had i hi).2
  · have hi : i < 29 := by
      have := (List.getElem?_eq_some_iff.mp hq).1
      exact this
    have e1 : (fun i => if i < 29 then (ad i).1 else if i = 29 then k29 else if i = 30 then t30 else if i = 31 then t31 else if i < 61 then (ad (i - 32)).2 else if i = 61 then t61 else if i = 62 then t62 else k63) i = (ad i).1 := if_pos hi
    rw [e1]
    have hm : q ∈ y_str := List.mem_of_getElem? hq
    have ht := (had i hi).1
    have eq : y_str.getD i ("", 0, "") = q := by rw [List.getD_eq_getElem?_getD, hq]; rfl
    unfold s_tm at ht
    rw [eq] at ht
    exact vk_R.of (s_sr hts q hm) ht
end SG

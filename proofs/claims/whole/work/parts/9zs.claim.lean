/-! THE CLAIM OUT OF ONE WALK OF THE LAW'S BODY. Your part is whole_start (and what it stands on); all else here is the same for every law, but numbers. -/
def R_law : String := "DarkSittingLaw"
def lw_P (b : Addr) (xs : List Int32) (args : Array Value) (s : State) : Prop := args = #[.ref b] ∧ s.IntsAt b xs ∧ xs.length ≤ 3072 ∧ (Jvm.Cond.and given_1 narrow_1).before args s = true
def lw_Q (_ : Array Value) (s : State) (o : Outcome) (t : State) : Prop := o = .returned (some (.int 1)) ∧ Framed s o t [] 601024 7293034
def lw_Z (below : List Frame) (a : Array Value) (s : State) : State → Prop := fun t => ∃ o, t.status = .running ∧ Ended t below o ∧ lw_Q a s o t
/-- the law's own end, with 1 on the stack, nothing written that was there before, its room as the claim has it -/
theorem lw_ret {p : Program} {l : Launch} {e : Env} {s : State} {m : MethodId} {below : List Frame} {meth : Method} {c : Code} {b : Nat} (hx : p.tables.exec = Jvm.exec) (hb : c.code = code) (hr : meth.sig.returnType = ret) (hlocks : meth.locks = false) {pc : Nat} {H : Heap} {ls : Array Slot} (hdg : decode code pc = .ok (.ireturn, 1)) : W p l e room_1 s m #[Value.ref b] below meth c H [] 601024 7293034 (lw_Z below #[Value.ref b] s) (F0 m pc ls [.int 1]) := by
  intro T hT X
  obtain ⟨fs, hret, hrun, hended, hW, hframe⟩ := X.leave (v := some (.int 1)) (hlocks := hlocks) (fun h => by rw [hr] at h; cases h)
  have hmeth' : T.vm.method? m = some meth := X.method'
  refine ⟨T.setFrames fs, ?_, .returned (some (.int 1)), hrun, hended, rfl, ⟨_, rfl⟩, hW, hframe⟩
  jvm_step X.here [X.here.top, hx, hb, hdg, hmeth', hr, ret, narrow_b1]
  (try refine ⟨rfl, ?_⟩); (try refine ⟨rfl, ?_⟩)
  first | (intro acts; rw [hret _ acts rfl rfl rfl]) | rw [hret _ _ rfl rfl rfl]
  exact Steps.refl _
/-- what holds at the law's entry: the machine, the code, the tables' words (any of lw_tbl by 'hts w (by decide +kernel)'), the script of L ints xs at the cell b, what the Statement gives of the start (any of its parts by flat_of_before) -/
def lw_At (p : Program) (s : State) (m : MethodId) (meth : Method) (c : Code) (b L : Nat) (xs : Nat → Int32) : Prop :=
  p.tables.exec = Jvm.exec ∧ c.code = code ∧ meth.sig.returnType = ret ∧ c.maxLocals = 8 ∧ s.vm.findClass R_law = some m.cls ∧ (∀ w ∈ lw_tbl, w.before #[Value.ref b] s = true) ∧ va_X b L xs s s.heap ∧ b < s.heap.size ∧ meth.locks = false ∧ (Jvm.Cond.and given_1 narrow_1).before #[Value.ref b] s = true
theorem s_arr {args : Array Value} {s : State} {ty : FieldType} (hp : ∀ C, ty ≠ .object C) (h : (Cond.arrayClass ty).before args s = true) : ∃ cA : ClassId, ArrOfT s cA ty ∧ va_RA s cA ty := by
  obtain ⟨cA, kA, comp, h1, h2, h3⟩ := Cond.arrayClass_spec h
  refine ⟨cA, fun n z => ⟨fun k h => (by cases h), kA, h2, comp, h3⟩, ?_⟩
  cases ty with
  | object C => exact absurd rfl (hp C)
  | _ => exact h1
theorem s_arro {args : Array Value} {s : State} {C : String} (h : (Cond.arrayOver (.object C)).before args s = true) : ∃ cA : ClassId, ArrOfT s cA (.object C) ∧ va_RA s cA (.object C) := by
  obtain ⟨comp, c, k, h1, h2, h3, h4, h5⟩ := Cond.arrayOver_spec h
  exact ⟨c, fun n z => ⟨fun k h => (by cases h), k, h3, comp, h4⟩, k, comp, h3, h4, h1, h5⟩
set_option maxRecDepth 100000 in
set_option maxHeartbeats 4000000 in
/-- from the entry, for every script of at most 3072 ints, the law comes to its end with true -/
theorem whole_start {p : Program} {e : Env} {s : State} {m : MethodId} {below : List Frame} {meth : Method} {c : Code} (l : Launch) (hst : l.stackTraces = false) (hnm : meth.name = "law") {b L : Nat} {xs : Nat → Int32} (hL : L ≤ 3072) (C0 : lw_At p s m meth c b L xs) : W p l e room_1 s m #[Value.ref b] below meth c s.heap [] 0 0 (lw_Z below #[Value.ref b] s) (entryFrame m ([Value.ref b] : List Value).toArray 8) := by
  obtain ⟨hx, hb, hr, hml, hown, hts, hX, hbl, hlocks, hgv⟩ := C0
  have htg : ∀ w ∈ gT, w.before #[Value.ref b] s = true := fun w hw => hts w (List.mem_filter.mp hw).1
  have hs := flat_of_before _ hgv
  have hn : ∀ c ∈ flatC narrow_1, c.before #[Value.ref b] s = true := fun c hc => hs c (List.mem_append_right _ hc)
  have hA : ∀ a : Nat, a < s.heap.size → ¬ (fun q : Nat => s.heap.size ≤ q) a := fun a ha h => Nat.not_le.mpr ha h
  obtain ⟨c0, i0, hk0⟩ := u_known (C := RX0) (T := TX0) (N := 14) (n := 14) htg kX0.2.1 (hts (.instantiable RX0 14) (List.mem_append_right _ (tb_1 _ (List.mem_of_getElem? (i := 100) rfl))))
  obtain ⟨c1, i1, hk1⟩ := u_known (C := RX1) (T := TX1) (N := 8) (n := 8) htg kX1.2.1 (hts (.instantiable RX1 8) (List.mem_append_right _ (tb_1 _ (List.mem_of_getElem? (i := 224) rfl))))
  obtain ⟨c2, i2, hk2⟩ := u_known (C := RX2) (T := TX2) (N := 10) (n := 10) htg kX2.2.1 (hts (.instantiable RX2 10) (List.mem_append_right _ (tb_1 _ (List.mem_of_getElem? (i := 38) rfl))))
  obtain ⟨c3, i3, hk3⟩ := u_known (C := RX3) (T := TX3) (N := 3) (n := 3) htg kX3.2.1 (hts (.instantiable RX3 3) (List.mem_append_right _ (tb_2 _ (List.mem_of_getElem? (i := 56) rfl))))
  obtain ⟨c4, i4, hk4⟩ := u_known (C := RX4) (T := TX4) (N := 1) (n := 1) htg kX4.2.1 (hts (.instantiable RX4 1) (List.mem_append_right _ (tb_1 _ (List.mem_of_getElem? (i := 128) rfl))))
  obtain ⟨c5, i5, hk5⟩ := u_known (C := RX5) (T := TX5) (N := 4) (n := 4) htg kX5.2.1 (hts (.instantiable RX5 4) (List.mem_append_right _ (tb_1 _ (List.mem_of_getElem? (i := 44) rfl))))
  obtain ⟨c6, i6, hk6⟩ := u_known (C := RX6) (T := TX6) (N := 9) (n := 9) htg kX6.2.1 (hts (.instantiable RX6 9) (List.mem_append_right _ (tb_1 _ (List.mem_of_getElem? (i := 230) rfl))))
  obtain ⟨c7, i7, hk7⟩ := u_known (C := RX7) (T := TX7) (N := 3) (n := 3) htg kX7.2.1 (hts (.instantiable RX7 3) (List.mem_append_right _ (tb_1 _ (List.mem_of_getElem? (i := 106) rfl))))
  obtain ⟨c8, i8, hk8⟩ := u_known (C := RX9) (T := TX9) (N := 4) (n := 4) htg kX9.2.1 (hts (.instantiable RX9 4) (List.mem_append_right _ (tb_1 _ (List.mem_of_getElem? (i := 138) rfl))))
  obtain ⟨c9, i9, hk9⟩ := u_known (C := RX10) (T := TX10) (N := 11) (n := 11) htg kX10.2.1 (hts (.instantiable RX10 11) (List.mem_append_right _ (tb_1 _ (List.mem_of_getElem? (i := 30) rfl))))
  obtain ⟨c10, i10, hk10⟩ := u_known (C := RX11) (T := TX11) (N := 30) (n := 30) htg kX11.2.1 (hts (.instantiable RX11 30) (List.mem_append_right _ (tb_6 _ (List.mem_of_getElem? (i := 44) rfl))))
  obtain ⟨dC, dI, hKc⟩ : ∃ (dC : Nat → ClassId) (dI : Nat → Nat → Nat), ∀ (k : Nat) (q : vw_C), vwCl[k]? = some q → u_Kn s q.1 q.2.1 q.2.2 (dC k) (dI k) := by
    refine ⟨fun k => if k = 0 then c0 else if k = 1 then c1 else if k = 2 then c2 else if k = 3 then c3 else if k = 4 then c4 else if k = 5 then c5 else if k = 6 then c6 else if k = 7 then c7 else if k = 8 then c8 else if k = 9 then c9 else c10, fun k => if k = 0 then i0 else if k = 1 then i1 else if k = 2 then i2 else if k = 3 then i3 else if k = 4 then i4 else if k = 5 then i5 else if k = 6 then i6 else if k = 7 then i7 else if k = 8 then i8 else if k = 9 then i9 else i10, ?_⟩
    intro k q hq
    match k, hq with
    | 0, hq => cases hq; exact hk0
    | 1, hq => cases hq; exact hk1
    | 2, hq => cases hq; exact hk2
    | 3, hq => cases hq; exact hk3
    | 4, hq => cases hq; exact hk4
    | 5, hq => cases hq; exact hk5
    | 6, hq => cases hq; exact hk6
    | 7, hq => cases hq; exact hk7
    | 8, hq => cases hq; exact hk8
    | 9, hq => cases hq; exact hk9
    | 10, hq => cases hq; exact hk10
    | k + 11, hq => simp [vwCl] at hq
  obtain ⟨a0, ha0⟩ := s_arr (ty := .int) (fun C h => by cases h) (hts (.arrayClass .int) (List.mem_append_right _ (tb_1 _ (List.mem_of_getElem? (i := 66) rfl))))
  obtain ⟨a1, ha1⟩ := s_arr (ty := .byte) (fun C h => by cases h) (hts (.arrayClass .byte) (List.mem_append_right _ (tb_1 _ (List.mem_of_getElem? (i := 65) rfl))))
  obtain ⟨a2, ha2⟩ := s_arr (ty := .boolean) (fun C h => by cases h) (hts (.arrayClass .boolean) (List.mem_append_right _ (tb_6 _ (List.mem_of_getElem? (i := 140) rfl))))
  obtain ⟨a3, ha3⟩ := s_arr (ty := .long) (fun C h => by cases h) (hts (.arrayClass .long) (List.mem_append_right _ (tb_2 _ (List.mem_of_getElem? (i := 105) rfl))))
  obtain ⟨a4, ha4⟩ := s_arro (C := "DarkSitting$Rule") (hts (.arrayOver (.object "DarkSitting$Rule")) (List.mem_append_right _ (tb_1 _ (List.mem_of_getElem? (i := 125) rfl))))
  obtain ⟨a5, ha5⟩ := s_arro (C := "DarkSitting$Way") (hts (.arrayOver (.object "DarkSitting$Way")) (List.mem_append_right _ (tb_1 _ (List.mem_of_getElem? (i := 127) rfl))))
  obtain ⟨v9, k29, hv9, hz⟩ : ∃ (v : Value) (k29 : Nat), (v = .null ∨ v = .ref k29) ∧ va_Z "jdk/internal/util/Preconditions" "SIOOBE_FORMATTER" "Ljava/util/function/BiFunction;" v (fun q : Nat => s.heap.size ≤ q) s s.heap := by
    rcases s_fm hts hn hA with h | ⟨t, h⟩
    · exact ⟨.null, 0, Or.inl rfl, h⟩
    · exact ⟨.ref t, t, Or.inr rfl, h⟩
  obtain ⟨K, hK29, hK63, hI0⟩ := s_I0 hts hn hA k29 b
  obtain ⟨scr, x1, x2, x3, x4, x5⟩ := hX
  have hTs : va_T .int b L (fun j => .int (xs j)) (fun q : Nat => s.heap.size ≤ q) s s.heap := ⟨scr, x1, x2, x3, by omega, by rw [x4], x5, hA b hbl⟩
  obtain ⟨aC, haC⟩ : ∃ aC : Nat → ClassId, aC 0 = a0 ∧ aC 1 = a1 ∧ aC 2 = a2 ∧ aC 3 = a3 ∧ aC 4 = a4 ∧ aC 5 = a5 := ⟨fun k => if k = 0 then a0 else if k = 1 then a1 else if k = 2 then a2 else if k = 3 then a3 else if k = 4 then a4 else a5, rfl, rfl, rfl, rfl, rfl, rfl⟩
  obtain ⟨e0, e1, e2, e3, e4, e5⟩ := haC
  subst e0 e1 e2 e3 e4 e5
  obtain ⟨V, hVe⟩ : ∃ V : x_E, V = (l, dC, dI, aC, K, s.heap.size, fun U H => y_I0 K (fun q : Nat => s.heap.size ≤ q) U H ∧ va_Z "jdk/internal/util/Preconditions" "SIOOBE_FORMATTER" "Ljava/util/function/BiFunction;" v9 (fun q : Nat => s.heap.size ≤ q) U H ∧ va_T .int b L (fun j => .int (xs j)) (fun q : Nat => s.heap.size ≤ q) U H) := ⟨_, rfl⟩
  have hV : y_V V := by
    subst hVe
    exact ⟨hst, fun U H h => h.1⟩
  have hF : y_fm V := by
    subst hVe
    rcases hv9 with h9 | h9
    · refine ⟨.null, Or.inl rfl, fun U H h => ?_⟩
      have := h.2.1
      rw [h9] at this
      exact this
    · refine ⟨.ref 29, Or.inr rfl, fun U H h => ?_⟩
      have := h.2.1
      rw [h9, ← hK29] at this
      exact this
  have hT : law_S V L xs := by
    subst hVe
    intro U H h
    have := h.2.2
    rw [← hK63] at this
    exact this
  have hG : x_G V s s.heap := by
    subst hVe
    refine ⟨⟨fun u U H hW h => ⟨h.1.warm hW, va_Z.moved hW.alike h.2.1, va_T.moved hW.alike h.2.2⟩, fun U H H1 hz9 hq h => ⟨h.1.kept hq, h.2.1.kept hq, h.2.2.kept hq⟩⟩, ⟨hKc, fun k q hq => ?_⟩, hI0, hz, hTs⟩
    match k, hq with
    | 0, hq => cases hq; exact ha0
    | 1, hq => cases hq; exact ha1
    | 2, hq => cases hq; exact ha2
    | 3, hq => cases hq; exact ha3
    | 4, hq => cases hq; exact ha4
    | 5, hq => cases hq; exact ha5
    | k + 6, hq => simp [x_ty] at hq
  have hV1 : V.1 = l := by rw [hVe]
  have hV6 : V.2.2.2.2.2.1 = s.heap.size := by rw [hVe]
  have hV5 : V.2.2.2.2.1 63 = b := by rw [hVe]; exact hK63
  clear hVe
  subst hV1
  have hE : x_X V RL cL_law 8 (some .boolean) 40 601024 7293034 "law" (fun r _ => r = some (.int 1)) (fun ce sl pc ls st S => ∀ (H : Heap) (locs : List Loc) (arr : Array Slot), x_H V S H → va_S (x_A V) s.heap H locs → lv_has arr 8 (x_tl V ls) → W p V.1 e room_1 s m #[Value.ref b] below meth c H locs ce sl (lw_Z below #[Value.ref b] s) (F0 m pc arr (st.map (x_tv V)))) := by
    refine ⟨p, e, room_1, s, m, #[Value.ref b], below, meth, c, lw_Z below #[Value.ref b] s, ⟨hx, hb, hml, hnm, hown, htg, hG, by rw [hV6]; exact Nat.le_refl _, by decide, by decide, by decide, by decide⟩, rfl, ?_⟩
    intro ce sl pc ls v S hrt hQ hce hsl H locs arr hH hS hl
    subst hQ
    refine va_forget (fun q hq => by have := hS.2.2 q hq; unfold x_A at this; rw [hV6] at this; exact this) ?_
    refine W.widen hce hsl ?_
    exact lw_ret hx hb hr hlocks hrt.1
  have hmain := law_main hV hF hT hL hE
  have hl := lv_entry ([Value.ref b]) (n := 8) (Nat.le_of_ble_eq_true rfl)
  rw [lg_entry_eq]
  have hH0 : x_H V z_0 s.heap := ⟨(by rw [hV6]; rfl), Nat.le_refl _, (fun k q h => by simp [x_ws, z_0] at h), List.nodup_nil, (fun h hh => by simp [z_0] at hh)⟩
  refine hmain s.heap [] _ hH0 va_S.rf ?_
  have e63 : x_tl V [(0, Value.ref 63)] = [(0, Value.ref b)] := by
    show [(0, Value.ref (x_sg V 63))] = _
    rw [x_sg_fix (by decide), hV5]
  rw [e63]
  exact hl
set_option maxHeartbeats 4000000 in
theorem lw_walk (l : Launch) (hst : l.stackTraces = false) (b : Addr) (xs : List Int32) : MetFree l x (headSpec (Jvm.Cond.code x code maxLocals ret :: tables_1) room_1) (lw_P b xs) (fun _ _ _ _ _ => True) lw_Q := by
  refine MetFree.of_bodyS (code := code) (maxLocals := maxLocals) (ret := ret) (by decide) ?_ ?_
  · intro args s m h hn
    obtain ⟨meth, c, h1, h2, h3, h4, h5, h6, -, -⟩ := Cond.code_spec hn (atoms_spec (ws := Jvm.Cond.code x code maxLocals ret :: tables_1) h _ List.mem_cons_self)
    exact ⟨meth, c, h1, h2, h3, h4, h5, h6⟩
  · intro p e s m args below meth c s₁ B hml0 hP _
    obtain ⟨rfl, hx, hbd, hgv⟩ := hP
    obtain ⟨scr, harrAt, hlist, hof, hsmall⟩ := hx
    obtain ⟨hcb, hkn, -, -⟩ := State.arrayAt?_spec harrAt
    have hown : s.vm.findClass R_law = some m.cls := findClass_of_methodNamed B.named
    have hts0 : ∀ c ∈ (Jvm.Cond.code x code maxLocals ret :: tables_1), c.before #[Value.ref b] s = true := atoms_spec (ws := Jvm.Cond.code x code maxLocals ret :: tables_1) B.pre
    have hts : ∀ w ∈ lw_tbl, w.before #[Value.ref b] s = true := k2_hts_sels lw_privs (fun w hw => hts0 w (List.mem_cons_of_mem _ hw)) lw_privs_ok
    have hml : c.maxLocals = 8 := B.maxLocals_eq (hts0 _ List.mem_cons_self)
    have X₀ : Stand p l e room_1 s m #[Value.ref b] below meth c s₁ [] 0 0 := Stand.of_body B
    have hh0 : s₁.heap = s.heap := by rw [B.state]; rfl
    have hsz : scr.slots.size = xs.length := by rw [← Array.length_toList, hlist, List.length_map]
    have hval : ∀ j : Nat, j < xs.length → scr.slots[j]? = some (.int (xs.getD j 0)) := fun j hj => by
      rw [← Array.getElem?_toList, hlist]
      simp [hj]
    have hbl : b < s.heap.size := (Array.getElem?_eq_some_iff.mp hcb).1
    have hX : va_X b xs.length (fun j => xs.getD j 0) s s.heap := ⟨scr, hcb, hof, hkn, hsz, hval⟩
    have K : W p l e room_1 s m #[Value.ref b] below meth c s₁.heap [] 0 0 (lw_Z below #[Value.ref b] s) (entryFrame m ([Value.ref b] : List Value).toArray 8) := by
      rw [hh0]
      exact whole_start l hst (name_of_methodNamed B.named B.method).1 hbd ⟨B.exec, B.bytes, B.returns, hml, hown, hts, hX, hbl, B.notSynchronized, hgv⟩
    obtain ⟨t, a1, o, b1, b2, b3⟩ := K s₁ rfl X₀
    exact ⟨t, o, a1, b1, b2, b3⟩
theorem lw_pre_spec {args : Array Value} {s : State} (h : (Jvm.Cond.and given_1 narrow_1).before args s = true) (hr : rest_1_c.before args s = true) : ∃ (b : Addr) (xs : List Int32), lw_P b xs args s := by
  have hs := flat_of_before _ h
  have hq := flat_of_before _ hr
  have hc : (Cond.count 1).before args s = true := hs _ (by decide +kernel)
  have harr : (Cond.arrayOf (.arg 0) .int).before args s = true := hs _ (by decide +kernel)
  have hle : (Cond.le (.length (.arg 0)) (.int 3072)).before args s = true := hs _ (by decide +kernel)
  have hlen : (Cond.isInt (.length (.arg 0))).before args s = true := hq _ (by decide +kernel)
  have hall : (Cond.all (.arg 0) (.isInt (.elem (.arg 0) (.index 0)))).before args s = true := hq _ (by decide +kernel)
  obtain ⟨b, xs, hb, hx⟩ := State.ints_of_pre rfl harr hlen hall
  have hsm : xs.length < 2 ^ 31 := hx.choose_spec.2.2.2
  have hev : (Term.length (.arg 0)).eval args s none [] s = some (.int xs.length.toInt32) := hx.length_eval hb
  have hv := Cond.le_ints hev (show (Term.int 3072).eval args s none [] s = some (.int 3072) from rfl)
  have hd : xs.length.toInt32 ≤ 3072 := by
    simpa [Cond.before, Cond.holds, hv] using hle
  have hN : xs.length ≤ 3072 := (Int32.ofNat_le_ofNat hsm (by decide)).mp (show Int32.ofNat xs.length ≤ Int32.ofNat 3072 from hd)
  exact ⟨b, xs, Cond.one_arg hc (show args[0]? = some (.ref b) from hb), hx, hN, h⟩
theorem lw_comes (l : Launch) (hst : l.stackTraces = false) : Comes l x (Jvm.Cond.code x code maxLocals ret :: tables_1) room_1 (fun tb e args s => Calls_1 tb e args s ∧ rest_1 tb e args s ∧ Pre_1 tb e args s)
    (fun _ _ args s o t => lw_Q args s o t) := by
  intro p e ha hc hk s m args below hf hfit hheap happ hpre
  obtain ⟨b, xs, hP⟩ := lw_pre_spec hpre.2.2 hpre.2.1
  obtain ⟨k, o, h1, h2, h3, hQ⟩ := lw_walk l hst b xs p e ha hc hk s m args below hf ((Spec.applies_iff_loose hf).mp happ).1 hP trivial
  exact ⟨k, o, h1, h2, h3, hQ⟩
theorem lw_frame {s t : State} {o : Outcome} {args : Array Value} (h : Framed s o t [] 601024 7293034) :
    Framed s o t (fieldLocs frame_1_writes args s ++ arrayLocs frame_1_arrays args s ++ staticLocs frame_1_statics s) 601024 7293034 := h
theorem lw_limb (L : Cond) (hL : ∀ (args : Array Value) (s t : State), L.after args s (.returned (some (.int 1))) t = true) :
    ArmFor flags0 classFile x code maxLocals ret World_1 tables_1 room_1 Calls_1 rest_1 Pre_1
      (fun tb e a s o t => postC L tb e a s o t ∧ Framed s o t (fieldLocs frame_1_writes a s ++ arrayLocs frame_1_arrays a s ++ staticLocs frame_1_statics s) 601024 7293034) := by
  intro l hfl _ _ p e ha hc hk s m args below hf hfit hheap happ hpre
  have hst : l.stackTraces = false := by
    unfold Launch.stackTraces
    rw [hfl]
    decide
  obtain ⟨k, o, h1, h2, h3, rfl, hF⟩ := lw_comes l hst p e ha hc hk s m args below hf hfit hheap happ hpre
  exact ⟨k, _, h1, h2, h3, hL args s _, lw_frame hF⟩
theorem i_vc : Claimed_1_1 ∧ Claimed_1_2 := ⟨lw_limb limb_1_1 (fun args s t => by simp [limb_1_1, Cond.after, Cond.holds, Cond.value]), lw_limb limb_1_2 (fun args s t => Cond.after_iff.mpr (by
  first | (rw [show limb_1_2 = Cond.eq .result (.int 1) from rfl, Cond.eq_ints (x := 1) (y := 1) rfl rfl]; simp; done) | (simp [limb_1_2, Cond.value, Term.eval]; done)))⟩

/-! methods that throw, and those that catch -/
abbrev x_PX : Type := Nat → Nat → Nat → List (Nat × Value) → List Value → x_S → String → Prop
/-- what a 'throw new cls(text)' at pc needs: its five instructions, the class' words -/
def x_Th (V : x_E) (own : String) (cc : ByteArray) (pc : Nat) (cls : String) (names : List String) : Prop :=
  ∃ (text : String) (ik is ic sa : Nat), Bundle.fit cls = true ∧ (∀ n ∈ names, Bundle.fit n = true) ∧ Cond.classLink own ik cls ∈ gT ∧ Cond.initialized cls ∈ gT ∧ (∀ (U : State) (H : Heap), V.2.2.2.2.2.2 U H → vk_R own is text sa U) ∧
    (∀ (U : State) (H : Heap) (A : Array Value), V.2.2.2.2.2.2 U H → (∀ w ∈ gT, w.before A U = true) → ∀ w ∈ vx_atS own ic cls names, w.before A U = true) ∧ (∀ w ∈ Cond.classLink own ik cls :: Cond.initialized cls :: vx_atS own ic cls names, vx_ot w = true) ∧
    (∀ (U : State) (H : Heap), V.2.2.2.2.2.2 U H → vx_Zq Bundle.tN "UNASSIGNED_STACK" Bundle.steD (x_A V) U H ∧ vx_Zq Bundle.tN "SUPPRESSED_SENTINEL" Bundle.listD (x_A V) U H) ∧
    decode cc pc = .ok (.new ik, 3) ∧ decode cc (pc + 3) = .ok (.dup, 1) ∧ decode cc (pc + 4) = .ok (.ldc_w is, 3) ∧ decode cc (pc + 7) = .ok (.invokespecial ic, 3) ∧ decode cc (pc + 10) = .ok (.athrow, 1)
def x_XX (V : x_E) (own : String) (cc : ByteArray) (nL : Nat) (ret : Option FieldType) (d MC MS : Nat) (nm : String) (hh : List (Nat × Nat × Nat × Nat)) (Q : Option Value → x_S → Prop) (QX : String → x_S → Prop) (E : x_P) (EX : x_PX) : Prop :=
  ∃ (p : Program) (e : Env) (R : Room) (s : State) (m : MethodId) (args : Array Value) (below : List Frame) (meth : Method) (c : Code) (QW : State → Prop),
    (p.tables.exec = Jvm.exec ∧ c.code = cc ∧ c.maxLocals = nL ∧ meth.name = nm ∧ s.vm.findClass own = some m.cls ∧ (∀ w ∈ gT, w.before args s = true) ∧ x_G V s s.heap ∧ V.2.2.2.2.2.1 ≤ s.heap.size ∧ d ≤ R.frames ∧ 64 * d ≤ R.locals ∧ MC ≤ R.cells ∧ MS ≤ R.slots) ∧
    (E = fun ce sl pc ls st S => ∀ (H : Heap) (locs : List Loc) (arr : Array Slot), x_H V S H → va_S (x_A V) s.heap H locs → lv_has arr nL (x_tl V ls) → W p V.1 e R s m args below meth c H locs ce sl QW (F0 m pc arr (st.map (x_tv V)))) ∧
    (∀ (ce sl pc : Nat) (ls : List (Nat × Value)) (v : Option Value) (S : x_S), x_rt cc ret pc v → Q v S → ce ≤ MC → sl ≤ MS → E ce sl pc ls v.toList S) ∧
    c.exceptionTable.toList = tableOf hh ∧
    (EX = fun ce sl pc ls st S E9 => ∀ (H : Heap) (locs : List Loc) (arr : Array Slot) (q : Addr) (cell : Cell), x_H V S H → va_S (x_A V) s.heap H locs → lv_has arr nL (x_tl V ls) → H[q]? = some cell → cell.vm = .none → s.vm.findClass E9 = some cell.cls → vx_W p V.1 e R s m args below meth c H locs ce sl QW (F0 m pc arr (st.map (x_tv V))) q) ∧
    (∀ (ce sl pc : Nat) (ls : List (Nat × Value)) (st : List Value) (S : x_S) (E9 : String), QX E9 S → (∀ z ∈ tableOf hh, covers z pc = false) → ce ≤ MC → sl ≤ MS → EX ce sl pc ls st S E9) ∧
    (∀ (ce sl pc : Nat) (ls : List (Nat × Value)) (S : x_S) (cls : String) (names : List String), x_Th V own cc pc cls names → (∀ z ∈ tableOf hh, covers z (pc + 10) = false) → names.length + 4 ≤ d → (∀ k, S.1 ≤ k → QX cls (k, S.2)) → ce + 1 ≤ MC → sl + 6 ≤ MS → E ce sl pc ls [] S)
theorem x_XX.x {V : x_E} {own : String} {cc : ByteArray} {nL : Nat} {ret : Option FieldType} {d MC MS : Nat} {nm : String} {hh : List (Nat × Nat × Nat × Nat)} {Q : Option Value → x_S → Prop} {QX : String → x_S → Prop} {E : x_P} {EX : x_PX} (h : x_XX V own cc nL ret d MC MS nm hh Q QX E EX) : x_X V own cc nL ret d MC MS nm Q E := by
  obtain ⟨p, e, R, s, m, args, below, meth, c, QW, h1, h2, h3, -⟩ := h
  exact ⟨p, e, R, s, m, args, below, meth, c, QW, h1, h2, h3⟩
/-- a contract of a method that may throw -/
def x_Cx (V : x_E) (y : MethodName) (cc : ByteArray) (nL : Nat) (ret : Option FieldType) (d mc ms : Nat) (P : List Value → x_S → Prop) (Q : List Value → x_S → Option Value → x_S → Prop) (QX : List Value → x_S → String → x_S → Prop) : Prop :=
  ∀ (a : List Value) (S : x_S), P a S → vx_Met V.1 y (x_W y cc nL ret) { frames := d, cells := mc, slots := ms, locals := 64 * d } (fun av U => av = (a.map (x_tv V)).toArray ∧ x_R V S U)
    (fun _ st o t => ∃ (r : Option Value) (S' : x_S), o = .returned (r.map (x_tv V)) ∧ Q a S r S' ∧ x_R V S' t ∧ va_F (x_A V) st t) (fun E9 st t => ∃ S' : x_S, QX a S E9 S' ∧ x_H V S' t.heap ∧ va_F (x_A V) st t) mc ms (x_A V)
theorem x_cx {V : x_E} {y : MethodName} {cc : ByteArray} {nL : Nat} {ret : Option FieldType} {d mc ms : Nat} {P : List Value → x_S → Prop} {Q : List Value → x_S → Option Value → x_S → Prop} {QX : List Value → x_S → String → x_S → Prop} (hy : plainName y.cls = true) (hlt : V.1.stackTraces = false)
    (hn : ∀ a S, P a S → (lg_sl a).length ≤ nL)
    (body : ∀ (a : List Value) (S : x_S), P a S → ∀ E EX, x_XX V y.cls cc nL ret d mc ms y.name [] (Q a S) (QX a S) E EX → E 0 0 0 (lv_args 0 a) [] S) : x_Cx V y cc nL ret d mc ms P Q QX := by
  intro a S hP
  refine vx_ofW (cc := cc) (maxL := nL) (ret := ret) hy rfl ?_
  intro p e s m args below meth c s₁ B hml htab hv
  obtain ⟨rfl, hH, hG⟩ := hv
  have hts := atoms_spec (ws := x_W y cc nL ret) B.pre
  have hlocks := B.notSynchronized
  have hr := B.returns
  have h0 : V.2.2.2.2.2.1 ≤ s.heap.size := by rw [hH.1]; omega
  have htab0 : c.exceptionTable.toList = tableOf [] := by
    cases h : c.exceptionTable.toList with
    | nil => rfl
    | cons z r => exact absurd (show z ∈ c.exceptionTable.toList by rw [h]; exact List.mem_cons_self) (htab z)
  have hl := lv_entry (a.map (x_tv V)) (n := nL) (by rw [x_len]; exact hn a S hP)
  rw [lg_entry_eq]
  rw [← x_args] at hl
  have hgT : ∀ w ∈ gT, w.before (a.map (x_tv V)).toArray s = true := fun w hw => hts w (List.mem_cons_of_mem _ hw)
  have hown := findClass_of_methodNamed B.named
  refine body a S hP _ _ ⟨p, e, _, s, m, _, below, meth, c, _, ⟨B.exec, B.bytes, hml, (name_of_methodNamed B.named B.method).1, hown, hgT, hG, h0, Nat.le_refl _, Nat.le_refl _, Nat.le_refl _, Nat.le_refl _⟩, rfl, ?_, htab0, rfl, ?_, ?_⟩ s.heap [] _ hH va_S.rf hl
  · intro ce sl pc ls v S' hrt hQ hce hsl H locs arr hH' hS _
    refine W.widen hce hsl (vx_ret ?_)
    have key : ∀ t : State, t.heap = H → s.WarmedH t.vm → (∃ (r : Option Value) (S' : x_S), Outcome.returned (v.map (x_tv V)) = .returned (r.map (x_tv V)) ∧ Q a S r S' ∧ x_R V S' t ∧ va_F (x_A V) s t) :=
      fun t ht hW => ⟨v, S', rfl, hQ, x_gain hG h0 hH' hS ht hW, hS.F ht⟩
    match v, hrt with
    | none, ⟨hd, he⟩ => exact W.vret B.exec B.bytes (hr.trans he) key hS.2.2 hd
    | some (.int z), ⟨hd, ty, he, hnn⟩ => exact W.zret B.exec B.bytes (hr.trans he) hnn key hS.2.2 hd
    | some (.long z), ⟨hd, he⟩ => exact W.lret B.exec B.bytes (hr.trans he) key hS.2.2 hd
    | some (.ref z), ⟨hd, ty, he, ht⟩ => exact W.aret B.exec B.bytes (hr.trans he) ht (Or.inr ⟨_, rfl⟩) key hS.2.2 hd
  · intro ce sl pc ls st S' E9 hQ _ hce hsl H locs arr q cell hH' hS _ hcell hv hcl
    exact vx_out (fun x hx => (htab x hx).elim) hlocks hcell hv hcl (fun t ht _ => ⟨S', hQ, by rw [ht]; exact hH', hS.F ht⟩) hS.2.2 hce hsl
  · intro ce sl pc ls S' cls names hT _ hd hQ hce hsl H locs arr hH' hS hl'
    obtain ⟨text, ik, is, ic, sa, t1, t2, t3, t4, t5, t6, t7, t8, d0, d3, d4, d7, d10⟩ := hT
    have hI := hG.2.2
    refine vx_throwSW B.exec B.bytes hlt hown t1 t2 (hgT _ t3) (hgT _ t4) (t5 s s.heap hI) (t6 s s.heap _ hI hgT) t7 (t8 s s.heap hI).1 (t8 s s.heap hI).2 hS (hl'.1.trans hml.symm) d0 d3 d4 d7 d10 (fun x hx => (htab x hx).elim) ?_ ?_ hce hsl hlocks ?_ hS.2.2 hce hsl
    · show names.length + 3 < d
      omega
    · show _ + (13 * (names.length + 1) + 43) ≤ 64 * d
      simp only [List.map_nil, List.sum_nil]
      omega
    · intro t _ hz ho
      obtain ⟨z1, z2, z3, z4, z5⟩ := hH'
      refine ⟨(t.heap.size - V.2.2.2.2.2.1 + 64, S'.2), hQ _ (by omega), ⟨by show _ = _ + (_ + 64 - 64); omega, by show 64 ≤ _ + 64; omega, z3.kept (fun k x hx => ho x.1 ((z3 k x hx).lt)), z4, fun h hh => ⟨(z5 h hh).1, ?_⟩⟩, ⟨Nat.le_trans hS.1 hz, fun q h1 h2 => (ho q (Nat.lt_of_lt_of_le h1 hS.1)).trans (hS.2.1 q h1 h2)⟩⟩
      have := (z5 h hh).2
      show x_pm h < _ + 64
      omega
section R16
variable {V : x_E} {own nm : String} {cc : ByteArray} {nL d MC MS pc ce sl : Nat} {ret : Option FieldType} {hh : List (Nat × Nat × Nat × Nat)} {Q : Option Value → x_S → Prop} {QX : String → x_S → Prop} {E : x_P} {EX : x_PX} {ls : List (Nat × Value)} {st st0 : List Value} {S : x_S}
variable {i : Nat} {y : MethodName} {cc2 : ByteArray} {nL2 d2 mc ms : Nat} {ret2 : Option FieldType} {P : List Value → x_S → Prop} {Qy : List Value → x_S → Option Value → x_S → Prop} {QXy : List Value → x_S → String → x_S → Prop}
theorem r_throw (hE : x_XX V own cc nL ret d MC MS nm hh Q QX E EX) {cls : String} {names : List String} (hT : x_Th V own cc pc cls names) (ht : ∀ z ∈ tableOf hh, covers z (pc + 10) = false) (hd : names.length + 4 ≤ d) (hQ : ∀ k, S.1 ≤ k → QX cls (k, S.2)) (hce : ce + 1 ≤ MC) (hsl : sl + 6 ≤ MS) : E ce sl pc ls [] S := by
  obtain ⟨p, e, R, s, m, args, below, meth, c, QW, -, -, -, -, -, -, h⟩ := hE
  exact h ce sl pc ls S cls names hT ht hd hQ hce hsl
/-- it goes on to the caller -/
theorem r_out (hE : x_XX V own cc nL ret d MC MS nm [] Q QX E EX) {E9 : String} (hQ : QX E9 S) (hce : ce ≤ MC) (hsl : sl ≤ MS) : EX ce sl pc ls st S E9 := by
  obtain ⟨p, e, R, s, m, args, below, meth, c, QW, -, -, -, -, -, h, -⟩ := hE
  exact h ce sl pc ls st S E9 hQ (fun z hz => by cases hz) hce hsl
theorem x_backX {p : Program} {e : Env} {R : Room} {s : State} {m : MethodId} {args : Array Value} {below : List Frame} {meth : Method} {c : Code} {QW : State → Prop} {H : Heap} {locs : List Loc} {arr : Array Slot} {stw : List Value} {a : List Value}
    (hS : va_S (x_A V) s.heap H locs)
    (hr : vx_Run p V.1 e R s m args below meth c H locs ce sl mc ms (F0 m pc arr stw) (st.map (x_tv V)) (fun st9 o t => ∃ (r : Option Value) (S' : x_S), o = .returned (r.map (x_tv V)) ∧ Qy a S r S' ∧ x_R V S' t ∧ va_F (x_A V) st9 t) (fun E9 st9 t => ∃ S' : x_S, QXy a S E9 S' ∧ x_H V S' t.heap ∧ va_F (x_A V) st9 t) (x_A V))
    (kk : ∀ (r : Option Value) (S' : x_S), Qy a S r S' → ∀ (H : Heap) (locs : List Loc), x_H V S' H → va_S (x_A V) s.heap H locs → W p V.1 e R s m args below meth c H locs (ce + mc) (sl + ms) QW (F0 m (pc + 3) arr ((r.toList ++ st).map (x_tv V))))
    (kx : ∀ (E9 : String) (S' : x_S), QXy a S E9 S' → ∀ (H : Heap) (locs : List Loc) (q : Addr) (cell : Cell), x_H V S' H → va_S (x_A V) s.heap H locs → H[q]? = some cell → cell.vm = .none → s.vm.findClass E9 = some cell.cls → vx_W p V.1 e R s m args below meth c H locs (ce + mc) (sl + ms) QW (F0 m pc arr (st.map (x_tv V))) q) :
    W p V.1 e R s m args below meth c H locs ce sl QW (F0 m pc arr stw) := by
  have keep : ∀ {st9 t T2 : State} {L : List Loc}, st9.heap = H → T2.heap = t.heap → (∀ q ∈ L, x_A V q.base) → va_F (x_A V) st9 t → va_S (x_A V) s.heap T2.heap (locs ++ L) := by
    intro st9 t T2 L h0 e1 hL hF
    have hz : H.size ≤ T2.heap.size := by rw [e1, ← h0]; exact hF.1
    refine ⟨Nat.le_trans hS.1 hz, fun q h1 h2 => ?_, fun q hq9 => ?_⟩
    · rw [e1, hF.2 q (by rw [h0]; exact Nat.lt_of_lt_of_le h1 hS.1) h2, h0]
      exact hS.2.1 q h1 h2
    · rcases List.mem_append.mp hq9 with h | h
      · exact hS.2.2 q h
      · exact hL q h
  intro T hT X
  rcases hr T hT X with ⟨v, st9, t, T2, L, h0, X2, hL, e1, e2, ⟨r, S2, hv, hq, hR, hF⟩, hst⟩ | ⟨q, st9, t, T2, L, E9, cell, h0, X2, hL, e1, e2, ⟨S2, hq, hR, hF⟩, hce, hcv, hcl, hst⟩
  · cases hv
    obtain ⟨t2, a1, b1⟩ := kk r S2 hq T2.heap (locs ++ L) (by rw [e1]; exact hR.1) (keep h0 e1 hL hF) T2 rfl X2
    refine ⟨t2, hst t2 ?_, b1⟩
    have e9 : (r.map (x_tv V)).toList ++ st.map (x_tv V) = (r.toList ++ st).map (x_tv V) := by cases r <;> rfl
    rw [e9]
    exact a1
  · obtain ⟨t2, a1, b1⟩ := kx E9 S2 hq T2.heap (locs ++ L) q cell (by rw [e1]; exact hR) (keep h0 e1 hL hF) (by rw [e1]; exact hce) hcv hcl T2 rfl X2
    exact ⟨t2, Steps.trans hst a1, b1⟩
/-- a static method that may throw -/
theorem r_invsX (hE : x_XX V own cc nL ret d MC MS nm hh Q QX E EX) (a : List Value) (hC : x_Cx V y cc2 nL2 ret2 d2 mc ms P Qy QXy) (hY : x_YS y cc2 nL2 ret2 a.length) (hl : Cond.methodLink own i y ∈ gT) (hd : decode cc pc = .ok (.invokestatic i, 3)) (hst : st0 = a.reverse ++ st) (hdd : d2 + 1 ≤ d) (hcap : ce + mc ≤ MC ∧ sl + ms ≤ MS) (hW : (st.map fun v => v.category).sum ≤ 8) (hp : P a S)
    (kk : ∀ (r : Option Value) (S' : x_S), Qy a S r S' → E (ce + mc) (sl + ms) (pc + 3) ls (r.toList ++ st) S') (kx : ∀ (E9 : String) (S' : x_S), QXy a S E9 S' → EX (ce + mc) (sl + ms) pc ls st S' E9) : E ce sl pc ls st0 S := by
  subst hst
  obtain ⟨p, e, R, s, m, args, below, meth, c, QW, ⟨hx, hb, hml, hnm, hown, hts, hG, h0, hdf, hdl, hMC, hMS⟩, rfl, hret, htab, rfl, hout, hthr⟩ := hE
  intro H locs arr hH hS hla
  have cw := x_callB (mc := mc) (ms := ms) (d2 := d2) hts hY.1 hl hdf hdl hdd
  exact x_backX hS (vx_runS (As := a.map (x_tv V)) ⟨hx, hb, hml, hown, hts⟩ (hC a S hp) ⟨cw, hts _ hY.2⟩ (x_pre hG h0 hH hS) rfl (List.length_map _) hla.1 (by show (a.reverse ++ st).map (x_tv V) = _; rw [List.map_append, List.map_reverse]) (lv_room (by rw [x_sumcat]; exact hW)) hd ⟨Nat.le_trans hcap.1 hMC, Nat.le_trans hcap.2 hMS⟩) (fun r S2 hq H1 locs1 hH1 hS1 => kk r S2 hq H1 locs1 arr hH1 hS1 hla) (fun E9 S2 hq H1 locs1 q cell hH1 hS1 h1 h2 h3 => kx E9 S2 hq H1 locs1 arr q cell hH1 hS1 hla h1 h2 h3)
/-- a method of an object that may throw -/
theorem r_invvX (hE : x_XX V own cc nL ret d MC MS nm hh Q QX E EX) {h ci : Nat} {fs : List Value} {T : u_T} {N : Nat} (a : List Value) (hC : x_Cx V y cc2 nL2 ret2 d2 mc ms P Qy QXy) (hY : x_YV y cc2 nL2 ret2 a.length) (hl : Cond.methodLink own i y ∈ gT) (hd : decode cc pc = .ok (.invokevirtual i, 3)) (hst : st0 = a.reverse ++ .ref h :: st) (hm : h ∈ S.2.1) (hc : S.2.2 h = .inr (ci, fs)) (hcl : vwCl[ci]? = some (y.cls, T, N)) (hdd : d2 + 1 ≤ d) (hcap : ce + mc ≤ MC ∧ sl + ms ≤ MS) (hW : (st.map fun v => v.category).sum ≤ 8) (hp : P (.ref h :: a) S)
    (kk : ∀ (r : Option Value) (S' : x_S), Qy (.ref h :: a) S r S' → E (ce + mc) (sl + ms) (pc + 3) ls (r.toList ++ st) S') (kx : ∀ (E9 : String) (S' : x_S), QXy (.ref h :: a) S E9 S' → EX (ce + mc) (sl + ms) pc ls st S' E9) : E ce sl pc ls st0 S := by
  subst hst
  obtain ⟨p, e, R, s, m, args, below, meth, c, QW, ⟨hx, hb, hml, hnm, hown, hts, hG, h0, hdf, hdl, hMC, hMS⟩, rfl, hret, htab, rfl, hout, hthr⟩ := hE
  intro H locs arr hH hS hla
  have cw := x_callB (mc := mc) (ms := ms) (d2 := d2) hts hY.1 hl hdf hdl hdd
  obtain ⟨k0, -, hk0⟩ := x_in (V := V) hm
  rw [hc] at hk0
  have hrc := va_recv hG.2.1 hH.2.2.1 hcl hk0
  have hpp := x_pre (a := .ref h :: a) hG h0 hH hS
  exact x_backX hS (vx_runV (As := a.map (x_tv V)) ⟨hx, hb, hml, hown, hts⟩ (hC (.ref h :: a) S hp) ⟨cw, hts _ hY.2.1, hts _ hY.2.2⟩ ⟨hpp.1, hrc, hpp.2⟩ rfl (List.length_map _) hla.1 (by show (a.reverse ++ .ref h :: st).map (x_tv V) = _; rw [List.map_append, List.map_reverse]; rfl) (lv_room (by rw [x_sumcat]; exact hW)) hd ⟨Nat.le_trans hcap.1 hMC, Nat.le_trans hcap.2 hMS⟩) (fun r S2 hq H1 locs1 hH1 hS1 => kk r S2 hq H1 locs1 arr hH1 hS1 hla) (fun E9 S2 hq H1 locs1 q cell hH1 hS1 h1 h2 h3 => kx E9 S2 hq H1 locs1 arr q cell hH1 hS1 hla h1 h2 h3)
end R16
/-! methods that catch -/
def x_Wh (y : MethodName) (cc : ByteArray) (nL : Nat) (ret : Option FieldType) (hh : List (Nat × Nat × Nat × Nat)) : List Cond := .codeWith y cc nL ret hh :: gT
def x_Ch (V : x_E) (y : MethodName) (cc : ByteArray) (nL : Nat) (ret : Option FieldType) (hh : List (Nat × Nat × Nat × Nat)) (d mc ms : Nat) (P : List Value → x_S → Prop) (Q : List Value → x_S → Option Value → x_S → Prop) : Prop :=
  ∀ (a : List Value) (S : x_S), P a S → Met V.1 y (x_Wh y cc nL ret hh) { frames := d, cells := mc, slots := ms, locals := 64 * d } (fun av U => av = (a.map (x_tv V)).toArray ∧ x_R V S U)
    (fun _ st o t => ∃ (r : Option Value) (S' : x_S), o = .returned (r.map (x_tv V)) ∧ Q a S r S' ∧ x_R V S' t ∧ va_F (x_A V) st t) mc ms (x_A V)
theorem x_ch {V : x_E} {y : MethodName} {cc : ByteArray} {nL : Nat} {ret : Option FieldType} {hh : List (Nat × Nat × Nat × Nat)} {d mc ms : Nat} {P : List Value → x_S → Prop} {Q : List Value → x_S → Option Value → x_S → Prop} (hy : plainName y.cls = true)
    (hn : ∀ a S, P a S → (lg_sl a).length ≤ nL)
    (body : ∀ (a : List Value) (S : x_S), P a S → ∀ E EX, x_XX V y.cls cc nL ret d mc ms y.name hh (Q a S) (fun _ _ => False) E EX → E 0 0 0 (lv_args 0 a) [] S) : x_Ch V y cc nL ret hh d mc ms P Q := by
  intro a S hP
  refine va_MetW (cc := cc) (maxL := nL) (ret := ret) (hh := hh) hy rfl ?_
  intro p e s m args below meth c s₁ B hml hv
  obtain ⟨rfl, hH, hG⟩ := hv
  have hts := atoms_spec (ws := x_Wh y cc nL ret hh) B.pre
  have hlocks := B.notSynchronized
  have hr := B.returns
  have h0 : V.2.2.2.2.2.1 ≤ s.heap.size := by rw [hH.1]; omega
  have htab := vx_table (x := y) B (hts _ List.mem_cons_self)
  have hl := lv_entry (a.map (x_tv V)) (n := nL) (by rw [x_len]; exact hn a S hP)
  rw [lg_entry_eq]
  rw [← x_args] at hl
  refine body a S hP _ _ ⟨p, e, _, s, m, _, below, meth, c, _, ⟨B.exec, B.bytes, hml, (name_of_methodNamed B.named B.method).1, findClass_of_methodNamed B.named, fun w hw => hts w (List.mem_cons_of_mem _ hw), hG, h0, Nat.le_refl _, Nat.le_refl _, Nat.le_refl _, Nat.le_refl _⟩, rfl, ?_, htab, rfl, (fun _ _ _ _ _ _ _ hQ => hQ.elim), (fun _ _ _ _ S9 _ _ _ _ _ hQ => (hQ S9.1 (Nat.le_refl _)).elim)⟩ s.heap [] _ hH va_S.rf hl
  intro ce sl pc ls v S' hrt hQ hce hsl H locs arr hH' hS _
  refine W.widen hce hsl ?_
  have key : ∀ t : State, t.heap = H → s.WarmedH t.vm → (∃ (r : Option Value) (S' : x_S), Outcome.returned (v.map (x_tv V)) = .returned (r.map (x_tv V)) ∧ Q a S r S' ∧ x_R V S' t ∧ va_F (x_A V) s t) :=
    fun t ht hW => ⟨v, S', rfl, hQ, x_gain hG h0 hH' hS ht hW, hS.F ht⟩
  match v, hrt with
  | none, ⟨hd, he⟩ => exact W.vret B.exec B.bytes (hr.trans he) key hS.2.2 hd
  | some (.int z), ⟨hd, ty, he, hnn⟩ => exact W.zret B.exec B.bytes (hr.trans he) hnn key hS.2.2 hd
  | some (.long z), ⟨hd, he⟩ => exact W.lret B.exec B.bytes (hr.trans he) key hS.2.2 hd
  | some (.ref z), ⟨hd, ty, he, ht⟩ => exact W.aret B.exec B.bytes (hr.trans he) ht (Or.inr ⟨_, rfl⟩) key hS.2.2 hd
theorem x_dr_has {V : x_E} {ls : List (Nat × Value)} {arr : Array Slot} {nL i : Nat} {v : Value} (h : lv_has arr nL ((i, v) :: (x_tl V ls).filter (fun q => !(q.1 == i) && !(q.1 + 1 == i && q.2.category == 2)))) : lv_has arr nL (x_tl V (x_dr (x_d2 ls i) i)) := by
  refine ⟨h.1, h.2.1, fun q hq => h.2.2 q ?_⟩
  unfold x_tl at hq
  obtain ⟨q', h1, rfl⟩ := List.mem_map.mp hq
  obtain ⟨h2, h3⟩ := x_dr_mem h1
  obtain ⟨h4, h5⟩ := x_d2_mem h2
  refine List.mem_cons_of_mem _ (List.mem_filter.mpr ⟨List.mem_map.mpr ⟨q', h4, rfl⟩, ?_⟩)
  have h5' : ¬ (q'.1 + 1 = i ∧ (x_tv V q'.2).category = 2) := by rw [x_cat]; exact h5
  simp only [Bool.and_eq_true, Bool.not_eq_true', beq_eq_false_iff_ne, ne_eq, Bool.and_eq_false_iff]
  exact ⟨h3, by by_cases z : q'.1 + 1 = i
                · exact Or.inr (fun y => h5' ⟨z, y⟩)
                · exact Or.inl z⟩
section R16b
variable {V : x_E} {own nm : String} {cc : ByteArray} {nL d MC MS pc ce sl : Nat} {ret : Option FieldType} {hh : List (Nat × Nat × Nat × Nat)} {Q : Option Value → x_S → Prop} {QX : String → x_S → Prop} {E : x_P} {EX : x_PX} {ls : List (Nat × Value)} {st st0 : List Value} {S : x_S}
variable {i : Nat} {y : MethodName} {cc2 : ByteArray} {nL2 d2 mc ms : Nat} {ret2 : Option FieldType} {hh2 : List (Nat × Nat × Nat × Nat)} {P : List Value → x_S → Prop} {Qy : List Value → x_S → Option Value → x_S → Prop}
/-- caught: the handler's first instruction keeps it in a local, which nobody reads -/
theorem r_catch (hE : x_XX V own cc nL ret d MC MS nm hh Q QX E EX) {E9 name : String} {k pcH : Nat} {ls2 : List (Nat × Value)} (pre : List ExceptionTableEntry) (x : ExceptionTableEntry) (suf : List ExceptionTableEntry) (hsplit : tableOf hh = pre ++ x :: suf) (hpass : ∀ z ∈ pre, covers z pc = false ∨ (z.catchType ≠ 0 ∧ ∃ n9 : String, Cond.classLink own z.catchType n9 ∈ gT ∧ ∀ (U : State) (H : Heap), V.2.2.2.2.2.2 U H → va_Nc E9 n9 U)) (hx9 : covers x pc = true) (h09 : x.catchType ≠ 0) (hlink : Cond.classLink own x.catchType name ∈ gT) (hcast : ∀ (U : State) (H : Heap), V.2.2.2.2.2.2 U H → va_Nw (.castable E9 name) U) (hd : (decode cc x.handlerPc = .ok (.astore k, 2) ∧ pcH = x.handlerPc + 2) ∨ (∃ k4 : Fin 4, (k4 : Nat) = k ∧ decode cc x.handlerPc = .ok (.astore_n k4, 1) ∧ pcH = x.handlerPc + 1)) (hk : k < nL) (hls : x_dr (x_d2 ls k) k = ls2) (kk : E ce sl pcH ls2 [] S) : EX ce sl pc ls st S E9 := by
  subst hls
  obtain ⟨p, e, R, s, m, args, below, meth, c, QW, ⟨hx, hb, hml, hnm, hown, hts, hG, h0, hdf, hdl, hMC, hMS⟩, rfl, hret, htab, rfl, hout, hthr⟩ := hE
  intro H locs arr q cell hH hS hl hcell hv hcl
  refine vx_catch hown pre x suf (htab.trans hsplit) (fun z hz => ?_) hx9 h09 (hts _ hlink) (va_Nw.use rfl (hcast s s.heap hG.2.2)) hcell hv hcl ?_
  · rcases hpass z hz with h | ⟨h1, n9, h2, h3⟩
    · exact Or.inl h
    · exact Or.inr ⟨h1, n9, hts _ h2, h3 s s.heap hG.2.2⟩
  · rcases hd with ⟨hd, rfl⟩ | ⟨k4, rfl, hd, rfl⟩
    · exact lv_astore hx hb hd hl hk rfl (fun arr2 hl2 => kk H locs arr2 hH hS (x_dr_has hl2))
    · exact lv_astore_n hx hb hd rfl hl hk rfl (fun arr2 hl2 => kk H locs arr2 hH hS (x_dr_has hl2))
def x_YW (y : MethodName) (cc : ByteArray) (nL : Nat) (ret : Option FieldType) (hh : List (Nat × Nat × Nat × Nat)) (n : Nat) : Prop := Cond.codeWith y cc nL ret hh ∈ gT ∧ Cond.initialized y.cls ∈ gT ∧ (y.cls ≠ "java/lang/invoke/MethodHandle" ∧ y.cls ≠ "java/lang/invoke/VarHandle" ∧ (parseMethodDescriptor y.desc).map (fun d => d.parameters.length) = some n) ∧ nL ≤ 45 ∧ Cond.static y ∈ gT
/-- a static method with a table of its own -/
theorem r_invsW (hE : x_X V own cc nL ret d MC MS nm Q E) (a : List Value) (hC : x_Ch V y cc2 nL2 ret2 hh2 d2 mc ms P Qy) (hY : x_YW y cc2 nL2 ret2 hh2 a.length) (hl : Cond.methodLink own i y ∈ gT) (hd : decode cc pc = .ok (.invokestatic i, 3)) (hst : st0 = a.reverse ++ st) (hdd : d2 + 1 ≤ d) (hcap : ce + mc ≤ MC ∧ sl + ms ≤ MS) (hW : (st.map fun v => v.category).sum ≤ 8) (hp : P a S)
    (kk : ∀ (r : Option Value) (S' : x_S), Qy a S r S' → E (ce + mc) (sl + ms) (pc + 3) ls (r.toList ++ st) S') : E ce sl pc ls st0 S := by
  subst hst
  obtain ⟨p, e, R, s, m, args, below, meth, c, QW, ⟨hx, hb, hml, hnm, hown, hts, hG, h0, hdf, hdl, hMC, hMS⟩, rfl, hret⟩ := hE
  intro H locs arr hH hS hla
  have hgd : GoodIn gT (va_wsS own i y (x_Wh y cc2 nL2 ret2 hh2)) := by
    intro w hw
    unfold va_wsS at hw
    rcases List.mem_append.mp hw with h | h
    · simp only [List.mem_cons, List.not_mem_nil, or_false] at h
      rcases h with rfl | rfl | rfl
      · exact x_good _ hl
      · exact x_good _ hY.2.2.2.2
      · exact x_good _ hY.2.1
    · rcases List.mem_cons.mp h with rfl | h
      · exact x_good _ hY.1
      · exact x_good _ h
  have cw := vx_cwSW (R := R) (args := args) (mc := mc) (ms := ms) (rm := { frames := d2, cells := mc, slots := ms, locals := 64 * d2 }) a.length hts hgd rfl rfl rfl hY.2.2.1 ⟨by show d2 + 1 ≤ _; omega, by show 8 + (nL2 + 11) + 64 * d2 ≤ _; have := hY.2.2.2.1; omega⟩
  refine x_back hG hS (vx_runSW (As := a.map (x_tv V)) ⟨hx, hb, hml, hown, hts⟩ (hC a S hp) cw (x_pre hG h0 hH hS) rfl (List.length_map _) hla.1 (by show (a.reverse ++ st).map (x_tv V) = _; rw [List.map_append, List.map_reverse]) (lv_room (by rw [x_sumcat]; exact hW)) hd ⟨Nat.le_trans hcap.1 hMC, Nat.le_trans hcap.2 hMS⟩) (fun r S2 hq H1 locs1 hH1 hS1 => kk r S2 hq H1 locs1 arr hH1 hS1 hla)
end R16b

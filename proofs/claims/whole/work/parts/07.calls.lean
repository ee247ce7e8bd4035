/-- a call's words: the callee's code, its class ready, the entry i of own names it -/
def x_Y (y : MethodName) (cc : ByteArray) (nL : Nat) (ret : Option FieldType) (n : Nat) : Prop := Cond.code y cc nL ret ∈ gT ∧ Cond.initialized y.cls ∈ gT ∧ (y.cls ≠ "java/lang/invoke/MethodHandle" ∧ y.cls ≠ "java/lang/invoke/VarHandle" ∧ (parseMethodDescriptor y.desc).map (fun d => d.parameters.length) = some n) ∧ nL ≤ 45
def x_YS (y : MethodName) (cc : ByteArray) (nL : Nat) (ret : Option FieldType) (n : Nat) : Prop := x_Y y cc nL ret n ∧ Cond.static y ∈ gT
def x_YV (y : MethodName) (cc : ByteArray) (nL : Nat) (ret : Option FieldType) (n : Nat) : Prop := x_Y y cc nL ret n ∧ Cond.instanceMethod y ∈ gT ∧ Cond.selects y.cls y y ∈ gT
def x_YI (y : MethodName) (cc : ByteArray) (nL : Nat) (n : Nat) : Prop := x_Y y cc nL none n ∧ Cond.instanceMethod y ∈ gT ∧ y.name = "<init>"
theorem x_sumcat (V : x_E) : ∀ (st : List Value), ((st.map (x_tv V)).map fun v => v.category).sum = (st.map fun v => v.category).sum
  | [] => rfl
  | v :: r => by
    have h := x_sumcat V r
    simp only [List.map_cons, List.sum_cons, x_cat]
    rw [h]
section R7
variable {V : x_E} {own nm : String} {cc : ByteArray} {nL d MC MS pc ce sl : Nat} {ret : Option FieldType} {Q : Option Value → x_S → Prop} {E : x_P} {ls : List (Nat × Value)} {st st0 : List Value} {S : x_S}
variable {i : Nat} {y : MethodName} {cc2 : ByteArray} {nL2 d2 mc ms : Nat} {ret2 : Option FieldType} {P : List Value → x_S → Prop} {Qy : List Value → x_S → Option Value → x_S → Prop}
/-- behind a call -/
theorem x_back {p : Program} {e : Env} {R : Room} {s : State} {m : MethodId} {args : Array Value} {below : List Frame} {meth : Method} {c : Code} {QW : State → Prop} {H : Heap} {locs : List Loc} {arr : Array Slot} {stw : List Value} {a : List Value}
    (hG : x_G V s s.heap) (hS : va_S (x_A V) s.heap H locs)
    (hr : va_Run p V.1 e R s m args below meth c H locs ce sl mc ms (F0 m pc arr stw) (st.map (x_tv V)) (fun st9 o t => ∃ (r : Option Value) (S' : x_S), o = .returned (r.map (x_tv V)) ∧ Qy a S r S' ∧ x_R V S' t ∧ va_F (x_A V) st9 t) (x_A V))
    (kk : ∀ (r : Option Value) (S' : x_S), Qy a S r S' → ∀ (H : Heap) (locs : List Loc), x_H V S' H → va_S (x_A V) s.heap H locs → W p V.1 e R s m args below meth c H locs (ce + mc) (sl + ms) QW (F0 m (pc + 3) arr ((r.toList ++ st).map (x_tv V)))) :
    W p V.1 e R s m args below meth c H locs ce sl QW (F0 m pc arr stw) := by
  intro T hT X
  obtain ⟨v, st9, t, T2, L, h0, X2, hL, e1, e2, ⟨r, S2, hv, hq, hR, hF⟩, hst⟩ := hr T hT X
  cases hv
  have hz : H.size ≤ T2.heap.size := by rw [e1, ← h0]; exact hF.1
  have hS2 : va_S (x_A V) s.heap T2.heap (locs ++ L) := by
    refine ⟨Nat.le_trans hS.1 hz, fun q h1 h2 => ?_, fun q hq9 => ?_⟩
    · rw [e1, hF.2 q (by rw [h0]; exact Nat.lt_of_lt_of_le h1 hS.1) h2, h0]
      exact hS.2.1 q h1 h2
    · rcases List.mem_append.mp hq9 with h | h
      · exact hS.2.2 q h
      · exact hL q h
  obtain ⟨t2, a1, b1⟩ := kk r S2 hq T2.heap (locs ++ L) (by rw [e1]; exact hR.1) hS2 T2 rfl X2
  refine ⟨t2, hst t2 ?_, b1⟩
  have e9 : (r.map (x_tv V)).toList ++ st.map (x_tv V) = (r.toList ++ st).map (x_tv V) := by cases r <;> rfl
  rw [e9]
  exact a1
theorem x_pre {s : State} {H : Heap} {locs : List Loc} {a : List Value} (hG : x_G V s s.heap) (h0 : V.2.2.2.2.2.1 ≤ s.heap.size) (hH : x_H V S H) (hS : va_S (x_A V) s.heap H locs) : PreS s H (fun av U => av = (a.map (x_tv V)).toArray ∧ x_R V S U) (a.map (x_tv V)) :=
  ⟨x_blind, fun _ hU hW => ⟨rfl, x_gain hG h0 hH hS hU hW⟩⟩
theorem x_callB {R : Room} {s : State} {args : Array Value} {n : Nat} (hts : ∀ w ∈ gT, w.before args s = true) (hY : x_Y y cc2 nL2 ret2 n) (hl : Cond.methodLink own i y ∈ gT) (hdf : d ≤ R.frames) (hdl : 64 * d ≤ R.locals) (hdd : d2 + 1 ≤ d) :
    CallB R s args own i y cc2 nL2 ret2 (x_W y cc2 nL2 ret2) { frames := d2, cells := mc, slots := ms, locals := 64 * d2 } mc ms n :=
  callB_of n hts (x_goodW hY.1) rfl rfl rfl (hts _ hY.2.1) (hts _ hl) hY.2.2.1 ⟨by show d2 + 1 ≤ _; omega, by show 8 + (nL2 + 11) + 64 * d2 ≤ _; have := hY.2.2.2; omega⟩
/-- a static method -/
theorem r_invs (hE : x_X V own cc nL ret d MC MS nm Q E) (a : List Value) (hC : x_Ct V y cc2 nL2 ret2 d2 mc ms P Qy) (hY : x_YS y cc2 nL2 ret2 a.length) (hl : Cond.methodLink own i y ∈ gT) (hd : decode cc pc = .ok (.invokestatic i, 3)) (hst : st0 = a.reverse ++ st) (hdd : d2 + 1 ≤ d) (hcap : ce + mc ≤ MC ∧ sl + ms ≤ MS) (hW : (st.map fun v => v.category).sum ≤ 8) (hp : P a S)
    (kk : ∀ (r : Option Value) (S' : x_S), Qy a S r S' → E (ce + mc) (sl + ms) (pc + 3) ls (r.toList ++ st) S') : E ce sl pc ls st0 S := by
  subst hst
  obtain ⟨p, e, R, s, m, args, below, meth, c, QW, ⟨hx, hb, hml, hnm, hown, hts, hG, h0, hdf, hdl, hMC, hMS⟩, rfl, hret⟩ := hE
  intro H locs arr hH hS hla
  have cw := x_callB (mc := mc) (ms := ms) (d2 := d2) hts hY.1 hl hdf hdl hdd
  refine x_back hG hS (va_runS (As := a.map (x_tv V)) ⟨hx, hb, hml, hown, hts⟩ (hC a S hp) ⟨cw, hts _ hY.2⟩ (x_pre hG h0 hH hS) rfl (List.length_map _) hla.1 (by show (a.reverse ++ st).map (x_tv V) = _; rw [List.map_append, List.map_reverse]) (lv_room (by rw [x_sumcat]; exact hW)) hd ⟨Nat.le_trans hcap.1 hMC, Nat.le_trans hcap.2 hMS⟩) (fun r S2 hq H1 locs1 hH1 hS1 => kk r S2 hq H1 locs1 arr hH1 hS1 hla)
/-- a method of an object whose class is its own -/
theorem r_invv (hE : x_X V own cc nL ret d MC MS nm Q E) {h ci : Nat} {fs : List Value} {T : u_T} {N : Nat} (a : List Value) (hC : x_Ct V y cc2 nL2 ret2 d2 mc ms P Qy) (hY : x_YV y cc2 nL2 ret2 a.length) (hl : Cond.methodLink own i y ∈ gT) (hd : decode cc pc = .ok (.invokevirtual i, 3)) (hst : st0 = a.reverse ++ .ref h :: st) (hm : h ∈ S.2.1) (hc : S.2.2 h = .inr (ci, fs)) (hcl : vwCl[ci]? = some (y.cls, T, N)) (hdd : d2 + 1 ≤ d) (hcap : ce + mc ≤ MC ∧ sl + ms ≤ MS) (hW : (st.map fun v => v.category).sum ≤ 8) (hp : P (.ref h :: a) S)
    (kk : ∀ (r : Option Value) (S' : x_S), Qy (.ref h :: a) S r S' → E (ce + mc) (sl + ms) (pc + 3) ls (r.toList ++ st) S') : E ce sl pc ls st0 S := by
  subst hst
  obtain ⟨p, e, R, s, m, args, below, meth, c, QW, ⟨hx, hb, hml, hnm, hown, hts, hG, h0, hdf, hdl, hMC, hMS⟩, rfl, hret⟩ := hE
  intro H locs arr hH hS hla
  have cw := x_callB (mc := mc) (ms := ms) (d2 := d2) hts hY.1 hl hdf hdl hdd
  obtain ⟨k0, -, hk0⟩ := x_in (V := V) hm
  rw [hc] at hk0
  have hrc := va_recv hG.2.1 hH.2.2.1 hcl hk0
  have hpp := x_pre (a := .ref h :: a) hG h0 hH hS
  refine x_back hG hS (va_runV (As := a.map (x_tv V)) ⟨hx, hb, hml, hown, hts⟩ (hC (.ref h :: a) S hp) ⟨cw, hts _ hY.2.1, hts _ hY.2.2⟩ ⟨hpp.1, hrc, hpp.2⟩ rfl (List.length_map _) hla.1 (by show (a.reverse ++ .ref h :: st).map (x_tv V) = _; rw [List.map_append, List.map_reverse]; rfl) (lv_room (by rw [x_sumcat]; exact hW)) hd ⟨Nat.le_trans hcap.1 hMC, Nat.le_trans hcap.2 hMS⟩) (fun r S2 hq H1 locs1 hH1 hS1 => kk r S2 hq H1 locs1 arr hH1 hS1 hla)
/-- a constructor -/
theorem r_invi (hE : x_X V own cc nL ret d MC MS nm Q E) {h : Nat} (a : List Value) (hC : x_Ct V y cc2 nL2 none d2 mc ms P Qy) (hY : x_YI y cc2 nL2 a.length) (hl : Cond.methodLink own i y ∈ gT) (hd : decode cc pc = .ok (.invokespecial i, 3)) (hst : st0 = a.reverse ++ .ref h :: st) (hdd : d2 + 1 ≤ d) (hcap : ce + mc ≤ MC ∧ sl + ms ≤ MS) (hW : (st.map fun v => v.category).sum ≤ 8) (hp : P (.ref h :: a) S)
    (kk : ∀ (r : Option Value) (S' : x_S), Qy (.ref h :: a) S r S' → E (ce + mc) (sl + ms) (pc + 3) ls (r.toList ++ st) S') : E ce sl pc ls st0 S := by
  subst hst
  obtain ⟨p, e, R, s, m, args, below, meth, c, QW, ⟨hx, hb, hml, hnm, hown, hts, hG, h0, hdf, hdl, hMC, hMS⟩, rfl, hret⟩ := hE
  intro H locs arr hH hS hla
  have cw := x_callB (mc := mc) (ms := ms) (d2 := d2) hts hY.1 hl hdf hdl hdd
  refine x_back hG hS (va_runI (As := a.map (x_tv V)) ⟨hx, hb, hml, hown, hts⟩ (hC (.ref h :: a) S hp) ⟨cw, hY.2.2, hts _ hY.2.1⟩ (x_pre (a := .ref h :: a) hG h0 hH hS) rfl (List.length_map _) hla.1 (by show (a.reverse ++ .ref h :: st).map (x_tv V) = _; rw [List.map_append, List.map_reverse]; rfl) (lv_room (by rw [x_sumcat]; exact hW)) hd ⟨Nat.le_trans hcap.1 hMC, Nat.le_trans hcap.2 hMS⟩) (fun r S2 hq H1 locs1 hH1 hS1 => kk r S2 hq H1 locs1 arr hH1 hS1 hla)
/-- a nest mate's static method -/
theorem r_invsN (hE : x_X V own cc nL ret d MC MS nm Q E) {host : String} (a : List Value) (hC : x_Ct V y cc2 nL2 ret2 d2 mc ms P Qy) (hY : x_YS y cc2 nL2 ret2 a.length) (hl : ∀ (U : State) (H : Heap), V.2.2.2.2.2.2 U H → va_Nw (.methodLinkNest own i y host) U) (hd : decode cc pc = .ok (.invokestatic i, 3)) (hst : st0 = a.reverse ++ st) (hdd : d2 + 1 ≤ d) (hcap : ce + mc ≤ MC ∧ sl + ms ≤ MS) (hW : (st.map fun v => v.category).sum ≤ 8) (hp : P a S)
    (kk : ∀ (r : Option Value) (S' : x_S), Qy a S r S' → E (ce + mc) (sl + ms) (pc + 3) ls (r.toList ++ st) S') : E ce sl pc ls st0 S := by
  subst hst
  obtain ⟨p, e, R, s, m, args, below, meth, c, QW, ⟨hx, hb, hml, hnm, hown, hts, hG, h0, hdf, hdl, hMC, hMS⟩, rfl, hret⟩ := hE
  intro H locs arr hH hS hla
  have cw := va_cnB (R := R) (args := args) (own := own) (index := i) (mc := mc) (ms := ms) (rm := { frames := d2, cells := mc, slots := ms, locals := 64 * d2 }) a.length hts (x_goodW hY.1.1) rfl rfl rfl (hl s s.heap hG.2.2) (hts _ hY.1.2.1) hY.1.2.2.1 ⟨by show d2 + 1 ≤ _; omega, by show 8 + (nL2 + 11) + 64 * d2 ≤ _; have := hY.1.2.2.2; omega⟩
  refine x_back hG hS (va_runSN (As := a.map (x_tv V)) ⟨hx, hb, hml, hown, hts⟩ (hC a S hp) ⟨cw, hts _ hY.2, trivial⟩ (x_pre hG h0 hH hS) rfl (List.length_map _) hla.1 (by show (a.reverse ++ st).map (x_tv V) = _; rw [List.map_append, List.map_reverse]) (lv_room (by rw [x_sumcat]; exact hW)) hd ⟨Nat.le_trans hcap.1 hMC, Nat.le_trans hcap.2 hMS⟩) (fun r S2 hq H1 locs1 hH1 hS1 => kk r S2 hq H1 locs1 arr hH1 hS1 hla)
/-- a nest mate's constructor -/
theorem r_inviN (hE : x_X V own cc nL ret d MC MS nm Q E) {host : String} {h : Nat} (a : List Value) (hC : x_Ct V y cc2 nL2 none d2 mc ms P Qy) (hY : x_YI y cc2 nL2 a.length) (hl : ∀ (U : State) (H : Heap), V.2.2.2.2.2.2 U H → va_Nw (.methodLinkNest own i y host) U) (hd : decode cc pc = .ok (.invokespecial i, 3)) (hst : st0 = a.reverse ++ .ref h :: st) (hdd : d2 + 1 ≤ d) (hcap : ce + mc ≤ MC ∧ sl + ms ≤ MS) (hW : (st.map fun v => v.category).sum ≤ 8) (hp : P (.ref h :: a) S)
    (kk : ∀ (r : Option Value) (S' : x_S), Qy (.ref h :: a) S r S' → E (ce + mc) (sl + ms) (pc + 3) ls (r.toList ++ st) S') : E ce sl pc ls st0 S := by
  subst hst
  obtain ⟨p, e, R, s, m, args, below, meth, c, QW, ⟨hx, hb, hml, hnm, hown, hts, hG, h0, hdf, hdl, hMC, hMS⟩, rfl, hret⟩ := hE
  intro H locs arr hH hS hla
  have cw := va_cnB (R := R) (args := args) (own := own) (index := i) (mc := mc) (ms := ms) (rm := { frames := d2, cells := mc, slots := ms, locals := 64 * d2 }) a.length hts (x_goodW hY.1.1) rfl rfl rfl (hl s s.heap hG.2.2) (hts _ hY.1.2.1) hY.1.2.2.1 ⟨by show d2 + 1 ≤ _; omega, by show 8 + (nL2 + 11) + 64 * d2 ≤ _; have := hY.1.2.2.2; omega⟩
  refine x_back hG hS (va_runIN (As := a.map (x_tv V)) ⟨hx, hb, hml, hown, hts⟩ (hC (.ref h :: a) S hp) ⟨cw, hY.2.2, hts _ hY.2.1⟩ (x_pre (a := .ref h :: a) hG h0 hH hS) rfl (List.length_map _) hla.1 (by show (a.reverse ++ .ref h :: st).map (x_tv V) = _; rw [List.map_append, List.map_reverse]; rfl) (lv_room (by rw [x_sumcat]; exact hW)) hd ⟨Nat.le_trans hcap.1 hMC, Nat.le_trans hcap.2 hMS⟩) (fun r S2 hq H1 locs1 hH1 hS1 => kk r S2 hq H1 locs1 arr hH1 hS1 hla)
end R7

/-! fixed things: String constants, static rows -/
theorem x_sg_fix {V : x_E} {h : Nat} (hh : h < 64) : x_sg V h = V.2.2.2.2.1 h := by unfold x_sg; rw [if_pos hh]
theorem x_tv_fix {V : x_E} {h : Nat} (hh : h < 64) : x_tv V (.ref h) = .ref (V.2.2.2.2.1 h) := by show Value.ref (x_sg V h) = _; rw [x_sg_fix hh]
section R17
variable {V : x_E} {own nm : String} {cc : ByteArray} {nL d MC MS pc ce sl : Nat} {ret : Option FieldType} {Q : Option Value → x_S → Prop} {E : x_P} {ls : List (Nat × Value)} {st st0 : List Value} {S : x_S}
theorem r_ldcS (hE : x_X V own cc nL ret d MC MS nm Q E) {i h : Nat} {tx : String} (hh : h < 64) (hR : ∀ (U : State) (H : Heap), V.2.2.2.2.2.2 U H → vk_R own i tx (V.2.2.2.2.1 h) U) (hd : decode cc pc = .ok (.ldc i, 2)) (kk : E ce sl (pc + 2) ls (.ref h :: st) S) : E ce sl pc ls st S := by
  obtain ⟨p, e, R, s, m, args, below, meth, c, QW, ⟨hx, hb, hml, hnm, hown, hts, hG, h0, hdf, hdl, hMC, hMS⟩, rfl, hret⟩ := hE
  intro H locs arr hH hS hl
  have k1 := kk H locs arr hH hS hl
  rw [List.map_cons, x_tv_fix hh] at k1
  exact va_ldcS hx hb hown (hR s s.heap hG.2.2) hd k1
/-- a field of a fixed object -/
theorem r_getfI (hE : x_X V own cc nL ret d MC MS nm Q E) {i h : Nat} {o n9 d9 : String} {v : Value} (hh : h < 64) (hO : ∀ (U : State) (H : Heap), V.2.2.2.2.2.2 U H → va_OF o n9 d9 (x_tv V v) (V.2.2.2.2.1 h) (x_A V) U H) (hlk : Cond.fieldLink own i o n9 d9 ∈ gT) (hd : decode cc pc = .ok (.getfield i, 3)) (kk : E ce sl (pc + 3) ls (v :: st) S) : E ce sl pc ls (.ref h :: st) S := by
  obtain ⟨p, e, R, s, m, args, below, meth, c, QW, ⟨hx, hb, hml, hnm, hown, hts, hG, h0, hdf, hdl, hMC, hMS⟩, rfl, hret⟩ := hE
  intro H locs arr hH hS hl
  rw [List.map_cons, x_tv_fix hh]
  exact vk_getf hx hb (hO s s.heap hG.2.2) hS hown (hts _ hlk) (fun _ h9 => h9) hd (kk H locs arr hH hS hl)
/-- a fixed row of ints, of bytes -/
theorem r_tald (hE : x_X V own cc nL ret d MC MS nm Q E) {h N : Nat} {i : Int32} {f : Nat → Int32} (hh : h < 64) (hT : ∀ (U : State) (H : Heap), V.2.2.2.2.2.2 U H → va_T .int (V.2.2.2.2.1 h) N (fun j => .int (f j)) (x_A V) U H) (hd : decode cc pc = .ok (.iaload, 1)) (hin : vp_in i N) (kk : E ce sl (pc + 1) ls (.int (f i.toNatClampNeg) :: st) S) : E ce sl pc ls (.int i :: .ref h :: st) S := by
  obtain ⟨p, e, R, s, m, args, below, meth, c, QW, ⟨hx, hb, hml, hnm, hown, hts, hG, h0, hdf, hdl, hMC, hMS⟩, rfl, hret⟩ := hE
  intro H locs arr hH hS hl
  rw [List.map_cons, List.map_cons, x_tv_fix hh]
  exact va_ti hx hb (hT s s.heap hG.2.2) hS hin rfl hd (kk H locs arr hH hS hl)
theorem r_tbld (hE : x_X V own cc nL ret d MC MS nm Q E) {h N : Nat} {i : Int32} {f : Nat → Int32} (hh : h < 64) (hT : ∀ (U : State) (H : Heap), V.2.2.2.2.2.2 U H → va_T .byte (V.2.2.2.2.1 h) N (fun j => .int (f j)) (x_A V) U H) (hd : decode cc pc = .ok (.baload, 1)) (hin : vp_in i N) (kk : E ce sl (pc + 1) ls (.int (f i.toNatClampNeg) :: st) S) : E ce sl pc ls (.int i :: .ref h :: st) S := by
  obtain ⟨p, e, R, s, m, args, below, meth, c, QW, ⟨hx, hb, hml, hnm, hown, hts, hG, h0, hdf, hdl, hMC, hMS⟩, rfl, hret⟩ := hE
  intro H locs arr hH hS hl
  rw [List.map_cons, List.map_cons, x_tv_fix hh]
  exact va_tb hx hb (hT s s.heap hG.2.2) hS hin rfl hd (kk H locs arr hH hS hl)
theorem r_tlen (hE : x_X V own cc nL ret d MC MS nm Q E) {h N : Nat} {ty : FieldType} {f : Nat → Value} {v : Int32} (hh : h < 64) (hT : ∀ (U : State) (H : Heap), V.2.2.2.2.2.2 U H → va_T ty (V.2.2.2.2.1 h) N f (x_A V) U H) (hd : decode cc pc = .ok (.arraylength, 1)) (hv : Int32.ofNat N = v) (kk : E ce sl (pc + 1) ls (.int v :: st) S) : E ce sl pc ls (.ref h :: st) S := by
  obtain ⟨p, e, R, s, m, args, below, meth, c, QW, ⟨hx, hb, hml, hnm, hown, hts, hG, h0, hdf, hdl, hMC, hMS⟩, rfl, hret⟩ := hE
  intro H locs arr hH hS hl
  rw [List.map_cons, x_tv_fix hh]
  exact va_tlen hx hb (hT s s.heap hG.2.2) hS hv hd (kk H locs arr hH hS hl)
/-- a static field -/
theorem r_gets (hE : x_X V own cc nL ret d MC MS nm Q E) {i : Nat} {C n9 d9 : String} {v : Value} (hZ : ∀ (U : State) (H : Heap), V.2.2.2.2.2.2 U H → va_Z C n9 d9 (x_tv V v) (x_A V) U H) (hlk : Cond.fieldLink own i C n9 d9 ∈ gT) (hd : decode cc pc = .ok (.getstatic i, 3)) (kk : E ce sl (pc + 3) ls (v :: st) S) : E ce sl pc ls st S := by
  obtain ⟨p, e, R, s, m, args, below, meth, c, QW, ⟨hx, hb, hml, hnm, hown, hts, hG, h0, hdf, hdl, hMC, hMS⟩, rfl, hret⟩ := hE
  intro H locs arr hH hS hl
  exact va_gets hx hb (hZ s s.heap hG.2.2) hS hown (hts _ hlk) (fun _ h9 => h9) hd (kk H locs arr hH hS hl)
theorem r_getsN (hE : x_X V own cc nL ret d MC MS nm Q E) {i : Nat} {C n9 d9 host : String} {v : Value} (hZ : ∀ (U : State) (H : Heap), V.2.2.2.2.2.2 U H → va_Z C n9 d9 (x_tv V v) (x_A V) U H) (hlk : ∀ (U : State) (H : Heap), V.2.2.2.2.2.2 U H → va_Nw (.fieldLinkNest own i C n9 d9 host) U) (hd : decode cc pc = .ok (.getstatic i, 3)) (kk : E ce sl (pc + 3) ls (v :: st) S) : E ce sl pc ls st S := by
  obtain ⟨p, e, R, s, m, args, below, meth, c, QW, ⟨hx, hb, hml, hnm, hown, hts, hG, h0, hdf, hdl, hMC, hMS⟩, rfl, hret⟩ := hE
  intro H locs arr hH hS hl
  exact va_getsN hx hb (hZ s s.heap hG.2.2) hS hown (va_Nw.use rfl (hlk s s.heap hG.2.2)) (fun _ h9 => h9) hd (kk H locs arr hH hS hl)
variable {i : Nat} {y : MethodName} {cc2 : ByteArray} {nL2 d2 mc ms : Nat} {ret2 : Option FieldType} {P : List Value → x_S → Prop} {Qy : List Value → x_S → Option Value → x_S → Prop}
/-- a method of a fixed object -/
theorem r_invvI (hE : x_X V own cc nL ret d MC MS nm Q E) {h : Nat} (hh : h < 64) (a : List Value) (hO : ∀ (U : State) (H : Heap), V.2.2.2.2.2.2 U H → va_O y.cls (V.2.2.2.2.1 h) (x_A V) U H) (hC : x_Ct V y cc2 nL2 ret2 d2 mc ms P Qy) (hY : x_YV y cc2 nL2 ret2 a.length) (hl : Cond.methodLink own i y ∈ gT) (hd : decode cc pc = .ok (.invokevirtual i, 3)) (hst : st0 = a.reverse ++ .ref h :: st) (hdd : d2 + 1 ≤ d) (hcap : ce + mc ≤ MC ∧ sl + ms ≤ MS) (hW : (st.map fun v => v.category).sum ≤ 8) (hp : P (.ref h :: a) S)
    (kk : ∀ (r : Option Value) (S' : x_S), Qy (.ref h :: a) S r S' → E (ce + mc) (sl + ms) (pc + 3) ls (r.toList ++ st) S') : E ce sl pc ls st0 S := by
  subst hst
  obtain ⟨p, e, R, s, m, args, below, meth, c, QW, ⟨hx, hb, hml, hnm, hown, hts, hG, h0, hdf, hdl, hMC, hMS⟩, rfl, hret⟩ := hE
  intro H locs arr hH hS hla
  have cw := x_callB (mc := mc) (ms := ms) (d2 := d2) hts hY.1 hl hdf hdl hdd
  have hrc : ∃ cell : Cell, H[x_sg V h]? = some cell ∧ cell.vm.isStatics = false ∧ s.vm.findClass y.cls = some cell.cls := by
    obtain ⟨cell, h1, h2, h3, h4⟩ := hO s s.heap hG.2.2
    have hlt : V.2.2.2.2.1 h < s.heap.size := (Array.getElem?_eq_some_iff.mp h1).1
    exact ⟨cell, by rw [x_sg_fix hh, hS.2.1 _ hlt h4]; exact h1, h2, h3⟩
  have hpp := x_pre (a := .ref h :: a) hG h0 hH hS
  refine x_back hG hS (va_runV (As := a.map (x_tv V)) ⟨hx, hb, hml, hown, hts⟩ (hC (.ref h :: a) S hp) ⟨cw, hts _ hY.2.1, hts _ hY.2.2⟩ ⟨hpp.1, hrc, hpp.2⟩ rfl (List.length_map _) hla.1 (by show (a.reverse ++ .ref h :: st).map (x_tv V) = _; rw [List.map_append, List.map_reverse]; rfl) (lv_room (by rw [x_sumcat]; exact hW)) hd ⟨Nat.le_trans hcap.1 hMC, Nat.le_trans hcap.2 hMS⟩) (fun r S2 hq H1 locs1 hH1 hS1 => kk r S2 hq H1 locs1 arr hH1 hS1 hla)
end R17

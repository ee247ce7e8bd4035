/-! the machine as the proofs see it: E c k pc ls st S: from here, with c cells and k slots of the room spent, the method comes to its end with Q -/
/-- the words of a method -/
def x_W (y : MethodName) (cc : ByteArray) (nL : Nat) (ret : Option FieldType) : List Cond := .code y cc nL ret :: gT
def x_rt (cc : ByteArray) (ret : Option FieldType) (pc : Nat) (v : Option Value) : Prop := match v with
  | none => decode cc pc = .ok (.return_, 1) ∧ ret = none
  | some (.int z) => decode cc pc = .ok (.ireturn, 1) ∧ ∃ ty, ret = some ty ∧ narrow ty (.int z) = .int z
  | some (.long _) => decode cc pc = .ok (.lreturn, 1) ∧ ret = some .long
  | some (.ref _) => decode cc pc = .ok (.areturn, 1) ∧ ∃ ty, ret = some ty ∧ ((∃ n, ty = .object n) ∨ ∃ t, ty = .array t)
  | _ => False
abbrev x_P : Type := Nat → Nat → Nat → List (Nat × Value) → List Value → x_S → Prop
/-- the method's own place: what all rows need -/
def x_X (V : x_E) (own : String) (cc : ByteArray) (nL : Nat) (ret : Option FieldType) (d MC MS : Nat) (nm : String) (Q : Option Value → x_S → Prop) (E : x_P) : Prop :=
  ∃ (p : Program) (e : Env) (R : Room) (s : State) (m : MethodId) (args : Array Value) (below : List Frame) (meth : Method) (c : Code) (QW : State → Prop),
    (p.tables.exec = Jvm.exec ∧ c.code = cc ∧ c.maxLocals = nL ∧ meth.name = nm ∧ s.vm.findClass own = some m.cls ∧ (∀ w ∈ gT, w.before args s = true) ∧ x_G V s s.heap ∧ V.2.2.2.2.2.1 ≤ s.heap.size ∧ d ≤ R.frames ∧ 64 * d ≤ R.locals ∧ MC ≤ R.cells ∧ MS ≤ R.slots) ∧
    (E = fun ce sl pc ls st S => ∀ (H : Heap) (locs : List Loc) (arr : Array Slot), x_H V S H → va_S (x_A V) s.heap H locs → lv_has arr nL (x_tl V ls) → W p V.1 e R s m args below meth c H locs ce sl QW (F0 m pc arr (st.map (x_tv V)))) ∧
    (∀ (ce sl pc : Nat) (ls : List (Nat × Value)) (v : Option Value) (S : x_S), x_rt cc ret pc v → Q v S → ce ≤ MC → sl ≤ MS → E ce sl pc ls v.toList S)
/-- a method's contract -/
def x_Ct (V : x_E) (y : MethodName) (cc : ByteArray) (nL : Nat) (ret : Option FieldType) (d mc ms : Nat) (P : List Value → x_S → Prop) (Q : List Value → x_S → Option Value → x_S → Prop) : Prop :=
  ∀ (a : List Value) (S : x_S), P a S → Met V.1 y (x_W y cc nL ret) { frames := d, cells := mc, slots := ms, locals := 64 * d } (fun av U => av = (a.map (x_tv V)).toArray ∧ x_R V S U)
    (fun _ st o t => ∃ (r : Option Value) (S' : x_S), o = .returned (r.map (x_tv V)) ∧ Q a S r S' ∧ x_R V S' t ∧ va_F (x_A V) st t) mc ms (x_A V)
theorem x_args {V : x_E} : ∀ (a : List Value) (i : Nat), x_tl V (lv_args i a) = lv_args i (a.map (x_tv V))
  | [], _ => rfl
  | v :: r, i => by
    show (i, x_tv V v) :: x_tl V (lv_args (if v.category = 2 then i + 2 else i + 1) r) = (i, x_tv V v) :: lv_args (if (x_tv V v).category = 2 then i + 2 else i + 1) (r.map (x_tv V))
    rw [x_cat, x_args r]
theorem x_len {V : x_E} : ∀ (a : List Value), (lg_sl (a.map (x_tv V))).length = (lg_sl a).length
  | [] => rfl
  | v :: r => by
    have h := x_len (V := V) r
    unfold lg_sl at h ⊢
    rw [List.map_cons, List.flatMap_cons, List.flatMap_cons, List.length_append, List.length_append, h, x_cat]
    by_cases hc : v.category = 2
    · rw [if_pos hc, if_pos hc]; rfl
    · rw [if_neg hc, if_neg hc]; rfl
theorem x_blind {V : x_E} {S : x_S} {a : List Value} : FrameBlind (fun av U => av = (a.map (x_tv V)).toArray ∧ x_R V S U) := by
  intro b U g mk ⟨h1, h2, h3⟩
  exact ⟨h1, h2, x_G.moved (u := U) (U := U.calling g mk b) (State.WarmedH.refl U) h3⟩
theorem x_gain {V : x_E} {S : x_S} {s t : State} {H : Heap} {locs : List Loc} (hG : x_G V s s.heap) (h0 : V.2.2.2.2.2.1 ≤ s.heap.size) (hH : x_H V S H) (hS : va_S (x_A V) s.heap H locs) (ht : t.heap = H) (hW : s.WarmedH t.vm) : x_R V S t := by
  subst ht
  exact ⟨hH, (hG.kept h0 (fun a h1 h2 => hS.2.1 a h1 h2)).moved hW⟩
/-- a contract out of a walk -/
theorem x_met {V : x_E} {y : MethodName} {cc : ByteArray} {nL : Nat} {ret : Option FieldType} {d mc ms : Nat} {P : List Value → x_S → Prop} {Q : List Value → x_S → Option Value → x_S → Prop} (hy : plainName y.cls = true)
    (hn : ∀ a S, P a S → (lg_sl a).length ≤ nL)
    (body : ∀ (a : List Value) (S : x_S), P a S → ∀ E, x_X V y.cls cc nL ret d mc ms y.name (Q a S) E → E 0 0 0 (lv_args 0 a) [] S) : x_Ct V y cc nL ret d mc ms P Q := by
  intro a S hP
  refine Met.ofW (cc := cc) (maxL := nL) (ret := ret) hy rfl ?_
  intro p e s m args below meth c s₁ B hml hv
  obtain ⟨rfl, hH, hG⟩ := hv
  have hts := atoms_spec (ws := x_W y cc nL ret) B.pre
  have hlocks := B.notSynchronized
  have hr := B.returns
  have h0 : V.2.2.2.2.2.1 ≤ s.heap.size := by rw [hH.1]; omega
  have hl := lv_entry (a.map (x_tv V)) (n := nL) (by rw [x_len]; exact hn a S hP)
  rw [lg_entry_eq]
  rw [← x_args] at hl
  refine body a S hP _ ⟨p, e, _, s, m, _, below, meth, c, _, ⟨B.exec, B.bytes, hml, (name_of_methodNamed B.named B.method).1, findClass_of_methodNamed B.named, fun w hw => hts w (List.mem_cons_of_mem _ hw), hG, h0, Nat.le_refl _, Nat.le_refl _, Nat.le_refl _, Nat.le_refl _⟩, rfl, ?_⟩ s.heap [] _ hH va_S.rf hl
  intro ce sl pc ls v S' hrt hQ hce hsl H locs arr hH' hS _
  refine W.widen hce hsl ?_
  have key : ∀ t : State, t.heap = H → s.WarmedH t.vm → (∃ (r : Option Value) (S' : x_S), Outcome.returned (v.map (x_tv V)) = .returned (r.map (x_tv V)) ∧ Q a S r S' ∧ x_R V S' t ∧ va_F (x_A V) s t) :=
    fun t ht hW => ⟨v, S', rfl, hQ, x_gain hG h0 hH' hS ht hW, hS.F ht⟩
  match v, hrt with
  | none, ⟨hd, he⟩ => exact W.vret B.exec B.bytes (hr.trans he) key hS.2.2 hd
  | some (.int z), ⟨hd, ty, he, hnn⟩ => exact W.zret B.exec B.bytes (hr.trans he) hnn key hS.2.2 hd
  | some (.long z), ⟨hd, he⟩ => exact W.lret B.exec B.bytes (hr.trans he) key hS.2.2 hd
  | some (.ref z), ⟨hd, ty, he, ht⟩ => exact W.aret B.exec B.bytes (hr.trans he) ht (Or.inr ⟨_, rfl⟩) key hS.2.2 hd

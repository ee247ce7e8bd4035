/-- a new cell -/
def x_push (S : x_S) (e : x_C) : x_S := (S.1 + 1, S.2.1 ++ [x_pi S.1], fun j => if j = x_pi S.1 then e else S.2.2 j)
theorem x_pm_ne {h n : Nat} (h1 : x_pm h < n) : h ≠ x_pi n := fun e => by rw [e, x_pm_pi] at h1; omega
theorem x_ws_push {V : x_E} {S : x_S} {e : x_C} (hl : ∀ h ∈ S.2.1, 64 ≤ h ∧ x_pm h < S.1) : x_ws V (x_push S e) = x_ws V S ++ [(x_sg V (x_pi S.1), x_tc V e)] := by
  unfold x_ws x_push
  dsimp only
  rw [List.map_append]
  congr 1
  · apply List.map_congr_left
    intro h hh
    rw [if_neg (x_pm_ne (hl h hh).2)]
  · simp
theorem x_H_push {V : x_E} {S : x_S} {e : x_C} {H H1 : Heap} (hH : x_H V S H) (hz : H1.size = H.size + 1) (ho : ∀ q, q < H.size → H1[q]? = H[q]?) (he : va_at (x_D V) vwCl (H.size, x_tc V e) H1) : x_H V (x_push S e) H1 := by
  obtain ⟨h1, h2, h3, h4, h5⟩ := hH
  have hsg : x_sg V (x_pi S.1) = H.size := by rw [x_sg_own (x_pi_ge h2), x_pm_pi, h1]
  refine ⟨by rw [hz, h1]; show _ = _ + (S.1 + 1 - 64); omega, by show 64 ≤ S.1 + 1; omega, ?_, ?_, fun h hh => ?_⟩
  · rw [x_ws_push h5, hsg]
    refine (h3.kept (fun k x hx => ho x.1 ((h3 k x hx).lt))).app (fun k x hx => ?_)
    have hk : k < 1 := (List.getElem?_eq_some_iff.mp hx).1
    rw [show k = 0 by omega] at hx
    cases hx
    exact he
  · show (S.2.1 ++ [x_pi S.1]).Nodup
    rw [List.nodup_append]
    refine ⟨h4, by simp, fun a ha b hb => ?_⟩
    rw [List.mem_singleton.mp hb]
    exact x_pm_ne (h5 a ha).2
  · rcases List.mem_append.mp hh with h | h
    · have := h5 _ h
      exact ⟨this.1, by show _ < S.1 + 1; omega⟩
    · rw [List.mem_singleton.mp h]
      exact ⟨x_pi_ge h2, by rw [x_pm_pi]; show _ < S.1 + 1; omega⟩
theorem x_S_push {V : x_E} {S : x_S} {H0 H H1 : Heap} {locs : List Loc} (hS : va_S (x_A V) H0 H locs) (hz : H1.size = H.size + 1) (ho : ∀ q, q < H.size → H1[q]? = H[q]?) : va_S (x_A V) H0 H1 locs :=
  ⟨Nat.le_trans hS.1 (by omega), fun q h1 h2 => (ho q (Nat.lt_of_lt_of_le h1 hS.1)).trans (hS.2.1 q h1 h2), hS.2.2⟩
section R8
variable {V : x_E} {own nm : String} {cc : ByteArray} {nL d MC MS pc ce sl : Nat} {ret : Option FieldType} {Q : Option Value → x_S → Prop} {E : x_P} {ls : List (Nat × Value)} {st : List Value} {S : x_S}
theorem r_new (hE : x_X V own cc nL ret d MC MS nm Q E) {i ci N : Nat} {C : String} {T : u_T} {ty : Nat → FieldType} {fs : List Value} (hK : x_K ci C T N ty) (hcl : Cond.classLink own i C ∈ gT) (hins : Cond.instantiable C N ∈ gT) (hini : Cond.initialized C ∈ gT) (hfs : ∀ j, j < N → defaultValue (ty j) = vp_V fs j) (hfs2 : fs.map (x_tv V) = fs) (hd : decode cc pc = .ok (.new i, 3)) (hcap : ce + 1 ≤ MC ∧ sl + N ≤ MS)
    (kk : E (ce + 1) (sl + N) (pc + 3) ls (.ref (x_pi S.1) :: st) (x_push S (.inr (ci, fs)))) : E ce sl pc ls st S := by
  obtain ⟨p, e, R, s, m, args, below, meth, c, QW, ⟨hx, hb, hml, hnm, hown, hts, hG, h0, hdf, hdl, hMC, hMS⟩, rfl, hret⟩ := hE
  intro H locs arr hH hS hl
  obtain ⟨hc, hin, hty, -⟩ := hK
  have hKn := hG.2.1.1 ci _ hc
  refine W.newcK hx hb hown (hts _ hcl) (hts _ hins) (hts _ hini) rfl hd (Nat.le_trans hcap.1 hMC) (Nat.le_trans hcap.2 hMS) hKn.2.1 rfl fun H1 kC hkC e1 z1 o1 => ?_
  have hsg : x_sg V (x_pi S.1) = H.size := by rw [x_sg_own (x_pi_ge hH.2.1), x_pm_pi, hH.1]
  have h1 := kk H1 locs arr (x_H_push hH z1 o1 ⟨_, hc, by
    show t_OB _ _ _ _ _ (vp_V (fs.map (x_tv V)))
    rw [hfs2]
    exact (u_born ty hts hin hKn hkC e1 hty).to hfs⟩) (x_S_push (S := S) hS z1 o1) hl
  rw [List.map_cons] at h1
  have e9 : x_tv V (.ref (x_pi S.1)) = .ref H.size := by show Value.ref (x_sg V (x_pi S.1)) = _; rw [hsg]
  rw [e9] at h1
  exact h1
/-- the row's number, its first contents -/
def x_at0 (t : Nat) : (Nat → Int32) ⊕ (Nat → Int64) ⊕ (Nat → UInt32) ⊕ (Nat → UInt64) ⊕ (Nat → Option Nat) := if t = 3 then .inr (.inl (fun _ => 0)) else .inl (fun _ => 0)
theorem r_newa (hE : x_X V own cc nL ret d MC MS nm Q E) {at0 : ArrayType} {t N : Nat} {n : Int32} (ht : t < 4) (hty : x_tys[t]? = some (newarray.typeOf at0)) (hw : Cond.arrayClass (newarray.typeOf at0) ∈ gT) (hd : decode cc pc = .ok (.newarray at0, 2)) (hn : ¬ n < 0) (hN : n.toNatClampNeg = N) (hby : N * 8 ≤ 536870912) (hcap : ce + 1 ≤ MC ∧ sl + N ≤ MS)
    (kk : E (ce + 1) (sl + N) (pc + 2) ls (.ref (x_pi S.1) :: st) (x_push S (.inl (t, N, x_at0 t)))) : E ce sl pc ls (.int n :: st) S := by
  obtain ⟨p, e, R, s, m, args, below, meth, c, QW, ⟨hx, hb, hml, hnm, hown, hts, hG, h0, hdf, hdl, hMC, hMS⟩, rfl, hret⟩ := hE
  intro H locs arr hH hS hl
  have hb8 : N * componentBytes (newarray.typeOf at0) ≤ 536870912 := by
    refine Nat.le_trans (Nat.mul_le_mul_left N ?_) hby
    cases at0 <;> decide
  refine va_newaK hx hb (hts _ hw) rfl hd rfl hn hN hb8 (Nat.le_trans hcap.1 hMC) (Nat.le_trans hcap.2 hMS) rfl fun H1 cA e1 z1 o1 hAr hNm => ?_
  have hsg : x_sg V (x_pi S.1) = H.size := by rw [x_sg_own (x_pi_ge hH.2.1), x_pm_pi, hH.1]
  have key : va_at (x_D V) vwCl (H.size, x_tc V (.inl (t, N, x_at0 t))) H1 := by
    show H1[H.size]? = some (vp_cell _ _)
    rw [e1]
    have hK2 := hG.2.1.2
    rcases (show t = 0 ∨ t = 1 ∨ t = 2 ∨ t = 3 by omega) with rfl | rfl | rfl | rfl
    · have e2 : newarray.typeOf at0 = .int := (Option.some.inj hty).symm
      rw [e2] at hNm ⊢
      have h2 : s.vm.findClass ("[" ++ FieldType.int.toString) = some (V.2.2.2.1 0) := (hK2 0 _ rfl).2
      rw [Option.some.inj (hNm.symm.trans h2)]
      rfl
    · have e2 : newarray.typeOf at0 = .byte := (Option.some.inj hty).symm
      rw [e2] at hNm ⊢
      have h2 : s.vm.findClass ("[" ++ FieldType.byte.toString) = some (V.2.2.2.1 1) := (hK2 1 _ rfl).2
      rw [Option.some.inj (hNm.symm.trans h2)]
      rfl
    · have e2 : newarray.typeOf at0 = .boolean := (Option.some.inj hty).symm
      rw [e2] at hNm ⊢
      have h2 : s.vm.findClass ("[" ++ FieldType.boolean.toString) = some (V.2.2.2.1 2) := (hK2 2 _ rfl).2
      rw [Option.some.inj (hNm.symm.trans h2)]
      rfl
    · have e2 : newarray.typeOf at0 = .long := (Option.some.inj hty).symm
      rw [e2] at hNm ⊢
      have h2 : s.vm.findClass ("[" ++ FieldType.long.toString) = some (V.2.2.2.1 3) := (hK2 3 _ rfl).2
      rw [Option.some.inj (hNm.symm.trans h2)]
      rfl
  have h1 := kk H1 locs arr (x_H_push hH z1 o1 key) (x_S_push (S := S) hS z1 o1) hl
  rw [List.map_cons] at h1
  have e9 : x_tv V (.ref (x_pi S.1)) = .ref H.size := by show Value.ref (x_sg V (x_pi S.1)) = _; rw [hsg]
  rw [e9] at h1
  exact h1
theorem r_anew (hE : x_X V own cc nL ret d MC MS nm Q E) {i t N : Nat} {C : String} {n : Int32} (ht : t = 4 ∨ t = 5) (hty : x_tys[t]? = some (.object C)) (hcl : Cond.classLink own i C ∈ gT) (hov : ∀ (U : State) (H : Heap), V.2.2.2.2.2.2 U H → va_AO C U) (hd : decode cc pc = .ok (.anewarray i, 3)) (hn : ¬ n < 0) (hN : n.toNatClampNeg = N) (hby : N * 4 ≤ 536870912) (hcap : ce + 1 ≤ MC ∧ sl + N ≤ MS)
    (kk : E (ce + 1) (sl + N) (pc + 3) ls (.ref (x_pi S.1) :: st) (x_push S (.inl (t, N, .inr (.inr (.inr (.inr (fun _ => none)))))))) : E ce sl pc ls (.int n :: st) S := by
  obtain ⟨p, e, R, s, m, args, below, meth, c, QW, ⟨hx, hb, hml, hnm, hown, hts, hG, h0, hdf, hdl, hMC, hMS⟩, rfl, hret⟩ := hE
  intro H locs arr hH hS hl
  subst hN
  refine W.anew hx hb hown (hts _ hcl) (va_AO.use (hov s s.heap hG.2.2)) rfl hd rfl hn hby (Nat.le_trans hcap.1 hMC) (Nat.le_trans hcap.2 hMS) fun cA kA comp f1 f2 f3 f4 => ?_
  generalize hH1 : H.push ({ cls := cA, slots := Array.replicate n.toNatClampNeg .null, vm := .none } : Cell) = H1
  have z1 : H1.size = H.size + 1 := by rw [← hH1, Array.size_push]
  have e1 : H1[H.size]? = some (arrV cA n.toNatClampNeg (fun _ => .null)) := by rw [← hH1, Array.getElem?_push_size, ← arrV_new]
  have o1 : ∀ q : Nat, q < H.size → H1[q]? = H[q]? := fun q hq => by rw [← hH1, Array.getElem?_push, if_neg (Nat.ne_of_lt hq)]
  have hsg : x_sg V (x_pi S.1) = H.size := by rw [x_sg_own (x_pi_ge hH.2.1), x_pm_pi, hH.1]
  have hcA : cA = V.2.2.2.1 t := by
    have hK2 := hG.2.1.2
    rcases ht with rfl | rfl
    · obtain ⟨_, _, -, -, -, h2⟩ := (hK2 4 _ rfl).2
      have hC : C = "DarkSitting$Rule" := by injection (Option.some.inj hty).symm
      subst hC
      exact Option.some.inj (f1.symm.trans h2)
    · obtain ⟨_, _, -, -, -, h2⟩ := (hK2 5 _ rfl).2
      have hC : C = "DarkSitting$Way" := by injection (Option.some.inj hty).symm
      subst hC
      exact Option.some.inj (f1.symm.trans h2)
  subst hcA
  have h1 := kk H1 locs arr (x_H_push hH z1 o1 (by
    show H1[H.size]? = some (vp_cell _ _)
    rw [e1]
    rfl)) (x_S_push (S := S) hS z1 o1) hl
  rw [List.map_cons] at h1
  have e9 : x_tv V (.ref (x_pi S.1)) = .ref H.size := by show Value.ref (x_sg V (x_pi S.1)) = _; rw [hsg]
  rw [e9] at h1
  exact h1
/-- Object's own constructor -/
theorem r_obj (hE : x_X V own cc nL ret d MC MS nm Q E) {i h : Nat} (hl0 : Cond.methodLink own i Lib.objectInit ∈ gT) (hin : Cond.instanceMethod Lib.objectInit ∈ gT) (hco : Cond.code Lib.objectInit ⟨#[0xb1]⟩ 1 none ∈ gT) (hd : decode cc pc = .ok (.invokespecial i, 3)) (hd1 : 1 ≤ d) (hW : (st.map fun v => v.category).sum ≤ 8) (kk : E ce sl (pc + 3) ls st S) : E ce sl pc ls (.ref h :: st) S := by
  obtain ⟨p, e, R, s, m, args, below, meth, c, QW, ⟨hx, hb, hml, hnm, hown, hts, hG, h0, hdf, hdl, hMC, hMS⟩, rfl, hret⟩ := hE
  intro H locs arr hH hS hl
  refine W.objInit hx hb hown (hts _ hl0) (hts _ hin) (hts _ hco) rfl (by rw [hml]; exact hl.1) rfl hd (by omega) ?_ ?_
  · have h1 := lv_room (m := m) (pc := pc) (ls := arr) (rest := (Value.ref h :: st).map (x_tv V)) (st := st.map (x_tv V)) (by rw [x_sumcat]; exact hW)
    have h2 : 64 * 1 ≤ 64 * d := Nat.mul_le_mul_left 64 hd1
    have h3 := Nat.le_trans h2 hdl
    have h4 : 2 * (F0 m pc arr ((Value.ref h :: st).map (x_tv V))).monitorRoom + ((st.map (x_tv V)).map fun v => v.category).sum ≤ 8 := h1
    exact Nat.le_trans (Nat.add_le_add_right h4 12) (by omega)
  · exact W.eq (g2 := F0 m (pc + 3) arr (st.map (x_tv V))) rfl (kk H locs arr hH hS hl)
/-- a final field, in its constructor -/
theorem r_putF (hE : x_X V own cc nL ret d MC MS "<init>" Q E) {i ci k h : Nat} {t : FieldType} {fs : List Value} {v : Value} (hF : x_F own i ci k t true true) (hd : decode cc pc = .ok (.putfield i, 3)) (hm : h ∈ S.2.1) (hc : S.2.2 h = .inr (ci, fs)) (hn : narrow t v = v) (hf : fits t v = true) (hk2 : k < fs.length) (kk : E ce sl (pc + 3) ls st (x_put S h (.inr (ci, fs.set k v)))) : E ce sl pc ls (v :: .ref h :: st) S := by
  obtain ⟨p, e, R, s, m, args, below, meth, c, QW, ⟨hx, hb, hml, hnm, hown, hts, hG, h0, hdf, hdl, hMC, hMS⟩, rfl, hret⟩ := hE
  intro H locs arr hH hS hl
  obtain ⟨C, T, N, ty, ⟨hcl, hin, hty, hap0⟩, hk, hlk, ht, hfin, hdecl⟩ := hF
  obtain ⟨k0, hk1, hk0⟩ := x_in (V := V) hm
  rw [hc] at hk0
  have hn2 : narrow t (x_tv V v) = x_tv V v := by cases v <;> first | exact hn | (cases t <;> rfl)
  have hf2 : fits t (x_tv V v) = true := by cases v <;> first | exact hf | (cases t <;> simp_all [fits, x_tv])
  have hK := hG.2.1
  have hP := hH.2.2.1
  have hap := va_apart (own := own) hts hin ty hty hap0 hK hcl
  obtain ⟨r, h1, cell, q1, q2, q3, q4⟩ := hP k0 _ hk0
  have hr : r = (C, T, N) := Option.some.inj (h1.symm.trans hcl)
  subst hr
  obtain ⟨hSl, hfc, kC, hkC, hkind⟩ := hK.1 ci _ hcl
  obtain ⟨cf, kf, fi, f, hi, hsl⟩ := hSl k hk
  have hlay := hts _ (hin _ (u_in_lay hk))
  unfold u_lay at hlay
  rw [if_pos hfin] at hlay
  have hst := (u_facts hfc hkC (u_lays hts hin hk) hi).1
  have hcf : m.cls = cf := by
    obtain ⟨_, _, c', _, _, _, -, -, hf', -, -, -, hown2, -⟩ := Cond.laysFinal_spec hlay
    have e1 : c' = cf := by have := hi.symm.trans hf'; simp at this; exact this.1.symm
    rw [hdecl rfl] at hown2
    rw [← e1]; exact Option.some.inj (hown.symm.trans hown2)
  have h6 := u_fits hfc hkC hkind (Or.inr hlay) hi (by rw [hty k hk, ht]) hn2 hf2
  refine W.putFinK hx hb hown (hts _ hlk) hi hst hcf hnm (by rw [q2]; exact h6) q1 q3 (by rw [hsl]; exact k2_hasslot (q4 k hk)) rfl rfl hd fun H' e1 e2 e3 => ?_
  rw [hsl] at e1 ⊢
  have hlen : k < (fs.map (x_tv V)).length := by rw [List.length_map]; exact hk2
  have hP1 := hP.set (x_DD hH) hk0 (e := .inr (ci, (fs.map (x_tv V)).set k (x_tv V v))) ⟨_, hcl, t_OB.to (V := updV (vp_V (fs.map (x_tv V))) k (x_tv V v)) ⟨_, e1, q2, q3, t_set q4 hap hk _⟩ (fun j _ => vp_updV_set hlen _ j)⟩ e3
  refine kk H' _ arr (x_H_put (e := .inr (ci, fs.set k v)) hH hk1 ?_ e2) (hS.put e2 e3 ((x_DD hH).2 k0 _ hk0)) hl
  show va_P (x_D V) vwCl ((x_ws V S).set k0 (x_sg V h, .inr (ci, (fs.set k v).map (x_tv V)))) H'
  rw [List.map_set]
  exact hP1
/-- a RULE or a WAY into its row -/
theorem r_aast (hE : x_X V own cc nL ret d MC MS nm Q E) {h n t v ci : Nat} {vs : List Value} {f : Nat → Option Nat} {i : Int32} (ht : (t = 4 ∧ ci = 4) ∨ (t = 5 ∧ ci = 8)) (hd : decode cc pc = .ok (.aastore, 1)) (hm : h ∈ S.2.1) (hc : S.2.2 h = .inl (t, n, .inr (.inr (.inr (.inr f))))) (hm2 : v ∈ S.2.1) (hc2 : S.2.2 v = .inr (ci, vs)) (hin : vp_in i n)
    (kk : E ce sl (pc + 1) ls st (x_put S h (.inl (t, n, .inr (.inr (.inr (.inr (va_up f i.toNatClampNeg (some v))))))))) : E ce sl pc ls (.ref v :: .int i :: .ref h :: st) S := by
  obtain ⟨p, e, R, s, m, args, below, meth, c, QW, ⟨hx, hb, hml, hnm, hown, hts, hG, h0, hdf, hdl, hMC, hMS⟩, rfl, hret⟩ := hE
  intro H locs arr hH hS hl
  obtain ⟨k0, hk1, hk0⟩ := x_inA (V := V) (n := 0) hm hc
  obtain ⟨k2, -, hk2⟩ := x_in (V := V) hm2
  rw [hc2] at hk2
  have hP := hH.2.2.1
  have hK := hG.2.1
  have hlt : i.toNatClampNeg < n := Nat.not_le.mp fun q => hin (Or.inr q)
  have h0i : ¬ i < 0 := fun q => hin (Or.inl q)
  obtain ⟨r', hr', cellV, g1, g2, g3, -⟩ := hP k2 _ hk2
  obtain ⟨r, hr, hta⟩ : ∃ r : vw_C, vwCl[ci]? = some r ∧ (x_ty V)[t]? = some (V.2.2.2.1 t, .object r.1) := by
    rcases ht with ⟨rfl, rfl⟩ | ⟨rfl, rfl⟩
    · exact ⟨_, rfl, rfl⟩
    · exact ⟨_, rfl, rfl⟩
  have hcls := (hK.1 ci r hr).2
  obtain ⟨kA, comp, k1, k2', k3, -⟩ := (hK.2 t _ hta).2
  have hcomp : comp = V.2.1 ci := Option.some.inj (k3.symm.trans hcls.1)
  subst hcomp
  obtain ⟨kC, hkC, -⟩ := hcls.2
  refine W.aast hx hb (hP k0 _ hk0) (fun q h => by cases h) (fun h => by cases h) k1 k2' rfl hkC ⟨h0i, by show _ < (arrV _ _ _).slots.size; rw [arrV_size]; exact hlt⟩ g1 (fun q h => by rw [g3] at h; cases h) (by rw [g2]; exact hkC) (by rw [g2]; exact va_assign hcls) rfl rfl hd fun H1 e1 z oq => ?_
  refine kk H1 _ arr (x_H_put (e := .inl (t, n, .inr (.inr (.inr (.inr (va_up f i.toNatClampNeg (some v))))))) hH hk1 (hP.set (x_DD hH) hk0 ?_ oq) z) (hS.put z oq ((x_DD hH).2 k0 _ hk0)) hl
  show H1[x_sg V h]? = some (vp_cell _ _)
  rw [e1]
  show some (Cell.setSlot (vp_cell _ (n, .inr (.inr (.inr (.inr _))))) _ _) = some (vp_cell _ (n, .inr (.inr (.inr (.inr _)))))
  rw [vp_cell_q, vp_cell_q, arrV_store]
  congr 2
  funext q
  by_cases hq : q = i.toNatClampNeg
  · subst hq
    simp [updV, va_up, va_rf]
  · simp [updV, va_up, hq]
end R8

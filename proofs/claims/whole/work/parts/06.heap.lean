theorem x_good : GoodIn gT gT := by
  intro w hw
  refine ⟨hw, ?_⟩
  have h := (List.mem_filter.mp hw).2
  unfold gB at h
  rw [Bool.or_eq_true] at h
  rcases h with h | h
  · exact Or.inl h
  · cases w <;> first | exact Or.inr ⟨_, rfl⟩ | cases h
theorem x_goodW {y : MethodName} {cc : ByteArray} {nL : Nat} {ret : Option FieldType} (h : Cond.code y cc nL ret ∈ gT) : GoodIn gT (x_W y cc nL ret) := by
  intro w hw
  rcases List.mem_cons.mp hw with rfl | h1
  · exact x_good _ h
  · exact x_good _ h1
theorem x_gin {w : Cond} (h : w ∈ lw_tbl) (hg : gB w = true) : w ∈ gT := List.mem_filter.mpr ⟨h, hg⟩
theorem x_trf (V : x_E) (r : Option Nat) : x_tv V (va_rf r) = va_rf (r.map (x_sg V)) := by cases r <;> rfl
section R6
variable {V : x_E} {own nm : String} {cc : ByteArray} {nL d MC MS pc ce sl : Nat} {ret : Option FieldType} {Q : Option Value → x_S → Prop} {E : x_P} {ls : List (Nat × Value)} {st : List Value} {S : x_S}
theorem x_inA {h t n : Nat} {a : vp_A} (hm : h ∈ S.2.1) (hc : S.2.2 h = .inl (t, a)) : ∃ k : Nat, S.2.1[k]? = some h ∧ (x_ws V S)[k]? = some (x_sg V h, .inl (V.2.2.2.1 t, x_ta V a)) := by
  obtain ⟨k, h1, h2⟩ := x_in (V := V) hm
  exact ⟨k, h1, by rw [h2, hc]; rfl⟩
theorem r_iald (hE : x_X V own cc nL ret d MC MS nm Q E) {h n : Nat} {f : Nat → Int32} {i : Int32} (hd : decode cc pc = .ok (.iaload, 1)) (hm : h ∈ S.2.1) (hc : S.2.2 h = .inl (0, n, .inl f)) (hin : vp_in i n) (kk : E ce sl (pc + 1) ls (.int (f i.toNatClampNeg) :: st) S) : E ce sl pc ls (.int i :: .ref h :: st) S := by
  obtain ⟨p, e, R, s, m, args, below, meth, c, QW, ⟨hx, hb, hml, hnm, hown, hts, hG, h0, hdf, hdl, hMC, hMS⟩, rfl, hret⟩ := hE
  intro H locs arr hH hS hl
  obtain ⟨k0, -, hk0⟩ := x_inA (V := V) (n := 0) hm hc
  exact va_iald (D := x_D V) hx hb hG.2.1 hH.2.2.1 k0 0 hk0 rfl hin hd (kk H locs arr hH hS hl)
theorem r_bald (hE : x_X V own cc nL ret d MC MS nm Q E) {h n : Nat} {f : Nat → Int32} {i : Int32} (hd : decode cc pc = .ok (.baload, 1)) (hm : h ∈ S.2.1) (hc : S.2.2 h = .inl (1, n, .inl f)) (hin : vp_in i n) (kk : E ce sl (pc + 1) ls (.int (f i.toNatClampNeg) :: st) S) : E ce sl pc ls (.int i :: .ref h :: st) S := by
  obtain ⟨p, e, R, s, m, args, below, meth, c, QW, ⟨hx, hb, hml, hnm, hown, hts, hG, h0, hdf, hdl, hMC, hMS⟩, rfl, hret⟩ := hE
  intro H locs arr hH hS hl
  obtain ⟨k0, -, hk0⟩ := x_inA (V := V) (n := 0) hm hc
  exact va_bald (D := x_D V) hx hb hG.2.1 hH.2.2.1 k0 1 hk0 rfl hin hd (kk H locs arr hH hS hl)
theorem r_zald (hE : x_X V own cc nL ret d MC MS nm Q E) {h n : Nat} {f : Nat → Int32} {i : Int32} (hd : decode cc pc = .ok (.baload, 1)) (hm : h ∈ S.2.1) (hc : S.2.2 h = .inl (2, n, .inl f)) (hin : vp_in i n) (kk : E ce sl (pc + 1) ls (.int (f i.toNatClampNeg) :: st) S) : E ce sl pc ls (.int i :: .ref h :: st) S := by
  obtain ⟨p, e, R, s, m, args, below, meth, c, QW, ⟨hx, hb, hml, hnm, hown, hts, hG, h0, hdf, hdl, hMC, hMS⟩, rfl, hret⟩ := hE
  intro H locs arr hH hS hl
  obtain ⟨k0, -, hk0⟩ := x_inA (V := V) (n := 0) hm hc
  exact va_zald (D := x_D V) hx hb hG.2.1 hH.2.2.1 k0 2 hk0 rfl hin hd (kk H locs arr hH hS hl)
theorem r_lald (hE : x_X V own cc nL ret d MC MS nm Q E) {h n : Nat} {f : Nat → Int64} {i : Int32} (hd : decode cc pc = .ok (.laload, 1)) (hm : h ∈ S.2.1) (hc : S.2.2 h = .inl (3, n, .inr (.inl f))) (hin : vp_in i n) (kk : E ce sl (pc + 1) ls (.long (f i.toNatClampNeg) :: st) S) : E ce sl pc ls (.int i :: .ref h :: st) S := by
  obtain ⟨p, e, R, s, m, args, below, meth, c, QW, ⟨hx, hb, hml, hnm, hown, hts, hG, h0, hdf, hdl, hMC, hMS⟩, rfl, hret⟩ := hE
  intro H locs arr hH hS hl
  obtain ⟨k0, -, hk0⟩ := x_inA (V := V) (n := 0) hm hc
  exact va_lald (D := x_D V) hx hb hG.2.1 hH.2.2.1 k0 3 hk0 rfl hin hd (kk H locs arr hH hS hl)
/-- rows of RULES (t 4) and WAYS (t 5) -/
theorem r_aald (hE : x_X V own cc nL ret d MC MS nm Q E) {h n t : Nat} {f : Nat → Option Nat} {i : Int32} (ht : t = 4 ∨ t = 5) (hd : decode cc pc = .ok (.aaload, 1)) (hm : h ∈ S.2.1) (hc : S.2.2 h = .inl (t, n, .inr (.inr (.inr (.inr f))))) (hin : vp_in i n) (kk : E ce sl (pc + 1) ls (va_rf (f i.toNatClampNeg) :: st) S) : E ce sl pc ls (.int i :: .ref h :: st) S := by
  obtain ⟨p, e, R, s, m, args, below, meth, c, QW, ⟨hx, hb, hml, hnm, hown, hts, hG, h0, hdf, hdl, hMC, hMS⟩, rfl, hret⟩ := hE
  intro H locs arr hH hS hl
  obtain ⟨k0, -, hk0⟩ := x_inA (V := V) (n := 0) hm hc
  have kk2 := kk H locs arr hH hS hl
  rw [List.map_cons, x_trf] at kk2
  rcases ht with rfl | rfl
  · exact va_aldq (D := x_D V) hx hb hG.2.1 hH.2.2.1 k0 4 hk0 rfl hin hd kk2
  · exact va_aldq (D := x_D V) hx hb hG.2.1 hH.2.2.1 k0 5 hk0 rfl hin hd kk2
theorem r_alen (hE : x_X V own cc nL ret d MC MS nm Q E) {h t : Nat} {a : vp_A} {v : Int32} (ht : t < 6) (hd : decode cc pc = .ok (.arraylength, 1)) (hm : h ∈ S.2.1) (hc : S.2.2 h = .inl (t, a)) (hv : Int32.ofNat a.1 = v) (kk : E ce sl (pc + 1) ls (.int v :: st) S) : E ce sl pc ls (.ref h :: st) S := by
  obtain ⟨p, e, R, s, m, args, below, meth, c, QW, ⟨hx, hb, hml, hnm, hown, hts, hG, h0, hdf, hdl, hMC, hMS⟩, rfl, hret⟩ := hE
  intro H locs arr hH hS hl
  obtain ⟨k0, -, hk0⟩ := x_inA (V := V) (n := 0) hm hc
  have hv2 : Int32.ofNat (x_ta V a).1 = v := by
    rw [← hv]; unfold x_ta; split <;> rfl
  have hty : ∃ ty, (x_ty V)[t]? = some (V.2.2.2.1 t, ty) := by
    rcases (show t = 0 ∨ t = 1 ∨ t = 2 ∨ t = 3 ∨ t = 4 ∨ t = 5 by omega) with rfl | rfl | rfl | rfl | rfl | rfl <;> exact ⟨_, rfl⟩
  obtain ⟨ty, hty⟩ := hty
  exact va_alen (D := x_D V) hx hb hG.2.1 hH.2.2.1 k0 t hk0 hty hv2 hd (kk H locs arr hH hS hl)
theorem r_iast (hE : x_X V own cc nL ret d MC MS nm Q E) {h n : Nat} {f : Nat → Int32} {i x : Int32} (hd : decode cc pc = .ok (.iastore, 1)) (hm : h ∈ S.2.1) (hc : S.2.2 h = .inl (0, n, .inl f)) (hin : vp_in i n) (kk : E ce sl (pc + 1) ls st (x_put S h (.inl (0, n, .inl (upd f i.toNatClampNeg x))))) : E ce sl pc ls (.int x :: .int i :: .ref h :: st) S := by
  obtain ⟨p, e, R, s, m, args, below, meth, c, QW, ⟨hx, hb, hml, hnm, hown, hts, hG, h0, hdf, hdl, hMC, hMS⟩, rfl, hret⟩ := hE
  intro H locs arr hH hS hl
  obtain ⟨k0, hk1, hk0⟩ := x_inA (V := V) (n := 0) hm hc
  have hP := hH.2.2.1
  refine W.iast hx hb (hP k0 _ hk0) ((hG.2.1.2 0 _ rfl).1 n (fun j => .int (f j))) (fun q => by cases q) (by show ¬ (i < 0 ∨ (arrV _ _ _).slots.size ≤ _); rw [arrV_size]; exact hin) rfl rfl hd fun H1 e1 z oq => ?_
  refine kk H1 _ arr (x_H_put (e := .inl (0, n, .inl (upd f i.toNatClampNeg x))) hH hk1 (hP.set (x_DD hH) hk0 ?_ oq) z) (hS.put z oq ((x_DD hH).2 k0 _ hk0)) hl
  show H1[x_sg V h]? = some (vp_cell _ _)
  rw [e1]
  show some (Cell.setSlot (vp_cell _ (n, .inl f)) _ _) = some (vp_cell _ (n, .inl _))
  rw [vp_cell_i, vp_cell_i, arrV_store]
  congr 2
  funext q
  by_cases hq : q = i.toNatClampNeg
  · subst hq
    simp [updV, upd]
  · simp [updV, upd, hq]
theorem r_bast (hE : x_X V own cc nL ret d MC MS nm Q E) {h n : Nat} {f : Nat → Int32} {i x : Int32} (hd : decode cc pc = .ok (.bastore, 1)) (hm : h ∈ S.2.1) (hc : S.2.2 h = .inl (1, n, .inl f)) (hin : vp_in i n) (kk : E ce sl (pc + 1) ls st (x_put S h (.inl (1, n, .inl (upd f i.toNatClampNeg (vp_nar .byte x)))))) : E ce sl pc ls (.int x :: .int i :: .ref h :: st) S := by
  obtain ⟨p, e, R, s, m, args, below, meth, c, QW, ⟨hx, hb, hml, hnm, hown, hts, hG, h0, hdf, hdl, hMC, hMS⟩, rfl, hret⟩ := hE
  intro H locs arr hH hS hl
  obtain ⟨k0, hk1, hk0⟩ := x_inA (V := V) (n := 0) hm hc
  have hP := hH.2.2.1
  refine W.bast hx hb (hP k0 _ hk0) ((hG.2.1.2 1 _ rfl).1 n (fun j => .int (f j))) (fun q => by cases q) (by show ¬ (i < 0 ∨ (arrV _ _ _).slots.size ≤ _); rw [arrV_size]; exact hin) rfl rfl hd fun H1 e1 z oq => ?_
  refine kk H1 _ arr (x_H_put (e := .inl (1, n, .inl (upd f i.toNatClampNeg (vp_nar .byte x)))) hH hk1 (hP.set (x_DD hH) hk0 ?_ oq) z) (hS.put z oq ((x_DD hH).2 k0 _ hk0)) hl
  show H1[x_sg V h]? = some (vp_cell _ _)
  rw [e1]
  show some (Cell.setSlot (vp_cell _ (n, .inl f)) _ _) = some (vp_cell _ (n, .inl _))
  rw [vp_cell_i, vp_cell_i, arrV_store]
  congr 2
  funext q
  by_cases hq : q = i.toNatClampNeg
  · subst hq
    simp [updV, upd, vp_nar]
    try rfl
  · simp [updV, upd, hq]
theorem r_zast (hE : x_X V own cc nL ret d MC MS nm Q E) {h n : Nat} {f : Nat → Int32} {i x : Int32} (hd : decode cc pc = .ok (.bastore, 1)) (hm : h ∈ S.2.1) (hc : S.2.2 h = .inl (2, n, .inl f)) (hin : vp_in i n) (kk : E ce sl (pc + 1) ls st (x_put S h (.inl (2, n, .inl (upd f i.toNatClampNeg (vp_nar .boolean x)))))) : E ce sl pc ls (.int x :: .int i :: .ref h :: st) S := by
  obtain ⟨p, e, R, s, m, args, below, meth, c, QW, ⟨hx, hb, hml, hnm, hown, hts, hG, h0, hdf, hdl, hMC, hMS⟩, rfl, hret⟩ := hE
  intro H locs arr hH hS hl
  obtain ⟨k0, hk1, hk0⟩ := x_inA (V := V) (n := 0) hm hc
  have hP := hH.2.2.1
  refine W.zast hx hb (hP k0 _ hk0) ((hG.2.1.2 2 _ rfl).1 n (fun j => .int (f j))) (fun q => by cases q) (by show ¬ (i < 0 ∨ (arrV _ _ _).slots.size ≤ _); rw [arrV_size]; exact hin) rfl rfl hd fun H1 e1 z oq => ?_
  refine kk H1 _ arr (x_H_put (e := .inl (2, n, .inl (upd f i.toNatClampNeg (vp_nar .boolean x)))) hH hk1 (hP.set (x_DD hH) hk0 ?_ oq) z) (hS.put z oq ((x_DD hH).2 k0 _ hk0)) hl
  show H1[x_sg V h]? = some (vp_cell _ _)
  rw [e1]
  show some (Cell.setSlot (vp_cell _ (n, .inl f)) _ _) = some (vp_cell _ (n, .inl _))
  rw [vp_cell_i, vp_cell_i, arrV_store]
  congr 2
  funext q
  by_cases hq : q = i.toNatClampNeg
  · subst hq
    simp [updV, upd, vp_nar]
    try rfl
  · simp [updV, upd, hq]
theorem r_last (hE : x_X V own cc nL ret d MC MS nm Q E) {h n : Nat} {f : Nat → Int64} {i : Int32} {x : Int64} (hd : decode cc pc = .ok (.lastore, 1)) (hm : h ∈ S.2.1) (hc : S.2.2 h = .inl (3, n, .inr (.inl f))) (hin : vp_in i n) (kk : E ce sl (pc + 1) ls st (x_put S h (.inl (3, n, .inr (.inl (vp_updL f i.toNatClampNeg x)))))) : E ce sl pc ls (.long x :: .int i :: .ref h :: st) S := by
  obtain ⟨p, e, R, s, m, args, below, meth, c, QW, ⟨hx, hb, hml, hnm, hown, hts, hG, h0, hdf, hdl, hMC, hMS⟩, rfl, hret⟩ := hE
  intro H locs arr hH hS hl
  obtain ⟨k0, hk1, hk0⟩ := x_inA (V := V) (n := 0) hm hc
  have hP := hH.2.2.1
  refine W.last hx hb (hP k0 _ hk0) ((hG.2.1.2 3 _ rfl).1 n (fun j => .long (f j))) (fun q => by cases q) (by show ¬ (i < 0 ∨ (arrV _ _ _).slots.size ≤ _); rw [arrV_size]; exact hin) rfl rfl hd fun H1 e1 z oq => ?_
  refine kk H1 _ arr (x_H_put (e := .inl (3, n, .inr (.inl (vp_updL f i.toNatClampNeg x)))) hH hk1 (hP.set (x_DD hH) hk0 ?_ oq) z) (hS.put z oq ((x_DD hH).2 k0 _ hk0)) hl
  show H1[x_sg V h]? = some (vp_cell _ _)
  rw [e1]
  show some (Cell.setSlot (vp_cell _ (n, .inr (.inl f))) _ _) = some (vp_cell _ (n, .inr (.inl _)))
  rw [vp_cell_l, vp_cell_l, arrV_store]
  congr 2
  funext q
  by_cases hq : q = i.toNatClampNeg
  · subst hq
    simp [updV, vp_updL]
  · simp [updV, vp_updL, hq]
end R6

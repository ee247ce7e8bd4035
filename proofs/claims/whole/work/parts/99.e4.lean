/-! int rows copied: System.arraycopy, clone, Arrays.copyOf -/
section CP
variable {V : x_E} {own nm : String} {cc : ByteArray} {nL d MC MS pc ce sl : Nat} {ret : Option FieldType} {Q : Option Value → x_S → Prop} {E : x_P} {ls : List (Nat × Value)} {st : List Value} {S : x_S}
theorem nI_cl {n : Nat} (h : n < 2 ^ 31) : (nI n).toNatClampNeg = n := by
  have h1 := nI_toInt h
  show (nI n).toInt.toNat = n
  rw [h1]
  rfl
theorem r_copyi (hE : x_X V own cc nL ret d MC MS nm Q E) {i h0 h1 n0 n1 n : Nat} {f g : Nat → Int32} (hl0 : Cond.methodLink own i arraycopyName ∈ gT) (hnat : Cond.native arraycopyName ∈ gT) (hst : Cond.static arraycopyName ∈ gT) (hini : Cond.initialized "java/lang/System" ∈ gT) (hd : decode cc pc = .ok (.invokestatic i, 3))
    (hm0 : h0 ∈ S.2.1) (hc0 : S.2.2 h0 = .inl (0, n0, .inl f)) (hm1 : h1 ∈ S.2.1) (hc1 : S.2.2 h1 = .inl (0, n1, .inl g)) (hn0 : n ≤ n0) (hn1 : n ≤ n1) (hnb : n < 2 ^ 31) (hd1 : 1 ≤ d) (hW : (st.map fun v => v.category).sum ≤ 8)
    (kk : E ce sl (pc + 3) ls st (x_put S h1 (.inl (0, n1, .inl (va_cpy f g 0 0 n))))) : E ce sl pc ls (.int (nI n) :: .int 0 :: .ref h1 :: .int 0 :: .ref h0 :: st) S := by
  obtain ⟨p, e, R, s, m, args, below, meth, c, QW, ⟨hx, hb, hml, hnm, hown, hts, hG, h0', hdf, hdl, hMC, hMS⟩, rfl, hret⟩ := hE
  intro H locs arr hH hS hl
  obtain ⟨k0, hk01, hk0⟩ := x_inA (V := V) (n := 0) hm0 hc0
  obtain ⟨k1, hk11, hk1⟩ := x_inA (V := V) (n := 0) hm1 hc1
  have hP := hH.2.2.1
  have hC0 : H[x_sg V h0]? = some (vp_cell (V.2.2.2.1 0) (n0, .inl f)) := hP k0 _ hk0
  have hC1 : H[x_sg V h1]? = some (vp_cell (V.2.2.2.1 0) (n1, .inl g)) := hP k1 _ hk1
  obtain ⟨-, q0, hq0, cm0, hkk0⟩ := (hG.2.1.2 0 _ rfl).1 n0 (fun j => .int (f j))
  obtain ⟨-, q1, hq1, cm1, hkk1⟩ := (hG.2.1.2 0 _ rfl).1 n1 (fun j => .int (g j))
  have z0 : (0 : Int32).toNatClampNeg = 0 := by decide
  have zi : (0 : Int32).toInt = 0 := by decide
  have zn : (nI n).toNatClampNeg = n := nI_cl hnb
  intro T hT X
  obtain ⟨vm', X', step⟩ := X.arraycopy hx hown (hts _ hl0) (hts _ hnat) (hts _ hst) (hts _ hini) (src := x_sg V h0) (dst := x_sg V h1) (cs := vp_cell (V.2.2.2.1 0) (n0, .inl f)) (cd := vp_cell (V.2.2.2.1 0) (n1, .inl g)) (srcPos := 0) (destPos := 0) (n := nI n) (by rw [hT]; exact hC0) (by rw [hT]; exact hC1)
    (fun _ h => by cases h) (fun _ h => by cases h) (fun h => by cases h) (fun h => by cases h) hq0 hq1 hkk0 hkk1 rfl (by decide) (by decide) (nI_pos hnb)
    (by rw [zi, nI_toInt hnb]; show ¬ _ > ((arrV _ n0 (fun j => .int (f j))).slots.size : Int); rw [arrV_size]; omega)
    (by rw [zi, nI_toInt hnb]; show ¬ _ > ((arrV _ n1 (fun j => .int (g j))).slots.size : Int); rw [arrV_size]; omega)
    (fun vm₁ _ i hi => by
      rw [zn] at hi
      rw [z0]
      have e9 : (vp_cell (V.2.2.2.1 0) (n0, .inl f)).slots.getD (0 + i) .null = .int (f (0 + i)) := by
        show (arrV _ n0 (fun j => .int (f j))).slots.getD _ _ = _
        rw [Array.getD_eq_getD_getElem?, arrV_read _ _ (by omega)]
        rfl
      rw [e9]
      exact ⟨rfl, trivial⟩)
    (g := F0 m pc arr (.int (nI n) :: .int 0 :: .ref (x_sg V h1) :: .int 0 :: .ref (x_sg V h0) :: st.map (x_tv V))) rfl (by rw [hml]; exact hl.1) (rest := st.map (x_tv V)) rfl (by rw [hb]; exact hd) (Nat.le_trans hd1 hdf) (by
      show 2 * 0 + _ + (7 + 11) ≤ _
      rw [x_sumcat]
      omega)
  have e1 : copied (vp_cell (V.2.2.2.1 0) (n0, .inl f)) (vp_cell (V.2.2.2.1 0) (n1, .inl g)) 0 0 (nI n) = vp_cell (V.2.2.2.1 0) (n1, .inl (va_cpy f g 0 0 n)) := by
    have h9 := va_copied (fun z => Value.int z) (V.2.2.2.1 0) (V.2.2.2.1 0) (n0 := n0) (n1 := n1) (sp := 0) (dp := 0) (n := n) f g (by omega)
    show (vp_cell _ _).storeRun (0 : Int32).toNatClampNeg ((vp_cell _ _).stretch (0 : Int32).toNatClampNeg (nI n).toNatClampNeg) = _
    rw [z0, zn]
    exact h9
  rw [e1] at X' step
  have hlt : x_sg V h1 < H.size := (Array.getElem?_eq_some_iff.mp hC1).1
  generalize hH1 : H.setIfInBounds (x_sg V h1) (vp_cell (V.2.2.2.1 0) (n1, .inl (va_cpy f g 0 0 n))) = H1
  have ez : H1.size = H.size := by rw [← hH1]; simp
  have ea : H1[x_sg V h1]? = some (vp_cell (V.2.2.2.1 0) (n1, .inl (va_cpy f g 0 0 n))) := by rw [← hH1]; simp [Array.getElem?_setIfInBounds, hlt]
  have oq : ∀ q : Nat, q ≠ x_sg V h1 → H1[q]? = H[q]? := fun q hq => by rw [← hH1]; simp [Array.getElem?_setIfInBounds, Ne.symm hq]
  obtain ⟨t, a1, b1⟩ := kk H1 _ arr (x_H_put (e := .inl (0, n1, .inl (va_cpy f g 0 0 n))) hH hk11 (hP.set (x_DD hH) hk1 ea oq) ez) ⟨by rw [ez]; exact hS.1, fun q g1 g2 => by
      rw [oq q (fun e8 => g2 (by rw [e8]; exact (x_DD hH).2 k1 _ hk1))]
      exact hS.2.1 q g1 g2, fun q hq => by
      rcases List.mem_append.mp hq with h | h
      · exact hS.2.2 q h
      · obtain ⟨z, -, hz⟩ := List.mem_map.mp h
        rw [← hz]
        exact (x_DD hH).2 k1 _ hk1⟩ hl _ (by rw [← hH1, ← hT]; rfl) X'
  exact ⟨t, step t a1, b1⟩
theorem r_clone (hE : x_X V own cc nL ret d MC MS nm Q E) {i h n : Nat} {f : Nat → Int32} (hl0 : Cond.methodLink own i ⟨"[I", "clone", "()Ljava/lang/Object;"⟩ ∈ gT) (hsame : Cond.sameMethod "[I" "java/lang/Object" "clone" "()Ljava/lang/Object;" ∈ gT) (hnat : Cond.native ⟨"java/lang/Object", "clone", "()Ljava/lang/Object;"⟩ ∈ gT) (hinst : Cond.instanceMethod ⟨"java/lang/Object", "clone", "()Ljava/lang/Object;"⟩ ∈ gT)
    (hsel : Cond.selects "[I" ⟨"[I", "clone", "()Ljava/lang/Object;"⟩ ⟨"java/lang/Object", "clone", "()Ljava/lang/Object;"⟩ ∈ gT) (hcl : ∀ (U : State) (H : Heap), V.2.2.2.2.2.2 U H → va_Nw (.castable "[I" "java/lang/Cloneable") U) (hd : decode cc pc = .ok (.invokevirtual i, 3)) (hm : h ∈ S.2.1) (hc : S.2.2 h = .inl (0, n, .inl f)) (hd1 : 1 ≤ d) (hW : (st.map fun v => v.category).sum ≤ 8) (hcap : ce + 1 ≤ MC ∧ sl + n ≤ MS)
    (kk : E (ce + 1) (sl + n) (pc + 3) ls (.ref (x_pi S.1) :: st) (x_push S (.inl (0, n, .inl f)))) : E ce sl pc ls (.ref h :: st) S := by
  obtain ⟨p, e, R, s, m, args, below, meth, c, QW, ⟨hx, hb, hml, hnm, hown, hts, hG, h0', hdf, hdl, hMC, hMS⟩, rfl, hret⟩ := hE
  intro H locs arr hH hS hl
  obtain ⟨k0, hk01, hk0⟩ := x_inA (V := V) (n := 0) hm hc
  have hC0 : H[x_sg V h]? = some (vp_cell (V.2.2.2.1 0) (n, .inl f)) := hH.2.2.1 k0 _ hk0
  have hf1 : s.vm.findClass "[I" = some (V.2.2.2.1 0) := (hG.2.1.2 0 _ rfl).2
  obtain ⟨c0, t0', f1, f2, f3⟩ := Cond.castable_spec (va_Nw.use (A := args) rfl (hcl s s.heap hG.2.2))
  cases hf1.symm.trans f1
  have hsz : (vp_cell (V.2.2.2.1 0) (n, .inl f)).slots.size = n := arrV_size _ _ _
  intro T hT X
  obtain ⟨-, kA, hkA, comp, hkind⟩ := State.isArrayOf_alike X.warmed.alike ((hG.2.1.2 0 _ rfl).1 0 (fun _ => .null))
  obtain ⟨-, kS, hkS, compS, hkindS⟩ := (hG.2.1.2 0 _ rfl).1 0 (fun _ => .null)
  obtain ⟨vm', X', step⟩ := X.cloneArray hx hown (hts _ hl0) (hts _ hsame) (hts _ hnat) (hts _ hinst) (hts _ hsel) (a := x_sg V h) (cell := vp_cell (V.2.2.2.1 0) (n, .inl f)) (by rw [hT]; exact hC0) (fun k q => by cases q) (fun q => by cases q) hf1 f2 f3
    (fun i v hv => by
      have hk' : T.vm.classes[V.2.2.2.1 0]? = some kA := hkA
      have hi : i < n := by
        have := (Array.getElem?_eq_some_iff.mp hv).1
        rw [hsz] at this
        exact this
      have e9 : v = .int (f i) := by
        have h9 : (arrV (V.2.2.2.1 0) n (fun j => .int (f j))).slots[i]? = some (.int (f i)) := arrV_read _ _ hi
        exact Option.some.inj (hv.symm.trans h9)
      rw [e9]
      show T.fitsSlot (V.2.2.2.1 0) _ _ _ = true
      simp [State.fitsSlot, State.slotType?, hk', hkind, fits])
    (g := F0 m pc arr (.ref (x_sg V h) :: st.map (x_tv V))) rfl (by rw [hml]; exact hl.1) rfl (by rw [hb]; exact hd) (Nat.le_trans hd1 hdf) (by
      show 2 * 0 + _ + 14 ≤ _
      rw [x_sumcat]
      omega) (Nat.le_trans hcap.1 hMC) (by rw [hsz]; exact Nat.le_trans hcap.2 hMS) (hloader := Vm.clonesLoader_of_array hkS hkindS)
  have hcellE : ({ cls := (vp_cell (V.2.2.2.1 0) (n, .inl f)).cls, slots := (vp_cell (V.2.2.2.1 0) (n, .inl f)).slots } : Cell) = vp_cell (V.2.2.2.1 0) (n, .inl f) := rfl
  rw [hcellE, hsz] at X'
  generalize hH1 : H.push (vp_cell (V.2.2.2.1 0) (n, .inl f)) = H1
  have z1 : H1.size = H.size + 1 := by rw [← hH1, Array.size_push]
  have e1 : H1[H.size]? = some (vp_cell (V.2.2.2.1 0) (n, .inl f)) := by rw [← hH1, Array.getElem?_push_size]
  have o1 : ∀ q : Nat, q < H.size → H1[q]? = H[q]? := fun q hq => by rw [← hH1, Array.getElem?_push, if_neg (Nat.ne_of_lt hq)]
  have hsg : x_sg V (x_pi S.1) = H.size := by rw [x_sg_own (x_pi_ge hH.2.1), x_pm_pi, hH.1]
  have h1 := kk H1 locs arr (x_H_push hH z1 o1 (show va_at (x_D V) vwCl (H.size, x_tc V (.inl (0, n, .inl f))) H1 from e1)) (x_S_push (S := S) hS z1 o1) hl
  rw [List.map_cons] at h1
  have e9 : x_tv V (.ref (x_pi S.1)) = .ref H.size := by show Value.ref (x_sg V (x_pi S.1)) = _; rw [hsg]
  rw [e9] at h1
  obtain ⟨t, b1, b2⟩ := h1 ((T.setVm vm').pushCell (vp_cell (V.2.2.2.1 0) (n, .inl f))) (by rw [← hH1, ← hT]; rfl) X'
  refine ⟨t, step t ?_, b2⟩
  rw [hcellE, hT]
  exact b1
theorem r_castI (hE : x_X V own cc nL ret d MC MS nm Q E) {i h n : Nat} {f : Nat → Int32} (hcl : Cond.classLink own i "[I" ∈ gT) (hd : decode cc pc = .ok (.checkcast i, 3)) (hm : h ∈ S.2.1) (hc : S.2.2 h = .inl (0, n, .inl f)) (kk : E ce sl (pc + 3) ls (.ref h :: st) S) : E ce sl pc ls (.ref h :: st) S := by
  obtain ⟨p, e, R, s, m, args, below, meth, c, QW, ⟨hx, hb, hml, hnm, hown, hts, hG, h0', hdf, hdl, hMC, hMS⟩, rfl, hret⟩ := hE
  intro H locs arr hH hS hl
  obtain ⟨k0, hk01, hk0⟩ := x_inA (V := V) (n := 0) hm hc
  exact va_castA hx hb hown (hts _ hcl) hH.2.2.1 k0 hk0 (show s.vm.findClass "[I" = some (V.2.2.2.1 0) from (hG.2.1.2 0 _ rfl).2) hd (kk H locs arr hH hS hl)
theorem x_push_put {S : x_S} {a b : x_C} : x_put (x_push S a) (x_pi S.1) b = x_push S b := by
  unfold x_put x_push
  congr 2
  funext j
  by_cases h : j = x_pi S.1
  · simp [h]
  · simp [h]
end CP
theorem y_cln {V : x_E} (hV : y_V V) : ∀ (U : State) (H : Heap), V.2.2.2.2.2.2 U H → va_Nw (.castable "[I" "java/lang/Cloneable") U := fun U H hI => (hV.2 U H hI).2.2.2.2.2.2.1 _ (by decide +kernel)
set_option maxRecDepth 100000 in
theorem k_copyOf {V : x_E} (hV : y_V V) {S : x_S} {h n m : Nat} {f : Nat → Int32} (hm : h ∈ S.2.1) (hc : S.2.2 h = .inl (0, n, .inl f)) (hlt : h ≠ x_pi S.1) (hmn : m ≤ n) (hn : n ≤ 1000) : x_Ct V yJ7_copyOf_59c91 cJ7_copyOf_59c91 3 (some (.array .int)) 2 1 n (fun a0 S0 => a0 = [.ref h, .int (nI m)] ∧ S0 = S) (fun _ _ r S2 => r = some (.ref (x_pi S.1)) ∧ ∃ g : Nat → Int32, (∀ k, k < m → g k = f k) ∧ S2 = x_push S (.inl (0, m, .inl g))) := by
  refine x_met (by decide) (fun a0 S0 h => by rw [h.1]; exact Nat.le_of_ble_eq_true rfl) (fun a0 S0 h9 E hE => ?_)
  obtain ⟨rfl, rfl⟩ := h9
  change E 0 0 0 [(0, .ref h), (1, .int (nI m))] [] S0
  refine r_iload_n hE dJ7_copyOf_59c91_0 rfl ?_
  refine r_aload_n hE dJ7_copyOf_59c91_1 rfl ?_
  refine r_alen (v := nI n) hE (by decide) dJ7_copyOf_59c91_2 hm hc rfl ?_
  refine r_icmp_neN (a := m) (b := n) (tgt := 14) hE dJ7_copyOf_59c91_3 (by decide) (by omega) (by omega) (fun c3 => ?_) (fun c3 => ?_)
  · refine r_iload_n hE dJ7_copyOf_59c91_14 rfl ?_
    refine r_newa (t := 0) (N := m) hE (by decide) rfl (x_gin (List.mem_append_right _ (tb_1 _ (List.mem_of_getElem? (i := 66) rfl))) rfl) dJ7_copyOf_59c91_15 (nI_pos (by omega)) (nI_cl (by omega)) (by omega) ⟨by decide, by omega⟩ ?_
    refine r_astore_n (ls2 := [(0, .ref h), (1, .int (nI m)), (2, .ref (x_pi S0.1))]) hE dJ7_copyOf_59c91_17 (by decide) rfl ?_
    refine r_aload_n hE dJ7_copyOf_59c91_18 rfl ?_
    refine r_iconst (v := 0) hE dJ7_copyOf_59c91_19 (by decide) ?_
    refine r_aload_n hE dJ7_copyOf_59c91_20 rfl ?_
    refine r_iconst (v := 0) hE dJ7_copyOf_59c91_21 (by decide) ?_
    refine r_aload_n hE dJ7_copyOf_59c91_22 rfl ?_
    have hm2 : h ∈ (x_push S0 (.inl (0, m, x_at0 0))).2.1 := List.mem_append_left _ hm
    have hc2 : (x_push S0 (.inl (0, m, x_at0 0))).2.2 h = .inl (0, n, .inl f) := by
      show (if h = (x_pi S0.1) then _ else S0.2.2 h) = _
      rw [if_neg hlt]
      exact hc
    have hm3 : (x_pi S0.1) ∈ (x_push S0 (.inl (0, m, x_at0 0))).2.1 := List.mem_append_right _ List.mem_cons_self
    have hc3 : (x_push S0 (.inl (0, m, x_at0 0))).2.2 (x_pi S0.1) = .inl (0, m, .inl (fun _ => 0)) := by
      show (if (x_pi S0.1) = (x_pi S0.1) then _ else _) = _
      rw [if_pos rfl]
      rfl
    refine r_alen (v := nI n) hE (by decide) dJ7_copyOf_59c91_23 hm2 hc2 rfl ?_
    refine r_iload_n hE dJ7_copyOf_59c91_24 rfl ?_
    refine r_mmin hE m_J7_304 dJ7_copyOf_59c91_25 (by decide) (Nat.le_of_ble_eq_true rfl) ⟨by decide, by omega⟩ ?_
    refine r_top (y := nI m) (if_pos (Int32.lt_iff_toInt_lt.mpr (by rw [nI_toInt (by omega), nI_toInt (by omega)]; omega))) ?_
    refine r_copyi (h0 := h) (h1 := (x_pi S0.1)) (n0 := n) (n1 := m) (n := m) (f := f) (g := fun _ => 0) hE (x_gin (List.mem_append_right _ (tb_4 _ (List.mem_of_getElem? (i := 65) rfl))) rfl) (x_gin (List.mem_append_right _ (tb_4 _ (List.mem_of_getElem? (i := 67) rfl))) rfl) (x_gin (List.mem_append_right _ (tb_4 _ (List.mem_of_getElem? (i := 66) rfl))) rfl) (x_gin (List.mem_append_right _ (tb_1 _ (List.mem_of_getElem? (i := 25) rfl))) rfl) dJ7_copyOf_59c91_28 hm2 hc2 hm3 hc3 hmn (Nat.le_refl _) (by omega) (by decide) (Nat.le_of_ble_eq_true rfl) ?_
    rw [x_push_put]
    refine r_aload_n hE dJ7_copyOf_59c91_31 rfl ?_
    refine r_areturn hE dJ7_copyOf_59c91_32 rfl (Or.inr ⟨_, rfl⟩) (by decide) (by omega) ?_
    exact ⟨rfl, _, fun k hk => by show (if 0 ≤ k ∧ k < 0 + m then f (0 + (k - 0)) else 0) = f k; rw [if_pos ⟨by omega, by omega⟩, Nat.zero_add, Nat.sub_zero], rfl⟩
  · subst c3
    refine r_aload_n hE dJ7_copyOf_59c91_6 rfl ?_
    refine r_clone hE (x_gin (List.mem_append_right _ (tb_4 _ (List.mem_of_getElem? (i := 57) rfl))) rfl) (x_gin (List.mem_append_right _ (tb_4 _ (List.mem_of_getElem? (i := 58) rfl))) rfl) (x_gin (List.mem_append_right _ (tb_4 _ (List.mem_of_getElem? (i := 59) rfl))) rfl) (x_gin (List.mem_append_right _ (tb_4 _ (List.mem_of_getElem? (i := 60) rfl))) rfl) (x_gin (List.mem_append_right _ (tb_4 _ (List.mem_of_getElem? (i := 61) rfl))) rfl) (y_cln hV) dJ7_copyOf_59c91_7 hm hc (by decide) (Nat.le_of_ble_eq_true rfl) ⟨by decide, by omega⟩ ?_
    refine r_castI (f := f) (n := m) hE (x_gin (List.mem_append_right _ (tb_4 _ (List.mem_of_getElem? (i := 63) rfl))) rfl) dJ7_copyOf_59c91_10 (List.mem_append_right _ List.mem_cons_self) (by show (if (x_pi S0.1) = (x_pi S0.1) then _ else _) = _; rw [if_pos rfl]) ?_
    refine r_areturn hE dJ7_copyOf_59c91_13 rfl (Or.inr ⟨_, rfl⟩) (by decide) (by omega) ?_
    exact ⟨rfl, f, fun k _ => rfl, rfl⟩

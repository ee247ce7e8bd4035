section R5
variable {V : x_E} {own nm : String} {cc : ByteArray} {nL d MC MS pc ce sl : Nat} {ret : Option FieldType} {Q : Option Value → x_S → Prop} {E : x_P} {ls : List (Nat × Value)} {st : List Value} {S : x_S}
theorem r_iconst (hE : x_X V own cc nL ret d MC MS nm Q E) {n : Int} {v : Int32} (hd : decode cc pc = .ok (.iconst n, 1)) (hv : Int32.ofInt n = v) (kk : E ce sl (pc + 1) ls (.int v :: st) S) : E ce sl pc ls (st) S := by
  obtain ⟨p, e, R, s, m, args, below, meth, c, QW, ⟨hx, hb, hml, hnm, hown, hts, hG, h0, hdf, hdl, hMC, hMS⟩, rfl, hret⟩ := hE
  intro H locs arr hH hS hl
  exact lv_iconst hx hb hd hv (kk H locs arr hH hS hl)
theorem r_bipush (hE : x_X V own cc nL ret d MC MS nm Q E) {n : Int} {v : Int32} (hd : decode cc pc = .ok (.bipush n, 2)) (hv : (Int8.ofInt n).toInt32 = v) (kk : E ce sl (pc + 2) ls (.int v :: st) S) : E ce sl pc ls (st) S := by
  obtain ⟨p, e, R, s, m, args, below, meth, c, QW, ⟨hx, hb, hml, hnm, hown, hts, hG, h0, hdf, hdl, hMC, hMS⟩, rfl, hret⟩ := hE
  intro H locs arr hH hS hl
  exact lv_bipush hx hb hd hv (kk H locs arr hH hS hl)
theorem r_sipush (hE : x_X V own cc nL ret d MC MS nm Q E) {n : Int} {v : Int32} (hd : decode cc pc = .ok (.sipush n, 3)) (hv : (Int16.ofInt n).toInt32 = v) (kk : E ce sl (pc + 3) ls (.int v :: st) S) : E ce sl pc ls (st) S := by
  obtain ⟨p, e, R, s, m, args, below, meth, c, QW, ⟨hx, hb, hml, hnm, hown, hts, hG, h0, hdf, hdl, hMC, hMS⟩, rfl, hret⟩ := hE
  intro H locs arr hH hS hl
  exact lv_sipush hx hb hd hv (kk H locs arr hH hS hl)
theorem r_lconst (hE : x_X V own cc nL ret d MC MS nm Q E) {n : Fin 2} {v : Int64} (hd : decode cc pc = .ok (.lconst n, 1)) (hv : Int64.ofNat (n : Nat) = v) (kk : E ce sl (pc + 1) ls (.long v :: st) S) : E ce sl pc ls (st) S := by
  obtain ⟨p, e, R, s, m, args, below, meth, c, QW, ⟨hx, hb, hml, hnm, hown, hts, hG, h0, hdf, hdl, hMC, hMS⟩, rfl, hret⟩ := hE
  intro H locs arr hH hS hl
  exact lv_lconst hx hb hd hv (kk H locs arr hH hS hl)
theorem r_iload_n (hE : x_X V own cc nL ret d MC MS nm Q E) {k : Fin 4} {v : Int32} (hd : decode cc pc = .ok (.iload_n k, 1)) (hv : x_lk ls k = some (.int v)) (kk : E ce sl (pc + 1) ls (.int v :: st) S) : E ce sl pc ls (st) S := by
  obtain ⟨p, e, R, s, m, args, below, meth, c, QW, ⟨hx, hb, hml, hnm, hown, hts, hG, h0, hdf, hdl, hMC, hMS⟩, rfl, hret⟩ := hE
  intro H locs arr hH hS hl
  exact lv_iload_n hx hb hd rfl (x_at hl hv) (kk H locs arr hH hS hl)
theorem r_iload (hE : x_X V own cc nL ret d MC MS nm Q E) {i : Nat} {v : Int32} (hd : decode cc pc = .ok (.iload i, 2)) (hv : x_lk ls i = some (.int v)) (kk : E ce sl (pc + 2) ls (.int v :: st) S) : E ce sl pc ls (st) S := by
  obtain ⟨p, e, R, s, m, args, below, meth, c, QW, ⟨hx, hb, hml, hnm, hown, hts, hG, h0, hdf, hdl, hMC, hMS⟩, rfl, hret⟩ := hE
  intro H locs arr hH hS hl
  exact lv_iload hx hb hd (x_at hl hv) (kk H locs arr hH hS hl)
theorem r_istore_n (hE : x_X V own cc nL ret d MC MS nm Q E) {k : Fin 4} {v : Int32} {ls2 : List (Nat × Value)} (hd : decode cc pc = .ok (.istore_n k, 1)) (hi : (k : Nat) < nL) (hs : x_set1 ls (k : Nat) (.int v) = ls2) (kk : E ce sl (pc + 1) ls2 st S) : E ce sl pc ls (.int v :: st) S := by
  subst hs
  obtain ⟨p, e, R, s, m, args, below, meth, c, QW, ⟨hx, hb, hml, hnm, hown, hts, hG, h0, hdf, hdl, hMC, hMS⟩, rfl, hret⟩ := hE
  intro H locs arr hH hS hl
  exact lv_istore_n hx hb hd rfl hl hi rfl (fun arr2 hl2 => kk H locs arr2 hH hS (x_set1_has hl2))
theorem r_istore (hE : x_X V own cc nL ret d MC MS nm Q E) {i : Nat} {v : Int32} {ls2 : List (Nat × Value)} (hd : decode cc pc = .ok (.istore i, 2)) (hi : i < nL) (hs : x_set1 ls i (.int v) = ls2) (kk : E ce sl (pc + 2) ls2 st S) : E ce sl pc ls (.int v :: st) S := by
  subst hs
  obtain ⟨p, e, R, s, m, args, below, meth, c, QW, ⟨hx, hb, hml, hnm, hown, hts, hG, h0, hdf, hdl, hMC, hMS⟩, rfl, hret⟩ := hE
  intro H locs arr hH hS hl
  exact lv_istore hx hb hd hl hi rfl (fun arr2 hl2 => kk H locs arr2 hH hS (x_set1_has hl2))
theorem r_lload_n (hE : x_X V own cc nL ret d MC MS nm Q E) {k : Fin 4} {v : Int64} (hd : decode cc pc = .ok (.lload_n k, 1)) (hv : x_lk ls k = some (.long v)) (kk : E ce sl (pc + 1) ls (.long v :: st) S) : E ce sl pc ls (st) S := by
  obtain ⟨p, e, R, s, m, args, below, meth, c, QW, ⟨hx, hb, hml, hnm, hown, hts, hG, h0, hdf, hdl, hMC, hMS⟩, rfl, hret⟩ := hE
  intro H locs arr hH hS hl
  exact lv_lload_n hx hb hd rfl (x_at hl hv) (kk H locs arr hH hS hl)
theorem r_lload (hE : x_X V own cc nL ret d MC MS nm Q E) {i : Nat} {v : Int64} (hd : decode cc pc = .ok (.lload i, 2)) (hv : x_lk ls i = some (.long v)) (kk : E ce sl (pc + 2) ls (.long v :: st) S) : E ce sl pc ls (st) S := by
  obtain ⟨p, e, R, s, m, args, below, meth, c, QW, ⟨hx, hb, hml, hnm, hown, hts, hG, h0, hdf, hdl, hMC, hMS⟩, rfl, hret⟩ := hE
  intro H locs arr hH hS hl
  exact lv_lload hx hb hd (x_at hl hv) (kk H locs arr hH hS hl)
theorem r_lstore_n (hE : x_X V own cc nL ret d MC MS nm Q E) {k : Fin 4} {v : Int64} {ls2 : List (Nat × Value)} (hd : decode cc pc = .ok (.lstore_n k, 1)) (hi : (k : Nat) + 1 < nL) (hs : x_set2 ls (k : Nat) (.long v) = ls2) (kk : E ce sl (pc + 1) ls2 st S) : E ce sl pc ls (.long v :: st) S := by
  subst hs
  obtain ⟨p, e, R, s, m, args, below, meth, c, QW, ⟨hx, hb, hml, hnm, hown, hts, hG, h0, hdf, hdl, hMC, hMS⟩, rfl, hret⟩ := hE
  intro H locs arr hH hS hl
  exact lv_lstore_n hx hb hd rfl hl hi rfl (fun arr2 hl2 => kk H locs arr2 hH hS (x_set2_has hl2))
theorem r_lstore (hE : x_X V own cc nL ret d MC MS nm Q E) {i : Nat} {v : Int64} {ls2 : List (Nat × Value)} (hd : decode cc pc = .ok (.lstore i, 2)) (hi : i + 1 < nL) (hs : x_set2 ls i (.long v) = ls2) (kk : E ce sl (pc + 2) ls2 st S) : E ce sl pc ls (.long v :: st) S := by
  subst hs
  obtain ⟨p, e, R, s, m, args, below, meth, c, QW, ⟨hx, hb, hml, hnm, hown, hts, hG, h0, hdf, hdl, hMC, hMS⟩, rfl, hret⟩ := hE
  intro H locs arr hH hS hl
  exact lv_lstore hx hb hd hl hi rfl (fun arr2 hl2 => kk H locs arr2 hH hS (x_set2_has hl2))
theorem r_aload_n (hE : x_X V own cc nL ret d MC MS nm Q E) {k : Fin 4} {v : Nat} (hd : decode cc pc = .ok (.aload_n k, 1)) (hv : x_lk ls k = some (.ref v)) (kk : E ce sl (pc + 1) ls (.ref v :: st) S) : E ce sl pc ls (st) S := by
  obtain ⟨p, e, R, s, m, args, below, meth, c, QW, ⟨hx, hb, hml, hnm, hown, hts, hG, h0, hdf, hdl, hMC, hMS⟩, rfl, hret⟩ := hE
  intro H locs arr hH hS hl
  exact lv_aload_n hx hb hd rfl (x_at hl hv) (kk H locs arr hH hS hl)
theorem r_aload (hE : x_X V own cc nL ret d MC MS nm Q E) {i : Nat} {v : Nat} (hd : decode cc pc = .ok (.aload i, 2)) (hv : x_lk ls i = some (.ref v)) (kk : E ce sl (pc + 2) ls (.ref v :: st) S) : E ce sl pc ls (st) S := by
  obtain ⟨p, e, R, s, m, args, below, meth, c, QW, ⟨hx, hb, hml, hnm, hown, hts, hG, h0, hdf, hdl, hMC, hMS⟩, rfl, hret⟩ := hE
  intro H locs arr hH hS hl
  exact lv_aload hx hb hd (x_at hl hv) (kk H locs arr hH hS hl)
theorem r_astore_n (hE : x_X V own cc nL ret d MC MS nm Q E) {k : Fin 4} {v : Nat} {ls2 : List (Nat × Value)} (hd : decode cc pc = .ok (.astore_n k, 1)) (hi : (k : Nat) < nL) (hs : x_set1 ls (k : Nat) (.ref v) = ls2) (kk : E ce sl (pc + 1) ls2 st S) : E ce sl pc ls (.ref v :: st) S := by
  subst hs
  obtain ⟨p, e, R, s, m, args, below, meth, c, QW, ⟨hx, hb, hml, hnm, hown, hts, hG, h0, hdf, hdl, hMC, hMS⟩, rfl, hret⟩ := hE
  intro H locs arr hH hS hl
  exact lv_astore_n hx hb hd rfl hl hi rfl (fun arr2 hl2 => kk H locs arr2 hH hS (x_set1_has hl2))
theorem r_astore (hE : x_X V own cc nL ret d MC MS nm Q E) {i : Nat} {v : Nat} {ls2 : List (Nat × Value)} (hd : decode cc pc = .ok (.astore i, 2)) (hi : i < nL) (hs : x_set1 ls i (.ref v) = ls2) (kk : E ce sl (pc + 2) ls2 st S) : E ce sl pc ls (.ref v :: st) S := by
  subst hs
  obtain ⟨p, e, R, s, m, args, below, meth, c, QW, ⟨hx, hb, hml, hnm, hown, hts, hG, h0, hdf, hdl, hMC, hMS⟩, rfl, hret⟩ := hE
  intro H locs arr hH hS hl
  exact lv_astore hx hb hd hl hi rfl (fun arr2 hl2 => kk H locs arr2 hH hS (x_set1_has hl2))
theorem r_iinc (hE : x_X V own cc nL ret d MC MS nm Q E) {i : Nat} {n : Int} {x v : Int32} {ls2 : List (Nat × Value)} (hd : decode cc pc = .ok (.iinc i n, 3)) (hl0 : x_lk ls i = some (.int x)) (hv : x + Int32.ofInt n = v) (hi : i < nL) (hs : x_set1 ls i (.int v) = ls2) (kk : E ce sl (pc + 3) ls2 st S) : E ce sl pc ls st S := by
  subst hs
  obtain ⟨p, e, R, s, m, args, below, meth, c, QW, ⟨hx, hb, hml, hnm, hown, hts, hG, h0, hdf, hdl, hMC, hMS⟩, rfl, hret⟩ := hE
  intro H locs arr hH hS hl
  obtain ⟨k9, hk9⟩ := List.getElem?_of_mem (x_lk_mem (V := V) hl0)
  exact lv_iinc hx hb hd hl hk9 hv hi rfl (fun arr2 hl2 => kk H locs arr2 hH hS (x_set1_has hl2))
theorem r_iadd (hE : x_X V own cc nL ret d MC MS nm Q E) {x y : Int32} (hd : decode cc pc = .ok (.iadd, 1))  (kk : E ce sl (pc + 1) ls (.int (x + y) :: st) S) : E ce sl pc ls (.int y :: .int x :: st) S := by
  obtain ⟨p, e, R, s, m, args, below, meth, c, QW, ⟨hx, hb, hml, hnm, hown, hts, hG, h0, hdf, hdl, hMC, hMS⟩, rfl, hret⟩ := hE
  intro H locs arr hH hS hl
  exact lv_iadd hx hb hd (kk H locs arr hH hS hl)
theorem r_isub (hE : x_X V own cc nL ret d MC MS nm Q E) {x y : Int32} (hd : decode cc pc = .ok (.isub, 1))  (kk : E ce sl (pc + 1) ls (.int (x - y) :: st) S) : E ce sl pc ls (.int y :: .int x :: st) S := by
  obtain ⟨p, e, R, s, m, args, below, meth, c, QW, ⟨hx, hb, hml, hnm, hown, hts, hG, h0, hdf, hdl, hMC, hMS⟩, rfl, hret⟩ := hE
  intro H locs arr hH hS hl
  exact lv_isub hx hb hd (kk H locs arr hH hS hl)
theorem r_imul (hE : x_X V own cc nL ret d MC MS nm Q E) {x y : Int32} (hd : decode cc pc = .ok (.imul, 1))  (kk : E ce sl (pc + 1) ls (.int (x * y) :: st) S) : E ce sl pc ls (.int y :: .int x :: st) S := by
  obtain ⟨p, e, R, s, m, args, below, meth, c, QW, ⟨hx, hb, hml, hnm, hown, hts, hG, h0, hdf, hdl, hMC, hMS⟩, rfl, hret⟩ := hE
  intro H locs arr hH hS hl
  exact lv_imul hx hb hd (kk H locs arr hH hS hl)
theorem r_iand (hE : x_X V own cc nL ret d MC MS nm Q E) {x y : Int32} (hd : decode cc pc = .ok (.iand, 1))  (kk : E ce sl (pc + 1) ls (.int (x &&& y) :: st) S) : E ce sl pc ls (.int y :: .int x :: st) S := by
  obtain ⟨p, e, R, s, m, args, below, meth, c, QW, ⟨hx, hb, hml, hnm, hown, hts, hG, h0, hdf, hdl, hMC, hMS⟩, rfl, hret⟩ := hE
  intro H locs arr hH hS hl
  exact lv_iand hx hb hd (kk H locs arr hH hS hl)
theorem r_ior (hE : x_X V own cc nL ret d MC MS nm Q E) {x y : Int32} (hd : decode cc pc = .ok (.ior, 1))  (kk : E ce sl (pc + 1) ls (.int (x ||| y) :: st) S) : E ce sl pc ls (.int y :: .int x :: st) S := by
  obtain ⟨p, e, R, s, m, args, below, meth, c, QW, ⟨hx, hb, hml, hnm, hown, hts, hG, h0, hdf, hdl, hMC, hMS⟩, rfl, hret⟩ := hE
  intro H locs arr hH hS hl
  exact lv_ior hx hb hd (kk H locs arr hH hS hl)
theorem r_ixor (hE : x_X V own cc nL ret d MC MS nm Q E) {x y : Int32} (hd : decode cc pc = .ok (.ixor, 1))  (kk : E ce sl (pc + 1) ls (.int (x ^^^ y) :: st) S) : E ce sl pc ls (.int y :: .int x :: st) S := by
  obtain ⟨p, e, R, s, m, args, below, meth, c, QW, ⟨hx, hb, hml, hnm, hown, hts, hG, h0, hdf, hdl, hMC, hMS⟩, rfl, hret⟩ := hE
  intro H locs arr hH hS hl
  exact lv_ixor hx hb hd (kk H locs arr hH hS hl)
theorem r_ishl (hE : x_X V own cc nL ret d MC MS nm Q E) {x y : Int32} (hd : decode cc pc = .ok (.ishl, 1))  (kk : E ce sl (pc + 1) ls (.int (x <<< (y &&& 31)) :: st) S) : E ce sl pc ls (.int y :: .int x :: st) S := by
  obtain ⟨p, e, R, s, m, args, below, meth, c, QW, ⟨hx, hb, hml, hnm, hown, hts, hG, h0, hdf, hdl, hMC, hMS⟩, rfl, hret⟩ := hE
  intro H locs arr hH hS hl
  exact lv_ishl hx hb hd (kk H locs arr hH hS hl)
theorem r_ishr (hE : x_X V own cc nL ret d MC MS nm Q E) {x y : Int32} (hd : decode cc pc = .ok (.ishr, 1))  (kk : E ce sl (pc + 1) ls (.int (x >>> (y &&& 31)) :: st) S) : E ce sl pc ls (.int y :: .int x :: st) S := by
  obtain ⟨p, e, R, s, m, args, below, meth, c, QW, ⟨hx, hb, hml, hnm, hown, hts, hG, h0, hdf, hdl, hMC, hMS⟩, rfl, hret⟩ := hE
  intro H locs arr hH hS hl
  exact lv_ishr hx hb hd (kk H locs arr hH hS hl)
theorem r_iushr (hE : x_X V own cc nL ret d MC MS nm Q E) {x y : Int32} (hd : decode cc pc = .ok (.iushr, 1))  (kk : E ce sl (pc + 1) ls (.int ((x.toUInt32 >>> (y.toUInt32 &&& Int32.toUInt32 31)).toInt32) :: st) S) : E ce sl pc ls (.int y :: .int x :: st) S := by
  obtain ⟨p, e, R, s, m, args, below, meth, c, QW, ⟨hx, hb, hml, hnm, hown, hts, hG, h0, hdf, hdl, hMC, hMS⟩, rfl, hret⟩ := hE
  intro H locs arr hH hS hl
  exact lv_iushr hx hb hd rfl (kk H locs arr hH hS hl)
theorem r_idiv (hE : x_X V own cc nL ret d MC MS nm Q E) {x y : Int32} (hd : decode cc pc = .ok (.idiv, 1)) (hne : ¬ y = 0) (kk : E ce sl (pc + 1) ls (.int (x / y) :: st) S) : E ce sl pc ls (.int y :: .int x :: st) S := by
  obtain ⟨p, e, R, s, m, args, below, meth, c, QW, ⟨hx, hb, hml, hnm, hown, hts, hG, h0, hdf, hdl, hMC, hMS⟩, rfl, hret⟩ := hE
  intro H locs arr hH hS hl
  exact lv_idiv hx hb hd hne (kk H locs arr hH hS hl)
theorem r_irem (hE : x_X V own cc nL ret d MC MS nm Q E) {x y : Int32} (hd : decode cc pc = .ok (.irem, 1)) (hne : ¬ y = 0) (kk : E ce sl (pc + 1) ls (.int (x - x / y * y) :: st) S) : E ce sl pc ls (.int y :: .int x :: st) S := by
  obtain ⟨p, e, R, s, m, args, below, meth, c, QW, ⟨hx, hb, hml, hnm, hown, hts, hG, h0, hdf, hdl, hMC, hMS⟩, rfl, hret⟩ := hE
  intro H locs arr hH hS hl
  exact lv_irem hx hb hd hne (kk H locs arr hH hS hl)
theorem r_ineg (hE : x_X V own cc nL ret d MC MS nm Q E) {x : Int32} (hd : decode cc pc = .ok (.ineg, 1))  (kk : E ce sl (pc + 1) ls (.int (-x) :: st) S) : E ce sl pc ls (.int x :: st) S := by
  obtain ⟨p, e, R, s, m, args, below, meth, c, QW, ⟨hx, hb, hml, hnm, hown, hts, hG, h0, hdf, hdl, hMC, hMS⟩, rfl, hret⟩ := hE
  intro H locs arr hH hS hl
  exact lv_ineg hx hb hd (kk H locs arr hH hS hl)
theorem r_ladd (hE : x_X V own cc nL ret d MC MS nm Q E) {x y : Int64} (hd : decode cc pc = .ok (.ladd, 1))  (kk : E ce sl (pc + 1) ls (.long (x + y) :: st) S) : E ce sl pc ls (.long y :: .long x :: st) S := by
  obtain ⟨p, e, R, s, m, args, below, meth, c, QW, ⟨hx, hb, hml, hnm, hown, hts, hG, h0, hdf, hdl, hMC, hMS⟩, rfl, hret⟩ := hE
  intro H locs arr hH hS hl
  exact lv_ladd hx hb hd (kk H locs arr hH hS hl)
theorem r_lsub (hE : x_X V own cc nL ret d MC MS nm Q E) {x y : Int64} (hd : decode cc pc = .ok (.lsub, 1))  (kk : E ce sl (pc + 1) ls (.long (x - y) :: st) S) : E ce sl pc ls (.long y :: .long x :: st) S := by
  obtain ⟨p, e, R, s, m, args, below, meth, c, QW, ⟨hx, hb, hml, hnm, hown, hts, hG, h0, hdf, hdl, hMC, hMS⟩, rfl, hret⟩ := hE
  intro H locs arr hH hS hl
  exact lv_lsub hx hb hd (kk H locs arr hH hS hl)
theorem r_lmul (hE : x_X V own cc nL ret d MC MS nm Q E) {x y : Int64} (hd : decode cc pc = .ok (.lmul, 1))  (kk : E ce sl (pc + 1) ls (.long (x * y) :: st) S) : E ce sl pc ls (.long y :: .long x :: st) S := by
  obtain ⟨p, e, R, s, m, args, below, meth, c, QW, ⟨hx, hb, hml, hnm, hown, hts, hG, h0, hdf, hdl, hMC, hMS⟩, rfl, hret⟩ := hE
  intro H locs arr hH hS hl
  exact lv_lmul hx hb hd (kk H locs arr hH hS hl)
theorem r_ldiv (hE : x_X V own cc nL ret d MC MS nm Q E) {x y : Int64} (hd : decode cc pc = .ok (.ldiv, 1)) (hne : ¬ y = 0) (kk : E ce sl (pc + 1) ls (.long (x / y) :: st) S) : E ce sl pc ls (.long y :: .long x :: st) S := by
  obtain ⟨p, e, R, s, m, args, below, meth, c, QW, ⟨hx, hb, hml, hnm, hown, hts, hG, h0, hdf, hdl, hMC, hMS⟩, rfl, hret⟩ := hE
  intro H locs arr hH hS hl
  exact lv_ldiv hx hb hd hne (kk H locs arr hH hS hl)
theorem r_lneg (hE : x_X V own cc nL ret d MC MS nm Q E) {x : Int64} (hd : decode cc pc = .ok (.lneg, 1))  (kk : E ce sl (pc + 1) ls (.long (-x) :: st) S) : E ce sl pc ls (.long x :: st) S := by
  obtain ⟨p, e, R, s, m, args, below, meth, c, QW, ⟨hx, hb, hml, hnm, hown, hts, hG, h0, hdf, hdl, hMC, hMS⟩, rfl, hret⟩ := hE
  intro H locs arr hH hS hl
  exact lv_lneg hx hb hd (kk H locs arr hH hS hl)
theorem r_lcmp (hE : x_X V own cc nL ret d MC MS nm Q E) {x y : Int64} (hd : decode cc pc = .ok (.lcmp, 1))  (kk : E ce sl (pc + 1) ls (.int (lg_cmp x y) :: st) S) : E ce sl pc ls (.long y :: .long x :: st) S := by
  obtain ⟨p, e, R, s, m, args, below, meth, c, QW, ⟨hx, hb, hml, hnm, hown, hts, hG, h0, hdf, hdl, hMC, hMS⟩, rfl, hret⟩ := hE
  intro H locs arr hH hS hl
  exact W.lcmp hx hb hd (kk H locs arr hH hS hl)
theorem r_i2l (hE : x_X V own cc nL ret d MC MS nm Q E) {x : Int32} (hd : decode cc pc = .ok (.i2l, 1))  (kk : E ce sl (pc + 1) ls (.long x.toInt64 :: st) S) : E ce sl pc ls (.int x :: st) S := by
  obtain ⟨p, e, R, s, m, args, below, meth, c, QW, ⟨hx, hb, hml, hnm, hown, hts, hG, h0, hdf, hdl, hMC, hMS⟩, rfl, hret⟩ := hE
  intro H locs arr hH hS hl
  exact lv_i2l hx hb hd rfl (kk H locs arr hH hS hl)
theorem r_l2i (hE : x_X V own cc nL ret d MC MS nm Q E) {x : Int64} (hd : decode cc pc = .ok (.l2i, 1))  (kk : E ce sl (pc + 1) ls (.int x.toInt32 :: st) S) : E ce sl pc ls (.long x :: st) S := by
  obtain ⟨p, e, R, s, m, args, below, meth, c, QW, ⟨hx, hb, hml, hnm, hown, hts, hG, h0, hdf, hdl, hMC, hMS⟩, rfl, hret⟩ := hE
  intro H locs arr hH hS hl
  exact lv_l2i hx hb hd rfl (kk H locs arr hH hS hl)
theorem r_i2b (hE : x_X V own cc nL ret d MC MS nm Q E) {x : Int32} (hd : decode cc pc = .ok (.i2b, 1))  (kk : E ce sl (pc + 1) ls (.int x.toInt8.toInt32 :: st) S) : E ce sl pc ls (.int x :: st) S := by
  obtain ⟨p, e, R, s, m, args, below, meth, c, QW, ⟨hx, hb, hml, hnm, hown, hts, hG, h0, hdf, hdl, hMC, hMS⟩, rfl, hret⟩ := hE
  intro H locs arr hH hS hl
  exact lv_i2b hx hb hd rfl (kk H locs arr hH hS hl)
theorem r_i2c (hE : x_X V own cc nL ret d MC MS nm Q E) {x : Int32} (hd : decode cc pc = .ok (.i2c, 1))  (kk : E ce sl (pc + 1) ls (.int (x.toUInt32 % 65536).toInt32 :: st) S) : E ce sl pc ls (.int x :: st) S := by
  obtain ⟨p, e, R, s, m, args, below, meth, c, QW, ⟨hx, hb, hml, hnm, hown, hts, hG, h0, hdf, hdl, hMC, hMS⟩, rfl, hret⟩ := hE
  intro H locs arr hH hS hl
  exact lv_i2c hx hb hd rfl (kk H locs arr hH hS hl)
theorem r_dup (hE : x_X V own cc nL ret d MC MS nm Q E) {v : Value} (hd : decode cc pc = .ok (.dup, 1)) (hc : v.category = 1) (kk : E ce sl (pc + 1) ls (v :: v :: st) S) : E ce sl pc ls (v :: st) S := by
  obtain ⟨p, e, R, s, m, args, below, meth, c, QW, ⟨hx, hb, hml, hnm, hown, hts, hG, h0, hdf, hdl, hMC, hMS⟩, rfl, hret⟩ := hE
  intro H locs arr hH hS hl
  exact lv_dup hx hb hd ((x_cat V v).trans hc) (kk H locs arr hH hS hl)
theorem r_pop (hE : x_X V own cc nL ret d MC MS nm Q E) {v : Value} (hd : decode cc pc = .ok (.pop, 1)) (hc : v.category = 1) (kk : E ce sl (pc + 1) ls (st) S) : E ce sl pc ls (v :: st) S := by
  obtain ⟨p, e, R, s, m, args, below, meth, c, QW, ⟨hx, hb, hml, hnm, hown, hts, hG, h0, hdf, hdl, hMC, hMS⟩, rfl, hret⟩ := hE
  intro H locs arr hH hS hl
  exact lv_pop hx hb hd ((x_cat V v).trans hc) (kk H locs arr hH hS hl)
theorem r_dup2 (hE : x_X V own cc nL ret d MC MS nm Q E) {v w : Value} (hd : decode cc pc = .ok (.dup2, 1)) (hc : v.category = 1) (hc2 : w.category = 1) (kk : E ce sl (pc + 1) ls (v :: w :: v :: w :: st) S) : E ce sl pc ls (v :: w :: st) S := by
  obtain ⟨p, e, R, s, m, args, below, meth, c, QW, ⟨hx, hb, hml, hnm, hown, hts, hG, h0, hdf, hdl, hMC, hMS⟩, rfl, hret⟩ := hE
  intro H locs arr hH hS hl
  exact lv_dup2_11 hx hb hd ((x_cat V v).trans hc) ((x_cat V w).trans hc2) (kk H locs arr hH hS hl)
theorem r_if_eq (hE : x_X V own cc nL ret d MC MS nm Q E) {x : Int32} {off : Int} {tgt : Nat} (hd : decode cc pc = .ok (.ifCond .eq off, 3)) (ht : (pc : Int) + off = (tgt : Int)) (kt : x = 0 → E ce sl tgt ls st S) (kf : ¬ x = 0 → E ce sl (pc + 3) ls st S) : E ce sl pc ls (.int x :: st) S := by
  obtain ⟨p, e, R, s, m, args, below, meth, c, QW, ⟨hx, hb, hml, hnm, hown, hts, hG, h0, hdf, hdl, hMC, hMS⟩, rfl, hret⟩ := hE
  intro H locs arr hH hS hl
  exact lv_if_eq hx hb hd ht (fun h => kt h H locs arr hH hS hl) (fun h => kf (by first | exact h | exact Decidable.not_not.mp h) H locs arr hH hS hl)
theorem r_icmp_eq (hE : x_X V own cc nL ret d MC MS nm Q E) {x y : Int32} {off : Int} {tgt : Nat} (hd : decode cc pc = .ok (.if_icmp .eq off, 3)) (ht : (pc : Int) + off = (tgt : Int)) (kt : x = y → E ce sl tgt ls st S) (kf : ¬ x = y → E ce sl (pc + 3) ls st S) : E ce sl pc ls (.int y :: .int x :: st) S := by
  obtain ⟨p, e, R, s, m, args, below, meth, c, QW, ⟨hx, hb, hml, hnm, hown, hts, hG, h0, hdf, hdl, hMC, hMS⟩, rfl, hret⟩ := hE
  intro H locs arr hH hS hl
  exact lv_icmp_eq hx hb hd ht (fun h => kt h H locs arr hH hS hl) (fun h => kf (by first | exact h | exact Decidable.not_not.mp h) H locs arr hH hS hl)
theorem r_if_ne (hE : x_X V own cc nL ret d MC MS nm Q E) {x : Int32} {off : Int} {tgt : Nat} (hd : decode cc pc = .ok (.ifCond .ne off, 3)) (ht : (pc : Int) + off = (tgt : Int)) (kt : ¬ x = 0 → E ce sl tgt ls st S) (kf : x = 0 → E ce sl (pc + 3) ls st S) : E ce sl pc ls (.int x :: st) S := by
  obtain ⟨p, e, R, s, m, args, below, meth, c, QW, ⟨hx, hb, hml, hnm, hown, hts, hG, h0, hdf, hdl, hMC, hMS⟩, rfl, hret⟩ := hE
  intro H locs arr hH hS hl
  exact lv_if_ne hx hb hd ht (fun h => kt h H locs arr hH hS hl) (fun h => kf (by first | exact h | exact Decidable.not_not.mp h) H locs arr hH hS hl)
theorem r_icmp_ne (hE : x_X V own cc nL ret d MC MS nm Q E) {x y : Int32} {off : Int} {tgt : Nat} (hd : decode cc pc = .ok (.if_icmp .ne off, 3)) (ht : (pc : Int) + off = (tgt : Int)) (kt : ¬ x = y → E ce sl tgt ls st S) (kf : x = y → E ce sl (pc + 3) ls st S) : E ce sl pc ls (.int y :: .int x :: st) S := by
  obtain ⟨p, e, R, s, m, args, below, meth, c, QW, ⟨hx, hb, hml, hnm, hown, hts, hG, h0, hdf, hdl, hMC, hMS⟩, rfl, hret⟩ := hE
  intro H locs arr hH hS hl
  exact lv_icmp_ne hx hb hd ht (fun h => kt h H locs arr hH hS hl) (fun h => kf (by first | exact h | exact Decidable.not_not.mp h) H locs arr hH hS hl)
theorem r_if_lt (hE : x_X V own cc nL ret d MC MS nm Q E) {x : Int32} {off : Int} {tgt : Nat} (hd : decode cc pc = .ok (.ifCond .lt off, 3)) (ht : (pc : Int) + off = (tgt : Int)) (kt : x < 0 → E ce sl tgt ls st S) (kf : ¬ x < 0 → E ce sl (pc + 3) ls st S) : E ce sl pc ls (.int x :: st) S := by
  obtain ⟨p, e, R, s, m, args, below, meth, c, QW, ⟨hx, hb, hml, hnm, hown, hts, hG, h0, hdf, hdl, hMC, hMS⟩, rfl, hret⟩ := hE
  intro H locs arr hH hS hl
  exact lv_if_lt hx hb hd ht (fun h => kt h H locs arr hH hS hl) (fun h => kf (by first | exact h | exact Decidable.not_not.mp h) H locs arr hH hS hl)
theorem r_icmp_lt (hE : x_X V own cc nL ret d MC MS nm Q E) {x y : Int32} {off : Int} {tgt : Nat} (hd : decode cc pc = .ok (.if_icmp .lt off, 3)) (ht : (pc : Int) + off = (tgt : Int)) (kt : x < y → E ce sl tgt ls st S) (kf : ¬ x < y → E ce sl (pc + 3) ls st S) : E ce sl pc ls (.int y :: .int x :: st) S := by
  obtain ⟨p, e, R, s, m, args, below, meth, c, QW, ⟨hx, hb, hml, hnm, hown, hts, hG, h0, hdf, hdl, hMC, hMS⟩, rfl, hret⟩ := hE
  intro H locs arr hH hS hl
  exact lv_icmp_lt hx hb hd ht (fun h => kt h H locs arr hH hS hl) (fun h => kf (by first | exact h | exact Decidable.not_not.mp h) H locs arr hH hS hl)
theorem r_if_ge (hE : x_X V own cc nL ret d MC MS nm Q E) {x : Int32} {off : Int} {tgt : Nat} (hd : decode cc pc = .ok (.ifCond .ge off, 3)) (ht : (pc : Int) + off = (tgt : Int)) (kt : 0 ≤ x → E ce sl tgt ls st S) (kf : ¬ 0 ≤ x → E ce sl (pc + 3) ls st S) : E ce sl pc ls (.int x :: st) S := by
  obtain ⟨p, e, R, s, m, args, below, meth, c, QW, ⟨hx, hb, hml, hnm, hown, hts, hG, h0, hdf, hdl, hMC, hMS⟩, rfl, hret⟩ := hE
  intro H locs arr hH hS hl
  exact lv_if_ge hx hb hd ht (fun h => kt h H locs arr hH hS hl) (fun h => kf (by first | exact h | exact Decidable.not_not.mp h) H locs arr hH hS hl)
theorem r_icmp_ge (hE : x_X V own cc nL ret d MC MS nm Q E) {x y : Int32} {off : Int} {tgt : Nat} (hd : decode cc pc = .ok (.if_icmp .ge off, 3)) (ht : (pc : Int) + off = (tgt : Int)) (kt : y ≤ x → E ce sl tgt ls st S) (kf : ¬ y ≤ x → E ce sl (pc + 3) ls st S) : E ce sl pc ls (.int y :: .int x :: st) S := by
  obtain ⟨p, e, R, s, m, args, below, meth, c, QW, ⟨hx, hb, hml, hnm, hown, hts, hG, h0, hdf, hdl, hMC, hMS⟩, rfl, hret⟩ := hE
  intro H locs arr hH hS hl
  exact lv_icmp_ge hx hb hd ht (fun h => kt h H locs arr hH hS hl) (fun h => kf (by first | exact h | exact Decidable.not_not.mp h) H locs arr hH hS hl)
theorem r_if_gt (hE : x_X V own cc nL ret d MC MS nm Q E) {x : Int32} {off : Int} {tgt : Nat} (hd : decode cc pc = .ok (.ifCond .gt off, 3)) (ht : (pc : Int) + off = (tgt : Int)) (kt : 0 < x → E ce sl tgt ls st S) (kf : ¬ 0 < x → E ce sl (pc + 3) ls st S) : E ce sl pc ls (.int x :: st) S := by
  obtain ⟨p, e, R, s, m, args, below, meth, c, QW, ⟨hx, hb, hml, hnm, hown, hts, hG, h0, hdf, hdl, hMC, hMS⟩, rfl, hret⟩ := hE
  intro H locs arr hH hS hl
  exact lv_if_gt hx hb hd ht (fun h => kt h H locs arr hH hS hl) (fun h => kf (by first | exact h | exact Decidable.not_not.mp h) H locs arr hH hS hl)
theorem r_icmp_gt (hE : x_X V own cc nL ret d MC MS nm Q E) {x y : Int32} {off : Int} {tgt : Nat} (hd : decode cc pc = .ok (.if_icmp .gt off, 3)) (ht : (pc : Int) + off = (tgt : Int)) (kt : y < x → E ce sl tgt ls st S) (kf : ¬ y < x → E ce sl (pc + 3) ls st S) : E ce sl pc ls (.int y :: .int x :: st) S := by
  obtain ⟨p, e, R, s, m, args, below, meth, c, QW, ⟨hx, hb, hml, hnm, hown, hts, hG, h0, hdf, hdl, hMC, hMS⟩, rfl, hret⟩ := hE
  intro H locs arr hH hS hl
  exact lv_icmp_gt hx hb hd ht (fun h => kt h H locs arr hH hS hl) (fun h => kf (by first | exact h | exact Decidable.not_not.mp h) H locs arr hH hS hl)
theorem r_if_le (hE : x_X V own cc nL ret d MC MS nm Q E) {x : Int32} {off : Int} {tgt : Nat} (hd : decode cc pc = .ok (.ifCond .le off, 3)) (ht : (pc : Int) + off = (tgt : Int)) (kt : x ≤ 0 → E ce sl tgt ls st S) (kf : ¬ x ≤ 0 → E ce sl (pc + 3) ls st S) : E ce sl pc ls (.int x :: st) S := by
  obtain ⟨p, e, R, s, m, args, below, meth, c, QW, ⟨hx, hb, hml, hnm, hown, hts, hG, h0, hdf, hdl, hMC, hMS⟩, rfl, hret⟩ := hE
  intro H locs arr hH hS hl
  exact lv_if_le hx hb hd ht (fun h => kt h H locs arr hH hS hl) (fun h => kf (by first | exact h | exact Decidable.not_not.mp h) H locs arr hH hS hl)
theorem r_icmp_le (hE : x_X V own cc nL ret d MC MS nm Q E) {x y : Int32} {off : Int} {tgt : Nat} (hd : decode cc pc = .ok (.if_icmp .le off, 3)) (ht : (pc : Int) + off = (tgt : Int)) (kt : x ≤ y → E ce sl tgt ls st S) (kf : ¬ x ≤ y → E ce sl (pc + 3) ls st S) : E ce sl pc ls (.int y :: .int x :: st) S := by
  obtain ⟨p, e, R, s, m, args, below, meth, c, QW, ⟨hx, hb, hml, hnm, hown, hts, hG, h0, hdf, hdl, hMC, hMS⟩, rfl, hret⟩ := hE
  intro H locs arr hH hS hl
  exact lv_icmp_le hx hb hd ht (fun h => kt h H locs arr hH hS hl) (fun h => kf (by first | exact h | exact Decidable.not_not.mp h) H locs arr hH hS hl)
theorem r_goto (hE : x_X V own cc nL ret d MC MS nm Q E) {off : Int} {tgt : Nat} (hd : decode cc pc = .ok (.goto off, 3)) (ht : (pc : Int) + off = (tgt : Int)) (kk : E ce sl tgt ls st S) : E ce sl pc ls st S := by
  obtain ⟨p, e, R, s, m, args, below, meth, c, QW, ⟨hx, hb, hml, hnm, hown, hts, hG, h0, hdf, hdl, hMC, hMS⟩, rfl, hret⟩ := hE
  intro H locs arr hH hS hl
  exact lv_goto hx hb hd ht (kk H locs arr hH hS hl)
theorem r_tsin (hE : x_X V own cc nL ret d MC MS nm Q E) {dflt lo hi : Int} {offs : Array Int} {len : Nat} {x : Int32} {off : Int} {tgt : Nat} (hd : decode cc pc = .ok (.tableswitch dflt lo hi offs, len)) (h1 : ¬ x.toInt < lo) (h2 : ¬ hi < x.toInt) (ho : offs[(x.toInt - lo).toNat]? = some off) (ht : (pc : Int) + off = (tgt : Int)) (kk : E ce sl tgt ls st S) : E ce sl pc ls (.int x :: st) S := by
  obtain ⟨p, e, R, s, m, args, below, meth, c, QW, ⟨hx, hb, hml, hnm, hown, hts, hG, h0, hdf, hdl, hMC, hMS⟩, rfl, hret⟩ := hE
  intro H locs arr hH hS hl
  exact lv_tableIn hx hb hd h1 h2 ho ht (kk H locs arr hH hS hl)
theorem r_tsout (hE : x_X V own cc nL ret d MC MS nm Q E) {dflt lo hi : Int} {offs : Array Int} {len : Nat} {x : Int32} {tgt : Nat} (hd : decode cc pc = .ok (.tableswitch dflt lo hi offs, len)) (h : x.toInt < lo ∨ hi < x.toInt) (ht : (pc : Int) + dflt = (tgt : Int)) (kk : E ce sl tgt ls st S) : E ce sl pc ls (.int x :: st) S := by
  obtain ⟨p, e, R, s, m, args, below, meth, c, QW, ⟨hx, hb, hml, hnm, hown, hts, hG, h0, hdf, hdl, hMC, hMS⟩, rfl, hret⟩ := hE
  intro H locs arr hH hS hl
  exact lv_tableOut hx hb hd h ht (kk H locs arr hH hS hl)
theorem r_ldc (hE : x_X V own cc nL ret d MC MS nm Q E) {i : Nat} {v : Int32} (hd : decode cc pc = .ok (.ldc i, 2)) (hc : Cond.constant own i v ∈ gT) (kk : E ce sl (pc + 2) ls (.int v :: st) S) : E ce sl pc ls st S := by
  obtain ⟨p, e, R, s, m, args, below, meth, c, QW, ⟨hx, hb, hml, hnm, hown, hts, hG, h0, hdf, hdl, hMC, hMS⟩, rfl, hret⟩ := hE
  intro H locs arr hH hS hl
  exact lv_ldc hx hb hown (hts _ hc) hd (kk H locs arr hH hS hl)
theorem r_ldcw (hE : x_X V own cc nL ret d MC MS nm Q E) {i : Nat} {v : Int32} (hd : decode cc pc = .ok (.ldc_w i, 3)) (hc : Cond.constant own i v ∈ gT) (kk : E ce sl (pc + 3) ls (.int v :: st) S) : E ce sl pc ls st S := by
  obtain ⟨p, e, R, s, m, args, below, meth, c, QW, ⟨hx, hb, hml, hnm, hown, hts, hG, h0, hdf, hdl, hMC, hMS⟩, rfl, hret⟩ := hE
  intro H locs arr hH hS hl
  exact lv_ldcw hx hb hown (hts _ hc) hd (kk H locs arr hH hS hl)
theorem r_ldc2 (hE : x_X V own cc nL ret d MC MS nm Q E) {i : Nat} {v : Int64} (hd : decode cc pc = .ok (.ldc2_w i, 3)) (hc : Cond.constantLong own i v ∈ gT) (kk : E ce sl (pc + 3) ls (.long v :: st) S) : E ce sl pc ls st S := by
  obtain ⟨p, e, R, s, m, args, below, meth, c, QW, ⟨hx, hb, hml, hnm, hown, hts, hG, h0, hdf, hdl, hMC, hMS⟩, rfl, hret⟩ := hE
  intro H locs arr hH hS hl
  exact lv_ldc2 hx hb hown (hts _ hc) hd (kk H locs arr hH hS hl)
theorem r_ireturn (hE : x_X V own cc nL ret d MC MS nm Q E) {v : Int32} {ty : FieldType} (hd : decode cc pc = .ok (.ireturn, 1)) (hr : ret = some ty) (hn : narrow ty (.int v) = .int v) (hce : ce ≤ MC) (hsl : sl ≤ MS) (hq : Q (some (.int v)) S) : E ce sl pc ls [.int v] S := by
  obtain ⟨p, e, R, s, m, args, below, meth, c, QW, -, -, hret⟩ := hE
  exact hret ce sl pc ls (some (.int v)) S ⟨hd, ty, hr, hn⟩ hq hce hsl
theorem r_lreturn (hE : x_X V own cc nL ret d MC MS nm Q E) {v : Int64} (hd : decode cc pc = .ok (.lreturn, 1)) (hr : ret = some .long) (hce : ce ≤ MC) (hsl : sl ≤ MS) (hq : Q (some (.long v)) S) : E ce sl pc ls [.long v] S := by
  obtain ⟨p, e, R, s, m, args, below, meth, c, QW, -, -, hret⟩ := hE
  exact hret ce sl pc ls (some (.long v)) S ⟨hd, hr⟩ hq hce hsl
theorem r_areturn (hE : x_X V own cc nL ret d MC MS nm Q E) {v : Nat} {ty : FieldType} (hd : decode cc pc = .ok (.areturn, 1)) (hr : ret = some ty) (hn : (∃ n, ty = .object n) ∨ ∃ t, ty = .array t) (hce : ce ≤ MC) (hsl : sl ≤ MS) (hq : Q (some (.ref v)) S) : E ce sl pc ls [.ref v] S := by
  obtain ⟨p, e, R, s, m, args, below, meth, c, QW, -, -, hret⟩ := hE
  exact hret ce sl pc ls (some (.ref v)) S ⟨hd, ty, hr, hn⟩ hq hce hsl
theorem r_return (hE : x_X V own cc nL ret d MC MS nm Q E) (hd : decode cc pc = .ok (.return_, 1)) (hr : ret = none) (hce : ce ≤ MC) (hsl : sl ≤ MS) (hq : Q none S) : E ce sl pc ls [] S := by
  obtain ⟨p, e, R, s, m, args, below, meth, c, QW, -, -, hret⟩ := hE
  exact hret ce sl pc ls none S ⟨hd, hr⟩ hq hce hsl
theorem r_locs (hE : x_X V own cc nL ret d MC MS nm Q E) {ls2 : List (Nat × Value)} (h : ∀ q ∈ ls2, x_lk ls q.1 = some q.2) (kk : E ce sl pc ls2 st S) : E ce sl pc ls st S := by
  obtain ⟨p, e, R, s, m, args, below, meth, c, QW, ⟨hx, hb, hml, hnm, hown, hts, hG, h0, hdf, hdl, hMC, hMS⟩, rfl, hret⟩ := hE
  intro H locs arr hH hS hl
  refine kk H locs arr hH hS ⟨hl.1, hl.2.1, fun q hq => ?_⟩
  obtain ⟨q2, h1, rfl⟩ := List.mem_map.mp hq
  exact x_at hl (h q2 h1)
/-- a class of the world by its number: its words, types, names -/
def x_K (ci : Nat) (C : String) (T : u_T) (N : Nat) (ty : Nat → FieldType) : Prop := vwCl[ci]? = some (C, T, N) ∧ (∀ w ∈ u_ws C T N, w ∈ gT) ∧ (∀ k, k < N → parseFieldDescriptor (T k).2.2.1 = some (ty k)) ∧ ∀ a, a < N → ∀ b, b < N → a ≠ b → (T a).2.1 ≠ (T b).2.1
/-- the entry i of the class own names the field k of the class ci -/
def x_F (own : String) (i ci k : Nat) (t : FieldType) (fin sm : Bool) : Prop := ∃ (C : String) (T : u_T) (N : Nat) (ty : Nat → FieldType), x_K ci C T N ty ∧ k < N ∧ Cond.fieldLink own i (T k).1 (T k).2.1 (T k).2.2.1 ∈ gT ∧ ty k = t ∧ (T k).2.2.2 = fin ∧ (sm = true → (T k).1 = own)
theorem r_getf (hE : x_X V own cc nL ret d MC MS nm Q E) {i ci k h : Nat} {t : FieldType} {fin sm : Bool} {fs : List Value} {v : Value} (hF : x_F own i ci k t fin sm) (hd : decode cc pc = .ok (.getfield i, 3)) (hm : h ∈ S.2.1) (hc : S.2.2 h = .inr (ci, fs)) (hv : fs[k]? = some v) (kk : E ce sl (pc + 3) ls (v :: st) S) : E ce sl pc ls (.ref h :: st) S := by
  obtain ⟨p, e, R, s, m, args, below, meth, c, QW, ⟨hx, hb, hml, hnm, hown, hts, hG, h0, hdf, hdl, hMC, hMS⟩, rfl, hret⟩ := hE
  intro H locs arr hH hS hl
  obtain ⟨C, T, N, ty, ⟨hcl, hin, -, -⟩, hk, hlk, -, -, -⟩ := hF
  obtain ⟨k0, -, hk0⟩ := x_in (V := V) hm
  rw [hc] at hk0
  exact va_get (D := x_D V) (C := C) (T := T) (N := N) (v := x_tv V v) hx hb hts hin hown hG.2.1 hH.2.2.1 k0 hk0 hcl k hk (hts _ hlk) (fun _ h9 => h9) (by rw [List.getElem?_map, hv]; rfl) hd (kk H locs arr hH hS hl)
theorem r_putf (hE : x_X V own cc nL ret d MC MS nm Q E) {i ci k h : Nat} {t : FieldType} {sm : Bool} {fs : List Value} {v : Value} (hF : x_F own i ci k t false sm) (hd : decode cc pc = .ok (.putfield i, 3)) (hm : h ∈ S.2.1) (hc : S.2.2 h = .inr (ci, fs)) (hn : narrow t v = v) (hf : fits t v = true) (hk2 : k < fs.length) (kk : E ce sl (pc + 3) ls st (x_put S h (.inr (ci, fs.set k v)))) : E ce sl pc ls (v :: .ref h :: st) S := by
  obtain ⟨p, e, R, s, m, args, below, meth, c, QW, ⟨hx, hb, hml, hnm, hown, hts, hG, h0, hdf, hdl, hMC, hMS⟩, rfl, hret⟩ := hE
  intro H locs arr hH hS hl
  obtain ⟨C, T, N, ty, ⟨hcl, hin, hty, hap0⟩, hk, hlk, ht, hfin, -⟩ := hF
  obtain ⟨k0, hk1, hk0⟩ := x_in (V := V) hm
  rw [hc] at hk0
  have hn2 : narrow t (x_tv V v) = x_tv V v := by cases v <;> first | exact hn | (cases t <;> rfl)
  have hf2 : fits t (x_tv V v) = true := by cases v <;> first | exact hf | (cases t <;> simp_all [fits, x_tv])
  have hK := hG.2.1
  have hP := hH.2.2.1
  have hap := va_apart (own := own) hts hin ty hty hap0 hK hcl
  obtain ⟨r, h1, cell, q1, q2, q3, q4⟩ := hP k0 _ hk0
  have hr : r = (C, T, N) := Option.some.inj (h1.symm.trans hcl)
  subst hr
  obtain ⟨hSl, hfc, kC, hkC, hkind⟩ := hK.1 ci _ hcl
  obtain ⟨cf, kf, fi, f, hi, hsl⟩ := hSl k hk
  have hlay := hts _ (hin _ (u_in_lay hk))
  unfold u_lay at hlay
  rw [if_neg (by rw [hfin]; decide)] at hlay
  have hst := (u_facts hfc hkC (u_lays hts hin hk) hi).1
  have h6 := u_store hfc hkC hkind hlay hi (by rw [hty k hk, ht]) hn2 hf2
  refine W.putK hx hb (f := f) ⟨hown, hts _ hlk, ⟨_, _, _, hi⟩, hst⟩ (by rw [q2]; exact h6) q1 q3 (by rw [hsl]; exact k2_hasslot (q4 k hk)) rfl rfl hd fun H' e1 e2 e3 => ?_
  rw [hsl] at e1 ⊢
  have hlen : k < (fs.map (x_tv V)).length := by rw [List.length_map]; exact hk2
  have hP1 := hP.set (x_DD hH) hk0 (e := .inr (ci, (fs.map (x_tv V)).set k (x_tv V v))) ⟨_, hcl, t_OB.to (V := updV (vp_V (fs.map (x_tv V))) k (x_tv V v)) ⟨_, e1, q2, q3, t_set q4 hap hk _⟩ (fun j _ => vp_updV_set hlen _ j)⟩ e3
  refine kk H' _ arr (x_H_put (e := .inr (ci, fs.set k v)) hH hk1 ?_ e2) (hS.put e2 e3 ((x_DD hH).2 k0 _ hk0)) hl
  show va_P (x_D V) vwCl ((x_ws V S).set k0 (x_sg V h, .inr (ci, (fs.set k v).map (x_tv V)))) H'
  rw [List.map_set]
  exact hP1
end R5

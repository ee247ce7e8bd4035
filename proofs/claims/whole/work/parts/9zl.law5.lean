/-! the law: its rows -/
/-- the script: N numbers f -/
def law_S (V : x_E) (N : Nat) (f : Nat → Int32) : Prop := ∀ (U : State) (H : Heap), V.2.2.2.2.2.2 U H → va_T .int (V.2.2.2.2.1 63) N (fun j => .int (f j)) (x_A V) U H
def y_tf (x : Int32) : Int32 := if x = 0 then 0 else 1
section LW
variable {V : x_E} {own nm : String} {cc : ByteArray} {nL d MC MS pc ce sl : Nat} {ret : Option FieldType} {Q : Option Value → x_S → Prop} {E : x_P} {ls : List (Nat × Value)} {st : List Value} {S : x_S} {n : Nat} {L : List Nat} {D : y_D}
theorem t_scr (hE : x_X V own cc nL ret d MC MS nm Q E) {N e : Nat} {f : Nat → Int32} (hT : law_S V N f) (hd : decode cc pc = .ok (.iaload, 1)) (he : e < N) (hN : N < 2 ^ 31) (kk : E ce sl (pc + 1) ls (.int (f e) :: st) S) : E ce sl pc ls (.int (nI e) :: .ref 63 :: st) S := r_tald hE (by decide) hT hd (vp_in_nI he hN) (by rw [nI_clamp (by omega)]; exact kk)
theorem t_arg (hE : x_X V own cc nL ret d MC MS nm Q E) {N i k : Nat} {kz : Int} {f : Nat → Int32} (hT : law_S V N f) (h1 : decode cc pc = .ok (.aload_n 0, 1)) (h2 : decode cc (pc + 1) = .ok (.iload 4, 2)) (h3 : decode cc (pc + 3) = .ok (.iconst kz, 1)) (h4 : decode cc (pc + 4) = .ok (.iadd, 1)) (h5 : decode cc (pc + 5) = .ok (.iaload, 1)) (l0 : x_lk ls 0 = some (.ref 63)) (l4 : x_lk ls 4 = some (.int (nI i))) (hk : Int32.ofInt kz = nI k) (he : i + k < N) (hN : N < 2 ^ 31) (kk : E ce sl (pc + 6) ls (.int (f (i + k)) :: st) S) : E ce sl pc ls st S := by
  refine r_aload_n hE h1 l0 ?_
  refine r_iload hE h2 l4 ?_
  refine r_iconst hE h3 hk ?_
  refine r_iaddN hE h4 ?_
  exact t_scr hE hT h5 he hN kk
theorem t_nz (hE : x_X V own cc nL ret d MC MS nm Q E) {x : Int32} (h1 : decode cc pc = .ok (.ifCond .eq 7, 3)) (h2 : decode cc (pc + 3) = .ok (.iconst 1, 1)) (h3 : decode cc (pc + 4) = .ok (.goto 4, 3)) (h4 : decode cc (pc + 7) = .ok (.iconst 0, 1)) (kk : E ce sl (pc + 8) ls (.int (y_tf x) :: st) S) : E ce sl pc ls (.int x :: st) S := by
  refine r_if_eq (tgt := pc + 7) hE h1 (by omega) (fun c => ?_) (fun c => ?_)
  · refine r_iconst (v := 0) hE h4 (by decide) ?_
    rw [show y_tf x = 0 from if_pos c] at kk
    exact kk
  · refine r_iconst (v := 1) hE h2 (by decide) ?_
    refine r_goto (tgt := pc + 8) hE h3 (by omega) ?_
    rw [show y_tf x = 1 from if_neg c] at kk
    exact kk
theorem t_nzL (hE : x_X V own cc nL ret d MC MS nm Q E) {x : Int32} (h1 : decode cc pc = .ok (.ifCond .eq 7, 3)) (h2 : decode cc (pc + 3) = .ok (.lconst 1, 1)) (h3 : decode cc (pc + 4) = .ok (.goto 4, 3)) (h4 : decode cc (pc + 7) = .ok (.lconst 0, 1)) (kk : E ce sl (pc + 8) ls (.long (y_gb x) :: st) S) : E ce sl pc ls (.int x :: st) S := by
  refine r_if_eq (tgt := pc + 7) hE h1 (by omega) (fun c => ?_) (fun c => ?_)
  · refine r_lconst (v := 0) hE h4 (by decide) ?_
    rw [show y_gb x = 0 from if_pos c] at kk
    exact kk
  · refine r_lconst (v := 1) hE h2 (by decide) ?_
    refine r_goto (tgt := pc + 8) hE h3 (by omega) ?_
    rw [show y_gb x = 1 from if_neg c] at kk
    exact kk
theorem t_thr (hE : x_X V RL cc nL ret d MC MS nm Q E) (hL : y_ok L) {x : Int32} (h1 : decode cc pc = .ok (.aload_n 2, 1)) (h2 : decode cc (pc + 1) = .ok (.invokevirtual 136, 3)) (h3 : decode cc (pc + 4) = .ok (.iload 5, 2)) (h4 : decode cc (pc + 6) = .ok (.if_icmp .eq 5, 3)) (l2 : x_lk ls 2 = some (.ref 169)) (l5 : x_lk ls 5 = some (.int x)) (h0 : (D 169).1 0 = x) (hd1 : 1 ≤ d) (hcap : ce ≤ MC ∧ sl ≤ MS) (kk : E ce sl (pc + 11) ls [] (y_mk n L D)) : E ce sl pc ls [] (y_mk n L D) := by
  refine r_aload_n hE h1 l2 ?_
  refine t_invv (r := some (.int ((D 169).1 0))) (S2 := y_mk n L D) (st := []) hE [] (c_thrown hL) v_yX11_thrown m_L_136 h2 rfl (hL 169 (by decide)) (y_l_169 (D 169)) rfl hd1 hcap (Nat.le_of_ble_eq_true rfl) ?_
  change E ce sl (pc + 4) ls [.int ((D 169).1 0)] (y_mk n L D)
  refine r_iload hE h3 l5 ?_
  exact r_icmp_eq (tgt := pc + 11) hE h4 (by omega) (fun _ => kk) (fun c => absurd h0 c)
theorem t_ex (hE : x_X V own cc nL ret d MC MS nm Q E) {x : Int32} {off : Int} {tgt : Nat} (h1 : decode cc pc = .ok (.iload 5, 2)) (h2 : decode cc (pc + 2) = .ok (.ifCond .ne off, 3)) (l5 : x_lk ls 5 = some (.int x)) (hx : x ≠ 0) (ht : ((pc + 2 : Nat) : Int) + off = (tgt : Int)) (kk : E ce sl tgt ls st S) : E ce sl pc ls st S := by
  refine r_iload hE h1 l5 ?_
  exact r_if_ne hE h2 ht (fun _ => kk) (fun c => absurd c hx)
theorem t_oki (hE : x_X V own cc nL ret d MC MS nm Q E) (hL : y_ok L) {b : Int32} (h1 : decode cc pc = .ok (.iload 5, 2)) (h2 : decode cc (pc + 2) = .ok (.ifCond .ne 15, 3)) (h3 : decode cc (pc + 5) = .ok (.aload_n 3, 1)) (h4 : decode cc (pc + 6) = .ok (.iconst 0, 1)) (h5 : decode cc (pc + 7) = .ok (.laload, 1)) (h6 : decode cc (pc + 8) = .ok (.iload 6, 2)) (h7 : decode cc (pc + 10) = .ok (.i2l, 1)) (h8 : decode cc (pc + 11) = .ok (.lcmp, 1)) (h9 : decode cc (pc + 12) = .ok (.ifCond .eq 5, 3)) (l3 : x_lk ls 3 = some (.ref 189)) (l5 : x_lk ls 5 = some (.int 0)) (l6 : x_lk ls 6 = some (.int b)) (ho : (D 189).2.1 0 = y_gi b) (kk : E ce sl (pc + 17) ls [] (y_mk n L D)) : E ce sl pc ls [] (y_mk n L D) := by
  refine r_iload hE h1 l5 ?_
  refine r_if_ne (tgt := pc + 17) hE h2 (by omega) (fun c => absurd rfl c) (fun _ => ?_)
  refine r_aload_n hE h3 l3 ?_
  refine r_iconst (v := nI 0) hE h4 (by decide) ?_
  refine t_laldN (e := 0) hE y_J_189 h5 (hL 189 (by decide)) (by decide) (by decide) ?_
  refine r_iload hE h6 l6 ?_
  refine r_i2l hE h7 ?_
  refine r_lcmp hE h8 ?_
  exact r_if_eq (tgt := pc + 17) hE h9 (by omega) (fun _ => kk) (fun c => absurd ((lg_cmp_eq _ _).mpr ho) c)
theorem t_okb (hE : x_X V own cc nL ret d MC MS nm Q E) (hL : y_ok L) {b : Int32} (h1 : decode cc pc = .ok (.iload 5, 2)) (h2 : decode cc (pc + 2) = .ok (.ifCond .ne 22, 3)) (h3 : decode cc (pc + 5) = .ok (.aload_n 3, 1)) (h4 : decode cc (pc + 6) = .ok (.iconst 0, 1)) (h5 : decode cc (pc + 7) = .ok (.laload, 1)) (h6 : decode cc (pc + 8) = .ok (.iload 6, 2)) (b1 : decode cc (pc + 10) = .ok (.ifCond .eq 7, 3)) (b2 : decode cc (pc + 13) = .ok (.lconst 1, 1)) (b3 : decode cc (pc + 14) = .ok (.goto 4, 3)) (b4 : decode cc (pc + 17) = .ok (.lconst 0, 1)) (h8 : decode cc (pc + 18) = .ok (.lcmp, 1)) (h9 : decode cc (pc + 19) = .ok (.ifCond .eq 5, 3)) (l3 : x_lk ls 3 = some (.ref 189)) (l5 : x_lk ls 5 = some (.int 0)) (l6 : x_lk ls 6 = some (.int b)) (ho : (D 189).2.1 0 = y_gb b) (kk : E ce sl (pc + 24) ls [] (y_mk n L D)) : E ce sl pc ls [] (y_mk n L D) := by
  refine r_iload hE h1 l5 ?_
  refine r_if_ne (tgt := pc + 24) hE h2 (by omega) (fun c => absurd rfl c) (fun _ => ?_)
  refine r_aload_n hE h3 l3 ?_
  refine r_iconst (v := nI 0) hE h4 (by decide) ?_
  refine t_laldN (e := 0) hE y_J_189 h5 (hL 189 (by decide)) (by decide) (by decide) ?_
  refine r_iload hE h6 l6 ?_
  refine t_nzL hE b1 b2 b3 b4 ?_
  refine r_lcmp hE h8 ?_
  exact r_if_eq (tgt := pc + 24) hE h9 (by omega) (fun _ => kk) (fun c => absurd ((lg_cmp_eq _ _).mpr ho) c)
theorem t_okl (hE : x_X V own cc nL ret d MC MS nm Q E) (hL : y_ok L) {b : Int64} (h1 : decode cc pc = .ok (.iload 5, 2)) (h2 : decode cc (pc + 2) = .ok (.ifCond .ne 14, 3)) (h3 : decode cc (pc + 5) = .ok (.aload_n 3, 1)) (h4 : decode cc (pc + 6) = .ok (.iconst 0, 1)) (h5 : decode cc (pc + 7) = .ok (.laload, 1)) (h6 : decode cc (pc + 8) = .ok (.lload 6, 2)) (h8 : decode cc (pc + 10) = .ok (.lcmp, 1)) (h9 : decode cc (pc + 11) = .ok (.ifCond .eq 5, 3)) (l3 : x_lk ls 3 = some (.ref 189)) (l5 : x_lk ls 5 = some (.int 0)) (l6 : x_lk ls 6 = some (.long b)) (ho : (D 189).2.1 0 = y_gl b) (kk : E ce sl (pc + 16) ls [] (y_mk n L D)) : E ce sl pc ls [] (y_mk n L D) := by
  refine r_iload hE h1 l5 ?_
  refine r_if_ne (tgt := pc + 16) hE h2 (by omega) (fun c => absurd rfl c) (fun _ => ?_)
  refine r_aload_n hE h3 l3 ?_
  refine r_iconst (v := nI 0) hE h4 (by decide) ?_
  refine t_laldN (e := 0) hE y_J_189 h5 (hL 189 (by decide)) (by decide) (by decide) ?_
  refine r_lload hE h6 l6 ?_
  refine r_lcmp hE h8 ?_
  exact r_if_eq (tgt := pc + 16) hE h9 (by omega) (fun _ => kk) (fun c => absurd ((lg_cmp_eq _ _).mpr ho) c)
theorem t_nlt {α : Type} {es : List α} {j : Nat} {e : α} (h : es[j]? = some e) (hl : es.length ≤ 3) : nI (j + 1) ≠ 0 := by
  have := (List.getElem?_eq_some_iff.mp h).1
  exact nI_ne0 (by omega) (by omega)
/-- the same cells under another name, the law's row written -/
theorem y_mk_sl {n2 : Nat} {L2 : List Nat} {D2 : y_D} {x : Int64} (h : y_mk n2 L2 D2 = y_mk n L D) : y_mk n2 L2 (y_sl D2 189 0 x) = y_mk n L (y_sl D 189 0 x) := by
  unfold y_mk at h ⊢
  simp only [Prod.mk.injEq] at h ⊢
  obtain ⟨h1, h2, h3⟩ := h
  refine ⟨h1, h2, funext fun j => ?_⟩
  have e := congrFun h3 j
  by_cases c : j = 189
  · subst c
    rw [y_J_189 _, y_J_189 _] at e ⊢
    injection e with e
    simp only [Prod.mk.injEq, true_and] at e
    injection e with e
    injection e with e
    have k : ∀ A : y_D, (y_sl A 189 0 x 189).2.1 = vp_updL (A 189).2.1 0 x := fun A => rfl
    rw [k, k, e]
  · rw [y_sl_n c, y_sl_n c]
    exact e
end LW

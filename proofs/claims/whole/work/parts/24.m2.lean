def y_sw (D : y_D) (h : Nat) (f : Nat → Int32) : y_D := fun j => if j = h then (f, (D h).2) else D j
def y_cp (f g : Nat → Int32) (i : Nat) : Nat → Int32 := fun j => if j < i then f j else g j
theorem y_si_sw {D : y_D} {h e : Nat} {f : Nat → Int32} {v : Int32} : y_si (y_sw D h f) h e v = y_sw D h (upd f e v) := by
  funext j
  unfold y_si y_sw
  by_cases hj : j = h
  · subst hj; simp
  · simp [hj]
theorem y_sw_self {D : y_D} {h : Nat} : y_sw D h (D h).1 = D := by
  funext j
  unfold y_sw
  by_cases hj : j = h
  · subst hj; simp
  · simp [hj]
theorem y_sw_sw {D : y_D} {h : Nat} {f g : Nat → Int32} : y_sw (y_sw D h f) h g = y_sw D h g := by
  funext j
  unfold y_sw
  by_cases hj : j = h
  · subst hj; simp
  · simp [hj]
theorem y_cp_0 {f g : Nat → Int32} : y_cp f g 0 = g := by funext j; simp [y_cp]
theorem y_cp_s {f g : Nat → Int32} {i : Nat} : upd (y_cp f g i) i (f i) = y_cp f g (i + 1) := by
  funext j
  unfold upd y_cp
  by_cases h1 : j = i
  · subst h1; simp
  · by_cases h2 : j < i
    · simp [h1, h2, Nat.lt_succ_of_lt h2]
    · have : ¬ j < i + 1 := by omega
      simp [h1, h2, this]
section R24
variable {V : x_E} {own nm : String} {cc : ByteArray} {nL d MC MS pc ce sl : Nat} {ret : Option FieldType} {Q : Option Value → x_S → Prop} {E : x_P} {ls : List (Nat × Value)} {st : List Value} {S : x_S}
theorem j_max : Cond.static Lib.Math.max.name ∈ gT ∧ Cond.initialized "java/lang/Math" ∈ gT ∧ Cond.code Lib.Math.max.name Lib.Math.max.code 2 (some .int) ∈ gT := ⟨x_gin (by decide +kernel) rfl, x_gin (by decide +kernel) rfl, x_gin (by decide +kernel) rfl⟩
theorem r_mmax (hE : x_X V own cc nL ret d MC MS nm Q E) {i : Nat} {x y : Int32} (hl0 : Cond.methodLink own i yJ9_max_7cf53 ∈ gT) (hd : decode cc pc = .ok (.invokestatic i, 3)) (hd1 : 1 ≤ d) (hW : (st.map fun v => v.category).sum ≤ 8) (hcap : ce ≤ MC ∧ sl ≤ MS) (kk : E ce sl (pc + 3) ls (.int (if x < y then y else x) :: st) S) : E ce sl pc ls (.int y :: .int x :: st) S := by
  obtain ⟨p, e, R, s, m, args, below, meth, c, QW, ⟨hx, hb, hml, hnm, hown, hts, hG, h0, hdf, hdl, hMC, hMS⟩, rfl, hret⟩ := hE
  intro H locs arr hH hS hl
  refine va_mmax hx hb (hml.trans hl.1.symm) hown (hts _ hl0) (hts _ j_max.1) (hts _ j_max.2.1) (hts _ j_max.2.2) (by omega) ?_ (Nat.le_trans hcap.1 hMC) (Nat.le_trans hcap.2 hMS) hd (kk H locs arr hH hS hl)
  rw [x_sumcat]
  omega
theorem j_min : Cond.static Lib.Math.min.name ∈ gT ∧ Cond.initialized "java/lang/Math" ∈ gT ∧ Cond.code Lib.Math.min.name Lib.Math.min.code 2 (some .int) ∈ gT := ⟨x_gin (by decide +kernel) rfl, x_gin (by decide +kernel) rfl, x_gin (by decide +kernel) rfl⟩
theorem r_mmin (hE : x_X V own cc nL ret d MC MS nm Q E) {i : Nat} {x y : Int32} (hl0 : Cond.methodLink own i yJ9_min_7cf53 ∈ gT) (hd : decode cc pc = .ok (.invokestatic i, 3)) (hd1 : 1 ≤ d) (hW : (st.map fun v => v.category).sum ≤ 8) (hcap : ce ≤ MC ∧ sl ≤ MS) (kk : E ce sl (pc + 3) ls (.int (if y < x then y else x) :: st) S) : E ce sl pc ls (.int y :: .int x :: st) S := by
  obtain ⟨p, e, R, s, m, args, below, meth, c, QW, ⟨hx, hb, hml, hnm, hown, hts, hG, h0, hdf, hdl, hMC, hMS⟩, rfl, hret⟩ := hE
  intro H locs arr hH hS hl
  refine va_mmin hx hb (hml.trans hl.1.symm) hown (hts _ hl0) (hts _ j_min.1) (hts _ j_min.2.1) (hts _ j_min.2.2) (by omega) ?_ (Nat.le_trans hcap.1 hMC) (Nat.le_trans hcap.2 hMS) hd (kk H locs arr hH hS hl)
  rw [x_sumcat]
  omega
theorem j_abs : Cond.static Lib.Math.abs.name ∈ gT ∧ Cond.initialized "java/lang/Math" ∈ gT ∧ Cond.code Lib.Math.abs.name Lib.Math.abs.code 1 (some .int) ∈ gT := ⟨x_gin (by decide +kernel) rfl, x_gin (by decide +kernel) rfl, x_gin (by decide +kernel) rfl⟩
theorem r_mabs (hE : x_X V own cc nL ret d MC MS nm Q E) {i : Nat} {x : Int32} (hl0 : Cond.methodLink own i yJ9_abs_0f7a4 ∈ gT) (hd : decode cc pc = .ok (.invokestatic i, 3)) (hd1 : 1 ≤ d) (hW : (st.map fun v => v.category).sum ≤ 8) (hcap : ce ≤ MC ∧ sl ≤ MS) (kk : E ce sl (pc + 3) ls (.int (if 0 ≤ x then x else 0 - x) :: st) S) : E ce sl pc ls (.int x :: st) S := by
  obtain ⟨p, e, R, s, m, args, below, meth, c, QW, ⟨hx, hb, hml, hnm, hown, hts, hG, h0, hdf, hdl, hMC, hMS⟩, rfl, hret⟩ := hE
  intro H locs arr hH hS hl
  refine va_mabs hx hb (hml.trans hl.1.symm) hown (hts _ hl0) (hts _ j_abs.1) (hts _ j_abs.2.1) (hts _ j_abs.2.2) (by omega) ?_ (Nat.le_trans hcap.1 hMC) (Nat.le_trans hcap.2 hMS) hd (kk H locs arr hH hS hl)
  rw [x_sumcat]
  omega
theorem j_minL : Cond.static Lib.MathLoose.min_long.x ∈ gT ∧ Cond.initialized "java/lang/Math" ∈ gT ∧ Cond.code Lib.MathLoose.min_long.x Lib.MathLoose.min_long.code 4 (some .long) ∈ gT := ⟨x_gin (by decide +kernel) rfl, x_gin (by decide +kernel) rfl, x_gin (by decide +kernel) rfl⟩
theorem r_mminL (hE : x_X V own cc nL ret d MC MS nm Q E) {i : Nat} {x y : Int64} (hl0 : Cond.methodLink own i yJ9_min_f86c9 ∈ gT) (hd : decode cc pc = .ok (.invokestatic i, 3)) (hd1 : 1 ≤ d) (hW : (st.map fun v => v.category).sum ≤ 8) (hcap : ce ≤ MC ∧ sl ≤ MS) (kk : E ce sl (pc + 3) ls (.long (if y < x then y else x) :: st) S) : E ce sl pc ls (.long y :: .long x :: st) S := by
  obtain ⟨p, e, R, s, m, args, below, meth, c, QW, ⟨hx, hb, hml, hnm, hown, hts, hG, h0, hdf, hdl, hMC, hMS⟩, rfl, hret⟩ := hE
  intro H locs arr hH hS hl
  refine va_mmin_long hx hb (hml.trans hl.1.symm) hown (hts _ hl0) (hts _ j_minL.1) (hts _ j_minL.2.1) (hts _ j_minL.2.2) (by omega) ?_ (Nat.le_trans hcap.1 hMC) (Nat.le_trans hcap.2 hMS) hd (kk H locs arr hH hS hl)
  rw [x_sumcat]
  omega
theorem j_absL : Cond.static Lib.MathLoose.abs_long.x ∈ gT ∧ Cond.initialized "java/lang/Math" ∈ gT ∧ Cond.code Lib.MathLoose.abs_long.x Lib.MathLoose.abs_long.code 2 (some .long) ∈ gT := ⟨x_gin (by decide +kernel) rfl, x_gin (by decide +kernel) rfl, x_gin (by decide +kernel) rfl⟩
theorem r_mabsL (hE : x_X V own cc nL ret d MC MS nm Q E) {i : Nat} {x : Int64} (hl0 : Cond.methodLink own i yJ9_abs_067f4 ∈ gT) (hd : decode cc pc = .ok (.invokestatic i, 3)) (hd1 : 1 ≤ d) (hW : (st.map fun v => v.category).sum ≤ 8) (hcap : ce ≤ MC ∧ sl ≤ MS) (kk : E ce sl (pc + 3) ls (.long (if 0 < x then x else -x) :: st) S) : E ce sl pc ls (.long x :: st) S := by
  obtain ⟨p, e, R, s, m, args, below, meth, c, QW, ⟨hx, hb, hml, hnm, hown, hts, hG, h0, hdf, hdl, hMC, hMS⟩, rfl, hret⟩ := hE
  intro H locs arr hH hS hl
  refine va_mabs_long hx hb (hml.trans hl.1.symm) hown (hts _ hl0) (hts _ j_absL.1) (hts _ j_absL.2.1) (hts _ j_absL.2.2) (by omega) ?_ (Nat.le_trans hcap.1 hMC) (Nat.le_trans hcap.2 hMS) hd (kk H locs arr hH hS hl)
  rw [x_sumcat]
  omega
end R24
theorem c_image {V : x_E} {n : Nat} {L : List Nat} {D : y_D} (hL : y_ok L) : x_Fn V yX11_image cX11_image 2 none 0 [.ref 169] (y_mk n L D) none (y_mk n L (y_si (y_sw (y_si D 169 0 0) 171 (y_cp (D 170).1 (D 171).1 8747)) 169 3 1)) := by
  refine x_fn (by decide) (Nat.le_of_ble_eq_true rfl) (fun E hE => ?_)
  change E 0 0 0 [(0, .ref 169)] [] (y_mk n L D)
  have lp : ∀ (i : Nat), i ≤ 8747 → E 0 0 7 [(0, .ref 169), (1, .int (nI i))] [] (y_mk n L (y_sw (y_si D 169 0 0) 171 (y_cp (D 170).1 (D 171).1 i))) := by
    intro i
    induction hm9 : (8747 - i) using Nat.strongRecOn generalizing i with
    | _ m9 ih =>
      intro hi
      refine r_iload_n hE dX11_image_7 rfl ?_
      refine r_sipush (v := 8747) hE dX11_image_8 (by decide) ?_
      refine r_icmp_geN (a := i) (b := 8747) (tgt := 32) hE dX11_image_11 (by decide) (by omega) (by decide) (fun c11 => ?_) (fun c11 => ?_)
      · refine r_aload_n hE dX11_image_32 rfl ?_
        refine r_iconst (v := 1) hE dX11_image_33 (by decide) ?_
        refine t_puti hE f_X11_77 y_I_169_3 dX11_image_34 (hL 169 (by decide)) rfl rfl ?_
        refine r_return hE dX11_image_37 rfl (Nat.zero_le _) (Nat.zero_le _) ?_
        have hi2 : i = 8747 := by omega
        subst hi2
        exact ⟨rfl, rfl⟩
      · refine r_aload_n hE dX11_image_14 rfl ?_
        refine t_getr hE f_X11_17 y_R_169_2 dX11_image_15 (hL 169 (by decide)) ?_
        refine r_iload_n hE dX11_image_18 rfl ?_
        refine r_aload_n hE dX11_image_19 rfl ?_
        refine t_getr hE f_X11_13 y_R_169_1 dX11_image_20 (hL 169 (by decide)) ?_
        refine r_iload_n hE dX11_image_23 rfl ?_
        refine t_ialdN (e := i) hE y_A_170 dX11_image_24 (hL 170 (by decide)) (by omega) (by decide) ?_
        refine r_top (y := (D 170).1 i) rfl ?_
        refine t_iastN (e := i) hE y_A_171 dX11_image_25 (hL 171 (by decide)) (by omega) (by decide) ?_
        refine r_iincN (a := i) (b := 1) (ls2 := [(0, .ref 169), (1, .int (nI (i + 1)))]) hE dX11_image_26 rfl rfl (by decide) rfl ?_
        refine r_goto (tgt := 7) hE dX11_image_29 (by decide) ?_
        rw [y_si_sw, y_cp_s]
        exact ih (8747 - (i + 1)) (by omega) (i + 1) rfl (by omega)
  refine r_aload_n hE dX11_image_0 rfl ?_
  refine r_iconst (v := 0) hE dX11_image_1 (by decide) ?_
  refine t_puti hE f_X11_3 y_I_169_0 dX11_image_2 (hL 169 (by decide)) rfl rfl ?_
  refine r_iconst (v := 0) hE dX11_image_5 (by decide) ?_
  refine r_istore_n (ls2 := [(0, .ref 169), (1, .int 0)]) hE dX11_image_6 (by decide) rfl ?_
  have h0 := lp 0 (by omega)
  rw [y_cp_0] at h0
  have e0 : y_sw (y_si D 169 0 0) 171 (D 171).1 = y_si D 169 0 0 := y_sw_self (D := y_si D 169 0 0)
  rw [e0] at h0
  exact h0
def M_back (D : y_D) : Int32 × y_D := if (D 169).1 3 = 0 then (0, y_si D 169 0 0) else (1, y_sw (y_si D 169 0 0) 170 (y_cp (D 171).1 (D 170).1 8747))
theorem c_back {V : x_E} {n : Nat} {L : List Nat} {D : y_D} (hL : y_ok L) : x_Fn V yX11_back cX11_back 2 (some .boolean) 0 [.ref 169] (y_mk n L D) (some (.int ((M_back D).1))) (y_mk n L ((M_back D).2)) := by
  refine x_fn (by decide) (Nat.le_of_ble_eq_true rfl) (fun E hE => ?_)
  change E 0 0 0 [(0, .ref 169)] [] (y_mk n L D)
  have lp : ∀ (i : Nat), ¬ (D 169).1 3 = 0 → i ≤ 8747 → E 0 0 16 [(0, .ref 169), (1, .int (nI i))] [] (y_mk n L (y_sw (y_si D 169 0 0) 170 (y_cp (D 171).1 (D 170).1 i))) := by
    intro i
    induction hm9 : (8747 - i) using Nat.strongRecOn generalizing i with
    | _ m9 ih =>
      intro hne hi
      refine r_iload_n hE dX11_back_16 rfl ?_
      refine r_sipush (v := 8747) hE dX11_back_17 (by decide) ?_
      refine r_icmp_geN (a := i) (b := 8747) (tgt := 41) hE dX11_back_20 (by decide) (by omega) (by decide) (fun c20 => ?_) (fun c20 => ?_)
      · refine r_iconst (v := 1) hE dX11_back_41 (by decide) ?_
        refine r_ireturn hE dX11_back_42 rfl (by first | rfl | decide) (Nat.zero_le _) (Nat.zero_le _) ?_
        have hi2 : i = 8747 := by omega
        subst hi2
        unfold M_back
        rw [if_neg hne]
        exact ⟨rfl, rfl⟩
      · refine r_aload_n hE dX11_back_23 rfl ?_
        refine t_getr hE f_X11_13 y_R_169_1 dX11_back_24 (hL 169 (by decide)) ?_
        refine r_iload_n hE dX11_back_27 rfl ?_
        refine r_aload_n hE dX11_back_28 rfl ?_
        refine t_getr hE f_X11_17 y_R_169_2 dX11_back_29 (hL 169 (by decide)) ?_
        refine r_iload_n hE dX11_back_32 rfl ?_
        refine t_ialdN (e := i) hE y_A_171 dX11_back_33 (hL 171 (by decide)) (by omega) (by decide) ?_
        refine r_top (y := (D 171).1 i) rfl ?_
        refine t_iastN (e := i) hE y_A_170 dX11_back_34 (hL 170 (by decide)) (by omega) (by decide) ?_
        refine r_iincN (a := i) (b := 1) (ls2 := [(0, .ref 169), (1, .int (nI (i + 1)))]) hE dX11_back_35 rfl rfl (by decide) rfl ?_
        refine r_goto (tgt := 16) hE dX11_back_38 (by decide) ?_
        rw [y_si_sw, y_cp_s]
        exact ih (8747 - (i + 1)) (by omega) (i + 1) rfl hne (by omega)
  refine r_aload_n hE dX11_back_0 rfl ?_
  refine r_iconst (v := 0) hE dX11_back_1 (by decide) ?_
  refine t_puti hE f_X11_3 y_I_169_0 dX11_back_2 (hL 169 (by decide)) rfl rfl ?_
  refine r_aload_n hE dX11_back_5 rfl ?_
  refine t_geti hE f_X11_77 y_I_169_3 dX11_back_6 (hL 169 (by decide)) ?_
  refine r_top (y := (D 169).1 3) rfl ?_
  refine r_if_ne (tgt := 14) hE dX11_back_9 (by decide) (fun c9 => ?_) (fun c9 => ?_)
  · refine r_iconst (v := 0) hE dX11_back_14 (by decide) ?_
    refine r_istore_n (ls2 := [(0, .ref 169), (1, .int 0)]) hE dX11_back_15 (by decide) rfl ?_
    have h0 := lp 0 c9 (by omega)
    rw [y_cp_0] at h0
    have e0 : y_sw (y_si D 169 0 0) 170 (D 170).1 = y_si D 169 0 0 := y_sw_self (D := y_si D 169 0 0)
    rw [e0] at h0
    exact h0
  · refine r_iconst (v := 0) hE dX11_back_12 (by decide) ?_
    refine r_ireturn hE dX11_back_13 rfl (by first | rfl | decide) (Nat.zero_le _) (Nat.zero_le _) ?_
    unfold M_back
    rw [if_pos (by assumption)]
    exact ⟨rfl, rfl⟩
def y_tale (g : Int64) : Nat → Int64 → Int64
  | 0, v => v
  | k + 1, v => y_tale g k (if v + (v * g + 99) / 100 < 1000000000 then v + (v * g + 99) / 100 else 1000000000)
def M_tale (D : y_D) (p q r : Int32) : Int32 × y_D := if ¬ ((0 ≤ p ∧ p ≤ 9999) ∧ (0 ≤ q ∧ q ≤ 100) ∧ (0 ≤ r ∧ r ≤ 20)) then (0, y_si (y_si D 169 0 0) 169 0 1) else ((y_tale q.toInt64 r.toNatClampNeg p.toInt64).toInt32, y_si D 169 0 0)
theorem c_tale {V : x_E} {n : Nat} {L : List Nat} {D : y_D} {p q r : Int32} (hL : y_ok L) : x_Fn V yX11_tale cX11_tale 7 (some .int) 2 [.ref 169, .int p, .int q, .int r] (y_mk n L D) (some (.int ((M_tale D p q r).1))) (y_mk n L ((M_tale D p q r).2)) := by
  refine x_fn (by decide) (Nat.le_of_ble_eq_true rfl) (fun E hE => ?_)
  change E 0 0 0 [(0, .ref 169), (1, .int p), (2, .int q), (3, .int r)] [] (y_mk n L D)
  by_cases hc : ¬ ((0 ≤ p ∧ p ≤ 9999) ∧ (0 ≤ q ∧ q ≤ 100) ∧ (0 ≤ r ∧ r ≤ 20))
  · refine r_aload_n hE dX11_tale_0 rfl ?_
    refine r_iconst (v := 0) hE dX11_tale_1 (by decide) ?_
    refine t_puti hE f_X11_3 y_I_169_0 dX11_tale_2 (hL 169 (by decide)) rfl rfl ?_
    refine r_aload_n hE dX11_tale_5 rfl ?_
    refine r_iload_n hE dX11_tale_6 rfl ?_
    refine r_iconst (v := 0) hE dX11_tale_7 (by decide) ?_
    refine r_sipush (v := 9999) hE dX11_tale_8 (by decide) ?_
    refine t_invs (r := (some (.int (y_b (0 ≤ p ∧ p ≤ 9999))))) (S2 := (y_mk n L (y_si D 169 0 0))) hE [.int p, .int 0, .int 9999] (c_in) s_yX11_in m_X11_81 dX11_tale_11 rfl (by decide) ⟨Nat.le_refl _, Nat.le_refl _⟩ (Nat.le_of_ble_eq_true rfl) ?_
    show E 0 0 14 [(0, .ref 169), (1, .int p), (2, .int q), (3, .int r)] [.int (y_b (0 ≤ p ∧ p ≤ 9999)), .ref 169] (y_mk n L (y_si D 169 0 0))
    refine r_ifb_eq (tgt := 37) hE dX11_tale_14 (by decide) (fun c14 => ?_) (fun c14 => ?_)
    · refine r_iconst (v := 1) hE dX11_tale_37 (by decide) ?_
      refine r_goto (tgt := 42) hE dX11_tale_38 (by decide) ?_
      refine r_iconst (v := 1) hE dX11_tale_42 (by decide) ?_
      refine t_invv (r := (some (.int 1))) (S2 := (y_mk n L (y_si (y_si D 169 0 0) 169 0 1))) hE [.int 1, .int 1] (c_throwsT hL) v_yX11_throwsIf m_X11_85 dX11_tale_43 rfl (hL 169 (by decide)) (y_l_169 ((y_si D 169 0 0) 169)) rfl (by decide) ⟨Nat.le_refl _, Nat.le_refl _⟩ (Nat.le_of_ble_eq_true rfl) ?_
      show E 0 0 46 [(0, .ref 169), (1, .int p), (2, .int q), (3, .int r)] [.int 1] (y_mk n L (y_si (y_si D 169 0 0) 169 0 1))
      refine r_if_eq (tgt := 51) hE dX11_tale_46 (by decide) (fun c46 => by first | exact absurd c46 (by decide) | exact absurd (by decide) c46) (fun _ => ?_)
      refine r_iconst (v := 0) hE dX11_tale_49 (by decide) ?_
      refine r_ireturn hE dX11_tale_50 rfl rfl (Nat.zero_le _) (Nat.zero_le _) ?_
      unfold M_tale
      rw [if_pos (by grind)]
      exact ⟨rfl, rfl⟩
    · refine r_iload_n hE dX11_tale_17 rfl ?_
      refine r_iconst (v := 0) hE dX11_tale_18 (by decide) ?_
      refine r_bipush (v := 100) hE dX11_tale_19 (by decide) ?_
      refine t_invs (r := (some (.int (y_b (0 ≤ q ∧ q ≤ 100))))) (S2 := (y_mk n L (y_si D 169 0 0))) hE [.int q, .int 0, .int 100] (c_in) s_yX11_in m_X11_81 dX11_tale_21 rfl (by decide) ⟨Nat.le_refl _, Nat.le_refl _⟩ (Nat.le_of_ble_eq_true rfl) ?_
      show E 0 0 24 [(0, .ref 169), (1, .int p), (2, .int q), (3, .int r)] [.int (y_b (0 ≤ q ∧ q ≤ 100)), .ref 169] (y_mk n L (y_si D 169 0 0))
      refine r_ifb_eq (tgt := 37) hE dX11_tale_24 (by decide) (fun c24 => ?_) (fun c24 => ?_)
      · refine r_iconst (v := 1) hE dX11_tale_37 (by decide) ?_
        refine r_goto (tgt := 42) hE dX11_tale_38 (by decide) ?_
        refine r_iconst (v := 1) hE dX11_tale_42 (by decide) ?_
        refine t_invv (r := (some (.int 1))) (S2 := (y_mk n L (y_si (y_si D 169 0 0) 169 0 1))) hE [.int 1, .int 1] (c_throwsT hL) v_yX11_throwsIf m_X11_85 dX11_tale_43 rfl (hL 169 (by decide)) (y_l_169 ((y_si D 169 0 0) 169)) rfl (by decide) ⟨Nat.le_refl _, Nat.le_refl _⟩ (Nat.le_of_ble_eq_true rfl) ?_
        show E 0 0 46 [(0, .ref 169), (1, .int p), (2, .int q), (3, .int r)] [.int 1] (y_mk n L (y_si (y_si D 169 0 0) 169 0 1))
        refine r_if_eq (tgt := 51) hE dX11_tale_46 (by decide) (fun c46 => by first | exact absurd c46 (by decide) | exact absurd (by decide) c46) (fun _ => ?_)
        refine r_iconst (v := 0) hE dX11_tale_49 (by decide) ?_
        refine r_ireturn hE dX11_tale_50 rfl rfl (Nat.zero_le _) (Nat.zero_le _) ?_
        unfold M_tale
        rw [if_pos (by grind)]
        exact ⟨rfl, rfl⟩
      · refine r_iload_n hE dX11_tale_27 rfl ?_
        refine r_iconst (v := 0) hE dX11_tale_28 (by decide) ?_
        refine r_bipush (v := 20) hE dX11_tale_29 (by decide) ?_
        refine t_invs (r := (some (.int (y_b (0 ≤ r ∧ r ≤ 20))))) (S2 := (y_mk n L (y_si D 169 0 0))) hE [.int r, .int 0, .int 20] (c_in) s_yX11_in m_X11_81 dX11_tale_31 rfl (by decide) ⟨Nat.le_refl _, Nat.le_refl _⟩ (Nat.le_of_ble_eq_true rfl) ?_
        show E 0 0 34 [(0, .ref 169), (1, .int p), (2, .int q), (3, .int r)] [.int (y_b (0 ≤ r ∧ r ≤ 20)), .ref 169] (y_mk n L (y_si D 169 0 0))
        refine r_ifb_ne (tgt := 41) hE dX11_tale_34 (by decide) (fun c34 => ?_) (fun c34 => ?_)
        · refine r_iconst (v := 0) hE dX11_tale_41 (by decide) ?_
          refine r_iconst (v := 1) hE dX11_tale_42 (by decide) ?_
          refine t_invv (r := (some (.int 0))) (S2 := (y_mk n L (y_si D 169 0 0))) hE [.int 0, .int 1] (c_throwsF) v_yX11_throwsIf m_X11_85 dX11_tale_43 rfl (hL 169 (by decide)) (y_l_169 ((y_si D 169 0 0) 169)) rfl (by decide) ⟨Nat.le_refl _, Nat.le_refl _⟩ (Nat.le_of_ble_eq_true rfl) ?_
          show E 0 0 46 [(0, .ref 169), (1, .int p), (2, .int q), (3, .int r)] [.int 0] (y_mk n L (y_si D 169 0 0))
          refine r_if_eq (tgt := 51) hE dX11_tale_46 (by decide) (fun _ => ?_) (fun c46 => by first | exact absurd c46 (by decide) | exact absurd (by decide) c46)
          refine r_iload_n hE dX11_tale_51 rfl ?_
          refine r_i2l hE dX11_tale_52 ?_
          refine r_lstore (ls2 := [(0, .ref 169), (1, .int p), (2, .int q), (3, .int r), (4, .long p.toInt64)]) hE dX11_tale_53 (by decide) rfl ?_
          refine r_iconst (v := 0) hE dX11_tale_55 (by decide) ?_
          refine r_istore (ls2 := [(0, .ref 169), (1, .int p), (2, .int q), (3, .int r), (4, .long p.toInt64), (6, .int 0)]) hE dX11_tale_56 (by decide) rfl ?_
          exact absurd hc (by grind)
        · refine r_iconst (v := 1) hE dX11_tale_37 (by decide) ?_
          refine r_goto (tgt := 42) hE dX11_tale_38 (by decide) ?_
          refine r_iconst (v := 1) hE dX11_tale_42 (by decide) ?_
          refine t_invv (r := (some (.int 1))) (S2 := (y_mk n L (y_si (y_si D 169 0 0) 169 0 1))) hE [.int 1, .int 1] (c_throwsT hL) v_yX11_throwsIf m_X11_85 dX11_tale_43 rfl (hL 169 (by decide)) (y_l_169 ((y_si D 169 0 0) 169)) rfl (by decide) ⟨Nat.le_refl _, Nat.le_refl _⟩ (Nat.le_of_ble_eq_true rfl) ?_
          show E 0 0 46 [(0, .ref 169), (1, .int p), (2, .int q), (3, .int r)] [.int 1] (y_mk n L (y_si (y_si D 169 0 0) 169 0 1))
          refine r_if_eq (tgt := 51) hE dX11_tale_46 (by decide) (fun c46 => by first | exact absurd c46 (by decide) | exact absurd (by decide) c46) (fun _ => ?_)
          refine r_iconst (v := 0) hE dX11_tale_49 (by decide) ?_
          refine r_ireturn hE dX11_tale_50 rfl rfl (Nat.zero_le _) (Nat.zero_le _) ?_
          unfold M_tale
          rw [if_pos (by grind)]
          exact ⟨rfl, rfl⟩
  · obtain ⟨k, hk, rfl⟩ : ∃ k : Nat, k ≤ 20 ∧ r = nI k := nI_of2 (M := 20) rfl (by grind) (by grind)
    have lp : ∀ (i : Nat) (v : Int64), i ≤ k → y_tale q.toInt64 (k - i) v = y_tale q.toInt64 k p.toInt64 → E 0 0 58 [(0, .ref 169), (1, .int p), (2, .int q), (3, .int (nI k)), (4, .long v), (6, .int (nI i))] [] (y_mk n L (y_si D 169 0 0)) := by
      intro i v
      induction hm9 : (k - i) using Nat.strongRecOn generalizing i v with
      | _ m9 ih =>
        intro hi hv
        refine r_iload hE dX11_tale_58 rfl ?_
        refine r_iload_n hE dX11_tale_60 rfl ?_
        refine r_icmp_geN (a := i) (b := k) (tgt := 94) hE dX11_tale_61 (by decide) (by omega) (by omega) (fun c61 => ?_) (fun c61 => ?_)
        · refine r_lload hE dX11_tale_94 rfl ?_
          refine r_l2i hE dX11_tale_96 ?_
          refine r_ireturn hE dX11_tale_97 rfl rfl (Nat.zero_le _) (Nat.zero_le _) ?_
          unfold M_tale
          rw [if_neg hc]
          rw [nI_clamp (by omega)]
          rw [← hv, show m9 = 0 by omega]
          exact ⟨rfl, rfl⟩
        · refine r_ldc2 (v := 1000000000) hE dX11_tale_64 (x_gin (List.mem_append_right _ (tb_8 _ (List.mem_of_getElem? (i := 85) rfl))) rfl) ?_
          refine r_lload hE dX11_tale_67 rfl ?_
          refine r_lload hE dX11_tale_69 rfl ?_
          refine r_iload_n hE dX11_tale_71 rfl ?_
          refine r_i2l hE dX11_tale_72 ?_
          refine r_lmul hE dX11_tale_73 ?_
          refine r_ldc2 (v := 99) hE dX11_tale_74 (x_gin (List.mem_append_right _ (tb_8 _ (List.mem_of_getElem? (i := 86) rfl))) rfl) ?_
          refine r_ladd hE dX11_tale_77 ?_
          refine r_ldc2 (v := 100) hE dX11_tale_78 (x_gin (List.mem_append_right _ (tb_8 _ (List.mem_of_getElem? (i := 87) rfl))) rfl) ?_
          refine r_ldiv hE dX11_tale_81 (by decide) ?_
          refine r_ladd hE dX11_tale_82 ?_
          refine r_mminL hE m_X11_401 dX11_tale_83 (by decide) (Nat.le_of_ble_eq_true rfl) ⟨Nat.le_refl _, Nat.le_refl _⟩ ?_
          refine r_lstore (ls2 := [(0, .ref 169), (1, .int p), (2, .int q), (3, .int (nI k)), (4, .long (if (v + (((v * q.toInt64) + 99) / 100)) < 1000000000 then (v + (((v * q.toInt64) + 99) / 100)) else 1000000000)), (6, .int (nI i))]) hE dX11_tale_86 (by decide) rfl ?_
          refine r_iincN (a := i) (b := 1) (ls2 := [(0, .ref 169), (1, .int p), (2, .int q), (3, .int (nI k)), (4, .long (if (v + (((v * q.toInt64) + 99) / 100)) < 1000000000 then (v + (((v * q.toInt64) + 99) / 100)) else 1000000000)), (6, .int (nI (i + 1)))]) hE dX11_tale_88 rfl rfl (by decide) rfl ?_
          refine r_goto (tgt := 58) hE dX11_tale_91 (by decide) ?_
          refine ih (k - (i + 1)) (by omega) (i + 1) _ rfl (by omega) ?_
          rw [← hv, show m9 = (k - (i + 1)) + 1 by omega]
          rfl
    refine r_aload_n hE dX11_tale_0 rfl ?_
    refine r_iconst (v := 0) hE dX11_tale_1 (by decide) ?_
    refine t_puti hE f_X11_3 y_I_169_0 dX11_tale_2 (hL 169 (by decide)) rfl rfl ?_
    refine r_aload_n hE dX11_tale_5 rfl ?_
    refine r_iload_n hE dX11_tale_6 rfl ?_
    refine r_iconst (v := 0) hE dX11_tale_7 (by decide) ?_
    refine r_sipush (v := 9999) hE dX11_tale_8 (by decide) ?_
    refine t_invs (r := (some (.int (y_b (0 ≤ p ∧ p ≤ 9999))))) (S2 := (y_mk n L (y_si D 169 0 0))) hE [.int p, .int 0, .int 9999] (c_in) s_yX11_in m_X11_81 dX11_tale_11 rfl (by decide) ⟨Nat.le_refl _, Nat.le_refl _⟩ (Nat.le_of_ble_eq_true rfl) ?_
    show E 0 0 14 [(0, .ref 169), (1, .int p), (2, .int q), (3, .int (nI k))] [.int (y_b (0 ≤ p ∧ p ≤ 9999)), .ref 169] (y_mk n L (y_si D 169 0 0))
    refine r_ifb_eq (tgt := 37) hE dX11_tale_14 (by decide) (fun c14 => ?_) (fun c14 => ?_)
    · refine r_iconst (v := 1) hE dX11_tale_37 (by decide) ?_
      refine r_goto (tgt := 42) hE dX11_tale_38 (by decide) ?_
      refine r_iconst (v := 1) hE dX11_tale_42 (by decide) ?_
      refine t_invv (r := (some (.int 1))) (S2 := (y_mk n L (y_si (y_si D 169 0 0) 169 0 1))) hE [.int 1, .int 1] (c_throwsT hL) v_yX11_throwsIf m_X11_85 dX11_tale_43 rfl (hL 169 (by decide)) (y_l_169 ((y_si D 169 0 0) 169)) rfl (by decide) ⟨Nat.le_refl _, Nat.le_refl _⟩ (Nat.le_of_ble_eq_true rfl) ?_
      show E 0 0 46 [(0, .ref 169), (1, .int p), (2, .int q), (3, .int (nI k))] [.int 1] (y_mk n L (y_si (y_si D 169 0 0) 169 0 1))
      refine r_if_eq (tgt := 51) hE dX11_tale_46 (by decide) (fun c46 => by first | exact absurd c46 (by decide) | exact absurd (by decide) c46) (fun _ => ?_)
      refine r_iconst (v := 0) hE dX11_tale_49 (by decide) ?_
      refine r_ireturn hE dX11_tale_50 rfl rfl (Nat.zero_le _) (Nat.zero_le _) ?_
      unfold M_tale
      rw [if_pos (by grind)]
      exact ⟨rfl, rfl⟩
    · refine r_iload_n hE dX11_tale_17 rfl ?_
      refine r_iconst (v := 0) hE dX11_tale_18 (by decide) ?_
      refine r_bipush (v := 100) hE dX11_tale_19 (by decide) ?_
      refine t_invs (r := (some (.int (y_b (0 ≤ q ∧ q ≤ 100))))) (S2 := (y_mk n L (y_si D 169 0 0))) hE [.int q, .int 0, .int 100] (c_in) s_yX11_in m_X11_81 dX11_tale_21 rfl (by decide) ⟨Nat.le_refl _, Nat.le_refl _⟩ (Nat.le_of_ble_eq_true rfl) ?_
      show E 0 0 24 [(0, .ref 169), (1, .int p), (2, .int q), (3, .int (nI k))] [.int (y_b (0 ≤ q ∧ q ≤ 100)), .ref 169] (y_mk n L (y_si D 169 0 0))
      refine r_ifb_eq (tgt := 37) hE dX11_tale_24 (by decide) (fun c24 => ?_) (fun c24 => ?_)
      · refine r_iconst (v := 1) hE dX11_tale_37 (by decide) ?_
        refine r_goto (tgt := 42) hE dX11_tale_38 (by decide) ?_
        refine r_iconst (v := 1) hE dX11_tale_42 (by decide) ?_
        refine t_invv (r := (some (.int 1))) (S2 := (y_mk n L (y_si (y_si D 169 0 0) 169 0 1))) hE [.int 1, .int 1] (c_throwsT hL) v_yX11_throwsIf m_X11_85 dX11_tale_43 rfl (hL 169 (by decide)) (y_l_169 ((y_si D 169 0 0) 169)) rfl (by decide) ⟨Nat.le_refl _, Nat.le_refl _⟩ (Nat.le_of_ble_eq_true rfl) ?_
        show E 0 0 46 [(0, .ref 169), (1, .int p), (2, .int q), (3, .int (nI k))] [.int 1] (y_mk n L (y_si (y_si D 169 0 0) 169 0 1))
        refine r_if_eq (tgt := 51) hE dX11_tale_46 (by decide) (fun c46 => by first | exact absurd c46 (by decide) | exact absurd (by decide) c46) (fun _ => ?_)
        refine r_iconst (v := 0) hE dX11_tale_49 (by decide) ?_
        refine r_ireturn hE dX11_tale_50 rfl rfl (Nat.zero_le _) (Nat.zero_le _) ?_
        unfold M_tale
        rw [if_pos (by grind)]
        exact ⟨rfl, rfl⟩
      · refine r_iload_n hE dX11_tale_27 rfl ?_
        refine r_iconst (v := 0) hE dX11_tale_28 (by decide) ?_
        refine r_bipush (v := 20) hE dX11_tale_29 (by decide) ?_
        refine t_invs (r := (some (.int (y_b (0 ≤ (nI k) ∧ (nI k) ≤ 20))))) (S2 := (y_mk n L (y_si D 169 0 0))) hE [.int (nI k), .int 0, .int 20] (c_in) s_yX11_in m_X11_81 dX11_tale_31 rfl (by decide) ⟨Nat.le_refl _, Nat.le_refl _⟩ (Nat.le_of_ble_eq_true rfl) ?_
        show E 0 0 34 [(0, .ref 169), (1, .int p), (2, .int q), (3, .int (nI k))] [.int (y_b (0 ≤ (nI k) ∧ (nI k) ≤ 20)), .ref 169] (y_mk n L (y_si D 169 0 0))
        refine r_ifb_ne (tgt := 41) hE dX11_tale_34 (by decide) (fun c34 => ?_) (fun c34 => ?_)
        · refine r_iconst (v := 0) hE dX11_tale_41 (by decide) ?_
          refine r_iconst (v := 1) hE dX11_tale_42 (by decide) ?_
          refine t_invv (r := (some (.int 0))) (S2 := (y_mk n L (y_si D 169 0 0))) hE [.int 0, .int 1] (c_throwsF) v_yX11_throwsIf m_X11_85 dX11_tale_43 rfl (hL 169 (by decide)) (y_l_169 ((y_si D 169 0 0) 169)) rfl (by decide) ⟨Nat.le_refl _, Nat.le_refl _⟩ (Nat.le_of_ble_eq_true rfl) ?_
          show E 0 0 46 [(0, .ref 169), (1, .int p), (2, .int q), (3, .int (nI k))] [.int 0] (y_mk n L (y_si D 169 0 0))
          refine r_if_eq (tgt := 51) hE dX11_tale_46 (by decide) (fun _ => ?_) (fun c46 => by first | exact absurd c46 (by decide) | exact absurd (by decide) c46)
          refine r_iload_n hE dX11_tale_51 rfl ?_
          refine r_i2l hE dX11_tale_52 ?_
          refine r_lstore (ls2 := [(0, .ref 169), (1, .int p), (2, .int q), (3, .int (nI k)), (4, .long p.toInt64)]) hE dX11_tale_53 (by decide) rfl ?_
          refine r_iconst (v := 0) hE dX11_tale_55 (by decide) ?_
          refine r_istore (ls2 := [(0, .ref 169), (1, .int p), (2, .int q), (3, .int (nI k)), (4, .long p.toInt64), (6, .int 0)]) hE dX11_tale_56 (by decide) rfl ?_
          exact lp 0 _ (by omega) rfl
        · refine r_iconst (v := 1) hE dX11_tale_37 (by decide) ?_
          refine r_goto (tgt := 42) hE dX11_tale_38 (by decide) ?_
          refine r_iconst (v := 1) hE dX11_tale_42 (by decide) ?_
          refine t_invv (r := (some (.int 1))) (S2 := (y_mk n L (y_si (y_si D 169 0 0) 169 0 1))) hE [.int 1, .int 1] (c_throwsT hL) v_yX11_throwsIf m_X11_85 dX11_tale_43 rfl (hL 169 (by decide)) (y_l_169 ((y_si D 169 0 0) 169)) rfl (by decide) ⟨Nat.le_refl _, Nat.le_refl _⟩ (Nat.le_of_ble_eq_true rfl) ?_
          show E 0 0 46 [(0, .ref 169), (1, .int p), (2, .int q), (3, .int (nI k))] [.int 1] (y_mk n L (y_si (y_si D 169 0 0) 169 0 1))
          refine r_if_eq (tgt := 51) hE dX11_tale_46 (by decide) (fun c46 => by first | exact absurd c46 (by decide) | exact absurd (by decide) c46) (fun _ => ?_)
          refine r_iconst (v := 0) hE dX11_tale_49 (by decide) ?_
          refine r_ireturn hE dX11_tale_50 rfl rfl (Nat.zero_le _) (Nat.zero_le _) ?_
          unfold M_tale
          rw [if_pos (by grind)]
          exact ⟨rfl, rfl⟩
def y_cold1 (p q r : Int32) (j : Nat) (m : Int32) : Int32 :=
  let a := if 0 ≤ nI j - r then nI j - r else 0 - (nI j - r)
  if (p >>> (nI j &&& 31)) &&& 1 = 1 then (if m < q - 2 * (if 8 - a < a then 8 - a else a) then q - 2 * (if 8 - a < a then 8 - a else a) else m) else m
def y_cold (p q r : Int32) : Nat → Int32
  | 0 => 0
  | j + 1 => y_cold1 p q r j (y_cold p q r j)
def M_cold (D : y_D) (p q r : Int32) : Int32 × y_D := if ¬ ((0 ≤ p ∧ p ≤ 255) ∧ (0 ≤ q ∧ q ≤ 99) ∧ (0 ≤ r ∧ r ≤ 7)) then (0, y_si (y_si D 169 0 0) 169 0 1) else (y_cold p q r 8, y_si D 169 0 0)
theorem c_cold {V : x_E} {n : Nat} {L : List Nat} {D : y_D} {p q r : Int32} (hL : y_ok L) : x_Fn V yX11_cold cX11_cold 7 (some .int) 2 [.ref 169, .int p, .int q, .int r] (y_mk n L D) (some (.int ((M_cold D p q r).1))) (y_mk n L ((M_cold D p q r).2)) := by
  refine x_fn (by decide) (Nat.le_of_ble_eq_true rfl) (fun E hE => ?_)
  change E 0 0 0 [(0, .ref 169), (1, .int p), (2, .int q), (3, .int r)] [] (y_mk n L D)
  have lp : ∀ (i : Nat), ¬ ¬ ((0 ≤ p ∧ p ≤ 255) ∧ (0 ≤ q ∧ q ≤ 99) ∧ (0 ≤ r ∧ r ≤ 7)) → i ≤ 8 → E 0 0 57 [(0, .ref 169), (1, .int p), (2, .int q), (3, .int r), (4, .int (y_cold p q r i)), (5, .int (nI i))] [] (y_mk n L (y_si D 169 0 0)) := by
    intro i
    induction hm9 : (8 - i) using Nat.strongRecOn generalizing i with
    | _ m9 ih =>
      intro hc hi
      refine r_iload hE dX11_cold_57 rfl ?_
      refine r_bipush (v := 8) hE dX11_cold_59 (by decide) ?_
      refine r_icmp_geN (a := i) (b := 8) (tgt := 110) hE dX11_cold_61 (by decide) (by omega) (by decide) (fun c61 => ?_) (fun c61 => ?_)
      · refine r_iload hE dX11_cold_110 rfl ?_
        refine r_ireturn hE dX11_cold_112 rfl rfl (Nat.zero_le _) (Nat.zero_le _) ?_
        unfold M_cold
        rw [if_neg hc]
        have hi2 : i = 8 := by omega
        subst hi2
        exact ⟨rfl, rfl⟩
      · refine r_iload hE dX11_cold_64 rfl ?_
        refine r_iload_n hE dX11_cold_66 rfl ?_
        refine r_isub hE dX11_cold_67 ?_
        refine r_mabs hE m_X11_404 dX11_cold_68 (by decide) (Nat.le_of_ble_eq_true rfl) ⟨Nat.le_refl _, Nat.le_refl _⟩ ?_
        refine r_istore (ls2 := [(0, .ref 169), (1, .int p), (2, .int q), (3, .int r), (4, .int (y_cold p q r i)), (5, .int (nI i)), (6, .int (if 0 ≤ ((nI i) - r) then ((nI i) - r) else 0 - ((nI i) - r)))]) hE dX11_cold_71 (by decide) rfl ?_
        refine r_iload_n hE dX11_cold_73 rfl ?_
        refine r_iload hE dX11_cold_74 rfl ?_
        refine r_ishr hE dX11_cold_76 ?_
        refine r_iconst (v := 1) hE dX11_cold_77 (by decide) ?_
        refine r_iand hE dX11_cold_78 ?_
        refine r_iconst (v := 1) hE dX11_cold_79 (by decide) ?_
        refine r_icmp_ne (tgt := 104) hE dX11_cold_80 (by decide) (fun c80 => ?_) (fun c80 => ?_)
        · refine r_iincN (a := i) (b := 1) (ls2 := [(0, .ref 169), (1, .int p), (2, .int q), (3, .int r), (4, .int (y_cold p q r i)), (5, .int (nI (i + 1))), (6, .int (if 0 ≤ ((nI i) - r) then ((nI i) - r) else 0 - ((nI i) - r)))]) hE dX11_cold_104 rfl rfl (by decide) rfl ?_
          refine r_goto (tgt := 57) hE dX11_cold_107 (by decide) ?_
          have e9 : y_cold p q r (i + 1) = y_cold p q r i := by
            show y_cold1 p q r i (y_cold p q r i) = _
            unfold y_cold1
            first | exact if_pos c80 | exact if_neg c80
          refine r_locs hE (ls2 := [(0, .ref 169), (1, .int p), (2, .int q), (3, .int r), (4, .int (y_cold p q r (i + 1))), (5, .int (nI (i + 1)))]) ?_ (ih (8 - (i + 1)) (by omega) (i + 1) rfl hc (by omega))
          rw [e9]
          simp [x_lk]
        · refine r_iload hE dX11_cold_83 rfl ?_
          refine r_iload_n hE dX11_cold_85 rfl ?_
          refine r_iconst (v := 2) hE dX11_cold_86 (by decide) ?_
          refine r_iload hE dX11_cold_87 rfl ?_
          refine r_bipush (v := 8) hE dX11_cold_89 (by decide) ?_
          refine r_iload hE dX11_cold_91 rfl ?_
          refine r_isub hE dX11_cold_93 ?_
          refine r_mmin hE m_X11_386 dX11_cold_94 (by decide) (Nat.le_of_ble_eq_true rfl) ⟨Nat.le_refl _, Nat.le_refl _⟩ ?_
          refine r_imul hE dX11_cold_97 ?_
          refine r_isub hE dX11_cold_98 ?_
          refine r_mmax hE m_X11_291 dX11_cold_99 (by decide) (Nat.le_of_ble_eq_true rfl) ⟨Nat.le_refl _, Nat.le_refl _⟩ ?_
          refine r_istore (ls2 := [(0, .ref 169), (1, .int p), (2, .int q), (3, .int r), (4, .int (if (y_cold p q r i) < (q - (2 * (if (8 - (if 0 ≤ ((nI i) - r) then ((nI i) - r) else 0 - ((nI i) - r))) < (if 0 ≤ ((nI i) - r) then ((nI i) - r) else 0 - ((nI i) - r)) then (8 - (if 0 ≤ ((nI i) - r) then ((nI i) - r) else 0 - ((nI i) - r))) else (if 0 ≤ ((nI i) - r) then ((nI i) - r) else 0 - ((nI i) - r))))) then (q - (2 * (if (8 - (if 0 ≤ ((nI i) - r) then ((nI i) - r) else 0 - ((nI i) - r))) < (if 0 ≤ ((nI i) - r) then ((nI i) - r) else 0 - ((nI i) - r)) then (8 - (if 0 ≤ ((nI i) - r) then ((nI i) - r) else 0 - ((nI i) - r))) else (if 0 ≤ ((nI i) - r) then ((nI i) - r) else 0 - ((nI i) - r))))) else (y_cold p q r i))), (5, .int (nI i)), (6, .int (if 0 ≤ ((nI i) - r) then ((nI i) - r) else 0 - ((nI i) - r)))]) hE dX11_cold_102 (by decide) rfl ?_
          refine r_iincN (a := i) (b := 1) (ls2 := [(0, .ref 169), (1, .int p), (2, .int q), (3, .int r), (4, .int (if (y_cold p q r i) < (q - (2 * (if (8 - (if 0 ≤ ((nI i) - r) then ((nI i) - r) else 0 - ((nI i) - r))) < (if 0 ≤ ((nI i) - r) then ((nI i) - r) else 0 - ((nI i) - r)) then (8 - (if 0 ≤ ((nI i) - r) then ((nI i) - r) else 0 - ((nI i) - r))) else (if 0 ≤ ((nI i) - r) then ((nI i) - r) else 0 - ((nI i) - r))))) then (q - (2 * (if (8 - (if 0 ≤ ((nI i) - r) then ((nI i) - r) else 0 - ((nI i) - r))) < (if 0 ≤ ((nI i) - r) then ((nI i) - r) else 0 - ((nI i) - r)) then (8 - (if 0 ≤ ((nI i) - r) then ((nI i) - r) else 0 - ((nI i) - r))) else (if 0 ≤ ((nI i) - r) then ((nI i) - r) else 0 - ((nI i) - r))))) else (y_cold p q r i))), (5, .int (nI (i + 1))), (6, .int (if 0 ≤ ((nI i) - r) then ((nI i) - r) else 0 - ((nI i) - r)))]) hE dX11_cold_104 rfl rfl (by decide) rfl ?_
          refine r_goto (tgt := 57) hE dX11_cold_107 (by decide) ?_
          have e9 : y_cold p q r (i + 1) = (if (y_cold p q r i) < (q - (2 * (if (8 - (if 0 ≤ ((nI i) - r) then ((nI i) - r) else 0 - ((nI i) - r))) < (if 0 ≤ ((nI i) - r) then ((nI i) - r) else 0 - ((nI i) - r)) then (8 - (if 0 ≤ ((nI i) - r) then ((nI i) - r) else 0 - ((nI i) - r))) else (if 0 ≤ ((nI i) - r) then ((nI i) - r) else 0 - ((nI i) - r))))) then (q - (2 * (if (8 - (if 0 ≤ ((nI i) - r) then ((nI i) - r) else 0 - ((nI i) - r))) < (if 0 ≤ ((nI i) - r) then ((nI i) - r) else 0 - ((nI i) - r)) then (8 - (if 0 ≤ ((nI i) - r) then ((nI i) - r) else 0 - ((nI i) - r))) else (if 0 ≤ ((nI i) - r) then ((nI i) - r) else 0 - ((nI i) - r))))) else (y_cold p q r i)) := by
            show y_cold1 p q r i (y_cold p q r i) = _
            unfold y_cold1
            first | exact if_pos c80 | exact if_neg c80
          refine r_locs hE (ls2 := [(0, .ref 169), (1, .int p), (2, .int q), (3, .int r), (4, .int (y_cold p q r (i + 1))), (5, .int (nI (i + 1)))]) ?_ (ih (8 - (i + 1)) (by omega) (i + 1) rfl hc (by omega))
          rw [e9]
          simp [x_lk]
  refine r_aload_n hE dX11_cold_0 rfl ?_
  refine r_iconst (v := 0) hE dX11_cold_1 (by decide) ?_
  refine t_puti hE f_X11_3 y_I_169_0 dX11_cold_2 (hL 169 (by decide)) rfl rfl ?_
  refine r_aload_n hE dX11_cold_5 rfl ?_
  refine r_iload_n hE dX11_cold_6 rfl ?_
  refine r_iconst (v := 0) hE dX11_cold_7 (by decide) ?_
  refine r_sipush (v := 255) hE dX11_cold_8 (by decide) ?_
  refine t_invs (r := (some (.int (y_b (0 ≤ p ∧ p ≤ 255))))) (S2 := (y_mk n L (y_si D 169 0 0))) hE [.int p, .int 0, .int 255] (c_in) s_yX11_in m_X11_81 dX11_cold_11 rfl (by decide) ⟨Nat.le_refl _, Nat.le_refl _⟩ (Nat.le_of_ble_eq_true rfl) ?_
  show E 0 0 14 [(0, .ref 169), (1, .int p), (2, .int q), (3, .int r)] [.int (y_b (0 ≤ p ∧ p ≤ 255)), .ref 169] (y_mk n L (y_si D 169 0 0))
  refine r_ifb_eq (tgt := 37) hE dX11_cold_14 (by decide) (fun c14 => ?_) (fun c14 => ?_)
  · refine r_iconst (v := 1) hE dX11_cold_37 (by decide) ?_
    refine r_goto (tgt := 42) hE dX11_cold_38 (by decide) ?_
    refine r_iconst (v := 1) hE dX11_cold_42 (by decide) ?_
    refine t_invv (r := (some (.int 1))) (S2 := (y_mk n L (y_si (y_si D 169 0 0) 169 0 1))) hE [.int 1, .int 1] (c_throwsT hL) v_yX11_throwsIf m_X11_85 dX11_cold_43 rfl (hL 169 (by decide)) (y_l_169 ((y_si D 169 0 0) 169)) rfl (by decide) ⟨Nat.le_refl _, Nat.le_refl _⟩ (Nat.le_of_ble_eq_true rfl) ?_
    show E 0 0 46 [(0, .ref 169), (1, .int p), (2, .int q), (3, .int r)] [.int 1] (y_mk n L (y_si (y_si D 169 0 0) 169 0 1))
    refine r_if_eq (tgt := 51) hE dX11_cold_46 (by decide) (fun c46 => by first | exact absurd c46 (by decide) | exact absurd (by decide) c46) (fun _ => ?_)
    refine r_iconst (v := 0) hE dX11_cold_49 (by decide) ?_
    refine r_ireturn hE dX11_cold_50 rfl rfl (Nat.zero_le _) (Nat.zero_le _) ?_
    unfold M_cold
    rw [if_pos (by grind)]
    exact ⟨rfl, rfl⟩
  · refine r_iload_n hE dX11_cold_17 rfl ?_
    refine r_iconst (v := 0) hE dX11_cold_18 (by decide) ?_
    refine r_bipush (v := 99) hE dX11_cold_19 (by decide) ?_
    refine t_invs (r := (some (.int (y_b (0 ≤ q ∧ q ≤ 99))))) (S2 := (y_mk n L (y_si D 169 0 0))) hE [.int q, .int 0, .int 99] (c_in) s_yX11_in m_X11_81 dX11_cold_21 rfl (by decide) ⟨Nat.le_refl _, Nat.le_refl _⟩ (Nat.le_of_ble_eq_true rfl) ?_
    show E 0 0 24 [(0, .ref 169), (1, .int p), (2, .int q), (3, .int r)] [.int (y_b (0 ≤ q ∧ q ≤ 99)), .ref 169] (y_mk n L (y_si D 169 0 0))
    refine r_ifb_eq (tgt := 37) hE dX11_cold_24 (by decide) (fun c24 => ?_) (fun c24 => ?_)
    · refine r_iconst (v := 1) hE dX11_cold_37 (by decide) ?_
      refine r_goto (tgt := 42) hE dX11_cold_38 (by decide) ?_
      refine r_iconst (v := 1) hE dX11_cold_42 (by decide) ?_
      refine t_invv (r := (some (.int 1))) (S2 := (y_mk n L (y_si (y_si D 169 0 0) 169 0 1))) hE [.int 1, .int 1] (c_throwsT hL) v_yX11_throwsIf m_X11_85 dX11_cold_43 rfl (hL 169 (by decide)) (y_l_169 ((y_si D 169 0 0) 169)) rfl (by decide) ⟨Nat.le_refl _, Nat.le_refl _⟩ (Nat.le_of_ble_eq_true rfl) ?_
      show E 0 0 46 [(0, .ref 169), (1, .int p), (2, .int q), (3, .int r)] [.int 1] (y_mk n L (y_si (y_si D 169 0 0) 169 0 1))
      refine r_if_eq (tgt := 51) hE dX11_cold_46 (by decide) (fun c46 => by first | exact absurd c46 (by decide) | exact absurd (by decide) c46) (fun _ => ?_)
      refine r_iconst (v := 0) hE dX11_cold_49 (by decide) ?_
      refine r_ireturn hE dX11_cold_50 rfl rfl (Nat.zero_le _) (Nat.zero_le _) ?_
      unfold M_cold
      rw [if_pos (by grind)]
      exact ⟨rfl, rfl⟩
    · refine r_iload_n hE dX11_cold_27 rfl ?_
      refine r_iconst (v := 0) hE dX11_cold_28 (by decide) ?_
      refine r_bipush (v := 7) hE dX11_cold_29 (by decide) ?_
      refine t_invs (r := (some (.int (y_b (0 ≤ r ∧ r ≤ 7))))) (S2 := (y_mk n L (y_si D 169 0 0))) hE [.int r, .int 0, .int 7] (c_in) s_yX11_in m_X11_81 dX11_cold_31 rfl (by decide) ⟨Nat.le_refl _, Nat.le_refl _⟩ (Nat.le_of_ble_eq_true rfl) ?_
      show E 0 0 34 [(0, .ref 169), (1, .int p), (2, .int q), (3, .int r)] [.int (y_b (0 ≤ r ∧ r ≤ 7)), .ref 169] (y_mk n L (y_si D 169 0 0))
      refine r_ifb_ne (tgt := 41) hE dX11_cold_34 (by decide) (fun c34 => ?_) (fun c34 => ?_)
      · refine r_iconst (v := 0) hE dX11_cold_41 (by decide) ?_
        refine r_iconst (v := 1) hE dX11_cold_42 (by decide) ?_
        refine t_invv (r := (some (.int 0))) (S2 := (y_mk n L (y_si D 169 0 0))) hE [.int 0, .int 1] (c_throwsF) v_yX11_throwsIf m_X11_85 dX11_cold_43 rfl (hL 169 (by decide)) (y_l_169 ((y_si D 169 0 0) 169)) rfl (by decide) ⟨Nat.le_refl _, Nat.le_refl _⟩ (Nat.le_of_ble_eq_true rfl) ?_
        show E 0 0 46 [(0, .ref 169), (1, .int p), (2, .int q), (3, .int r)] [.int 0] (y_mk n L (y_si D 169 0 0))
        refine r_if_eq (tgt := 51) hE dX11_cold_46 (by decide) (fun _ => ?_) (fun c46 => by first | exact absurd c46 (by decide) | exact absurd (by decide) c46)
        refine r_iconst (v := 0) hE dX11_cold_51 (by decide) ?_
        refine r_istore (ls2 := [(0, .ref 169), (1, .int p), (2, .int q), (3, .int r), (4, .int 0)]) hE dX11_cold_52 (by decide) rfl ?_
        refine r_iconst (v := 0) hE dX11_cold_54 (by decide) ?_
        refine r_istore (ls2 := [(0, .ref 169), (1, .int p), (2, .int q), (3, .int r), (4, .int 0), (5, .int 0)]) hE dX11_cold_55 (by decide) rfl ?_
        refine lp 0 (by grind) (by omega)
      · refine r_iconst (v := 1) hE dX11_cold_37 (by decide) ?_
        refine r_goto (tgt := 42) hE dX11_cold_38 (by decide) ?_
        refine r_iconst (v := 1) hE dX11_cold_42 (by decide) ?_
        refine t_invv (r := (some (.int 1))) (S2 := (y_mk n L (y_si (y_si D 169 0 0) 169 0 1))) hE [.int 1, .int 1] (c_throwsT hL) v_yX11_throwsIf m_X11_85 dX11_cold_43 rfl (hL 169 (by decide)) (y_l_169 ((y_si D 169 0 0) 169)) rfl (by decide) ⟨Nat.le_refl _, Nat.le_refl _⟩ (Nat.le_of_ble_eq_true rfl) ?_
        show E 0 0 46 [(0, .ref 169), (1, .int p), (2, .int q), (3, .int r)] [.int 1] (y_mk n L (y_si (y_si D 169 0 0) 169 0 1))
        refine r_if_eq (tgt := 51) hE dX11_cold_46 (by decide) (fun c46 => by first | exact absurd c46 (by decide) | exact absurd (by decide) c46) (fun _ => ?_)
        refine r_iconst (v := 0) hE dX11_cold_49 (by decide) ?_
        refine r_ireturn hE dX11_cold_50 rfl rfl (Nat.zero_le _) (Nat.zero_le _) ?_
        unfold M_cold
        rw [if_pos (by grind)]
        exact ⟨rfl, rfl⟩

/-! the tape -/
def y_five (a b c d e : Int32) (m : Nat) : Int32 := if m = 0 then a else if m = 1 then b else if m = 2 then c else if m = 3 then d else e
def y_fd (a b c d e : Int32) (i : Nat) : Int32 := vp_nar .byte ((y_five a b c d e (i / 4)) >>> ((nI (24 - 8 * (i % 4))) &&& 31)).toInt8.toInt32
def y_ft (t : Nat → Int32) (k : Nat) (a b c d e : Int32) (i : Nat) : Nat → Int32 := fun j => if k ≤ j ∧ j < k + i then y_fd a b c d e (j - k) else t j
theorem y_ft_0 {t : Nat → Int32} {k : Nat} {a b c d e : Int32} : y_ft t k a b c d e 0 = t := by
  funext j
  unfold y_ft
  rw [if_neg (by omega)]
theorem y_ft_s {t : Nat → Int32} {k : Nat} {a b c d e : Int32} {i : Nat} : upd (y_ft t k a b c d e i) (k + i) (y_fd a b c d e i) = y_ft t k a b c d e (i + 1) := by
  funext j
  unfold upd y_ft
  by_cases h : j = k + i
  · subst h
    rw [if_pos rfl, if_pos (by omega), show k + i - k = i by omega]
  · rw [if_neg h]
    by_cases h2 : k ≤ j ∧ j < k + i
    · rw [if_pos h2, if_pos (by omega)]
    · rw [if_neg h2, if_neg (by omega)]
def M_fD (D : y_D) (a b c d e : Int32) : y_D := y_si (y_si (y_si (y_si (y_si (y_si D 169 0 0) 173 0 a) 173 1 b) 173 2 c) 173 3 d) 173 4 e
theorem M_fD_5 {D : y_D} {a b c d e : Int32} {m : Nat} (h : m < 5) : (M_fD D a b c d e 173).1 m = y_five a b c d e m := by
  rcases (by omega : m = 0 ∨ m = 1 ∨ m = 2 ∨ m = 3 ∨ m = 4) with rfl | rfl | rfl | rfl | rfl <;> rfl
def M_feed (D : y_D) (k : Nat) (a b c d e : Int32) : Int32 × y_D := if k + 20 ≤ 400 then (nI (k + 20), y_si (y_sw (M_fD D a b c d e) 172 (y_ft (D 172).1 k a b c d e 20)) 169 5 (nI (k + 20))) else (-1, y_si D 169 0 0)
theorem c_feed {V : x_E} {n : Nat} {L : List Nat} {D : y_D} {k : Nat} {a b c d e : Int32} (hL : y_ok L) (ht : (D 169).1 5 = nI k) (hk : k ≤ 400) : x_Fn V yX11_feed cX11_feed 7 (some .int) 0 [.ref 169, .int a, .int b, .int c, .int d, .int e] (y_mk n L D) (some (.int ((M_feed D k a b c d e).1))) (y_mk n L ((M_feed D k a b c d e).2)) := by
  refine x_fn (by decide) (Nat.le_of_ble_eq_true rfl) (fun E hE => ?_)
  change E 0 0 0 [(0, .ref 169), (1, .int a), (2, .int b), (3, .int c), (4, .int d), (5, .int e)] [] (y_mk n L D)
  have lp : ∀ (i : Nat), k + 20 ≤ 400 → i ≤ 20 → E 0 0 60 [(0, .ref 169), (1, .int a), (2, .int b), (3, .int c), (4, .int d), (5, .int e), (6, .int (nI i))] [] (y_mk n L (y_sw (M_fD D a b c d e) 172 (y_ft (D 172).1 k a b c d e i))) := by
    intro i
    induction hm9 : (20 - i) using Nat.strongRecOn generalizing i with
    | _ m9 ih =>
      intro hk2 hi
      refine r_iload hE dX11_feed_60 rfl ?_
      refine r_bipush (v := 20) hE dX11_feed_62 (by decide) ?_
      refine r_icmp_geN (a := i) (b := 20) (tgt := 106) hE dX11_feed_64 (by decide) (by omega) (by decide) (fun c64 => ?_) (fun c64 => ?_)
      · refine r_aload_n hE dX11_feed_106 rfl ?_
        refine r_dup hE dX11_feed_107 rfl ?_
        refine t_geti hE f_X11_93 y_I_169_5 dX11_feed_108 (hL 169 (by decide)) ?_
        refine r_top (y := (nI k)) ht ?_
        refine r_bipush (v := 20) hE dX11_feed_111 (by decide) ?_
        refine r_iaddN (a := k) (b := 20) hE dX11_feed_113 ?_
        refine t_puti hE f_X11_93 y_I_169_5 dX11_feed_114 (hL 169 (by decide)) rfl rfl ?_
        refine r_aload_n hE dX11_feed_117 rfl ?_
        refine t_geti hE f_X11_93 y_I_169_5 dX11_feed_118 (hL 169 (by decide)) ?_
        refine r_top (y := (nI (k + 20))) rfl ?_
        refine r_ireturn hE dX11_feed_121 rfl rfl (Nat.zero_le _) (Nat.zero_le _) ?_
        unfold M_feed
        rw [if_pos (by omega)]
        have hi2 : i = 20 := by omega
        subst hi2
        exact ⟨rfl, rfl⟩
      · refine r_aload_n hE dX11_feed_67 rfl ?_
        refine t_getr hE f_X11_20 y_R_169_4 dX11_feed_68 (hL 169 (by decide)) ?_
        refine r_aload_n hE dX11_feed_71 rfl ?_
        refine t_geti hE f_X11_93 y_I_169_5 dX11_feed_72 (hL 169 (by decide)) ?_
        refine r_top (y := (nI k)) ht ?_
        refine r_iload hE dX11_feed_75 rfl ?_
        refine r_iaddN (a := k) (b := i) hE dX11_feed_77 ?_
        refine r_aload_n hE dX11_feed_78 rfl ?_
        refine t_getr hE f_X11_27 y_R_169_11 dX11_feed_79 (hL 169 (by decide)) ?_
        refine r_iload hE dX11_feed_82 rfl ?_
        refine r_iconst (v := 4) hE dX11_feed_84 (by decide) ?_
        refine r_idivN (a := i) (b := 4) hE dX11_feed_85 (by omega) (by omega) (by omega) ?_
        refine t_ialdN (e := i / 4) hE y_A_173 dX11_feed_86 (hL 173 (by decide)) (by omega) (by decide) ?_
        refine r_top (y := (y_five a b c d e (i / 4))) (M_fD_5 (by omega)) ?_
        refine r_bipush (v := 24) hE dX11_feed_87 (by decide) ?_
        refine r_bipush (v := 8) hE dX11_feed_89 (by decide) ?_
        refine r_iload hE dX11_feed_91 rfl ?_
        refine r_iconst (v := 4) hE dX11_feed_93 (by decide) ?_
        refine r_iremN (a := i) (b := 4) hE dX11_feed_94 (by omega) (by omega) (by omega) ?_
        refine r_imulN (a := 8) (b := i % 4) hE dX11_feed_95 ?_
        refine r_isubN (a := 24) (b := 8 * (i % 4)) hE dX11_feed_96 (by omega) ?_
        refine r_ishr hE dX11_feed_97 ?_
        refine r_i2b hE dX11_feed_98 ?_
        refine t_bastN (e := k + i) hE y_A_172 dX11_feed_99 (hL 172 (by decide)) (by omega) (by decide) ?_
        refine r_iincN (a := i) (b := 1) (ls2 := [(0, .ref 169), (1, .int a), (2, .int b), (3, .int c), (4, .int d), (5, .int e), (6, .int (nI (i + 1)))]) hE dX11_feed_100 rfl rfl (by decide) rfl ?_
        refine r_goto (tgt := 60) hE dX11_feed_103 (by decide) ?_
        rw [y_si_sw, show upd (y_ft (D 172).1 k a b c d e i) (k + i) (vp_nar .byte (((y_five a b c d e (i / 4)) >>> ((nI (24 - (8 * (i % 4)))) &&& 31)).toInt8.toInt32)) = y_ft (D 172).1 k a b c d e (i + 1) from y_ft_s]
        exact ih (20 - (i + 1)) (by omega) (i + 1) rfl hk2 (by omega)
  refine r_aload_n hE dX11_feed_0 rfl ?_
  refine r_iconst (v := 0) hE dX11_feed_1 (by decide) ?_
  refine t_puti hE f_X11_3 y_I_169_0 dX11_feed_2 (hL 169 (by decide)) rfl rfl ?_
  refine r_aload_n hE dX11_feed_5 rfl ?_
  refine t_geti hE f_X11_93 y_I_169_5 dX11_feed_6 (hL 169 (by decide)) ?_
  refine r_top (y := (nI k)) ht ?_
  refine r_bipush (v := 20) hE dX11_feed_9 (by decide) ?_
  refine r_iaddN (a := k) (b := 20) hE dX11_feed_11 ?_
  refine r_sipush (v := 400) hE dX11_feed_12 (by decide) ?_
  refine r_icmp_leN (a := k + 20) (b := 400) (tgt := 20) hE dX11_feed_15 (by decide) (by omega) (by decide) (fun c15 => ?_) (fun c15 => ?_)
  · refine r_aload_n hE dX11_feed_20 rfl ?_
    refine t_getr hE f_X11_27 y_R_169_11 dX11_feed_21 (hL 169 (by decide)) ?_
    refine r_iconst (v := 0) hE dX11_feed_24 (by decide) ?_
    refine r_iload_n hE dX11_feed_25 rfl ?_
    refine t_iastN (e := 0) hE y_A_173 dX11_feed_26 (hL 173 (by decide)) (by omega) (by decide) ?_
    refine r_aload_n hE dX11_feed_27 rfl ?_
    refine t_getr hE f_X11_27 y_R_169_11 dX11_feed_28 (hL 169 (by decide)) ?_
    refine r_iconst (v := 1) hE dX11_feed_31 (by decide) ?_
    refine r_iload_n hE dX11_feed_32 rfl ?_
    refine t_iastN (e := 1) hE y_A_173 dX11_feed_33 (hL 173 (by decide)) (by omega) (by decide) ?_
    refine r_aload_n hE dX11_feed_34 rfl ?_
    refine t_getr hE f_X11_27 y_R_169_11 dX11_feed_35 (hL 169 (by decide)) ?_
    refine r_iconst (v := 2) hE dX11_feed_38 (by decide) ?_
    refine r_iload_n hE dX11_feed_39 rfl ?_
    refine t_iastN (e := 2) hE y_A_173 dX11_feed_40 (hL 173 (by decide)) (by omega) (by decide) ?_
    refine r_aload_n hE dX11_feed_41 rfl ?_
    refine t_getr hE f_X11_27 y_R_169_11 dX11_feed_42 (hL 169 (by decide)) ?_
    refine r_iconst (v := 3) hE dX11_feed_45 (by decide) ?_
    refine r_iload hE dX11_feed_46 rfl ?_
    refine t_iastN (e := 3) hE y_A_173 dX11_feed_48 (hL 173 (by decide)) (by omega) (by decide) ?_
    refine r_aload_n hE dX11_feed_49 rfl ?_
    refine t_getr hE f_X11_27 y_R_169_11 dX11_feed_50 (hL 169 (by decide)) ?_
    refine r_iconst (v := 4) hE dX11_feed_53 (by decide) ?_
    refine r_iload hE dX11_feed_54 rfl ?_
    refine t_iastN (e := 4) hE y_A_173 dX11_feed_56 (hL 173 (by decide)) (by omega) (by decide) ?_
    refine r_iconst (v := 0) hE dX11_feed_57 (by decide) ?_
    refine r_istore (ls2 := [(0, .ref 169), (1, .int a), (2, .int b), (3, .int c), (4, .int d), (5, .int e), (6, .int 0)]) hE dX11_feed_58 (by decide) rfl ?_
    have h0 := lp 0 (by omega) (by omega)
    rw [y_ft_0, show y_sw (M_fD D a b c d e) 172 (D 172).1 = M_fD D a b c d e from y_sw_self] at h0
    exact h0
  · refine r_iconst (v := (-1)) hE dX11_feed_18 (by decide) ?_
    refine r_ireturn hE dX11_feed_19 rfl rfl (Nat.zero_le _) (Nat.zero_le _) ?_
    unfold M_feed
    rw [if_neg (by omega)]
    exact ⟨rfl, rfl⟩
def y_pn (t : Nat → Int32) (k : Nat) (x : Int32) : Nat → Int32 := upd (upd (upd (upd t k (vp_nar .byte (x >>> (24 &&& 31)).toInt8.toInt32)) (k + 1) (vp_nar .byte (x >>> (16 &&& 31)).toInt8.toInt32)) (k + 2) (vp_nar .byte (x >>> (8 &&& 31)).toInt8.toInt32)) (k + 3) (vp_nar .byte (x >>> (0 &&& 31)).toInt8.toInt32)
theorem y_pn_s {t : Nat → Int32} {k : Nat} {a b c d e x : Int32} {i : Nat} (h0 : vp_nar .byte (x >>> (24 &&& 31)).toInt8.toInt32 = y_fd a b c d e i) (h1 : vp_nar .byte (x >>> (16 &&& 31)).toInt8.toInt32 = y_fd a b c d e (i + 1)) (h2 : vp_nar .byte (x >>> (8 &&& 31)).toInt8.toInt32 = y_fd a b c d e (i + 2)) (h3 : vp_nar .byte (x >>> (0 &&& 31)).toInt8.toInt32 = y_fd a b c d e (i + 3)) : y_pn (y_ft t k a b c d e i) (k + i) x = y_ft t k a b c d e (i + 4) := by
  unfold y_pn
  rw [h0, h1, h2, h3, y_ft_s, Nat.add_assoc k i 1, y_ft_s, Nat.add_assoc k i 2, y_ft_s, Nat.add_assoc k i 3, y_ft_s]
theorem y_pn_ft {t : Nat → Int32} {k : Nat} {a b c d e : Int32} {m : Nat} (hm : m < 5) : y_pn (y_ft t k a b c d e (4 * m)) (k + 4 * m) (y_five a b c d e m) = y_ft t k a b c d e (4 * m + 4) := by
  rcases (by omega : m = 0 ∨ m = 1 ∨ m = 2 ∨ m = 3 ∨ m = 4) with rfl | rfl | rfl | rfl | rfl <;> exact y_pn_s rfl rfl rfl rfl
def y_fD (D : y_D) (k : Nat) (a b c d e : Int32) (i : Nat) : y_D := y_si (y_sw D 65 (y_ft (D 65).1 k a b c d e i)) 64 1 (nI (k + i))
theorem y_fD_0 {D : y_D} {k : Nat} {a b c d e : Int32} (hs : (D 64).1 1 = nI k) : D = y_fD D k a b c d e 0 := by
  funext h
  unfold y_fD y_si y_sw
  rw [y_ft_0]
  by_cases h1 : h = 64
  · subst h1
    rw [if_pos rfl, if_neg (by decide)]
    refine Prod.ext (funext fun j => ?_) rfl
    show (D 64).1 j = if j = 1 then nI (k + 0) else (D 64).1 j
    by_cases h2 : j = 1
    · subst h2
      rw [if_pos rfl, hs, Nat.add_zero]
    · rw [if_neg h2]
  · rw [if_neg h1]
    by_cases h2 : h = 65
    · subst h2
      rw [if_pos rfl]
    · rw [if_neg h2]
def K_feed (D : y_D) (k : Nat) (a b c d e : Int32) : Int32 × y_D := if k + 20 ≤ 400 then (nI (k + 20), y_fD D k a b c d e 20) else (-1, D)
theorem y_upd2 {f : Nat → Int32} {k : Nat} {u v : Int32} : upd (upd f k u) k v = upd f k v := by
  funext j
  unfold upd
  by_cases h : j = k
  · rw [if_pos h, if_pos h]
  · rw [if_neg h, if_neg h, if_neg h]
theorem k_putNumber {V : x_E} {n : Nat} {L : List Nat} {D : y_D} {k : Nat} {x : Int32} (hL : y_ok L) (hs : (D 64).1 1 = nI k) (hk : k + 4 ≤ 400) : x_Fn V yX10_putNumber cX10_putNumber 3 none 0 [.ref 64, .int x] (y_mk n L D) none (y_mk n L (y_si (y_sw D 65 (y_pn (D 65).1 k x)) 64 1 (nI (k + 4)))) := by
  refine x_fn (by decide) (Nat.le_of_ble_eq_true rfl) (fun E hE => ?_)
  change E 0 0 0 [(0, .ref 64), (1, .int x)] [] (y_mk n L D)
  refine r_bipush (v := 24) hE dX10_putNumber_0 (by decide) ?_
  refine r_istore_n (ls2 := [(0, .ref 64), (1, .int x), (2, .int 24)]) hE dX10_putNumber_2 (by decide) rfl ?_
  refine r_iload_n hE dX10_putNumber_3 rfl ?_
  refine r_if_lt (tgt := 46) hE dX10_putNumber_4 (by decide) (fun c4 => by first | exact absurd c4 (by decide) | exact absurd (by decide) c4) (fun _ => ?_)
  refine r_aload_n hE dX10_putNumber_7 rfl ?_
  refine t_geti hE f_X10_57 y_I_64_1 dX10_putNumber_8 (hL 64 (by decide)) ?_
  refine r_top (y := (nI k)) hs ?_
  refine r_sipush (v := 400) hE dX10_putNumber_11 (by decide) ?_
  refine r_icmp_geN (a := k) (b := 400) (tgt := 46) hE dX10_putNumber_14 (by decide) (by omega) (by decide) (fun c14 => ?_) (fun c14 => ?_)
  · refine r_return hE dX10_putNumber_46 rfl (Nat.zero_le _) (Nat.zero_le _) ?_
    exfalso; omega
  · refine r_aload_n hE dX10_putNumber_17 rfl ?_
    refine t_getr hE f_X10_9 y_R_64_0 dX10_putNumber_18 (hL 64 (by decide)) ?_
    refine r_aload_n hE dX10_putNumber_21 rfl ?_
    refine t_geti hE f_X10_57 y_I_64_1 dX10_putNumber_22 (hL 64 (by decide)) ?_
    refine r_top (y := (nI k)) hs ?_
    refine r_iload_n hE dX10_putNumber_25 rfl ?_
    refine r_iload_n hE dX10_putNumber_26 rfl ?_
    refine r_ishr hE dX10_putNumber_27 ?_
    refine r_i2b hE dX10_putNumber_28 ?_
    refine t_bastN (e := k) hE y_A_65 dX10_putNumber_29 (hL 65 (by decide)) (by omega) (by decide) ?_
    refine r_aload_n hE dX10_putNumber_30 rfl ?_
    refine r_dup hE dX10_putNumber_31 rfl ?_
    refine t_geti hE f_X10_57 y_I_64_1 dX10_putNumber_32 (hL 64 (by decide)) ?_
    refine r_top (y := (nI k)) hs ?_
    refine r_iconst (v := 1) hE dX10_putNumber_35 (by decide) ?_
    refine r_iaddN (a := k) (b := 1) hE dX10_putNumber_36 ?_
    refine t_puti hE f_X10_57 y_I_64_1 dX10_putNumber_37 (hL 64 (by decide)) rfl rfl ?_
    refine r_iinc (v := 16) (ls2 := [(0, .ref 64), (1, .int x), (2, .int 16)]) hE dX10_putNumber_40 rfl (by decide) (by decide) rfl ?_
    refine r_goto (tgt := 3) hE dX10_putNumber_43 (by decide) ?_
    refine r_iload_n hE dX10_putNumber_3 rfl ?_
    refine r_if_lt (tgt := 46) hE dX10_putNumber_4 (by decide) (fun c4 => by first | exact absurd c4 (by decide) | exact absurd (by decide) c4) (fun _ => ?_)
    refine r_aload_n hE dX10_putNumber_7 rfl ?_
    refine t_geti hE f_X10_57 y_I_64_1 dX10_putNumber_8 (hL 64 (by decide)) ?_
    refine r_top (y := (nI (k + 1))) rfl ?_
    refine r_sipush (v := 400) hE dX10_putNumber_11 (by decide) ?_
    refine r_icmp_geN (a := k + 1) (b := 400) (tgt := 46) hE dX10_putNumber_14 (by decide) (by omega) (by decide) (fun c14 => ?_) (fun c14 => ?_)
    · refine r_return hE dX10_putNumber_46 rfl (Nat.zero_le _) (Nat.zero_le _) ?_
      exfalso; omega
    · refine r_aload_n hE dX10_putNumber_17 rfl ?_
      refine t_getr hE f_X10_9 y_R_64_0 dX10_putNumber_18 (hL 64 (by decide)) ?_
      refine r_aload_n hE dX10_putNumber_21 rfl ?_
      refine t_geti hE f_X10_57 y_I_64_1 dX10_putNumber_22 (hL 64 (by decide)) ?_
      refine r_top (y := (nI (k + 1))) rfl ?_
      refine r_iload_n hE dX10_putNumber_25 rfl ?_
      refine r_iload_n hE dX10_putNumber_26 rfl ?_
      refine r_ishr hE dX10_putNumber_27 ?_
      refine r_i2b hE dX10_putNumber_28 ?_
      refine t_bastN (e := k + 1) hE y_A_65 dX10_putNumber_29 (hL 65 (by decide)) (by omega) (by decide) ?_
      refine r_aload_n hE dX10_putNumber_30 rfl ?_
      refine r_dup hE dX10_putNumber_31 rfl ?_
      refine t_geti hE f_X10_57 y_I_64_1 dX10_putNumber_32 (hL 64 (by decide)) ?_
      refine r_top (y := (nI (k + 1))) rfl ?_
      refine r_iconst (v := 1) hE dX10_putNumber_35 (by decide) ?_
      refine r_iaddN (a := k + 1) (b := 1) hE dX10_putNumber_36 ?_
      refine t_puti hE f_X10_57 y_I_64_1 dX10_putNumber_37 (hL 64 (by decide)) rfl rfl ?_
      refine r_iinc (v := 8) (ls2 := [(0, .ref 64), (1, .int x), (2, .int 8)]) hE dX10_putNumber_40 rfl (by decide) (by decide) rfl ?_
      refine r_goto (tgt := 3) hE dX10_putNumber_43 (by decide) ?_
      refine r_iload_n hE dX10_putNumber_3 rfl ?_
      refine r_if_lt (tgt := 46) hE dX10_putNumber_4 (by decide) (fun c4 => by first | exact absurd c4 (by decide) | exact absurd (by decide) c4) (fun _ => ?_)
      refine r_aload_n hE dX10_putNumber_7 rfl ?_
      refine t_geti hE f_X10_57 y_I_64_1 dX10_putNumber_8 (hL 64 (by decide)) ?_
      refine r_top (y := (nI ((k + 1) + 1))) rfl ?_
      refine r_sipush (v := 400) hE dX10_putNumber_11 (by decide) ?_
      refine r_icmp_geN (a := (k + 1) + 1) (b := 400) (tgt := 46) hE dX10_putNumber_14 (by decide) (by omega) (by decide) (fun c14 => ?_) (fun c14 => ?_)
      · refine r_return hE dX10_putNumber_46 rfl (Nat.zero_le _) (Nat.zero_le _) ?_
        exfalso; omega
      · refine r_aload_n hE dX10_putNumber_17 rfl ?_
        refine t_getr hE f_X10_9 y_R_64_0 dX10_putNumber_18 (hL 64 (by decide)) ?_
        refine r_aload_n hE dX10_putNumber_21 rfl ?_
        refine t_geti hE f_X10_57 y_I_64_1 dX10_putNumber_22 (hL 64 (by decide)) ?_
        refine r_top (y := (nI ((k + 1) + 1))) rfl ?_
        refine r_iload_n hE dX10_putNumber_25 rfl ?_
        refine r_iload_n hE dX10_putNumber_26 rfl ?_
        refine r_ishr hE dX10_putNumber_27 ?_
        refine r_i2b hE dX10_putNumber_28 ?_
        refine t_bastN (e := (k + 1) + 1) hE y_A_65 dX10_putNumber_29 (hL 65 (by decide)) (by omega) (by decide) ?_
        refine r_aload_n hE dX10_putNumber_30 rfl ?_
        refine r_dup hE dX10_putNumber_31 rfl ?_
        refine t_geti hE f_X10_57 y_I_64_1 dX10_putNumber_32 (hL 64 (by decide)) ?_
        refine r_top (y := (nI ((k + 1) + 1))) rfl ?_
        refine r_iconst (v := 1) hE dX10_putNumber_35 (by decide) ?_
        refine r_iaddN (a := (k + 1) + 1) (b := 1) hE dX10_putNumber_36 ?_
        refine t_puti hE f_X10_57 y_I_64_1 dX10_putNumber_37 (hL 64 (by decide)) rfl rfl ?_
        refine r_iinc (v := 0) (ls2 := [(0, .ref 64), (1, .int x), (2, .int 0)]) hE dX10_putNumber_40 rfl (by decide) (by decide) rfl ?_
        refine r_goto (tgt := 3) hE dX10_putNumber_43 (by decide) ?_
        refine r_iload_n hE dX10_putNumber_3 rfl ?_
        refine r_if_lt (tgt := 46) hE dX10_putNumber_4 (by decide) (fun c4 => by first | exact absurd c4 (by decide) | exact absurd (by decide) c4) (fun _ => ?_)
        refine r_aload_n hE dX10_putNumber_7 rfl ?_
        refine t_geti hE f_X10_57 y_I_64_1 dX10_putNumber_8 (hL 64 (by decide)) ?_
        refine r_top (y := (nI (((k + 1) + 1) + 1))) rfl ?_
        refine r_sipush (v := 400) hE dX10_putNumber_11 (by decide) ?_
        refine r_icmp_geN (a := ((k + 1) + 1) + 1) (b := 400) (tgt := 46) hE dX10_putNumber_14 (by decide) (by omega) (by decide) (fun c14 => ?_) (fun c14 => ?_)
        · refine r_return hE dX10_putNumber_46 rfl (Nat.zero_le _) (Nat.zero_le _) ?_
          exfalso; omega
        · refine r_aload_n hE dX10_putNumber_17 rfl ?_
          refine t_getr hE f_X10_9 y_R_64_0 dX10_putNumber_18 (hL 64 (by decide)) ?_
          refine r_aload_n hE dX10_putNumber_21 rfl ?_
          refine t_geti hE f_X10_57 y_I_64_1 dX10_putNumber_22 (hL 64 (by decide)) ?_
          refine r_top (y := (nI (((k + 1) + 1) + 1))) rfl ?_
          refine r_iload_n hE dX10_putNumber_25 rfl ?_
          refine r_iload_n hE dX10_putNumber_26 rfl ?_
          refine r_ishr hE dX10_putNumber_27 ?_
          refine r_i2b hE dX10_putNumber_28 ?_
          refine t_bastN (e := ((k + 1) + 1) + 1) hE y_A_65 dX10_putNumber_29 (hL 65 (by decide)) (by omega) (by decide) ?_
          refine r_aload_n hE dX10_putNumber_30 rfl ?_
          refine r_dup hE dX10_putNumber_31 rfl ?_
          refine t_geti hE f_X10_57 y_I_64_1 dX10_putNumber_32 (hL 64 (by decide)) ?_
          refine r_top (y := (nI (((k + 1) + 1) + 1))) rfl ?_
          refine r_iconst (v := 1) hE dX10_putNumber_35 (by decide) ?_
          refine r_iaddN (a := ((k + 1) + 1) + 1) (b := 1) hE dX10_putNumber_36 ?_
          refine t_puti hE f_X10_57 y_I_64_1 dX10_putNumber_37 (hL 64 (by decide)) rfl rfl ?_
          refine r_iinc (v := (-8)) (ls2 := [(0, .ref 64), (1, .int x), (2, .int (-8))]) hE dX10_putNumber_40 rfl (by decide) (by decide) rfl ?_
          refine r_goto (tgt := 3) hE dX10_putNumber_43 (by decide) ?_
          refine r_iload_n hE dX10_putNumber_3 rfl ?_
          refine r_if_lt (tgt := 46) hE dX10_putNumber_4 (by decide) (fun _ => ?_) (fun c4 => by first | exact absurd c4 (by decide) | exact absurd (by decide) c4)
          refine r_return hE dX10_putNumber_46 rfl (Nat.zero_le _) (Nat.zero_le _) ?_
          refine ⟨rfl, congrArg (y_mk n L) ?_⟩
          funext h
          unfold y_si y_sw y_pn
          by_cases h1 : h = 64
          · subst h1
            simp only [if_pos, reduceIte, show (64 : Nat) ≠ 65 by decide, show (65 : Nat) ≠ 64 by decide, y_upd2, Nat.add_assoc]
          · by_cases h2 : h = 65
            · subst h2
              simp only [if_pos, reduceIte, show (64 : Nat) ≠ 65 by decide, show (65 : Nat) ≠ 64 by decide, Nat.add_assoc]
            · simp only [if_neg h1, if_neg h2]
theorem k_putFt {V : x_E} {n : Nat} {L : List Nat} {D : y_D} {k m : Nat} {a b c d e x : Int32} (hL : y_ok L) (hk : k + 20 ≤ 400) (hm : m < 5) (hx : x = y_five a b c d e m) : x_Fn V yX10_putNumber cX10_putNumber 3 none 0 [.ref 64, .int x] (y_mk n L (y_fD D k a b c d e (4 * m))) none (y_mk n L (y_fD D k a b c d e (4 * m + 4))) := by
  subst hx
  have h := k_putNumber (V := V) (n := n) (D := y_fD D k a b c d e (4 * m)) (k := k + 4 * m) (x := y_five a b c d e m) hL rfl (by omega)
  rw [show (y_fD D k a b c d e (4 * m) 65).1 = y_ft (D 65).1 k a b c d e (4 * m) from rfl, y_pn_ft hm] at h
  rw [show y_fD D k a b c d e (4 * m + 4) = y_si (y_sw (y_fD D k a b c d e (4 * m)) 65 (y_ft (D 65).1 k a b c d e (4 * m + 4))) 64 1 (nI (k + 4 * m + 4)) from ?_]
  · exact h
  · funext j
    unfold y_fD y_si y_sw
    by_cases h1 : j = 64
    · subst h1
      simp only [if_pos, reduceIte, show (64 : Nat) ≠ 65 by decide, show (65 : Nat) ≠ 64 by decide, y_upd2, Nat.add_assoc]
    · by_cases h2 : j = 65
      · subst h2
        simp only [if_pos, reduceIte, show (64 : Nat) ≠ 65 by decide, show (65 : Nat) ≠ 64 by decide]
      · simp only [if_neg h1, if_neg h2]
theorem k_feed {V : x_E} {n : Nat} {L : List Nat} {D : y_D} {k : Nat} {a b c d e : Int32} (hL : y_ok L) (hs : (D 64).1 1 = nI k) (hk : k ≤ 400) : x_Fn V yX10_feed cX10_feed 6 (some .int) 1 [.ref 64, .int a, .int b, .int c, .int d, .int e] (y_mk n L D) (some (.int ((K_feed D k a b c d e).1))) (y_mk n L ((K_feed D k a b c d e).2)) := by
  refine x_fn (by decide) (Nat.le_of_ble_eq_true rfl) (fun E hE => ?_)
  change E 0 0 0 [(0, .ref 64), (1, .int a), (2, .int b), (3, .int c), (4, .int d), (5, .int e)] [] (y_mk n L D)
  refine r_aload_n hE dX10_feed_0 rfl ?_
  refine t_geti hE f_X10_57 y_I_64_1 dX10_feed_1 (hL 64 (by decide)) ?_
  refine r_top (y := (nI k)) hs ?_
  refine r_sipush (v := 380) hE dX10_feed_4 (by decide) ?_
  refine r_icmp_leN (a := k) (b := 380) (tgt := 12) hE dX10_feed_7 (by decide) (by omega) (by decide) (fun c7 => ?_) (fun c7 => ?_)
  · have hk2 : k + 20 ≤ 400 := by omega
    rw [y_fD_0 (k := k) (a := a) (b := b) (c := c) (d := d) (e := e) hs]
    refine r_aload_n hE dX10_feed_12 rfl ?_
    refine r_iload_n hE dX10_feed_13 rfl ?_
    refine t_invv (r := none) (S2 := (y_mk n L (y_fD D k a b c d e 4))) hE [.int a] (k_putFt (m := 0) (a := a) (b := b) (c := c) (d := d) (e := e) hL hk2 (by decide) rfl) v_yX10_putNumber m_X10_61 dX10_feed_14 rfl (hL 64 (by decide)) (y_l_64 ((y_fD D k a b c d e 0) 64)) rfl (by decide) ⟨Nat.le_refl _, Nat.le_refl _⟩ (Nat.le_of_ble_eq_true rfl) ?_
    show E 0 0 17 [(0, .ref 64), (1, .int a), (2, .int b), (3, .int c), (4, .int d), (5, .int e)] [] (y_mk n L (y_fD D k a b c d e 4))
    refine r_aload_n hE dX10_feed_17 rfl ?_
    refine r_iload_n hE dX10_feed_18 rfl ?_
    refine t_invv (r := none) (S2 := (y_mk n L (y_fD D k a b c d e 8))) hE [.int b] (k_putFt (m := 1) (a := a) (b := b) (c := c) (d := d) (e := e) hL hk2 (by decide) rfl) v_yX10_putNumber m_X10_61 dX10_feed_19 rfl (hL 64 (by decide)) (y_l_64 ((y_fD D k a b c d e 4) 64)) rfl (by decide) ⟨Nat.le_refl _, Nat.le_refl _⟩ (Nat.le_of_ble_eq_true rfl) ?_
    show E 0 0 22 [(0, .ref 64), (1, .int a), (2, .int b), (3, .int c), (4, .int d), (5, .int e)] [] (y_mk n L (y_fD D k a b c d e 8))
    refine r_aload_n hE dX10_feed_22 rfl ?_
    refine r_iload_n hE dX10_feed_23 rfl ?_
    refine t_invv (r := none) (S2 := (y_mk n L (y_fD D k a b c d e 12))) hE [.int c] (k_putFt (m := 2) (a := a) (b := b) (c := c) (d := d) (e := e) hL hk2 (by decide) rfl) v_yX10_putNumber m_X10_61 dX10_feed_24 rfl (hL 64 (by decide)) (y_l_64 ((y_fD D k a b c d e 8) 64)) rfl (by decide) ⟨Nat.le_refl _, Nat.le_refl _⟩ (Nat.le_of_ble_eq_true rfl) ?_
    show E 0 0 27 [(0, .ref 64), (1, .int a), (2, .int b), (3, .int c), (4, .int d), (5, .int e)] [] (y_mk n L (y_fD D k a b c d e 12))
    refine r_aload_n hE dX10_feed_27 rfl ?_
    refine r_iload hE dX10_feed_28 rfl ?_
    refine t_invv (r := none) (S2 := (y_mk n L (y_fD D k a b c d e 16))) hE [.int d] (k_putFt (m := 3) (a := a) (b := b) (c := c) (d := d) (e := e) hL hk2 (by decide) rfl) v_yX10_putNumber m_X10_61 dX10_feed_30 rfl (hL 64 (by decide)) (y_l_64 ((y_fD D k a b c d e 12) 64)) rfl (by decide) ⟨Nat.le_refl _, Nat.le_refl _⟩ (Nat.le_of_ble_eq_true rfl) ?_
    show E 0 0 33 [(0, .ref 64), (1, .int a), (2, .int b), (3, .int c), (4, .int d), (5, .int e)] [] (y_mk n L (y_fD D k a b c d e 16))
    refine r_aload_n hE dX10_feed_33 rfl ?_
    refine r_iload hE dX10_feed_34 rfl ?_
    refine t_invv (r := none) (S2 := (y_mk n L (y_fD D k a b c d e 20))) hE [.int e] (k_putFt (m := 4) (a := a) (b := b) (c := c) (d := d) (e := e) hL hk2 (by decide) rfl) v_yX10_putNumber m_X10_61 dX10_feed_36 rfl (hL 64 (by decide)) (y_l_64 ((y_fD D k a b c d e 16) 64)) rfl (by decide) ⟨Nat.le_refl _, Nat.le_refl _⟩ (Nat.le_of_ble_eq_true rfl) ?_
    show E 0 0 39 [(0, .ref 64), (1, .int a), (2, .int b), (3, .int c), (4, .int d), (5, .int e)] [] (y_mk n L (y_fD D k a b c d e 20))
    refine r_aload_n hE dX10_feed_39 rfl ?_
    refine t_geti hE f_X10_57 y_I_64_1 dX10_feed_40 (hL 64 (by decide)) ?_
    refine r_top (y := (nI (k + 20))) rfl ?_
    refine r_ireturn hE dX10_feed_43 rfl rfl (Nat.zero_le _) (Nat.zero_le _) ?_
    unfold K_feed
    rw [if_pos hk2]
    exact ⟨rfl, rfl⟩
  · refine r_iconst (v := (-1)) hE dX10_feed_10 (by decide) ?_
    refine r_ireturn hE dX10_feed_11 rfl rfl (Nat.zero_le _) (Nat.zero_le _) ?_
    unfold K_feed
    rw [if_neg (by omega)]
    exact ⟨rfl, rfl⟩
theorem f_cold {V : x_E} (hV : y_V V) {n : Nat} {L : List Nat} {D : y_D} (hL : y_ok L) {p q r : Int32} : y_Fi V yX10_cold cX10_cold 7 (some .int) 8 1 6 [.ref 64, .int p, .int q, .int r] n L D (fun v D2 => ((p &&& ((nI (2 ^ 8) - 1) ^^^ (-1)) = 0) ∧ (0 ≤ q ∧ q ≤ 99) ∧ (0 ≤ r ∧ r ≤ 7)) ∧ v = y_cold p q r 8 ∧ D2 = D) (fun E9 => ¬ ((p &&& ((nI (2 ^ 8) - 1) ^^^ (-1)) = 0) ∧ (0 ≤ q ∧ q ≤ 99) ∧ (0 ≤ r ∧ r ≤ 7)) ∧ E9 = y_IAE) := by
  refine x_cx (by decide) hV.1 (fun a0 S0 h => by rw [h.1]; exact Nat.le_of_ble_eq_true rfl) (fun a0 S0 h E EX hX => ?_)
  obtain ⟨rfl, rfl⟩ := h
  have hE := hX.x
  change E 0 0 0 [(0, .ref 64), (1, .int p), (2, .int q), (3, .int r)] [] (y_mk n L D)
  have lp : ∀ (i : Nat), (p &&& ((nI (2 ^ 8) - 1) ^^^ (-1)) = 0) ∧ (0 ≤ q ∧ q ≤ 99) ∧ (0 ≤ r ∧ r ≤ 7) → i ≤ 8 → E 1 6 43 [(0, .ref 64), (1, .int p), (2, .int q), (3, .int r), (4, .int (y_cold p q r i)), (5, .int (nI i))] [] (y_mk n L D) := by
    intro i
    induction hm9 : (8 - i) using Nat.strongRecOn generalizing i with
    | _ m9 ih =>
      intro hc hi
      refine r_iload hE dX10_cold_43 rfl ?_
      refine r_bipush (v := 8) hE dX10_cold_45 (by decide) ?_
      refine r_icmp_geN (a := i) (b := 8) (tgt := 95) hE dX10_cold_47 (by decide) (by omega) (by decide) (fun c47 => ?_) (fun c47 => ?_)
      · refine r_iload hE dX10_cold_95 rfl ?_
        refine r_ireturn hE dX10_cold_97 rfl rfl (by decide) (by decide) ?_
        have hi2 : i = 8 := by omega
        subst hi2
        exact ⟨_, _, rfl, rfl, hc, rfl, rfl⟩
      · refine r_iload hE dX10_cold_50 rfl ?_
        refine r_iload_n hE dX10_cold_52 rfl ?_
        refine r_isub hE dX10_cold_53 ?_
        refine r_mabs hE m_X10_293 dX10_cold_54 (by decide) (Nat.le_of_ble_eq_true rfl) ⟨by decide, by decide⟩ ?_
        refine r_istore (ls2 := [(0, .ref 64), (1, .int p), (2, .int q), (3, .int r), (4, .int (y_cold p q r i)), (5, .int (nI i)), (6, .int (if 0 ≤ ((nI i) - r) then ((nI i) - r) else 0 - ((nI i) - r)))]) hE dX10_cold_57 (by decide) rfl ?_
        refine r_iload_n hE dX10_cold_59 rfl ?_
        refine r_iload hE dX10_cold_60 rfl ?_
        refine t_invs (r := (some (.int (y_b (y_bit p i))))) (S2 := (y_mk n L D)) hE [.int p, .int (nI i)] (k_hasBit) s_yX10_hasBit m_X10_172 dX10_cold_62 rfl (by decide) ⟨by decide, by decide⟩ (Nat.le_of_ble_eq_true rfl) ?_
        show E 1 6 65 [(0, .ref 64), (1, .int p), (2, .int q), (3, .int r), (4, .int (y_cold p q r i)), (5, .int (nI i)), (6, .int (if 0 ≤ ((nI i) - r) then ((nI i) - r) else 0 - ((nI i) - r)))] [.int (y_b (y_bit p i))] (y_mk n L D)
        refine r_ifb_eq (tgt := 89) hE dX10_cold_65 (by decide) (fun c65 => ?_) (fun c65 => ?_)
        · refine r_iincN (a := i) (b := 1) (ls2 := [(0, .ref 64), (1, .int p), (2, .int q), (3, .int r), (4, .int (y_cold p q r i)), (5, .int (nI (i + 1))), (6, .int (if 0 ≤ ((nI i) - r) then ((nI i) - r) else 0 - ((nI i) - r)))]) hE dX10_cold_89 rfl rfl (by decide) rfl ?_
          refine r_goto (tgt := 43) hE dX10_cold_92 (by decide) ?_
          have e9 : y_cold p q r (i + 1) = y_cold p q r i := by
            show y_cold1 p q r i (y_cold p q r i) = _
            unfold y_cold1
            first | exact if_pos c65 | exact if_neg c65
          refine r_locs hE (ls2 := [(0, .ref 64), (1, .int p), (2, .int q), (3, .int r), (4, .int (y_cold p q r (i + 1))), (5, .int (nI (i + 1)))]) ?_ (ih (8 - (i + 1)) (by omega) (i + 1) rfl hc (by omega))
          rw [e9]
          simp [x_lk]
        · refine r_iload hE dX10_cold_68 rfl ?_
          refine r_iload_n hE dX10_cold_70 rfl ?_
          refine r_iconst (v := 2) hE dX10_cold_71 (by decide) ?_
          refine r_iload hE dX10_cold_72 rfl ?_
          refine r_bipush (v := 8) hE dX10_cold_74 (by decide) ?_
          refine r_iload hE dX10_cold_76 rfl ?_
          refine r_isub hE dX10_cold_78 ?_
          refine r_mmin hE m_X10_295 dX10_cold_79 (by decide) (Nat.le_of_ble_eq_true rfl) ⟨by decide, by decide⟩ ?_
          refine r_imul hE dX10_cold_82 ?_
          refine r_isub hE dX10_cold_83 ?_
          refine r_mmax hE m_X10_297 dX10_cold_84 (by decide) (Nat.le_of_ble_eq_true rfl) ⟨by decide, by decide⟩ ?_
          refine r_istore (ls2 := [(0, .ref 64), (1, .int p), (2, .int q), (3, .int r), (4, .int (if (y_cold p q r i) < (q - (2 * (if (8 - (if 0 ≤ ((nI i) - r) then ((nI i) - r) else 0 - ((nI i) - r))) < (if 0 ≤ ((nI i) - r) then ((nI i) - r) else 0 - ((nI i) - r)) then (8 - (if 0 ≤ ((nI i) - r) then ((nI i) - r) else 0 - ((nI i) - r))) else (if 0 ≤ ((nI i) - r) then ((nI i) - r) else 0 - ((nI i) - r))))) then (q - (2 * (if (8 - (if 0 ≤ ((nI i) - r) then ((nI i) - r) else 0 - ((nI i) - r))) < (if 0 ≤ ((nI i) - r) then ((nI i) - r) else 0 - ((nI i) - r)) then (8 - (if 0 ≤ ((nI i) - r) then ((nI i) - r) else 0 - ((nI i) - r))) else (if 0 ≤ ((nI i) - r) then ((nI i) - r) else 0 - ((nI i) - r))))) else (y_cold p q r i))), (5, .int (nI i)), (6, .int (if 0 ≤ ((nI i) - r) then ((nI i) - r) else 0 - ((nI i) - r)))]) hE dX10_cold_87 (by decide) rfl ?_
          refine r_iincN (a := i) (b := 1) (ls2 := [(0, .ref 64), (1, .int p), (2, .int q), (3, .int r), (4, .int (if (y_cold p q r i) < (q - (2 * (if (8 - (if 0 ≤ ((nI i) - r) then ((nI i) - r) else 0 - ((nI i) - r))) < (if 0 ≤ ((nI i) - r) then ((nI i) - r) else 0 - ((nI i) - r)) then (8 - (if 0 ≤ ((nI i) - r) then ((nI i) - r) else 0 - ((nI i) - r))) else (if 0 ≤ ((nI i) - r) then ((nI i) - r) else 0 - ((nI i) - r))))) then (q - (2 * (if (8 - (if 0 ≤ ((nI i) - r) then ((nI i) - r) else 0 - ((nI i) - r))) < (if 0 ≤ ((nI i) - r) then ((nI i) - r) else 0 - ((nI i) - r)) then (8 - (if 0 ≤ ((nI i) - r) then ((nI i) - r) else 0 - ((nI i) - r))) else (if 0 ≤ ((nI i) - r) then ((nI i) - r) else 0 - ((nI i) - r))))) else (y_cold p q r i))), (5, .int (nI (i + 1))), (6, .int (if 0 ≤ ((nI i) - r) then ((nI i) - r) else 0 - ((nI i) - r)))]) hE dX10_cold_89 rfl rfl (by decide) rfl ?_
          refine r_goto (tgt := 43) hE dX10_cold_92 (by decide) ?_
          have e9 : y_cold p q r (i + 1) = (if (y_cold p q r i) < (q - (2 * (if (8 - (if 0 ≤ ((nI i) - r) then ((nI i) - r) else 0 - ((nI i) - r))) < (if 0 ≤ ((nI i) - r) then ((nI i) - r) else 0 - ((nI i) - r)) then (8 - (if 0 ≤ ((nI i) - r) then ((nI i) - r) else 0 - ((nI i) - r))) else (if 0 ≤ ((nI i) - r) then ((nI i) - r) else 0 - ((nI i) - r))))) then (q - (2 * (if (8 - (if 0 ≤ ((nI i) - r) then ((nI i) - r) else 0 - ((nI i) - r))) < (if 0 ≤ ((nI i) - r) then ((nI i) - r) else 0 - ((nI i) - r)) then (8 - (if 0 ≤ ((nI i) - r) then ((nI i) - r) else 0 - ((nI i) - r))) else (if 0 ≤ ((nI i) - r) then ((nI i) - r) else 0 - ((nI i) - r))))) else (y_cold p q r i)) := by
            show y_cold1 p q r i (y_cold p q r i) = _
            unfold y_cold1
            first | exact if_pos c65 | exact if_neg c65
          refine r_locs hE (ls2 := [(0, .ref 64), (1, .int p), (2, .int q), (3, .int r), (4, .int (y_cold p q r (i + 1))), (5, .int (nI (i + 1)))]) ?_ (ih (8 - (i + 1)) (by omega) (i + 1) rfl hc (by omega))
          rw [e9]
          simp [x_lk]
  refine r_iload_n hE dX10_cold_0 rfl ?_
  refine r_bipush (v := 8) hE dX10_cold_1 (by decide) ?_
  refine t_invs (r := (some (.int (y_b (p &&& ((nI (2 ^ 8) - 1) ^^^ (-1)) = 0))))) (S2 := (y_mk n L D)) hE [.int p, .int 8] (k_isOfFirst (by decide)) s_yX10_isOfFirst m_X10_222 dX10_cold_3 rfl (by decide) ⟨by decide, by decide⟩ (Nat.le_of_ble_eq_true rfl) ?_
  show E 0 0 6 [(0, .ref 64), (1, .int p), (2, .int q), (3, .int r)] [.int (y_b (p &&& ((nI (2 ^ 8) - 1) ^^^ (-1)) = 0))] (y_mk n L D)
  refine r_ifb_eq (tgt := 33) hE dX10_cold_6 (by decide) (fun c6 => ?_) (fun c6 => ?_)
  · refine r_iconst (v := 0) hE dX10_cold_33 (by decide) ?_
    refine t_demand (p := False) hX hV [.int 0] dX10_cold_34 m_X10_69 rfl (by decide) ⟨by decide, by decide⟩ (Nat.le_of_ble_eq_true rfl) (fun c34 => c34.elim) (fun c34 n2 hn2 => r_out hX ⟨by grind, n2, hn2, rfl⟩ (by decide) (by decide))
  · refine r_iload_n hE dX10_cold_9 rfl ?_
    refine r_iconst (v := 0) hE dX10_cold_10 (by decide) ?_
    refine r_bipush (v := 99) hE dX10_cold_11 (by decide) ?_
    refine t_invs (r := (some (.int (y_b (0 ≤ q ∧ q ≤ 99))))) (S2 := (y_mk n L D)) hE [.int q, .int 0, .int 99] (k_isBetween) s_yX10_isBetween m_X10_65 dX10_cold_13 rfl (by decide) ⟨by decide, by decide⟩ (Nat.le_of_ble_eq_true rfl) ?_
    show E 0 0 16 [(0, .ref 64), (1, .int p), (2, .int q), (3, .int r)] [.int (y_b (0 ≤ q ∧ q ≤ 99))] (y_mk n L D)
    refine r_ifb_eq (tgt := 33) hE dX10_cold_16 (by decide) (fun c16 => ?_) (fun c16 => ?_)
    · refine r_iconst (v := 0) hE dX10_cold_33 (by decide) ?_
      refine t_demand (p := False) hX hV [.int 0] dX10_cold_34 m_X10_69 rfl (by decide) ⟨by decide, by decide⟩ (Nat.le_of_ble_eq_true rfl) (fun c34 => c34.elim) (fun c34 n2 hn2 => r_out hX ⟨by grind, n2, hn2, rfl⟩ (by decide) (by decide))
    · refine r_iload_n hE dX10_cold_19 rfl ?_
      refine r_iconst (v := 0) hE dX10_cold_20 (by decide) ?_
      refine r_bipush (v := 7) hE dX10_cold_21 (by decide) ?_
      refine t_invs (r := (some (.int (y_b (0 ≤ r ∧ r ≤ 7))))) (S2 := (y_mk n L D)) hE [.int r, .int 0, .int 7] (k_isBetween) s_yX10_isBetween m_X10_65 dX10_cold_23 rfl (by decide) ⟨by decide, by decide⟩ (Nat.le_of_ble_eq_true rfl) ?_
      show E 0 0 26 [(0, .ref 64), (1, .int p), (2, .int q), (3, .int r)] [.int (y_b (0 ≤ r ∧ r ≤ 7))] (y_mk n L D)
      refine r_ifb_eq (tgt := 33) hE dX10_cold_26 (by decide) (fun c26 => ?_) (fun c26 => ?_)
      · refine r_iconst (v := 0) hE dX10_cold_33 (by decide) ?_
        refine t_demand (p := False) hX hV [.int 0] dX10_cold_34 m_X10_69 rfl (by decide) ⟨by decide, by decide⟩ (Nat.le_of_ble_eq_true rfl) (fun c34 => c34.elim) (fun c34 n2 hn2 => r_out hX ⟨by grind, n2, hn2, rfl⟩ (by decide) (by decide))
      · refine r_iconst (v := 1) hE dX10_cold_29 (by decide) ?_
        refine r_goto (tgt := 34) hE dX10_cold_30 (by decide) ?_
        refine t_demand (p := True) hX hV [.int 1] dX10_cold_34 m_X10_69 rfl (by decide) ⟨by decide, by decide⟩ (Nat.le_of_ble_eq_true rfl) (fun c34 => ?_) (fun c34 _ _ => absurd trivial c34)
        show E 1 6 37 [(0, .ref 64), (1, .int p), (2, .int q), (3, .int r)] [] (y_mk n L D)
        refine r_iconst (v := 0) hE dX10_cold_37 (by decide) ?_
        refine r_istore (ls2 := [(0, .ref 64), (1, .int p), (2, .int q), (3, .int r), (4, .int 0)]) hE dX10_cold_38 (by decide) rfl ?_
        refine r_iconst (v := 0) hE dX10_cold_40 (by decide) ?_
        refine r_istore (ls2 := [(0, .ref 64), (1, .int p), (2, .int q), (3, .int r), (4, .int 0), (5, .int 0)]) hE dX10_cold_41 (by decide) rfl ?_
        refine lp 0 (by grind) (by omega)

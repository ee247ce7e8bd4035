/-! Sitting.setsThatMeet -/
theorem k_isTagN {V : x_E} {n : Nat} {L : List Nat} {D : y_D} {a : Nat} (ha : a < 2 ^ 31) : x_Fn V yX6_isTag cX6_isTag 1 (some .boolean) 0 [.int (nI a)] (y_mk n L D) (some (.int (y_b (23 ≤ a ∧ a ≤ 28)))) (y_mk n L D) := by
  have h1 : (23 ≤ nI a ∧ nI a ≤ 28) ↔ (23 ≤ a ∧ a ≤ 28) := ⟨fun h => ⟨(nI_leI (a := 23) (by decide) ha).mp h.1, (nI_leI (b := 28) ha (by decide)).mp h.2⟩, fun h => ⟨(nI_leI (a := 23) (by decide) ha).mpr h.1, (nI_leI (b := 28) ha (by decide)).mpr h.2⟩⟩
  have e : y_b (23 ≤ nI a ∧ nI a ≤ 28) = y_b (23 ≤ a ∧ a ≤ 28) := by
    unfold y_b
    by_cases h : 23 ≤ a ∧ a ≤ 28
    · rw [if_pos h, if_pos (h1.mpr h)]
    · rw [if_neg h, if_neg (fun c => h (h1.mp c))]
  rw [← e]
  exact k_isTag
theorem y_min23 : ∀ t, t < 24 → (if 23 < nI (t + 1) then 23 else nI (t + 1)) = nI (min (t + 1) 23) := by decide +kernel
theorem y_max0 : ∀ t, t < 24 → (if nI t - 1 < 0 then 0 else nI t - 1) = nI (t - 1) := by decide +kernel
/-- one step: sum, part of each limb, top, row -/
def y_ms (D : y_D) (x : Nat) (hl : Int32) (g : Int32 × Int32 × Nat × (Nat → Int32)) (z : Nat) : Int32 × Int32 × Nat × (Nat → Int32) :=
  if z / 1024 = 8 ∨ z / 1024 = 9 then (0, 0, min (g.2.2.1 + 1) 23, upd g.2.2.2 (min (g.2.2.1 + 1) 23) (y_cm (nI (z / 1024)) g.1 g.2.1 5))
  else if z / 1024 = 3 then (-g.1, -g.2.1, g.2.2.1, g.2.2.2)
  else if z / 1024 = 30 then (g.1, g.2.1 + 1, g.2.2.1, g.2.2.2)
  else if z / 1024 = 22 then (g.1, g.2.1, g.2.2.1, upd g.2.2.2 g.2.2.1 (g.2.2.2 g.2.2.1 ^^^ 65535))
  else if z / 1024 = 21 then (g.1, g.2.1, g.2.2.1 - 1, upd g.2.2.2 (g.2.2.1 - 1) (g.2.2.2 (g.2.2.1 - 1) &&& g.2.2.2 (g.2.2.1 - 1 + 1)))
  else if z / 1024 = 20 then (g.1, g.2.1, g.2.2.1 - 1, upd g.2.2.2 (g.2.2.1 - 1) (g.2.2.2 (g.2.2.1 - 1) ||| g.2.2.2 (g.2.2.1 - 1 + 1)))
  else if z / 1024 = 24 then (g.1, g.2.1, min (g.2.2.1 + 1) 23, upd g.2.2.2 (min (g.2.2.1 + 1) 23) (if hl = 0 then 0 else 65535))
  else if 23 ≤ z / 1024 ∧ z / 1024 ≤ 28 then (g.1, g.2.1, min (g.2.2.1 + 1) 23, upd g.2.2.2 (min (g.2.2.1 + 1) 23) (K_tag D (nI (z / 1024)) (z % 1024) x))
  else (g.1 + K_partOf D (nI (z / 1024)) (z % 1024) (nI x), g.2.1, g.2.2.1, g.2.2.2)
def y_mf (D : y_D) (T : Nat → Int32) (x : Nat) (hl : Int32) : Nat → Int32 × Int32 × Nat × (Nat → Int32)
  | 0 => (0, 0, 0, upd (D 157).1 0 65535)
  | i + 1 => y_ms D x hl (y_mf D T x hl i) (T i).toNatClampNeg
/-- the steps of a WAY are as they are made -/
def y_wfs (T : Nat → Int32) (len : Nat) : Prop := ∀ i, i < len → ∃ z : Nat, T i = nI z ∧ z < 2 ^ 20 ∧ (z / 1024 = 31 ∨ z / 1024 = 32 ∨ (23 ≤ z / 1024 ∧ z / 1024 ≤ 28) → z % 1024 < 4)
theorem K_tag_su {D : y_D} {f : Nat → Int32} {u : Int32} : K_tag (y_si (y_sw D 157 f) 152 8 u) = K_tag D := by
  funext p q x
  unfold K_tag
  rw [y_si_o (by decide), y_si_o (by decide), y_sw_ne (by decide), y_si_ne (by decide), y_si_ne (by decide), y_sw_ne (by decide), y_sw_ne (by decide)]
theorem K_partOf_su {D : y_D} {f : Nat → Int32} {u : Int32} : K_partOf (y_si (y_sw D 157 f) 152 8 u) = K_partOf D := by
  funext p q x
  unfold K_partOf
  rw [y_si_ne (by decide), y_si_ne (by decide), y_sw_ne (by decide), y_sw_ne (by decide)]
theorem y_bd_part {D : y_D} {z x : Nat} (h154 : ∀ q, q < 4 → y_bd ((D 154).1 q) 1000) (h156 : ∀ q, q < 4 → y_bd ((D 156).1 q) 1000) (hq : z / 1024 = 31 ∨ z / 1024 = 32 → z % 1024 < 4) (hx : x < 301) (hz : z < 2 ^ 20) : y_bd (K_partOf D (nI (z / 1024)) (z % 1024) (nI x)) 1023 := by
  unfold K_partOf
  by_cases c1 : nI (z / 1024) = 29
  · rw [if_pos c1]; exact y_bd_n (by omega) (by decide)
  · rw [if_neg c1]
    by_cases c2 : nI (z / 1024) = 31
    · rw [if_pos c2]; exact y_bd_up (h154 _ (hq (Or.inl ((nI_eq (b := 31) (by omega) (by decide)).mp c2)))) (by decide)
    · rw [if_neg c2]
      by_cases c3 : nI (z / 1024) = 32
      · rw [if_pos c3]; exact y_bd_up (h156 _ (hq (Or.inr ((nI_eq (b := 32) (by omega) (by decide)).mp c3)))) (by decide)
      · rw [if_neg c3]; exact y_bd_n (by omega) (by decide)
theorem y_part_x {D : y_D} {z x d : Nat} (hz : z < 2 ^ 20) (c : z / 1024 ≠ 29) : K_partOf D (nI (z / 1024)) (z % 1024) (nI (x + d)) = K_partOf D (nI (z / 1024)) (z % 1024) (nI x) := by
  have c1 : ¬ nI (z / 1024) = 29 := fun q => c ((nI_eq (b := 29) (by omega) (by decide)).mp q)
  unfold K_partOf
  rw [if_neg c1, if_neg c1]
theorem y_part_s {D : y_D} {z x : Nat} (c : z / 1024 = 29) : K_partOf D (nI (z / 1024)) (z % 1024) (nI x) = nI x := by
  unfold K_partOf
  exact if_pos (by rw [c]; rfl)
theorem y_bd_sg {g s : Int32} {B : Nat} (hg : g = 1 ∨ g = -1) (h : y_bd s B) (hb : B < 2 ^ 31) : y_bd (g * s) B := by
  rcases hg with rfl | rfl
  · rw [Int32.one_mul]; exact h
  · rw [show (-1) * s = -s by grind]
    exact (y_bd_neg h hb).2
theorem k_setsThatMeet {V : x_E} {n : Nat} {L : List Nat} {D : y_D} (hV : y_V V) {x w s len : Nat} {hl : Int32} (hL : y_ok L) (hx : x < 301) (hm_w : w ∈ L) (hd_w : y_dh w) (hk_w : (D w).2.2.2.1 = 2) (hs_w : (D w).2.2.1 0 = some s) (hm_s : s ∈ L) (hd_s : y_dh s) (hk_s : (D s).2.2.2.1 = 0) (hl_s : (D s).2.2.2.2 = len) (hlen : len ≤ 800) (hwf : y_wfs (D s).1 len) (h154 : ∀ q, q < 4 → y_bd ((D 154).1 q) 1000) (h156 : ∀ q, q < 4 → y_bd ((D 156).1 q) 1000) : y_Ri V yX6_setsThatMeet cX6_setsThatMeet 15 (some .int) 2 [.ref 152, .ref w, .int (nI x), .int hl] n L D (fun v D2 => v = (y_mf D (D s).1 x hl len).2.2.2 0 ∧ ∃ (U : Nat) (f : Nat → Int32), x < U ∧ U ≤ 301 ∧ D2 = y_si (y_sw D 157 f) 152 8 (nI U) ∧ ∀ d, x + d < U → (y_mf D (D s).1 (x + d) hl len).2.2.2 0 = (y_mf D (D s).1 x hl len).2.2.2 0) := by
  refine y_ri (by decide) (Nat.le_of_ble_eq_true rfl) (fun E hE => ?_)
  change E 0 0 0 [(0, .ref 152), (1, .ref w), (2, .int (nI x)), (3, .int hl)] [] (y_mk n L D)
  have hdw : w ≠ 157 := by unfold y_dh at hd_w; omega
  have hds : s ≠ 157 := by unfold y_dh at hd_s; omega
  have hdw2 : w ≠ 152 := by unfold y_dh at hd_w; omega
  have hds2 : s ≠ 152 := by unfold y_dh at hd_s; omega
  have lp : ∀ (i : Nat) (a : Int32) (b : Int32) (c : Int32) (t : Nat) (f : Nat → Int32) (U : Nat), y_mf D (D s).1 x hl i = (a, b, t, f) → (∀ d, x + d < U → y_mf D (D s).1 (x + d) hl i = (a + c * nI d, b, t, f)) → y_bd a (1023 * i) → y_bd b i → y_bd c i → x < U → U ≤ 301 → t ≤ 23 → i ≤ len → E 0 0 41 [(0, .ref 152), (1, .ref w), (2, .int (nI x)), (3, .int hl), (4, .int a), (5, .int b), (6, .int c), (7, .int (nI t)), (8, .ref s), (9, .int (nI len)), (10, .int (nI i))] [] (y_mk n L (y_si (y_sw D 157 f) 152 8 (nI U))) := by
    intro i a b c t f U
    induction hm9 : (len - i) using Nat.strongRecOn generalizing i a b c t f U with
    | _ m9 ih =>
      intro hg hz9 ba bb bc hxU hU ht hi
      subst hm9
      have hk_s : ((y_si (y_sw D 157 f) 152 8 (nI U)) s).2.2.2.1 = 0 := by rw [y_si_ne hds2, y_sw_ne hds]; exact hk_s
      have hl_s : ((y_si (y_sw D 157 f) 152 8 (nI U)) s).2.2.2.2 = len := by rw [y_si_ne hds2, y_sw_ne hds]; exact hl_s
      refine r_iload hE dX6_setsThatMeet_41 rfl ?_
      refine r_iload hE dX6_setsThatMeet_43 rfl ?_
      refine r_icmp_geN (a := i) (b := len) (tgt := 396) hE dX6_setsThatMeet_45 (by decide) (by omega) (by omega) (fun c45 => ?_) (fun c45 => ?_)
      · refine r_aload_n hE dX6_setsThatMeet_396 rfl ?_
        refine t_getr hE f_X6_24 y_R_152_7 dX6_setsThatMeet_397 (hL 152 (by decide)) ?_
        refine r_iconst (v := 0) hE dX6_setsThatMeet_400 (by decide) ?_
        refine t_ialdN (e := 0) hE y_A_157 dX6_setsThatMeet_401 (hL 157 (by decide)) (by omega) (by decide) ?_
        refine r_top (y := (f 0)) rfl ?_
        refine r_ireturn hE dX6_setsThatMeet_402 rfl rfl (Nat.zero_le _) (Nat.zero_le _) ?_
        have hi2 : i = len := by omega
        subst hi2
        refine ⟨_, _, rfl, rfl, by rw [hg], U, f, hxU, hU, rfl, fun d hd => by rw [hz9 d hd, hg]⟩
      · obtain ⟨z, hz, hz2, hz4⟩ := hwf i (by omega)
        refine r_aload hE dX6_setsThatMeet_48 rfl ?_
        refine r_iload hE dX6_setsThatMeet_50 rfl ?_
        refine t_diald (e := i) (len := len) hE hd_s (show ((y_si (y_sw D 157 f) 152 8 (nI U)) s).2.2.2.1 = _ from hk_s) (show ((y_si (y_sw D 157 f) 152 8 (nI U)) s).2.2.2.2 = _ from hl_s) dX6_setsThatMeet_52 hm_s (by omega) (by omega) ?_
        refine r_top (y := (nI z)) (by rw [y_si_ne hds2, y_sw_ne hds]; exact hz) ?_
        refine r_istore (ls2 := [(0, .ref 152), (1, .ref w), (2, .int (nI x)), (3, .int hl), (4, .int a), (5, .int b), (6, .int c), (7, .int (nI t)), (8, .ref s), (9, .int (nI len)), (10, .int (nI i)), (11, .int (nI z))]) hE dX6_setsThatMeet_53 (by decide) rfl ?_
        refine r_iload hE dX6_setsThatMeet_55 rfl ?_
        refine r_sipush (v := 1024) hE dX6_setsThatMeet_57 (by decide) ?_
        refine r_idivN (a := z) (b := 1024) hE dX6_setsThatMeet_60 (by omega) (by omega) (by omega) ?_
        refine r_istore (ls2 := [(0, .ref 152), (1, .ref w), (2, .int (nI x)), (3, .int hl), (4, .int a), (5, .int b), (6, .int c), (7, .int (nI t)), (8, .ref s), (9, .int (nI len)), (10, .int (nI i)), (11, .int (nI z)), (12, .int (nI (z / 1024)))]) hE dX6_setsThatMeet_61 (by decide) rfl ?_
        refine r_iload hE dX6_setsThatMeet_63 rfl ?_
        refine r_sipush (v := 1024) hE dX6_setsThatMeet_65 (by decide) ?_
        refine r_iremN (a := z) (b := 1024) hE dX6_setsThatMeet_68 (by omega) (by omega) (by omega) ?_
        refine r_istore (ls2 := [(0, .ref 152), (1, .ref w), (2, .int (nI x)), (3, .int hl), (4, .int a), (5, .int b), (6, .int c), (7, .int (nI t)), (8, .ref s), (9, .int (nI len)), (10, .int (nI i)), (11, .int (nI z)), (12, .int (nI (z / 1024))), (13, .int (nI (z % 1024)))]) hE dX6_setsThatMeet_69 (by decide) rfl ?_
        refine r_iload hE dX6_setsThatMeet_71 rfl ?_
        refine r_bipush (v := 8) hE dX6_setsThatMeet_73 (by decide) ?_
        refine r_icmp_eqN (a := z / 1024) (b := 8) (tgt := 85) hE dX6_setsThatMeet_75 (by decide) (by omega) (by decide) (fun c75 => ?_) (fun c75 => ?_)
        · refine r_iload hE dX6_setsThatMeet_85 rfl ?_
          refine r_iconst (v := 1) hE dX6_setsThatMeet_87 (by decide) ?_
          refine r_iaddN (a := t) (b := 1) hE dX6_setsThatMeet_88 ?_
          refine r_bipush (v := 23) hE dX6_setsThatMeet_89 (by decide) ?_
          refine r_mmin hE m_X6_77 dX6_setsThatMeet_91 (by decide) (Nat.le_of_ble_eq_true rfl) ⟨Nat.le_refl _, Nat.le_refl _⟩ ?_
          refine r_top (y := (nI (min (t + 1) 23))) (y_min23 t (by omega)) ?_
          refine r_istore (ls2 := [(0, .ref 152), (1, .ref w), (2, .int (nI x)), (3, .int hl), (4, .int a), (5, .int b), (6, .int c), (7, .int (nI (min (t + 1) 23))), (8, .ref s), (9, .int (nI len)), (10, .int (nI i)), (11, .int (nI z)), (12, .int (nI (z / 1024))), (13, .int (nI (z % 1024)))]) hE dX6_setsThatMeet_94 (by decide) rfl ?_
          refine r_iload hE dX6_setsThatMeet_96 rfl ?_
          refine r_bipush (v := 8) hE dX6_setsThatMeet_98 (by decide) ?_
          refine r_icmp_neN (a := z / 1024) (b := 8) (tgt := 107) hE dX6_setsThatMeet_100 (by decide) (by omega) (by decide) (fun c100 => ?_) (fun c100 => ?_)
          · refine r_iconst (v := (-1)) hE dX6_setsThatMeet_107 (by decide) ?_
            refine r_istore (ls2 := [(0, .ref 152), (1, .ref w), (2, .int (nI x)), (3, .int hl), (4, .int a), (5, .int b), (6, .int c), (7, .int (nI (min (t + 1) 23))), (8, .ref s), (9, .int (nI len)), (10, .int (nI i)), (11, .int (nI z)), (12, .int (nI (z / 1024))), (13, .int (nI (z % 1024))), (14, .int (-1))]) hE dX6_setsThatMeet_108 (by decide) rfl ?_
            refine r_aload_n hE dX6_setsThatMeet_110 rfl ?_
            refine t_getr hE f_X6_24 y_R_152_7 dX6_setsThatMeet_111 (hL 152 (by decide)) ?_
            refine r_iload hE dX6_setsThatMeet_114 rfl ?_
            refine r_aload_n hE dX6_setsThatMeet_116 rfl ?_
            refine r_iload hE dX6_setsThatMeet_117 rfl ?_
            refine r_iload hE dX6_setsThatMeet_119 rfl ?_
            refine r_imul hE dX6_setsThatMeet_121 ?_
            refine r_iload hE dX6_setsThatMeet_122 rfl ?_
            refine r_iload hE dX6_setsThatMeet_124 rfl ?_
            refine r_imul hE dX6_setsThatMeet_126 ?_
            refine r_iload hE dX6_setsThatMeet_127 rfl ?_
            refine r_iload hE dX6_setsThatMeet_129 rfl ?_
            refine r_imul hE dX6_setsThatMeet_131 ?_
            refine r_iload_n hE dX6_setsThatMeet_132 rfl ?_
            refine t_invvRi hE [.int ((-1) * a), .int ((-1) * b), .int ((-1) * c), .int (nI x)] (k_setsAboveZero (s := (-1) * a) (l := (-1) * b) (p := (-1) * c) (x := x) (U0 := U) hV hL rfl hxU hU (y_bd_sg (Or.inr rfl) (y_bd_up ba (by omega)) (by decide)) (y_bd_sg (Or.inr rfl) (y_bd_up bb (by omega)) (by decide)) (y_bd_sg (Or.inr rfl) (y_bd_up bc (by omega)) (by decide))) v_yX6_setsAboveZero m_X6_82 dX6_setsThatMeet_133 rfl (hL 152 (by decide)) (y_l_152 ((y_si (y_sw D 157 f) 152 8 (nI U)) 152)) rfl (by decide) ⟨Nat.le_refl _, Nat.le_refl _⟩ (Nat.le_of_ble_eq_true rfl) (fun r133 D133 q133 => ?_)
            obtain ⟨rfl, U2, hU3, hU4, rfl, hab⟩ := q133
            rw [y_si_si]
            have ec : ∀ (d : Nat), d ≤ 300 → y_cm (nI (z / 1024)) (a + c * nI d) b 5 = y_ab ((-1) * (a + c * nI d)) ((-1) * b) 5 := fun d hd => y_cm_9 (fun q => c100 ((nI_eq (b := 8) (by omega) (by decide)).mp q)) (y_bd_up (y_bd_add ba (y_bd_mul (i := d) bc (by omega) (Nat.lt_of_le_of_lt (Nat.mul_le_mul (show i ≤ 800 by omega) hd) (by decide))).2 (Nat.lt_of_le_of_lt (Nat.add_le_add_left (Nat.mul_le_mul (show i ≤ 800 by omega) hd) _) (by omega))).2 (Nat.le_trans (Nat.add_le_add_left (Nat.mul_le_mul (show i ≤ 800 by omega) hd) _) (by omega))) (y_bd_up bb (by omega)) (Nat.le_refl _)
            have ea : y_ab ((-1) * a) ((-1) * b) 5 = y_cm (nI (z / 1024)) a b 5 := by
              have := ec 0 (by decide)
              rw [show a + c * nI 0 = a by rw [nI_0]; grind] at this
              exact this.symm
            rw [ea]
            have hcm : ∀ d, x + d < U2 → y_cm (nI (z / 1024)) (a + c * nI d) b 5 = y_cm (nI (z / 1024)) a b 5 := fun d hd => by
              rw [ec d (by omega), ← ea, ← hab d hd]
              congr 1
              grind
            show E 0 0 136 [(0, .ref 152), (1, .ref w), (2, .int (nI x)), (3, .int hl), (4, .int a), (5, .int b), (6, .int c), (7, .int (nI (min (t + 1) 23))), (8, .ref s), (9, .int (nI len)), (10, .int (nI i)), (11, .int (nI z)), (12, .int (nI (z / 1024))), (13, .int (nI (z % 1024))), (14, .int (-1))] [.int (y_cm (nI (z / 1024)) a b 5), .int (nI (min (t + 1) 23)), .ref 157] (y_mk n L (y_si (y_sw D 157 f) 152 8 (nI U2)))
            refine t_iastN (e := min (t + 1) 23) hE y_A_157 dX6_setsThatMeet_136 (hL 157 (by decide)) (by omega) (by decide) ?_
            refine r_iconst (v := 0) hE dX6_setsThatMeet_137 (by decide) ?_
            refine r_istore (ls2 := [(0, .ref 152), (1, .ref w), (2, .int (nI x)), (3, .int hl), (4, .int 0), (5, .int b), (6, .int c), (7, .int (nI (min (t + 1) 23))), (8, .ref s), (9, .int (nI len)), (10, .int (nI i)), (11, .int (nI z)), (12, .int (nI (z / 1024))), (13, .int (nI (z % 1024))), (14, .int (-1))]) hE dX6_setsThatMeet_138 (by decide) rfl ?_
            refine r_iconst (v := 0) hE dX6_setsThatMeet_140 (by decide) ?_
            refine r_istore (ls2 := [(0, .ref 152), (1, .ref w), (2, .int (nI x)), (3, .int hl), (4, .int 0), (5, .int 0), (6, .int c), (7, .int (nI (min (t + 1) 23))), (8, .ref s), (9, .int (nI len)), (10, .int (nI i)), (11, .int (nI z)), (12, .int (nI (z / 1024))), (13, .int (nI (z % 1024))), (14, .int (-1))]) hE dX6_setsThatMeet_141 (by decide) rfl ?_
            refine r_iconst (v := 0) hE dX6_setsThatMeet_143 (by decide) ?_
            refine r_istore (ls2 := [(0, .ref 152), (1, .ref w), (2, .int (nI x)), (3, .int hl), (4, .int 0), (5, .int 0), (6, .int 0), (7, .int (nI (min (t + 1) 23))), (8, .ref s), (9, .int (nI len)), (10, .int (nI i)), (11, .int (nI z)), (12, .int (nI (z / 1024))), (13, .int (nI (z % 1024))), (14, .int (-1))]) hE dX6_setsThatMeet_144 (by decide) rfl ?_
            refine r_goto (tgt := 390) hE dX6_setsThatMeet_146 (by decide) ?_
            refine r_iincN (a := i) (b := 1) (ls2 := [(0, .ref 152), (1, .ref w), (2, .int (nI x)), (3, .int hl), (4, .int 0), (5, .int 0), (6, .int 0), (7, .int (nI (min (t + 1) 23))), (8, .ref s), (9, .int (nI len)), (10, .int (nI (i + 1))), (11, .int (nI z)), (12, .int (nI (z / 1024))), (13, .int (nI (z % 1024))), (14, .int (-1))]) hE dX6_setsThatMeet_390 rfl rfl (by decide) rfl ?_
            refine r_goto (tgt := 41) hE dX6_setsThatMeet_393 (by decide) ?_
            rw [y_si_com (by decide), y_si_sw]
            have e9 : y_mf D (D s).1 x hl (i + 1) = (0, 0, min (t + 1) 23, (upd f (min (t + 1) 23) (y_cm (nI (z / 1024)) a b 5))) := by
              show y_ms D x hl (y_mf D (D s).1 x hl i) _ = _
              rw [hg, hz, nI_clamp (by omega)]
              unfold y_ms
              dsimp only
              repeat first | rw [if_pos (by first | assumption | omega)] | rw [if_neg (by first | assumption | omega)]
              all_goals (exfalso; omega)
            have e10 : ∀ d, x + d < U2 → y_mf D (D s).1 (x + d) hl (i + 1) = (0 + 0 * nI d, 0, min (t + 1) 23, (upd f (min (t + 1) 23) (y_cm (nI (z / 1024)) a b 5))) := by
              intro d hd
              show y_ms D (x + d) hl (y_mf D (D s).1 (x + d) hl i) _ = _
              rw [hz9 d (by omega), hz, nI_clamp (by omega)]
              unfold y_ms
              dsimp only
              repeat first | rw [if_pos (by first | assumption | omega)] | rw [if_neg (by first | assumption | omega)]
              rw [hcm d hd]
              all_goals grind
            refine r_locs hE (ls2 := [(0, .ref 152), (1, .ref w), (2, .int (nI x)), (3, .int hl), (4, .int 0), (5, .int 0), (6, .int 0), (7, .int (nI (min (t + 1) 23))), (8, .ref s), (9, .int (nI len)), (10, .int (nI (i + 1)))]) ?_ (ih (len - (i + 1)) (by omega) (i + 1) _ _ _ _ _ U2 rfl e9 e10 y_bd_0 y_bd_0 y_bd_0 hU3 (by omega) (by omega) (by omega))
            simp [x_lk]
          · refine r_iconst (v := 1) hE dX6_setsThatMeet_103 (by decide) ?_
            refine r_goto (tgt := 108) hE dX6_setsThatMeet_104 (by decide) ?_
            refine r_istore (ls2 := [(0, .ref 152), (1, .ref w), (2, .int (nI x)), (3, .int hl), (4, .int a), (5, .int b), (6, .int c), (7, .int (nI (min (t + 1) 23))), (8, .ref s), (9, .int (nI len)), (10, .int (nI i)), (11, .int (nI z)), (12, .int (nI (z / 1024))), (13, .int (nI (z % 1024))), (14, .int 1)]) hE dX6_setsThatMeet_108 (by decide) rfl ?_
            refine r_aload_n hE dX6_setsThatMeet_110 rfl ?_
            refine t_getr hE f_X6_24 y_R_152_7 dX6_setsThatMeet_111 (hL 152 (by decide)) ?_
            refine r_iload hE dX6_setsThatMeet_114 rfl ?_
            refine r_aload_n hE dX6_setsThatMeet_116 rfl ?_
            refine r_iload hE dX6_setsThatMeet_117 rfl ?_
            refine r_iload hE dX6_setsThatMeet_119 rfl ?_
            refine r_imul hE dX6_setsThatMeet_121 ?_
            refine r_iload hE dX6_setsThatMeet_122 rfl ?_
            refine r_iload hE dX6_setsThatMeet_124 rfl ?_
            refine r_imul hE dX6_setsThatMeet_126 ?_
            refine r_iload hE dX6_setsThatMeet_127 rfl ?_
            refine r_iload hE dX6_setsThatMeet_129 rfl ?_
            refine r_imul hE dX6_setsThatMeet_131 ?_
            refine r_iload_n hE dX6_setsThatMeet_132 rfl ?_
            refine t_invvRi hE [.int (1 * a), .int (1 * b), .int (1 * c), .int (nI x)] (k_setsAboveZero (s := 1 * a) (l := 1 * b) (p := 1 * c) (x := x) (U0 := U) hV hL rfl hxU hU (y_bd_sg (Or.inl rfl) (y_bd_up ba (by omega)) (by decide)) (y_bd_sg (Or.inl rfl) (y_bd_up bb (by omega)) (by decide)) (y_bd_sg (Or.inl rfl) (y_bd_up bc (by omega)) (by decide))) v_yX6_setsAboveZero m_X6_82 dX6_setsThatMeet_133 rfl (hL 152 (by decide)) (y_l_152 ((y_si (y_sw D 157 f) 152 8 (nI U)) 152)) rfl (by decide) ⟨Nat.le_refl _, Nat.le_refl _⟩ (Nat.le_of_ble_eq_true rfl) (fun r133 D133 q133 => ?_)
            obtain ⟨rfl, U2, hU3, hU4, rfl, hab⟩ := q133
            rw [y_si_si]
            have ec : ∀ (d : Nat), d ≤ 300 → y_cm (nI (z / 1024)) (a + c * nI d) b 5 = y_ab (1 * (a + c * nI d)) (1 * b) 5 := fun d hd => y_cm_8 (by rw [c100]; rfl)
            have ea : y_ab (1 * a) (1 * b) 5 = y_cm (nI (z / 1024)) a b 5 := by
              have := ec 0 (by decide)
              rw [show a + c * nI 0 = a by rw [nI_0]; grind] at this
              exact this.symm
            rw [ea]
            have hcm : ∀ d, x + d < U2 → y_cm (nI (z / 1024)) (a + c * nI d) b 5 = y_cm (nI (z / 1024)) a b 5 := fun d hd => by
              rw [ec d (by omega), ← ea, ← hab d hd]
              congr 1
              grind
            show E 0 0 136 [(0, .ref 152), (1, .ref w), (2, .int (nI x)), (3, .int hl), (4, .int a), (5, .int b), (6, .int c), (7, .int (nI (min (t + 1) 23))), (8, .ref s), (9, .int (nI len)), (10, .int (nI i)), (11, .int (nI z)), (12, .int (nI (z / 1024))), (13, .int (nI (z % 1024))), (14, .int 1)] [.int (y_cm (nI (z / 1024)) a b 5), .int (nI (min (t + 1) 23)), .ref 157] (y_mk n L (y_si (y_sw D 157 f) 152 8 (nI U2)))
            refine t_iastN (e := min (t + 1) 23) hE y_A_157 dX6_setsThatMeet_136 (hL 157 (by decide)) (by omega) (by decide) ?_
            refine r_iconst (v := 0) hE dX6_setsThatMeet_137 (by decide) ?_
            refine r_istore (ls2 := [(0, .ref 152), (1, .ref w), (2, .int (nI x)), (3, .int hl), (4, .int 0), (5, .int b), (6, .int c), (7, .int (nI (min (t + 1) 23))), (8, .ref s), (9, .int (nI len)), (10, .int (nI i)), (11, .int (nI z)), (12, .int (nI (z / 1024))), (13, .int (nI (z % 1024))), (14, .int 1)]) hE dX6_setsThatMeet_138 (by decide) rfl ?_
            refine r_iconst (v := 0) hE dX6_setsThatMeet_140 (by decide) ?_
            refine r_istore (ls2 := [(0, .ref 152), (1, .ref w), (2, .int (nI x)), (3, .int hl), (4, .int 0), (5, .int 0), (6, .int c), (7, .int (nI (min (t + 1) 23))), (8, .ref s), (9, .int (nI len)), (10, .int (nI i)), (11, .int (nI z)), (12, .int (nI (z / 1024))), (13, .int (nI (z % 1024))), (14, .int 1)]) hE dX6_setsThatMeet_141 (by decide) rfl ?_
            refine r_iconst (v := 0) hE dX6_setsThatMeet_143 (by decide) ?_
            refine r_istore (ls2 := [(0, .ref 152), (1, .ref w), (2, .int (nI x)), (3, .int hl), (4, .int 0), (5, .int 0), (6, .int 0), (7, .int (nI (min (t + 1) 23))), (8, .ref s), (9, .int (nI len)), (10, .int (nI i)), (11, .int (nI z)), (12, .int (nI (z / 1024))), (13, .int (nI (z % 1024))), (14, .int 1)]) hE dX6_setsThatMeet_144 (by decide) rfl ?_
            refine r_goto (tgt := 390) hE dX6_setsThatMeet_146 (by decide) ?_
            refine r_iincN (a := i) (b := 1) (ls2 := [(0, .ref 152), (1, .ref w), (2, .int (nI x)), (3, .int hl), (4, .int 0), (5, .int 0), (6, .int 0), (7, .int (nI (min (t + 1) 23))), (8, .ref s), (9, .int (nI len)), (10, .int (nI (i + 1))), (11, .int (nI z)), (12, .int (nI (z / 1024))), (13, .int (nI (z % 1024))), (14, .int 1)]) hE dX6_setsThatMeet_390 rfl rfl (by decide) rfl ?_
            refine r_goto (tgt := 41) hE dX6_setsThatMeet_393 (by decide) ?_
            rw [y_si_com (by decide), y_si_sw]
            have e9 : y_mf D (D s).1 x hl (i + 1) = (0, 0, min (t + 1) 23, (upd f (min (t + 1) 23) (y_cm (nI (z / 1024)) a b 5))) := by
              show y_ms D x hl (y_mf D (D s).1 x hl i) _ = _
              rw [hg, hz, nI_clamp (by omega)]
              unfold y_ms
              dsimp only
              repeat first | rw [if_pos (by first | assumption | omega)] | rw [if_neg (by first | assumption | omega)]
              all_goals (exfalso; omega)
            have e10 : ∀ d, x + d < U2 → y_mf D (D s).1 (x + d) hl (i + 1) = (0 + 0 * nI d, 0, min (t + 1) 23, (upd f (min (t + 1) 23) (y_cm (nI (z / 1024)) a b 5))) := by
              intro d hd
              show y_ms D (x + d) hl (y_mf D (D s).1 (x + d) hl i) _ = _
              rw [hz9 d (by omega), hz, nI_clamp (by omega)]
              unfold y_ms
              dsimp only
              repeat first | rw [if_pos (by first | assumption | omega)] | rw [if_neg (by first | assumption | omega)]
              rw [hcm d hd]
              all_goals grind
            refine r_locs hE (ls2 := [(0, .ref 152), (1, .ref w), (2, .int (nI x)), (3, .int hl), (4, .int 0), (5, .int 0), (6, .int 0), (7, .int (nI (min (t + 1) 23))), (8, .ref s), (9, .int (nI len)), (10, .int (nI (i + 1)))]) ?_ (ih (len - (i + 1)) (by omega) (i + 1) _ _ _ _ _ U2 rfl e9 e10 y_bd_0 y_bd_0 y_bd_0 hU3 (by omega) (by omega) (by omega))
            simp [x_lk]
        · refine r_iload hE dX6_setsThatMeet_78 rfl ?_
          refine r_bipush (v := 9) hE dX6_setsThatMeet_80 (by decide) ?_
          refine r_icmp_neN (a := z / 1024) (b := 9) (tgt := 149) hE dX6_setsThatMeet_82 (by decide) (by omega) (by decide) (fun c82 => ?_) (fun c82 => ?_)
          · refine r_iload hE dX6_setsThatMeet_149 rfl ?_
            refine r_iconst (v := 3) hE dX6_setsThatMeet_151 (by decide) ?_
            refine r_icmp_neN (a := z / 1024) (b := 3) (tgt := 173) hE dX6_setsThatMeet_152 (by decide) (by omega) (by decide) (fun c152 => ?_) (fun c152 => ?_)
            · refine r_iload hE dX6_setsThatMeet_173 rfl ?_
              refine r_bipush (v := 30) hE dX6_setsThatMeet_175 (by decide) ?_
              refine r_icmp_neN (a := z / 1024) (b := 30) (tgt := 186) hE dX6_setsThatMeet_177 (by decide) (by omega) (by decide) (fun c177 => ?_) (fun c177 => ?_)
              · refine r_iload hE dX6_setsThatMeet_186 rfl ?_
                refine r_bipush (v := 22) hE dX6_setsThatMeet_188 (by decide) ?_
                refine r_icmp_neN (a := z / 1024) (b := 22) (tgt := 208) hE dX6_setsThatMeet_190 (by decide) (by omega) (by decide) (fun c190 => ?_) (fun c190 => ?_)
                · refine r_iload hE dX6_setsThatMeet_208 rfl ?_
                  refine r_bipush (v := 21) hE dX6_setsThatMeet_210 (by decide) ?_
                  refine r_icmp_eqN (a := z / 1024) (b := 21) (tgt := 222) hE dX6_setsThatMeet_212 (by decide) (by omega) (by decide) (fun c212 => ?_) (fun c212 => ?_)
                  · refine r_iload hE dX6_setsThatMeet_222 rfl ?_
                    refine r_iconst (v := 1) hE dX6_setsThatMeet_224 (by decide) ?_
                    refine r_isub hE dX6_setsThatMeet_225 ?_
                    refine r_iconst (v := 0) hE dX6_setsThatMeet_226 (by decide) ?_
                    refine r_mmax hE m_X6_86 dX6_setsThatMeet_227 (by decide) (Nat.le_of_ble_eq_true rfl) ⟨Nat.le_refl _, Nat.le_refl _⟩ ?_
                    refine r_top (y := (nI (t - 1))) (y_max0 t (by omega)) ?_
                    refine r_istore (ls2 := [(0, .ref 152), (1, .ref w), (2, .int (nI x)), (3, .int hl), (4, .int a), (5, .int b), (6, .int c), (7, .int (nI (t - 1))), (8, .ref s), (9, .int (nI len)), (10, .int (nI i)), (11, .int (nI z)), (12, .int (nI (z / 1024))), (13, .int (nI (z % 1024)))]) hE dX6_setsThatMeet_230 (by decide) rfl ?_
                    refine r_aload_n hE dX6_setsThatMeet_232 rfl ?_
                    refine t_getr hE f_X6_24 y_R_152_7 dX6_setsThatMeet_233 (hL 152 (by decide)) ?_
                    refine r_iload hE dX6_setsThatMeet_236 rfl ?_
                    refine r_iconst (v := 1) hE dX6_setsThatMeet_238 (by decide) ?_
                    refine r_iaddN (a := t - 1) (b := 1) hE dX6_setsThatMeet_239 ?_
                    refine t_ialdN (e := (t - 1) + 1) hE y_A_157 dX6_setsThatMeet_240 (hL 157 (by decide)) (by omega) (by decide) ?_
                    refine r_top (y := (f (t - 1 + 1))) rfl ?_
                    refine r_istore (ls2 := [(0, .ref 152), (1, .ref w), (2, .int (nI x)), (3, .int hl), (4, .int a), (5, .int b), (6, .int c), (7, .int (nI (t - 1))), (8, .ref s), (9, .int (nI len)), (10, .int (nI i)), (11, .int (nI z)), (12, .int (nI (z / 1024))), (13, .int (nI (z % 1024))), (14, .int (f (t - 1 + 1)))]) hE dX6_setsThatMeet_241 (by decide) rfl ?_
                    refine r_aload_n hE dX6_setsThatMeet_243 rfl ?_
                    refine t_getr hE f_X6_24 y_R_152_7 dX6_setsThatMeet_244 (hL 152 (by decide)) ?_
                    refine r_iload hE dX6_setsThatMeet_247 rfl ?_
                    refine r_iload hE dX6_setsThatMeet_249 rfl ?_
                    refine r_bipush (v := 21) hE dX6_setsThatMeet_251 (by decide) ?_
                    refine r_icmp_neN (a := z / 1024) (b := 21) (tgt := 269) hE dX6_setsThatMeet_253 (by decide) (by omega) (by decide) (fun c253 => ?_) (fun c253 => ?_)
                    · refine r_aload_n hE dX6_setsThatMeet_269 rfl ?_
                      refine t_getr hE f_X6_24 y_R_152_7 dX6_setsThatMeet_270 (hL 152 (by decide)) ?_
                      refine r_iload hE dX6_setsThatMeet_273 rfl ?_
                      refine t_ialdN (e := t - 1) hE y_A_157 dX6_setsThatMeet_275 (hL 157 (by decide)) (by omega) (by decide) ?_
                      refine r_top (y := (f (t - 1))) rfl ?_
                      refine r_iload hE dX6_setsThatMeet_276 rfl ?_
                      refine r_ior hE dX6_setsThatMeet_278 ?_
                      refine t_iastN (e := t - 1) hE y_A_157 dX6_setsThatMeet_279 (hL 157 (by decide)) (by omega) (by decide) ?_
                      refine r_goto (tgt := 390) hE dX6_setsThatMeet_280 (by decide) ?_
                      refine r_iincN (a := i) (b := 1) (ls2 := [(0, .ref 152), (1, .ref w), (2, .int (nI x)), (3, .int hl), (4, .int a), (5, .int b), (6, .int c), (7, .int (nI (t - 1))), (8, .ref s), (9, .int (nI len)), (10, .int (nI (i + 1))), (11, .int (nI z)), (12, .int (nI (z / 1024))), (13, .int (nI (z % 1024))), (14, .int (f (t - 1 + 1)))]) hE dX6_setsThatMeet_390 rfl rfl (by decide) rfl ?_
                      refine r_goto (tgt := 41) hE dX6_setsThatMeet_393 (by decide) ?_
                      rw [y_si_com (by decide), y_si_sw]
                      have e9 : y_mf D (D s).1 x hl (i + 1) = (a, b, t - 1, (upd f (t - 1) ((f (t - 1)) ||| (f (t - 1 + 1))))) := by
                        show y_ms D x hl (y_mf D (D s).1 x hl i) _ = _
                        rw [hg, hz, nI_clamp (by omega)]
                        unfold y_ms
                        dsimp only
                        repeat first | rw [if_pos (by first | assumption | omega)] | rw [if_neg (by first | assumption | omega)]
                        all_goals (exfalso; omega)
                      have e10 : ∀ d, x + d < U → y_mf D (D s).1 (x + d) hl (i + 1) = (a + c * nI d, b, t - 1, (upd f (t - 1) ((f (t - 1)) ||| (f (t - 1 + 1))))) := by
                        intro d hd
                        show y_ms D (x + d) hl (y_mf D (D s).1 (x + d) hl i) _ = _
                        rw [hz9 d (by omega), hz, nI_clamp (by omega)]
                        unfold y_ms
                        dsimp only
                        repeat first | rw [if_pos (by first | assumption | omega)] | rw [if_neg (by first | assumption | omega)]
                        all_goals first | rfl | (exfalso; omega) | (refine Prod.ext ?_ rfl; dsimp only; grind)
                      refine r_locs hE (ls2 := [(0, .ref 152), (1, .ref w), (2, .int (nI x)), (3, .int hl), (4, .int a), (5, .int b), (6, .int c), (7, .int (nI (t - 1))), (8, .ref s), (9, .int (nI len)), (10, .int (nI (i + 1)))]) ?_ (ih (len - (i + 1)) (by omega) (i + 1) _ _ _ _ _ U rfl e9 e10 (y_bd_up ba (by omega)) (y_bd_up bb (by omega)) (y_bd_up bc (by omega)) hxU hU (by omega) (by omega))
                      simp [x_lk]
                    · refine r_aload_n hE dX6_setsThatMeet_256 rfl ?_
                      refine t_getr hE f_X6_24 y_R_152_7 dX6_setsThatMeet_257 (hL 152 (by decide)) ?_
                      refine r_iload hE dX6_setsThatMeet_260 rfl ?_
                      refine t_ialdN (e := t - 1) hE y_A_157 dX6_setsThatMeet_262 (hL 157 (by decide)) (by omega) (by decide) ?_
                      refine r_top (y := (f (t - 1))) rfl ?_
                      refine r_iload hE dX6_setsThatMeet_263 rfl ?_
                      refine r_iand hE dX6_setsThatMeet_265 ?_
                      refine r_goto (tgt := 279) hE dX6_setsThatMeet_266 (by decide) ?_
                      refine t_iastN (e := t - 1) hE y_A_157 dX6_setsThatMeet_279 (hL 157 (by decide)) (by omega) (by decide) ?_
                      refine r_goto (tgt := 390) hE dX6_setsThatMeet_280 (by decide) ?_
                      refine r_iincN (a := i) (b := 1) (ls2 := [(0, .ref 152), (1, .ref w), (2, .int (nI x)), (3, .int hl), (4, .int a), (5, .int b), (6, .int c), (7, .int (nI (t - 1))), (8, .ref s), (9, .int (nI len)), (10, .int (nI (i + 1))), (11, .int (nI z)), (12, .int (nI (z / 1024))), (13, .int (nI (z % 1024))), (14, .int (f (t - 1 + 1)))]) hE dX6_setsThatMeet_390 rfl rfl (by decide) rfl ?_
                      refine r_goto (tgt := 41) hE dX6_setsThatMeet_393 (by decide) ?_
                      rw [y_si_com (by decide), y_si_sw]
                      have e9 : y_mf D (D s).1 x hl (i + 1) = (a, b, t - 1, (upd f (t - 1) ((f (t - 1)) &&& (f (t - 1 + 1))))) := by
                        show y_ms D x hl (y_mf D (D s).1 x hl i) _ = _
                        rw [hg, hz, nI_clamp (by omega)]
                        unfold y_ms
                        dsimp only
                        repeat first | rw [if_pos (by first | assumption | omega)] | rw [if_neg (by first | assumption | omega)]
                        all_goals (exfalso; omega)
                      have e10 : ∀ d, x + d < U → y_mf D (D s).1 (x + d) hl (i + 1) = (a + c * nI d, b, t - 1, (upd f (t - 1) ((f (t - 1)) &&& (f (t - 1 + 1))))) := by
                        intro d hd
                        show y_ms D (x + d) hl (y_mf D (D s).1 (x + d) hl i) _ = _
                        rw [hz9 d (by omega), hz, nI_clamp (by omega)]
                        unfold y_ms
                        dsimp only
                        repeat first | rw [if_pos (by first | assumption | omega)] | rw [if_neg (by first | assumption | omega)]
                        all_goals first | rfl | (exfalso; omega) | (refine Prod.ext ?_ rfl; dsimp only; grind)
                      refine r_locs hE (ls2 := [(0, .ref 152), (1, .ref w), (2, .int (nI x)), (3, .int hl), (4, .int a), (5, .int b), (6, .int c), (7, .int (nI (t - 1))), (8, .ref s), (9, .int (nI len)), (10, .int (nI (i + 1)))]) ?_ (ih (len - (i + 1)) (by omega) (i + 1) _ _ _ _ _ U rfl e9 e10 (y_bd_up ba (by omega)) (y_bd_up bb (by omega)) (y_bd_up bc (by omega)) hxU hU (by omega) (by omega))
                      simp [x_lk]
                  · refine r_iload hE dX6_setsThatMeet_215 rfl ?_
                    refine r_bipush (v := 20) hE dX6_setsThatMeet_217 (by decide) ?_
                    refine r_icmp_neN (a := z / 1024) (b := 20) (tgt := 283) hE dX6_setsThatMeet_219 (by decide) (by omega) (by decide) (fun c219 => ?_) (fun c219 => ?_)
                    · refine r_iload hE dX6_setsThatMeet_283 rfl ?_
                      refine r_bipush (v := 24) hE dX6_setsThatMeet_285 (by decide) ?_
                      refine r_icmp_neN (a := z / 1024) (b := 24) (tgt := 321) hE dX6_setsThatMeet_287 (by decide) (by omega) (by decide) (fun c287 => ?_) (fun c287 => ?_)
                      · refine r_iload hE dX6_setsThatMeet_321 rfl ?_
                        refine t_invs (r := (some (.int (y_b (23 ≤ z / 1024 ∧ z / 1024 ≤ 28))))) (S2 := (y_mk n L (y_si (y_sw D 157 f) 152 8 (nI U)))) hE [.int (nI (z / 1024))] (k_isTagN (by omega)) s_yX6_isTag m_X6_89 dX6_setsThatMeet_323 rfl (by decide) ⟨Nat.le_refl _, Nat.le_refl _⟩ (Nat.le_of_ble_eq_true rfl) ?_
                        show E 0 0 326 [(0, .ref 152), (1, .ref w), (2, .int (nI x)), (3, .int hl), (4, .int a), (5, .int b), (6, .int c), (7, .int (nI t)), (8, .ref s), (9, .int (nI len)), (10, .int (nI i)), (11, .int (nI z)), (12, .int (nI (z / 1024))), (13, .int (nI (z % 1024)))] [.int (y_b (23 ≤ z / 1024 ∧ z / 1024 ≤ 28))] (y_mk n L (y_si (y_sw D 157 f) 152 8 (nI U)))
                        refine r_ifb_eq (tgt := 359) hE dX6_setsThatMeet_326 (by decide) (fun c326 => ?_) (fun c326 => ?_)
                        · refine r_iload hE dX6_setsThatMeet_359 rfl ?_
                          refine r_aload_n hE dX6_setsThatMeet_361 rfl ?_
                          refine r_iload hE dX6_setsThatMeet_362 rfl ?_
                          refine r_iload hE dX6_setsThatMeet_364 rfl ?_
                          refine r_iload_n hE dX6_setsThatMeet_366 rfl ?_
                          refine t_invv (r := (some (.int (K_partOf (y_si (y_sw D 157 f) 152 8 (nI U)) (nI (z / 1024)) (z % 1024) (nI x))))) (S2 := (y_mk n L (y_si (y_sw D 157 f) 152 8 (nI U)))) hE [.int (nI (z / 1024)), .int (nI (z % 1024)), .int (nI x)] (k_partOf (D := y_si (y_sw D 157 f) 152 8 (nI U)) (p := nI (z / 1024)) (q := z % 1024) (x := nI x) hL (fun h => hz4 (by
        rcases h with h | h
        · exact Or.inl ((nI_eq (b := 31) (by omega) (by decide)).mp h)
        · exact Or.inr (Or.inl ((nI_eq (b := 32) (by omega) (by decide)).mp h))))) v_yX6_partOf m_X6_97 dX6_setsThatMeet_367 rfl (hL 152 (by decide)) (y_l_152 ((y_si (y_sw D 157 f) 152 8 (nI U)) 152)) rfl (by decide) ⟨Nat.le_refl _, Nat.le_refl _⟩ (Nat.le_of_ble_eq_true rfl) ?_
                          show E 0 0 370 [(0, .ref 152), (1, .ref w), (2, .int (nI x)), (3, .int hl), (4, .int a), (5, .int b), (6, .int c), (7, .int (nI t)), (8, .ref s), (9, .int (nI len)), (10, .int (nI i)), (11, .int (nI z)), (12, .int (nI (z / 1024))), (13, .int (nI (z % 1024)))] [.int (K_partOf (y_si (y_sw D 157 f) 152 8 (nI U)) (nI (z / 1024)) (z % 1024) (nI x)), .int a] (y_mk n L (y_si (y_sw D 157 f) 152 8 (nI U)))
                          refine r_top (y := (K_partOf D (nI (z / 1024)) (z % 1024) (nI x))) (by rw [K_partOf_su]) ?_
                          refine r_iadd hE dX6_setsThatMeet_370 ?_
                          refine r_istore (ls2 := [(0, .ref 152), (1, .ref w), (2, .int (nI x)), (3, .int hl), (4, .int (a + (K_partOf D (nI (z / 1024)) (z % 1024) (nI x)))), (5, .int b), (6, .int c), (7, .int (nI t)), (8, .ref s), (9, .int (nI len)), (10, .int (nI i)), (11, .int (nI z)), (12, .int (nI (z / 1024))), (13, .int (nI (z % 1024)))]) hE dX6_setsThatMeet_371 (by decide) rfl ?_
                          refine r_iload hE dX6_setsThatMeet_373 rfl ?_
                          refine r_iload hE dX6_setsThatMeet_375 rfl ?_
                          refine r_bipush (v := 29) hE dX6_setsThatMeet_377 (by decide) ?_
                          refine r_icmp_neN (a := z / 1024) (b := 29) (tgt := 386) hE dX6_setsThatMeet_379 (by decide) (by omega) (by decide) (fun c379 => ?_) (fun c379 => ?_)
                          · refine r_iconst (v := 0) hE dX6_setsThatMeet_386 (by decide) ?_
                            refine r_iadd hE dX6_setsThatMeet_387 ?_
                            refine r_istore (ls2 := [(0, .ref 152), (1, .ref w), (2, .int (nI x)), (3, .int hl), (4, .int (a + (K_partOf D (nI (z / 1024)) (z % 1024) (nI x)))), (5, .int b), (6, .int (c + 0)), (7, .int (nI t)), (8, .ref s), (9, .int (nI len)), (10, .int (nI i)), (11, .int (nI z)), (12, .int (nI (z / 1024))), (13, .int (nI (z % 1024)))]) hE dX6_setsThatMeet_388 (by decide) rfl ?_
                            refine r_iincN (a := i) (b := 1) (ls2 := [(0, .ref 152), (1, .ref w), (2, .int (nI x)), (3, .int hl), (4, .int (a + (K_partOf D (nI (z / 1024)) (z % 1024) (nI x)))), (5, .int b), (6, .int (c + 0)), (7, .int (nI t)), (8, .ref s), (9, .int (nI len)), (10, .int (nI (i + 1))), (11, .int (nI z)), (12, .int (nI (z / 1024))), (13, .int (nI (z % 1024)))]) hE dX6_setsThatMeet_390 rfl rfl (by decide) rfl ?_
                            refine r_goto (tgt := 41) hE dX6_setsThatMeet_393 (by decide) ?_
                            have e9 : y_mf D (D s).1 x hl (i + 1) = (a + (K_partOf D (nI (z / 1024)) (z % 1024) (nI x)), b, t, f) := by
                              show y_ms D x hl (y_mf D (D s).1 x hl i) _ = _
                              rw [hg, hz, nI_clamp (by omega)]
                              unfold y_ms
                              dsimp only
                              repeat first | rw [if_pos (by first | assumption | omega)] | rw [if_neg (by first | assumption | omega)]
                              all_goals (exfalso; omega)
                            have e10 : ∀ d, x + d < U → y_mf D (D s).1 (x + d) hl (i + 1) = (a + (K_partOf D (nI (z / 1024)) (z % 1024) (nI x)) + (c + 0) * nI d, b, t, f) := by
                              intro d hd
                              show y_ms D (x + d) hl (y_mf D (D s).1 (x + d) hl i) _ = _
                              rw [hz9 d (by omega), hz, nI_clamp (by omega)]
                              unfold y_ms
                              dsimp only
                              repeat first | rw [if_pos (by first | assumption | omega)] | rw [if_neg (by first | assumption | omega)]
                              first
                              | (exfalso; omega)
                              | (rw [y_part_s c379, y_part_s c379, ← nI_add]; refine Prod.ext ?_ rfl; dsimp only; grind)
                              | (rw [y_part_x hz2 c379]; refine Prod.ext ?_ rfl; dsimp only; grind)
                            refine r_locs hE (ls2 := [(0, .ref 152), (1, .ref w), (2, .int (nI x)), (3, .int hl), (4, .int (a + (K_partOf D (nI (z / 1024)) (z % 1024) (nI x)))), (5, .int b), (6, .int (c + 0)), (7, .int (nI t)), (8, .ref s), (9, .int (nI len)), (10, .int (nI (i + 1)))]) ?_ (ih (len - (i + 1)) (by omega) (i + 1) _ _ _ _ _ U rfl e9 e10 (y_bd_up (y_bd_add ba (y_bd_part h154 h156 (fun h => hz4 (by omega)) hx hz2) (by omega)).2 (by omega)) (y_bd_up bb (by omega)) (y_bd_up (y_bd_add bc (y_bd_0 (B := 0)) (by omega)).2 (by omega)) hxU hU (by omega) (by omega))
                            simp [x_lk]
                          · refine r_iconst (v := 1) hE dX6_setsThatMeet_382 (by decide) ?_
                            refine r_goto (tgt := 387) hE dX6_setsThatMeet_383 (by decide) ?_
                            refine r_iadd hE dX6_setsThatMeet_387 ?_
                            refine r_istore (ls2 := [(0, .ref 152), (1, .ref w), (2, .int (nI x)), (3, .int hl), (4, .int (a + (K_partOf D (nI (z / 1024)) (z % 1024) (nI x)))), (5, .int b), (6, .int (c + 1)), (7, .int (nI t)), (8, .ref s), (9, .int (nI len)), (10, .int (nI i)), (11, .int (nI z)), (12, .int (nI (z / 1024))), (13, .int (nI (z % 1024)))]) hE dX6_setsThatMeet_388 (by decide) rfl ?_
                            refine r_iincN (a := i) (b := 1) (ls2 := [(0, .ref 152), (1, .ref w), (2, .int (nI x)), (3, .int hl), (4, .int (a + (K_partOf D (nI (z / 1024)) (z % 1024) (nI x)))), (5, .int b), (6, .int (c + 1)), (7, .int (nI t)), (8, .ref s), (9, .int (nI len)), (10, .int (nI (i + 1))), (11, .int (nI z)), (12, .int (nI (z / 1024))), (13, .int (nI (z % 1024)))]) hE dX6_setsThatMeet_390 rfl rfl (by decide) rfl ?_
                            refine r_goto (tgt := 41) hE dX6_setsThatMeet_393 (by decide) ?_
                            have e9 : y_mf D (D s).1 x hl (i + 1) = (a + (K_partOf D (nI (z / 1024)) (z % 1024) (nI x)), b, t, f) := by
                              show y_ms D x hl (y_mf D (D s).1 x hl i) _ = _
                              rw [hg, hz, nI_clamp (by omega)]
                              unfold y_ms
                              dsimp only
                              repeat first | rw [if_pos (by first | assumption | omega)] | rw [if_neg (by first | assumption | omega)]
                              all_goals (exfalso; omega)
                            have e10 : ∀ d, x + d < U → y_mf D (D s).1 (x + d) hl (i + 1) = (a + (K_partOf D (nI (z / 1024)) (z % 1024) (nI x)) + (c + 1) * nI d, b, t, f) := by
                              intro d hd
                              show y_ms D (x + d) hl (y_mf D (D s).1 (x + d) hl i) _ = _
                              rw [hz9 d (by omega), hz, nI_clamp (by omega)]
                              unfold y_ms
                              dsimp only
                              repeat first | rw [if_pos (by first | assumption | omega)] | rw [if_neg (by first | assumption | omega)]
                              first
                              | (exfalso; omega)
                              | (rw [y_part_s c379, y_part_s c379, ← nI_add]; refine Prod.ext ?_ rfl; dsimp only; grind)
                              | (rw [y_part_x hz2 c379]; refine Prod.ext ?_ rfl; dsimp only; grind)
                            refine r_locs hE (ls2 := [(0, .ref 152), (1, .ref w), (2, .int (nI x)), (3, .int hl), (4, .int (a + (K_partOf D (nI (z / 1024)) (z % 1024) (nI x)))), (5, .int b), (6, .int (c + 1)), (7, .int (nI t)), (8, .ref s), (9, .int (nI len)), (10, .int (nI (i + 1)))]) ?_ (ih (len - (i + 1)) (by omega) (i + 1) _ _ _ _ _ U rfl e9 e10 (y_bd_up (y_bd_add ba (y_bd_part h154 h156 (fun h => hz4 (by omega)) hx hz2) (by omega)).2 (by omega)) (y_bd_up bb (by omega)) (y_bd_up (y_bd_add bc (y_bd_n (a := 1) (B := 1) (by decide) (by decide)) (by omega)).2 (by omega)) hxU hU (by omega) (by omega))
                            simp [x_lk]
                        · refine r_iload hE dX6_setsThatMeet_329 rfl ?_
                          refine r_iconst (v := 1) hE dX6_setsThatMeet_331 (by decide) ?_
                          refine r_iaddN (a := t) (b := 1) hE dX6_setsThatMeet_332 ?_
                          refine r_bipush (v := 23) hE dX6_setsThatMeet_333 (by decide) ?_
                          refine r_mmin hE m_X6_77 dX6_setsThatMeet_335 (by decide) (Nat.le_of_ble_eq_true rfl) ⟨Nat.le_refl _, Nat.le_refl _⟩ ?_
                          refine r_top (y := (nI (min (t + 1) 23))) (y_min23 t (by omega)) ?_
                          refine r_istore (ls2 := [(0, .ref 152), (1, .ref w), (2, .int (nI x)), (3, .int hl), (4, .int a), (5, .int b), (6, .int c), (7, .int (nI (min (t + 1) 23))), (8, .ref s), (9, .int (nI len)), (10, .int (nI i)), (11, .int (nI z)), (12, .int (nI (z / 1024))), (13, .int (nI (z % 1024)))]) hE dX6_setsThatMeet_338 (by decide) rfl ?_
                          refine r_aload_n hE dX6_setsThatMeet_340 rfl ?_
                          refine t_getr hE f_X6_24 y_R_152_7 dX6_setsThatMeet_341 (hL 152 (by decide)) ?_
                          refine r_iload hE dX6_setsThatMeet_344 rfl ?_
                          refine r_aload_n hE dX6_setsThatMeet_346 rfl ?_
                          refine r_iload hE dX6_setsThatMeet_347 rfl ?_
                          refine r_iload hE dX6_setsThatMeet_349 rfl ?_
                          refine r_iload_n hE dX6_setsThatMeet_351 rfl ?_
                          refine t_invvRi hE [.int (nI (z / 1024)), .int (nI (z % 1024)), .int (nI x)] (k_setsOfTag (p := nI (z / 1024)) (q := z % 1024) (x := x) (U0 := U) hV hL (hz4 (Or.inr (Or.inr c326))) rfl hxU hU) v_yX6_setsOfTag m_X6_93 dX6_setsThatMeet_352 rfl (hL 152 (by decide)) (y_l_152 ((y_si (y_sw D 157 f) 152 8 (nI U)) 152)) rfl (by decide) ⟨Nat.le_refl _, Nat.le_refl _⟩ (Nat.le_of_ble_eq_true rfl) (fun r352 D352 q352 => ?_)
                          obtain ⟨rfl, U2, hU3, hU4, rfl, htg⟩ := q352
                          rw [y_si_si, K_tag_su]
                          rw [K_tag_su] at htg
                          show E 0 0 355 [(0, .ref 152), (1, .ref w), (2, .int (nI x)), (3, .int hl), (4, .int a), (5, .int b), (6, .int c), (7, .int (nI (min (t + 1) 23))), (8, .ref s), (9, .int (nI len)), (10, .int (nI i)), (11, .int (nI z)), (12, .int (nI (z / 1024))), (13, .int (nI (z % 1024)))] [.int (K_tag D (nI (z / 1024)) (z % 1024) x), .int (nI (min (t + 1) 23)), .ref 157] (y_mk n L (y_si (y_sw D 157 f) 152 8 (nI U2)))
                          refine t_iastN (e := min (t + 1) 23) hE y_A_157 dX6_setsThatMeet_355 (hL 157 (by decide)) (by omega) (by decide) ?_
                          refine r_goto (tgt := 390) hE dX6_setsThatMeet_356 (by decide) ?_
                          refine r_iincN (a := i) (b := 1) (ls2 := [(0, .ref 152), (1, .ref w), (2, .int (nI x)), (3, .int hl), (4, .int a), (5, .int b), (6, .int c), (7, .int (nI (min (t + 1) 23))), (8, .ref s), (9, .int (nI len)), (10, .int (nI (i + 1))), (11, .int (nI z)), (12, .int (nI (z / 1024))), (13, .int (nI (z % 1024)))]) hE dX6_setsThatMeet_390 rfl rfl (by decide) rfl ?_
                          refine r_goto (tgt := 41) hE dX6_setsThatMeet_393 (by decide) ?_
                          rw [y_si_com (by decide), y_si_sw]
                          have e9 : y_mf D (D s).1 x hl (i + 1) = (a, b, min (t + 1) 23, (upd f (min (t + 1) 23) (K_tag D (nI (z / 1024)) (z % 1024) x))) := by
                            show y_ms D x hl (y_mf D (D s).1 x hl i) _ = _
                            rw [hg, hz, nI_clamp (by omega)]
                            unfold y_ms
                            dsimp only
                            repeat first | rw [if_pos (by first | assumption | omega)] | rw [if_neg (by first | assumption | omega)]
                            all_goals (exfalso; omega)
                          have e10 : ∀ d, x + d < U2 → y_mf D (D s).1 (x + d) hl (i + 1) = (a + c * nI d, b, min (t + 1) 23, (upd f (min (t + 1) 23) (K_tag D (nI (z / 1024)) (z % 1024) x))) := by
                            intro d hd
                            show y_ms D (x + d) hl (y_mf D (D s).1 (x + d) hl i) _ = _
                            rw [hz9 d (by omega), hz, nI_clamp (by omega)]
                            unfold y_ms
                            dsimp only
                            repeat first | rw [if_pos (by first | assumption | omega)] | rw [if_neg (by first | assumption | omega)]
                            rw [htg d hd]
                            all_goals first | rfl | (exfalso; omega)
                          refine r_locs hE (ls2 := [(0, .ref 152), (1, .ref w), (2, .int (nI x)), (3, .int hl), (4, .int a), (5, .int b), (6, .int c), (7, .int (nI (min (t + 1) 23))), (8, .ref s), (9, .int (nI len)), (10, .int (nI (i + 1)))]) ?_ (ih (len - (i + 1)) (by omega) (i + 1) _ _ _ _ _ U2 rfl e9 e10 (y_bd_up ba (by omega)) (y_bd_up bb (by omega)) (y_bd_up bc (by omega)) hU3 (by omega) (by omega) (by omega))
                          simp [x_lk]
                      · refine r_iload hE dX6_setsThatMeet_290 rfl ?_
                        refine r_iconst (v := 1) hE dX6_setsThatMeet_292 (by decide) ?_
                        refine r_iaddN (a := t) (b := 1) hE dX6_setsThatMeet_293 ?_
                        refine r_bipush (v := 23) hE dX6_setsThatMeet_294 (by decide) ?_
                        refine r_mmin hE m_X6_77 dX6_setsThatMeet_296 (by decide) (Nat.le_of_ble_eq_true rfl) ⟨Nat.le_refl _, Nat.le_refl _⟩ ?_
                        refine r_top (y := (nI (min (t + 1) 23))) (y_min23 t (by omega)) ?_
                        refine r_istore (ls2 := [(0, .ref 152), (1, .ref w), (2, .int (nI x)), (3, .int hl), (4, .int a), (5, .int b), (6, .int c), (7, .int (nI (min (t + 1) 23))), (8, .ref s), (9, .int (nI len)), (10, .int (nI i)), (11, .int (nI z)), (12, .int (nI (z / 1024))), (13, .int (nI (z % 1024)))]) hE dX6_setsThatMeet_299 (by decide) rfl ?_
                        refine r_aload_n hE dX6_setsThatMeet_301 rfl ?_
                        refine t_getr hE f_X6_24 y_R_152_7 dX6_setsThatMeet_302 (hL 152 (by decide)) ?_
                        refine r_iload hE dX6_setsThatMeet_305 rfl ?_
                        refine r_iload_n hE dX6_setsThatMeet_307 rfl ?_
                        refine r_if_eq (tgt := 316) hE dX6_setsThatMeet_308 (by decide) (fun c308 => ?_) (fun c308 => ?_)
                        · refine r_iconst (v := 0) hE dX6_setsThatMeet_316 (by decide) ?_
                          refine t_iastN (e := min (t + 1) 23) hE y_A_157 dX6_setsThatMeet_317 (hL 157 (by decide)) (by omega) (by decide) ?_
                          refine r_goto (tgt := 390) hE dX6_setsThatMeet_318 (by decide) ?_
                          refine r_iincN (a := i) (b := 1) (ls2 := [(0, .ref 152), (1, .ref w), (2, .int (nI x)), (3, .int hl), (4, .int a), (5, .int b), (6, .int c), (7, .int (nI (min (t + 1) 23))), (8, .ref s), (9, .int (nI len)), (10, .int (nI (i + 1))), (11, .int (nI z)), (12, .int (nI (z / 1024))), (13, .int (nI (z % 1024)))]) hE dX6_setsThatMeet_390 rfl rfl (by decide) rfl ?_
                          refine r_goto (tgt := 41) hE dX6_setsThatMeet_393 (by decide) ?_
                          rw [y_si_com (by decide), y_si_sw]
                          have e9 : y_mf D (D s).1 x hl (i + 1) = (a, b, min (t + 1) 23, (upd f (min (t + 1) 23) 0)) := by
                            show y_ms D x hl (y_mf D (D s).1 x hl i) _ = _
                            rw [hg, hz, nI_clamp (by omega)]
                            unfold y_ms
                            dsimp only
                            repeat first | rw [if_pos (by first | assumption | omega)] | rw [if_neg (by first | assumption | omega)]
                            all_goals (exfalso; omega)
                          have e10 : ∀ d, x + d < U → y_mf D (D s).1 (x + d) hl (i + 1) = (a + c * nI d, b, min (t + 1) 23, (upd f (min (t + 1) 23) 0)) := by
                            intro d hd
                            show y_ms D (x + d) hl (y_mf D (D s).1 (x + d) hl i) _ = _
                            rw [hz9 d (by omega), hz, nI_clamp (by omega)]
                            unfold y_ms
                            dsimp only
                            repeat first | rw [if_pos (by first | assumption | omega)] | rw [if_neg (by first | assumption | omega)]
                            all_goals first | rfl | (exfalso; omega) | (refine Prod.ext ?_ rfl; dsimp only; grind)
                          refine r_locs hE (ls2 := [(0, .ref 152), (1, .ref w), (2, .int (nI x)), (3, .int hl), (4, .int a), (5, .int b), (6, .int c), (7, .int (nI (min (t + 1) 23))), (8, .ref s), (9, .int (nI len)), (10, .int (nI (i + 1)))]) ?_ (ih (len - (i + 1)) (by omega) (i + 1) _ _ _ _ _ U rfl e9 e10 (y_bd_up ba (by omega)) (y_bd_up bb (by omega)) (y_bd_up bc (by omega)) hxU hU (by omega) (by omega))
                          simp [x_lk]
                        · refine r_ldc (v := 65535) hE dX6_setsThatMeet_311 (x_gin (List.mem_append_right _ (tb_4 _ (List.mem_of_getElem? (i := 174) rfl))) rfl) ?_
                          refine r_goto (tgt := 317) hE dX6_setsThatMeet_313 (by decide) ?_
                          refine t_iastN (e := min (t + 1) 23) hE y_A_157 dX6_setsThatMeet_317 (hL 157 (by decide)) (by omega) (by decide) ?_
                          refine r_goto (tgt := 390) hE dX6_setsThatMeet_318 (by decide) ?_
                          refine r_iincN (a := i) (b := 1) (ls2 := [(0, .ref 152), (1, .ref w), (2, .int (nI x)), (3, .int hl), (4, .int a), (5, .int b), (6, .int c), (7, .int (nI (min (t + 1) 23))), (8, .ref s), (9, .int (nI len)), (10, .int (nI (i + 1))), (11, .int (nI z)), (12, .int (nI (z / 1024))), (13, .int (nI (z % 1024)))]) hE dX6_setsThatMeet_390 rfl rfl (by decide) rfl ?_
                          refine r_goto (tgt := 41) hE dX6_setsThatMeet_393 (by decide) ?_
                          rw [y_si_com (by decide), y_si_sw]
                          have e9 : y_mf D (D s).1 x hl (i + 1) = (a, b, min (t + 1) 23, (upd f (min (t + 1) 23) 65535)) := by
                            show y_ms D x hl (y_mf D (D s).1 x hl i) _ = _
                            rw [hg, hz, nI_clamp (by omega)]
                            unfold y_ms
                            dsimp only
                            repeat first | rw [if_pos (by first | assumption | omega)] | rw [if_neg (by first | assumption | omega)]
                            all_goals (exfalso; omega)
                          have e10 : ∀ d, x + d < U → y_mf D (D s).1 (x + d) hl (i + 1) = (a + c * nI d, b, min (t + 1) 23, (upd f (min (t + 1) 23) 65535)) := by
                            intro d hd
                            show y_ms D (x + d) hl (y_mf D (D s).1 (x + d) hl i) _ = _
                            rw [hz9 d (by omega), hz, nI_clamp (by omega)]
                            unfold y_ms
                            dsimp only
                            repeat first | rw [if_pos (by first | assumption | omega)] | rw [if_neg (by first | assumption | omega)]
                            all_goals first | rfl | (exfalso; omega) | (refine Prod.ext ?_ rfl; dsimp only; grind)
                          refine r_locs hE (ls2 := [(0, .ref 152), (1, .ref w), (2, .int (nI x)), (3, .int hl), (4, .int a), (5, .int b), (6, .int c), (7, .int (nI (min (t + 1) 23))), (8, .ref s), (9, .int (nI len)), (10, .int (nI (i + 1)))]) ?_ (ih (len - (i + 1)) (by omega) (i + 1) _ _ _ _ _ U rfl e9 e10 (y_bd_up ba (by omega)) (y_bd_up bb (by omega)) (y_bd_up bc (by omega)) hxU hU (by omega) (by omega))
                          simp [x_lk]
                    · refine r_iload hE dX6_setsThatMeet_222 rfl ?_
                      refine r_iconst (v := 1) hE dX6_setsThatMeet_224 (by decide) ?_
                      refine r_isub hE dX6_setsThatMeet_225 ?_
                      refine r_iconst (v := 0) hE dX6_setsThatMeet_226 (by decide) ?_
                      refine r_mmax hE m_X6_86 dX6_setsThatMeet_227 (by decide) (Nat.le_of_ble_eq_true rfl) ⟨Nat.le_refl _, Nat.le_refl _⟩ ?_
                      refine r_top (y := (nI (t - 1))) (y_max0 t (by omega)) ?_
                      refine r_istore (ls2 := [(0, .ref 152), (1, .ref w), (2, .int (nI x)), (3, .int hl), (4, .int a), (5, .int b), (6, .int c), (7, .int (nI (t - 1))), (8, .ref s), (9, .int (nI len)), (10, .int (nI i)), (11, .int (nI z)), (12, .int (nI (z / 1024))), (13, .int (nI (z % 1024)))]) hE dX6_setsThatMeet_230 (by decide) rfl ?_
                      refine r_aload_n hE dX6_setsThatMeet_232 rfl ?_
                      refine t_getr hE f_X6_24 y_R_152_7 dX6_setsThatMeet_233 (hL 152 (by decide)) ?_
                      refine r_iload hE dX6_setsThatMeet_236 rfl ?_
                      refine r_iconst (v := 1) hE dX6_setsThatMeet_238 (by decide) ?_
                      refine r_iaddN (a := t - 1) (b := 1) hE dX6_setsThatMeet_239 ?_
                      refine t_ialdN (e := (t - 1) + 1) hE y_A_157 dX6_setsThatMeet_240 (hL 157 (by decide)) (by omega) (by decide) ?_
                      refine r_top (y := (f (t - 1 + 1))) rfl ?_
                      refine r_istore (ls2 := [(0, .ref 152), (1, .ref w), (2, .int (nI x)), (3, .int hl), (4, .int a), (5, .int b), (6, .int c), (7, .int (nI (t - 1))), (8, .ref s), (9, .int (nI len)), (10, .int (nI i)), (11, .int (nI z)), (12, .int (nI (z / 1024))), (13, .int (nI (z % 1024))), (14, .int (f (t - 1 + 1)))]) hE dX6_setsThatMeet_241 (by decide) rfl ?_
                      refine r_aload_n hE dX6_setsThatMeet_243 rfl ?_
                      refine t_getr hE f_X6_24 y_R_152_7 dX6_setsThatMeet_244 (hL 152 (by decide)) ?_
                      refine r_iload hE dX6_setsThatMeet_247 rfl ?_
                      refine r_iload hE dX6_setsThatMeet_249 rfl ?_
                      refine r_bipush (v := 21) hE dX6_setsThatMeet_251 (by decide) ?_
                      refine r_icmp_neN (a := z / 1024) (b := 21) (tgt := 269) hE dX6_setsThatMeet_253 (by decide) (by omega) (by decide) (fun c253 => ?_) (fun c253 => ?_)
                      · refine r_aload_n hE dX6_setsThatMeet_269 rfl ?_
                        refine t_getr hE f_X6_24 y_R_152_7 dX6_setsThatMeet_270 (hL 152 (by decide)) ?_
                        refine r_iload hE dX6_setsThatMeet_273 rfl ?_
                        refine t_ialdN (e := t - 1) hE y_A_157 dX6_setsThatMeet_275 (hL 157 (by decide)) (by omega) (by decide) ?_
                        refine r_top (y := (f (t - 1))) rfl ?_
                        refine r_iload hE dX6_setsThatMeet_276 rfl ?_
                        refine r_ior hE dX6_setsThatMeet_278 ?_
                        refine t_iastN (e := t - 1) hE y_A_157 dX6_setsThatMeet_279 (hL 157 (by decide)) (by omega) (by decide) ?_
                        refine r_goto (tgt := 390) hE dX6_setsThatMeet_280 (by decide) ?_
                        refine r_iincN (a := i) (b := 1) (ls2 := [(0, .ref 152), (1, .ref w), (2, .int (nI x)), (3, .int hl), (4, .int a), (5, .int b), (6, .int c), (7, .int (nI (t - 1))), (8, .ref s), (9, .int (nI len)), (10, .int (nI (i + 1))), (11, .int (nI z)), (12, .int (nI (z / 1024))), (13, .int (nI (z % 1024))), (14, .int (f (t - 1 + 1)))]) hE dX6_setsThatMeet_390 rfl rfl (by decide) rfl ?_
                        refine r_goto (tgt := 41) hE dX6_setsThatMeet_393 (by decide) ?_
                        rw [y_si_com (by decide), y_si_sw]
                        have e9 : y_mf D (D s).1 x hl (i + 1) = (a, b, t - 1, (upd f (t - 1) ((f (t - 1)) ||| (f (t - 1 + 1))))) := by
                          show y_ms D x hl (y_mf D (D s).1 x hl i) _ = _
                          rw [hg, hz, nI_clamp (by omega)]
                          unfold y_ms
                          dsimp only
                          repeat first | rw [if_pos (by first | assumption | omega)] | rw [if_neg (by first | assumption | omega)]
                          all_goals (exfalso; omega)
                        have e10 : ∀ d, x + d < U → y_mf D (D s).1 (x + d) hl (i + 1) = (a + c * nI d, b, t - 1, (upd f (t - 1) ((f (t - 1)) ||| (f (t - 1 + 1))))) := by
                          intro d hd
                          show y_ms D (x + d) hl (y_mf D (D s).1 (x + d) hl i) _ = _
                          rw [hz9 d (by omega), hz, nI_clamp (by omega)]
                          unfold y_ms
                          dsimp only
                          repeat first | rw [if_pos (by first | assumption | omega)] | rw [if_neg (by first | assumption | omega)]
                          all_goals first | rfl | (exfalso; omega) | (refine Prod.ext ?_ rfl; dsimp only; grind)
                        refine r_locs hE (ls2 := [(0, .ref 152), (1, .ref w), (2, .int (nI x)), (3, .int hl), (4, .int a), (5, .int b), (6, .int c), (7, .int (nI (t - 1))), (8, .ref s), (9, .int (nI len)), (10, .int (nI (i + 1)))]) ?_ (ih (len - (i + 1)) (by omega) (i + 1) _ _ _ _ _ U rfl e9 e10 (y_bd_up ba (by omega)) (y_bd_up bb (by omega)) (y_bd_up bc (by omega)) hxU hU (by omega) (by omega))
                        simp [x_lk]
                      · refine r_aload_n hE dX6_setsThatMeet_256 rfl ?_
                        refine t_getr hE f_X6_24 y_R_152_7 dX6_setsThatMeet_257 (hL 152 (by decide)) ?_
                        refine r_iload hE dX6_setsThatMeet_260 rfl ?_
                        refine t_ialdN (e := t - 1) hE y_A_157 dX6_setsThatMeet_262 (hL 157 (by decide)) (by omega) (by decide) ?_
                        refine r_top (y := (f (t - 1))) rfl ?_
                        refine r_iload hE dX6_setsThatMeet_263 rfl ?_
                        refine r_iand hE dX6_setsThatMeet_265 ?_
                        refine r_goto (tgt := 279) hE dX6_setsThatMeet_266 (by decide) ?_
                        refine t_iastN (e := t - 1) hE y_A_157 dX6_setsThatMeet_279 (hL 157 (by decide)) (by omega) (by decide) ?_
                        refine r_goto (tgt := 390) hE dX6_setsThatMeet_280 (by decide) ?_
                        refine r_iincN (a := i) (b := 1) (ls2 := [(0, .ref 152), (1, .ref w), (2, .int (nI x)), (3, .int hl), (4, .int a), (5, .int b), (6, .int c), (7, .int (nI (t - 1))), (8, .ref s), (9, .int (nI len)), (10, .int (nI (i + 1))), (11, .int (nI z)), (12, .int (nI (z / 1024))), (13, .int (nI (z % 1024))), (14, .int (f (t - 1 + 1)))]) hE dX6_setsThatMeet_390 rfl rfl (by decide) rfl ?_
                        refine r_goto (tgt := 41) hE dX6_setsThatMeet_393 (by decide) ?_
                        rw [y_si_com (by decide), y_si_sw]
                        have e9 : y_mf D (D s).1 x hl (i + 1) = (a, b, t - 1, (upd f (t - 1) ((f (t - 1)) &&& (f (t - 1 + 1))))) := by
                          show y_ms D x hl (y_mf D (D s).1 x hl i) _ = _
                          rw [hg, hz, nI_clamp (by omega)]
                          unfold y_ms
                          dsimp only
                          repeat first | rw [if_pos (by first | assumption | omega)] | rw [if_neg (by first | assumption | omega)]
                          all_goals (exfalso; omega)
                        have e10 : ∀ d, x + d < U → y_mf D (D s).1 (x + d) hl (i + 1) = (a + c * nI d, b, t - 1, (upd f (t - 1) ((f (t - 1)) &&& (f (t - 1 + 1))))) := by
                          intro d hd
                          show y_ms D (x + d) hl (y_mf D (D s).1 (x + d) hl i) _ = _
                          rw [hz9 d (by omega), hz, nI_clamp (by omega)]
                          unfold y_ms
                          dsimp only
                          repeat first | rw [if_pos (by first | assumption | omega)] | rw [if_neg (by first | assumption | omega)]
                          all_goals first | rfl | (exfalso; omega) | (refine Prod.ext ?_ rfl; dsimp only; grind)
                        refine r_locs hE (ls2 := [(0, .ref 152), (1, .ref w), (2, .int (nI x)), (3, .int hl), (4, .int a), (5, .int b), (6, .int c), (7, .int (nI (t - 1))), (8, .ref s), (9, .int (nI len)), (10, .int (nI (i + 1)))]) ?_ (ih (len - (i + 1)) (by omega) (i + 1) _ _ _ _ _ U rfl e9 e10 (y_bd_up ba (by omega)) (y_bd_up bb (by omega)) (y_bd_up bc (by omega)) hxU hU (by omega) (by omega))
                        simp [x_lk]
                · refine r_aload_n hE dX6_setsThatMeet_193 rfl ?_
                  refine t_getr hE f_X6_24 y_R_152_7 dX6_setsThatMeet_194 (hL 152 (by decide)) ?_
                  refine r_iload hE dX6_setsThatMeet_197 rfl ?_
                  refine r_dup2 hE dX6_setsThatMeet_199 rfl rfl ?_
                  refine t_ialdN (e := t) hE y_A_157 dX6_setsThatMeet_200 (hL 157 (by decide)) (by omega) (by decide) ?_
                  refine r_top (y := (f t)) rfl ?_
                  refine r_ldc (v := 65535) hE dX6_setsThatMeet_201 (x_gin (List.mem_append_right _ (tb_4 _ (List.mem_of_getElem? (i := 174) rfl))) rfl) ?_
                  refine r_ixor hE dX6_setsThatMeet_203 ?_
                  refine t_iastN (e := t) hE y_A_157 dX6_setsThatMeet_204 (hL 157 (by decide)) (by omega) (by decide) ?_
                  refine r_goto (tgt := 390) hE dX6_setsThatMeet_205 (by decide) ?_
                  refine r_iincN (a := i) (b := 1) (ls2 := [(0, .ref 152), (1, .ref w), (2, .int (nI x)), (3, .int hl), (4, .int a), (5, .int b), (6, .int c), (7, .int (nI t)), (8, .ref s), (9, .int (nI len)), (10, .int (nI (i + 1))), (11, .int (nI z)), (12, .int (nI (z / 1024))), (13, .int (nI (z % 1024)))]) hE dX6_setsThatMeet_390 rfl rfl (by decide) rfl ?_
                  refine r_goto (tgt := 41) hE dX6_setsThatMeet_393 (by decide) ?_
                  rw [y_si_com (by decide), y_si_sw]
                  have e9 : y_mf D (D s).1 x hl (i + 1) = (a, b, t, (upd f t ((f t) ^^^ 65535))) := by
                    show y_ms D x hl (y_mf D (D s).1 x hl i) _ = _
                    rw [hg, hz, nI_clamp (by omega)]
                    unfold y_ms
                    dsimp only
                    repeat first | rw [if_pos (by first | assumption | omega)] | rw [if_neg (by first | assumption | omega)]
                    all_goals (exfalso; omega)
                  have e10 : ∀ d, x + d < U → y_mf D (D s).1 (x + d) hl (i + 1) = (a + c * nI d, b, t, (upd f t ((f t) ^^^ 65535))) := by
                    intro d hd
                    show y_ms D (x + d) hl (y_mf D (D s).1 (x + d) hl i) _ = _
                    rw [hz9 d (by omega), hz, nI_clamp (by omega)]
                    unfold y_ms
                    dsimp only
                    repeat first | rw [if_pos (by first | assumption | omega)] | rw [if_neg (by first | assumption | omega)]
                    all_goals first | rfl | (exfalso; omega) | (refine Prod.ext ?_ rfl; dsimp only; grind)
                  refine r_locs hE (ls2 := [(0, .ref 152), (1, .ref w), (2, .int (nI x)), (3, .int hl), (4, .int a), (5, .int b), (6, .int c), (7, .int (nI t)), (8, .ref s), (9, .int (nI len)), (10, .int (nI (i + 1)))]) ?_ (ih (len - (i + 1)) (by omega) (i + 1) _ _ _ _ _ U rfl e9 e10 (y_bd_up ba (by omega)) (y_bd_up bb (by omega)) (y_bd_up bc (by omega)) hxU hU (by omega) (by omega))
                  simp [x_lk]
              · refine r_iinc (v := b + 1) (ls2 := [(0, .ref 152), (1, .ref w), (2, .int (nI x)), (3, .int hl), (4, .int a), (5, .int (b + 1)), (6, .int c), (7, .int (nI t)), (8, .ref s), (9, .int (nI len)), (10, .int (nI i)), (11, .int (nI z)), (12, .int (nI (z / 1024))), (13, .int (nI (z % 1024)))]) hE dX6_setsThatMeet_180 rfl rfl (by decide) rfl ?_
                refine r_goto (tgt := 390) hE dX6_setsThatMeet_183 (by decide) ?_
                refine r_iincN (a := i) (b := 1) (ls2 := [(0, .ref 152), (1, .ref w), (2, .int (nI x)), (3, .int hl), (4, .int a), (5, .int (b + 1)), (6, .int c), (7, .int (nI t)), (8, .ref s), (9, .int (nI len)), (10, .int (nI (i + 1))), (11, .int (nI z)), (12, .int (nI (z / 1024))), (13, .int (nI (z % 1024)))]) hE dX6_setsThatMeet_390 rfl rfl (by decide) rfl ?_
                refine r_goto (tgt := 41) hE dX6_setsThatMeet_393 (by decide) ?_
                have e9 : y_mf D (D s).1 x hl (i + 1) = (a, b + 1, t, f) := by
                  show y_ms D x hl (y_mf D (D s).1 x hl i) _ = _
                  rw [hg, hz, nI_clamp (by omega)]
                  unfold y_ms
                  dsimp only
                  repeat first | rw [if_pos (by first | assumption | omega)] | rw [if_neg (by first | assumption | omega)]
                  all_goals (exfalso; omega)
                have e10 : ∀ d, x + d < U → y_mf D (D s).1 (x + d) hl (i + 1) = (a + c * nI d, b + 1, t, f) := by
                  intro d hd
                  show y_ms D (x + d) hl (y_mf D (D s).1 (x + d) hl i) _ = _
                  rw [hz9 d (by omega), hz, nI_clamp (by omega)]
                  unfold y_ms
                  dsimp only
                  repeat first | rw [if_pos (by first | assumption | omega)] | rw [if_neg (by first | assumption | omega)]
                  all_goals first | rfl | (exfalso; omega) | (refine Prod.ext ?_ rfl; dsimp only; grind)
                refine r_locs hE (ls2 := [(0, .ref 152), (1, .ref w), (2, .int (nI x)), (3, .int hl), (4, .int a), (5, .int (b + 1)), (6, .int c), (7, .int (nI t)), (8, .ref s), (9, .int (nI len)), (10, .int (nI (i + 1)))]) ?_ (ih (len - (i + 1)) (by omega) (i + 1) _ _ _ _ _ U rfl e9 e10 (y_bd_up ba (by omega)) (y_bd_up (y_bd_add bb (y_bd_n (a := 1) (B := 1) (by decide) (by decide)) (by omega)).2 (by omega)) (y_bd_up bc (by omega)) hxU hU (by omega) (by omega))
                simp [x_lk]
            · refine r_iload hE dX6_setsThatMeet_155 rfl ?_
              refine r_ineg hE dX6_setsThatMeet_157 ?_
              refine r_istore (ls2 := [(0, .ref 152), (1, .ref w), (2, .int (nI x)), (3, .int hl), (4, .int (-a)), (5, .int b), (6, .int c), (7, .int (nI t)), (8, .ref s), (9, .int (nI len)), (10, .int (nI i)), (11, .int (nI z)), (12, .int (nI (z / 1024))), (13, .int (nI (z % 1024)))]) hE dX6_setsThatMeet_158 (by decide) rfl ?_
              refine r_iload hE dX6_setsThatMeet_160 rfl ?_
              refine r_ineg hE dX6_setsThatMeet_162 ?_
              refine r_istore (ls2 := [(0, .ref 152), (1, .ref w), (2, .int (nI x)), (3, .int hl), (4, .int (-a)), (5, .int (-b)), (6, .int c), (7, .int (nI t)), (8, .ref s), (9, .int (nI len)), (10, .int (nI i)), (11, .int (nI z)), (12, .int (nI (z / 1024))), (13, .int (nI (z % 1024)))]) hE dX6_setsThatMeet_163 (by decide) rfl ?_
              refine r_iload hE dX6_setsThatMeet_165 rfl ?_
              refine r_ineg hE dX6_setsThatMeet_167 ?_
              refine r_istore (ls2 := [(0, .ref 152), (1, .ref w), (2, .int (nI x)), (3, .int hl), (4, .int (-a)), (5, .int (-b)), (6, .int (-c)), (7, .int (nI t)), (8, .ref s), (9, .int (nI len)), (10, .int (nI i)), (11, .int (nI z)), (12, .int (nI (z / 1024))), (13, .int (nI (z % 1024)))]) hE dX6_setsThatMeet_168 (by decide) rfl ?_
              refine r_goto (tgt := 390) hE dX6_setsThatMeet_170 (by decide) ?_
              refine r_iincN (a := i) (b := 1) (ls2 := [(0, .ref 152), (1, .ref w), (2, .int (nI x)), (3, .int hl), (4, .int (-a)), (5, .int (-b)), (6, .int (-c)), (7, .int (nI t)), (8, .ref s), (9, .int (nI len)), (10, .int (nI (i + 1))), (11, .int (nI z)), (12, .int (nI (z / 1024))), (13, .int (nI (z % 1024)))]) hE dX6_setsThatMeet_390 rfl rfl (by decide) rfl ?_
              refine r_goto (tgt := 41) hE dX6_setsThatMeet_393 (by decide) ?_
              have e9 : y_mf D (D s).1 x hl (i + 1) = (-a, -b, t, f) := by
                show y_ms D x hl (y_mf D (D s).1 x hl i) _ = _
                rw [hg, hz, nI_clamp (by omega)]
                unfold y_ms
                dsimp only
                repeat first | rw [if_pos (by first | assumption | omega)] | rw [if_neg (by first | assumption | omega)]
                all_goals (exfalso; omega)
              have e10 : ∀ d, x + d < U → y_mf D (D s).1 (x + d) hl (i + 1) = (-a + (-c) * nI d, -b, t, f) := by
                intro d hd
                show y_ms D (x + d) hl (y_mf D (D s).1 (x + d) hl i) _ = _
                rw [hz9 d (by omega), hz, nI_clamp (by omega)]
                unfold y_ms
                dsimp only
                repeat first | rw [if_pos (by first | assumption | omega)] | rw [if_neg (by first | assumption | omega)]
                all_goals first | rfl | (exfalso; omega) | (refine Prod.ext ?_ rfl; dsimp only; grind)
              refine r_locs hE (ls2 := [(0, .ref 152), (1, .ref w), (2, .int (nI x)), (3, .int hl), (4, .int (-a)), (5, .int (-b)), (6, .int (-c)), (7, .int (nI t)), (8, .ref s), (9, .int (nI len)), (10, .int (nI (i + 1)))]) ?_ (ih (len - (i + 1)) (by omega) (i + 1) _ _ _ _ _ U rfl e9 e10 (y_bd_up (y_bd_neg ba (by omega)).2 (by omega)) (y_bd_up (y_bd_neg bb (by omega)).2 (by omega)) (y_bd_up (y_bd_neg bc (by omega)).2 (by omega)) hxU hU (by omega) (by omega))
              simp [x_lk]
          · refine r_iload hE dX6_setsThatMeet_85 rfl ?_
            refine r_iconst (v := 1) hE dX6_setsThatMeet_87 (by decide) ?_
            refine r_iaddN (a := t) (b := 1) hE dX6_setsThatMeet_88 ?_
            refine r_bipush (v := 23) hE dX6_setsThatMeet_89 (by decide) ?_
            refine r_mmin hE m_X6_77 dX6_setsThatMeet_91 (by decide) (Nat.le_of_ble_eq_true rfl) ⟨Nat.le_refl _, Nat.le_refl _⟩ ?_
            refine r_top (y := (nI (min (t + 1) 23))) (y_min23 t (by omega)) ?_
            refine r_istore (ls2 := [(0, .ref 152), (1, .ref w), (2, .int (nI x)), (3, .int hl), (4, .int a), (5, .int b), (6, .int c), (7, .int (nI (min (t + 1) 23))), (8, .ref s), (9, .int (nI len)), (10, .int (nI i)), (11, .int (nI z)), (12, .int (nI (z / 1024))), (13, .int (nI (z % 1024)))]) hE dX6_setsThatMeet_94 (by decide) rfl ?_
            refine r_iload hE dX6_setsThatMeet_96 rfl ?_
            refine r_bipush (v := 8) hE dX6_setsThatMeet_98 (by decide) ?_
            refine r_icmp_neN (a := z / 1024) (b := 8) (tgt := 107) hE dX6_setsThatMeet_100 (by decide) (by omega) (by decide) (fun c100 => ?_) (fun c100 => ?_)
            · refine r_iconst (v := (-1)) hE dX6_setsThatMeet_107 (by decide) ?_
              refine r_istore (ls2 := [(0, .ref 152), (1, .ref w), (2, .int (nI x)), (3, .int hl), (4, .int a), (5, .int b), (6, .int c), (7, .int (nI (min (t + 1) 23))), (8, .ref s), (9, .int (nI len)), (10, .int (nI i)), (11, .int (nI z)), (12, .int (nI (z / 1024))), (13, .int (nI (z % 1024))), (14, .int (-1))]) hE dX6_setsThatMeet_108 (by decide) rfl ?_
              refine r_aload_n hE dX6_setsThatMeet_110 rfl ?_
              refine t_getr hE f_X6_24 y_R_152_7 dX6_setsThatMeet_111 (hL 152 (by decide)) ?_
              refine r_iload hE dX6_setsThatMeet_114 rfl ?_
              refine r_aload_n hE dX6_setsThatMeet_116 rfl ?_
              refine r_iload hE dX6_setsThatMeet_117 rfl ?_
              refine r_iload hE dX6_setsThatMeet_119 rfl ?_
              refine r_imul hE dX6_setsThatMeet_121 ?_
              refine r_iload hE dX6_setsThatMeet_122 rfl ?_
              refine r_iload hE dX6_setsThatMeet_124 rfl ?_
              refine r_imul hE dX6_setsThatMeet_126 ?_
              refine r_iload hE dX6_setsThatMeet_127 rfl ?_
              refine r_iload hE dX6_setsThatMeet_129 rfl ?_
              refine r_imul hE dX6_setsThatMeet_131 ?_
              refine r_iload_n hE dX6_setsThatMeet_132 rfl ?_
              refine t_invvRi hE [.int ((-1) * a), .int ((-1) * b), .int ((-1) * c), .int (nI x)] (k_setsAboveZero (s := (-1) * a) (l := (-1) * b) (p := (-1) * c) (x := x) (U0 := U) hV hL rfl hxU hU (y_bd_sg (Or.inr rfl) (y_bd_up ba (by omega)) (by decide)) (y_bd_sg (Or.inr rfl) (y_bd_up bb (by omega)) (by decide)) (y_bd_sg (Or.inr rfl) (y_bd_up bc (by omega)) (by decide))) v_yX6_setsAboveZero m_X6_82 dX6_setsThatMeet_133 rfl (hL 152 (by decide)) (y_l_152 ((y_si (y_sw D 157 f) 152 8 (nI U)) 152)) rfl (by decide) ⟨Nat.le_refl _, Nat.le_refl _⟩ (Nat.le_of_ble_eq_true rfl) (fun r133 D133 q133 => ?_)
              obtain ⟨rfl, U2, hU3, hU4, rfl, hab⟩ := q133
              rw [y_si_si]
              have ec : ∀ (d : Nat), d ≤ 300 → y_cm (nI (z / 1024)) (a + c * nI d) b 5 = y_ab ((-1) * (a + c * nI d)) ((-1) * b) 5 := fun d hd => y_cm_9 (fun q => c100 ((nI_eq (b := 8) (by omega) (by decide)).mp q)) (y_bd_up (y_bd_add ba (y_bd_mul (i := d) bc (by omega) (Nat.lt_of_le_of_lt (Nat.mul_le_mul (show i ≤ 800 by omega) hd) (by decide))).2 (Nat.lt_of_le_of_lt (Nat.add_le_add_left (Nat.mul_le_mul (show i ≤ 800 by omega) hd) _) (by omega))).2 (Nat.le_trans (Nat.add_le_add_left (Nat.mul_le_mul (show i ≤ 800 by omega) hd) _) (by omega))) (y_bd_up bb (by omega)) (Nat.le_refl _)
              have ea : y_ab ((-1) * a) ((-1) * b) 5 = y_cm (nI (z / 1024)) a b 5 := by
                have := ec 0 (by decide)
                rw [show a + c * nI 0 = a by rw [nI_0]; grind] at this
                exact this.symm
              rw [ea]
              have hcm : ∀ d, x + d < U2 → y_cm (nI (z / 1024)) (a + c * nI d) b 5 = y_cm (nI (z / 1024)) a b 5 := fun d hd => by
                rw [ec d (by omega), ← ea, ← hab d hd]
                congr 1
                grind
              show E 0 0 136 [(0, .ref 152), (1, .ref w), (2, .int (nI x)), (3, .int hl), (4, .int a), (5, .int b), (6, .int c), (7, .int (nI (min (t + 1) 23))), (8, .ref s), (9, .int (nI len)), (10, .int (nI i)), (11, .int (nI z)), (12, .int (nI (z / 1024))), (13, .int (nI (z % 1024))), (14, .int (-1))] [.int (y_cm (nI (z / 1024)) a b 5), .int (nI (min (t + 1) 23)), .ref 157] (y_mk n L (y_si (y_sw D 157 f) 152 8 (nI U2)))
              refine t_iastN (e := min (t + 1) 23) hE y_A_157 dX6_setsThatMeet_136 (hL 157 (by decide)) (by omega) (by decide) ?_
              refine r_iconst (v := 0) hE dX6_setsThatMeet_137 (by decide) ?_
              refine r_istore (ls2 := [(0, .ref 152), (1, .ref w), (2, .int (nI x)), (3, .int hl), (4, .int 0), (5, .int b), (6, .int c), (7, .int (nI (min (t + 1) 23))), (8, .ref s), (9, .int (nI len)), (10, .int (nI i)), (11, .int (nI z)), (12, .int (nI (z / 1024))), (13, .int (nI (z % 1024))), (14, .int (-1))]) hE dX6_setsThatMeet_138 (by decide) rfl ?_
              refine r_iconst (v := 0) hE dX6_setsThatMeet_140 (by decide) ?_
              refine r_istore (ls2 := [(0, .ref 152), (1, .ref w), (2, .int (nI x)), (3, .int hl), (4, .int 0), (5, .int 0), (6, .int c), (7, .int (nI (min (t + 1) 23))), (8, .ref s), (9, .int (nI len)), (10, .int (nI i)), (11, .int (nI z)), (12, .int (nI (z / 1024))), (13, .int (nI (z % 1024))), (14, .int (-1))]) hE dX6_setsThatMeet_141 (by decide) rfl ?_
              refine r_iconst (v := 0) hE dX6_setsThatMeet_143 (by decide) ?_
              refine r_istore (ls2 := [(0, .ref 152), (1, .ref w), (2, .int (nI x)), (3, .int hl), (4, .int 0), (5, .int 0), (6, .int 0), (7, .int (nI (min (t + 1) 23))), (8, .ref s), (9, .int (nI len)), (10, .int (nI i)), (11, .int (nI z)), (12, .int (nI (z / 1024))), (13, .int (nI (z % 1024))), (14, .int (-1))]) hE dX6_setsThatMeet_144 (by decide) rfl ?_
              refine r_goto (tgt := 390) hE dX6_setsThatMeet_146 (by decide) ?_
              refine r_iincN (a := i) (b := 1) (ls2 := [(0, .ref 152), (1, .ref w), (2, .int (nI x)), (3, .int hl), (4, .int 0), (5, .int 0), (6, .int 0), (7, .int (nI (min (t + 1) 23))), (8, .ref s), (9, .int (nI len)), (10, .int (nI (i + 1))), (11, .int (nI z)), (12, .int (nI (z / 1024))), (13, .int (nI (z % 1024))), (14, .int (-1))]) hE dX6_setsThatMeet_390 rfl rfl (by decide) rfl ?_
              refine r_goto (tgt := 41) hE dX6_setsThatMeet_393 (by decide) ?_
              rw [y_si_com (by decide), y_si_sw]
              have e9 : y_mf D (D s).1 x hl (i + 1) = (0, 0, min (t + 1) 23, (upd f (min (t + 1) 23) (y_cm (nI (z / 1024)) a b 5))) := by
                show y_ms D x hl (y_mf D (D s).1 x hl i) _ = _
                rw [hg, hz, nI_clamp (by omega)]
                unfold y_ms
                dsimp only
                repeat first | rw [if_pos (by first | assumption | omega)] | rw [if_neg (by first | assumption | omega)]
                all_goals (exfalso; omega)
              have e10 : ∀ d, x + d < U2 → y_mf D (D s).1 (x + d) hl (i + 1) = (0 + 0 * nI d, 0, min (t + 1) 23, (upd f (min (t + 1) 23) (y_cm (nI (z / 1024)) a b 5))) := by
                intro d hd
                show y_ms D (x + d) hl (y_mf D (D s).1 (x + d) hl i) _ = _
                rw [hz9 d (by omega), hz, nI_clamp (by omega)]
                unfold y_ms
                dsimp only
                repeat first | rw [if_pos (by first | assumption | omega)] | rw [if_neg (by first | assumption | omega)]
                rw [hcm d hd]
                all_goals grind
              refine r_locs hE (ls2 := [(0, .ref 152), (1, .ref w), (2, .int (nI x)), (3, .int hl), (4, .int 0), (5, .int 0), (6, .int 0), (7, .int (nI (min (t + 1) 23))), (8, .ref s), (9, .int (nI len)), (10, .int (nI (i + 1)))]) ?_ (ih (len - (i + 1)) (by omega) (i + 1) _ _ _ _ _ U2 rfl e9 e10 y_bd_0 y_bd_0 y_bd_0 hU3 (by omega) (by omega) (by omega))
              simp [x_lk]
            · refine r_iconst (v := 1) hE dX6_setsThatMeet_103 (by decide) ?_
              refine r_goto (tgt := 108) hE dX6_setsThatMeet_104 (by decide) ?_
              refine r_istore (ls2 := [(0, .ref 152), (1, .ref w), (2, .int (nI x)), (3, .int hl), (4, .int a), (5, .int b), (6, .int c), (7, .int (nI (min (t + 1) 23))), (8, .ref s), (9, .int (nI len)), (10, .int (nI i)), (11, .int (nI z)), (12, .int (nI (z / 1024))), (13, .int (nI (z % 1024))), (14, .int 1)]) hE dX6_setsThatMeet_108 (by decide) rfl ?_
              refine r_aload_n hE dX6_setsThatMeet_110 rfl ?_
              refine t_getr hE f_X6_24 y_R_152_7 dX6_setsThatMeet_111 (hL 152 (by decide)) ?_
              refine r_iload hE dX6_setsThatMeet_114 rfl ?_
              refine r_aload_n hE dX6_setsThatMeet_116 rfl ?_
              refine r_iload hE dX6_setsThatMeet_117 rfl ?_
              refine r_iload hE dX6_setsThatMeet_119 rfl ?_
              refine r_imul hE dX6_setsThatMeet_121 ?_
              refine r_iload hE dX6_setsThatMeet_122 rfl ?_
              refine r_iload hE dX6_setsThatMeet_124 rfl ?_
              refine r_imul hE dX6_setsThatMeet_126 ?_
              refine r_iload hE dX6_setsThatMeet_127 rfl ?_
              refine r_iload hE dX6_setsThatMeet_129 rfl ?_
              refine r_imul hE dX6_setsThatMeet_131 ?_
              refine r_iload_n hE dX6_setsThatMeet_132 rfl ?_
              refine t_invvRi hE [.int (1 * a), .int (1 * b), .int (1 * c), .int (nI x)] (k_setsAboveZero (s := 1 * a) (l := 1 * b) (p := 1 * c) (x := x) (U0 := U) hV hL rfl hxU hU (y_bd_sg (Or.inl rfl) (y_bd_up ba (by omega)) (by decide)) (y_bd_sg (Or.inl rfl) (y_bd_up bb (by omega)) (by decide)) (y_bd_sg (Or.inl rfl) (y_bd_up bc (by omega)) (by decide))) v_yX6_setsAboveZero m_X6_82 dX6_setsThatMeet_133 rfl (hL 152 (by decide)) (y_l_152 ((y_si (y_sw D 157 f) 152 8 (nI U)) 152)) rfl (by decide) ⟨Nat.le_refl _, Nat.le_refl _⟩ (Nat.le_of_ble_eq_true rfl) (fun r133 D133 q133 => ?_)
              obtain ⟨rfl, U2, hU3, hU4, rfl, hab⟩ := q133
              rw [y_si_si]
              have ec : ∀ (d : Nat), d ≤ 300 → y_cm (nI (z / 1024)) (a + c * nI d) b 5 = y_ab (1 * (a + c * nI d)) (1 * b) 5 := fun d hd => y_cm_8 (by rw [c100]; rfl)
              have ea : y_ab (1 * a) (1 * b) 5 = y_cm (nI (z / 1024)) a b 5 := by
                have := ec 0 (by decide)
                rw [show a + c * nI 0 = a by rw [nI_0]; grind] at this
                exact this.symm
              rw [ea]
              have hcm : ∀ d, x + d < U2 → y_cm (nI (z / 1024)) (a + c * nI d) b 5 = y_cm (nI (z / 1024)) a b 5 := fun d hd => by
                rw [ec d (by omega), ← ea, ← hab d hd]
                congr 1
                grind
              show E 0 0 136 [(0, .ref 152), (1, .ref w), (2, .int (nI x)), (3, .int hl), (4, .int a), (5, .int b), (6, .int c), (7, .int (nI (min (t + 1) 23))), (8, .ref s), (9, .int (nI len)), (10, .int (nI i)), (11, .int (nI z)), (12, .int (nI (z / 1024))), (13, .int (nI (z % 1024))), (14, .int 1)] [.int (y_cm (nI (z / 1024)) a b 5), .int (nI (min (t + 1) 23)), .ref 157] (y_mk n L (y_si (y_sw D 157 f) 152 8 (nI U2)))
              refine t_iastN (e := min (t + 1) 23) hE y_A_157 dX6_setsThatMeet_136 (hL 157 (by decide)) (by omega) (by decide) ?_
              refine r_iconst (v := 0) hE dX6_setsThatMeet_137 (by decide) ?_
              refine r_istore (ls2 := [(0, .ref 152), (1, .ref w), (2, .int (nI x)), (3, .int hl), (4, .int 0), (5, .int b), (6, .int c), (7, .int (nI (min (t + 1) 23))), (8, .ref s), (9, .int (nI len)), (10, .int (nI i)), (11, .int (nI z)), (12, .int (nI (z / 1024))), (13, .int (nI (z % 1024))), (14, .int 1)]) hE dX6_setsThatMeet_138 (by decide) rfl ?_
              refine r_iconst (v := 0) hE dX6_setsThatMeet_140 (by decide) ?_
              refine r_istore (ls2 := [(0, .ref 152), (1, .ref w), (2, .int (nI x)), (3, .int hl), (4, .int 0), (5, .int 0), (6, .int c), (7, .int (nI (min (t + 1) 23))), (8, .ref s), (9, .int (nI len)), (10, .int (nI i)), (11, .int (nI z)), (12, .int (nI (z / 1024))), (13, .int (nI (z % 1024))), (14, .int 1)]) hE dX6_setsThatMeet_141 (by decide) rfl ?_
              refine r_iconst (v := 0) hE dX6_setsThatMeet_143 (by decide) ?_
              refine r_istore (ls2 := [(0, .ref 152), (1, .ref w), (2, .int (nI x)), (3, .int hl), (4, .int 0), (5, .int 0), (6, .int 0), (7, .int (nI (min (t + 1) 23))), (8, .ref s), (9, .int (nI len)), (10, .int (nI i)), (11, .int (nI z)), (12, .int (nI (z / 1024))), (13, .int (nI (z % 1024))), (14, .int 1)]) hE dX6_setsThatMeet_144 (by decide) rfl ?_
              refine r_goto (tgt := 390) hE dX6_setsThatMeet_146 (by decide) ?_
              refine r_iincN (a := i) (b := 1) (ls2 := [(0, .ref 152), (1, .ref w), (2, .int (nI x)), (3, .int hl), (4, .int 0), (5, .int 0), (6, .int 0), (7, .int (nI (min (t + 1) 23))), (8, .ref s), (9, .int (nI len)), (10, .int (nI (i + 1))), (11, .int (nI z)), (12, .int (nI (z / 1024))), (13, .int (nI (z % 1024))), (14, .int 1)]) hE dX6_setsThatMeet_390 rfl rfl (by decide) rfl ?_
              refine r_goto (tgt := 41) hE dX6_setsThatMeet_393 (by decide) ?_
              rw [y_si_com (by decide), y_si_sw]
              have e9 : y_mf D (D s).1 x hl (i + 1) = (0, 0, min (t + 1) 23, (upd f (min (t + 1) 23) (y_cm (nI (z / 1024)) a b 5))) := by
                show y_ms D x hl (y_mf D (D s).1 x hl i) _ = _
                rw [hg, hz, nI_clamp (by omega)]
                unfold y_ms
                dsimp only
                repeat first | rw [if_pos (by first | assumption | omega)] | rw [if_neg (by first | assumption | omega)]
                all_goals (exfalso; omega)
              have e10 : ∀ d, x + d < U2 → y_mf D (D s).1 (x + d) hl (i + 1) = (0 + 0 * nI d, 0, min (t + 1) 23, (upd f (min (t + 1) 23) (y_cm (nI (z / 1024)) a b 5))) := by
                intro d hd
                show y_ms D (x + d) hl (y_mf D (D s).1 (x + d) hl i) _ = _
                rw [hz9 d (by omega), hz, nI_clamp (by omega)]
                unfold y_ms
                dsimp only
                repeat first | rw [if_pos (by first | assumption | omega)] | rw [if_neg (by first | assumption | omega)]
                rw [hcm d hd]
                all_goals grind
              refine r_locs hE (ls2 := [(0, .ref 152), (1, .ref w), (2, .int (nI x)), (3, .int hl), (4, .int 0), (5, .int 0), (6, .int 0), (7, .int (nI (min (t + 1) 23))), (8, .ref s), (9, .int (nI len)), (10, .int (nI (i + 1)))]) ?_ (ih (len - (i + 1)) (by omega) (i + 1) _ _ _ _ _ U2 rfl e9 e10 y_bd_0 y_bd_0 y_bd_0 hU3 (by omega) (by omega) (by omega))
              simp [x_lk]
  refine r_iconst (v := 0) hE dX6_setsThatMeet_0 (by decide) ?_
  refine r_istore (ls2 := [(0, .ref 152), (1, .ref w), (2, .int (nI x)), (3, .int hl), (4, .int 0)]) hE dX6_setsThatMeet_1 (by decide) rfl ?_
  refine r_iconst (v := 0) hE dX6_setsThatMeet_3 (by decide) ?_
  refine r_istore (ls2 := [(0, .ref 152), (1, .ref w), (2, .int (nI x)), (3, .int hl), (4, .int 0), (5, .int 0)]) hE dX6_setsThatMeet_4 (by decide) rfl ?_
  refine r_iconst (v := 0) hE dX6_setsThatMeet_6 (by decide) ?_
  refine r_istore (ls2 := [(0, .ref 152), (1, .ref w), (2, .int (nI x)), (3, .int hl), (4, .int 0), (5, .int 0), (6, .int 0)]) hE dX6_setsThatMeet_7 (by decide) rfl ?_
  refine r_iconst (v := 0) hE dX6_setsThatMeet_9 (by decide) ?_
  refine r_istore (ls2 := [(0, .ref 152), (1, .ref w), (2, .int (nI x)), (3, .int hl), (4, .int 0), (5, .int 0), (6, .int 0), (7, .int 0)]) hE dX6_setsThatMeet_10 (by decide) rfl ?_
  refine r_aload_n hE dX6_setsThatMeet_12 rfl ?_
  refine t_getr hE f_X6_24 y_R_152_7 dX6_setsThatMeet_13 (hL 152 (by decide)) ?_
  refine r_iconst (v := 0) hE dX6_setsThatMeet_16 (by decide) ?_
  refine r_ldc (v := 65535) hE dX6_setsThatMeet_17 (x_gin (List.mem_append_right _ (tb_4 _ (List.mem_of_getElem? (i := 174) rfl))) rfl) ?_
  refine t_iastN (e := 0) hE y_A_157 dX6_setsThatMeet_19 (hL 157 (by decide)) (by omega) (by decide) ?_
  refine r_aload_n hE dX6_setsThatMeet_20 rfl ?_
  refine r_sipush (v := 301) hE dX6_setsThatMeet_21 (by decide) ?_
  refine t_puti hE f_X6_65 y_I_152_8 dX6_setsThatMeet_24 (hL 152 (by decide)) rfl rfl ?_
  change E 0 0 27 [(0, .ref 152), (1, .ref w), (2, .int (nI x)), (3, .int hl), (4, .int 0), (5, .int 0), (6, .int 0), (7, .int 0)] [] (y_mk n L (y_si (y_sw D 157 (upd (D 157).1 0 65535)) 152 8 (nI 301)))
  have hk_w : ((y_si (y_sw D 157 (upd (D 157).1 0 65535)) 152 8 (nI 301)) w).2.2.2.1 = 2 := by rw [y_si_ne hdw2, y_sw_ne hdw]; exact hk_w
  have hs_w : ((y_si (y_sw D 157 (upd (D 157).1 0 65535)) 152 8 (nI 301)) w).2.2.1 0 = some s := by rw [y_si_ne hdw2, y_sw_ne hdw]; exact hs_w
  have hk_s : ((y_si (y_sw D 157 (upd (D 157).1 0 65535)) 152 8 (nI 301)) s).2.2.2.1 = 0 := by rw [y_si_ne hds2, y_sw_ne hds]; exact hk_s
  have hl_s : ((y_si (y_sw D 157 (upd (D 157).1 0 65535)) 152 8 (nI 301)) s).2.2.2.2 = len := by rw [y_si_ne hds2, y_sw_ne hds]; exact hl_s
  refine r_aload_n hE dX6_setsThatMeet_27 rfl ?_
  refine r_getf hE f_X6_68 dX6_setsThatMeet_28 hm_w (y_way_lay hd_w (show ((y_si (y_sw D 157 (upd (D 157).1 0 65535)) 152 8 (nI 301)) w).2.2.2.1 = _ from hk_w)) (show _ = some (Value.ref s) by show some (va_rf (((y_si (y_sw D 157 (upd (D 157).1 0 65535)) 152 8 (nI 301)) w).2.2.1 0)) = _; rw [hs_w]; rfl) ?_
  refine r_astore (ls2 := [(0, .ref 152), (1, .ref w), (2, .int (nI x)), (3, .int hl), (4, .int 0), (5, .int 0), (6, .int 0), (7, .int 0), (8, .ref s)]) hE dX6_setsThatMeet_31 (by decide) rfl ?_
  refine r_aload hE dX6_setsThatMeet_33 rfl ?_
  refine t_dlen (len := len) hE hd_s (show ((y_si (y_sw D 157 (upd (D 157).1 0 65535)) 152 8 (nI 301)) s).2.2.2.1 = _ from hk_s) (show ((y_si (y_sw D 157 (upd (D 157).1 0 65535)) 152 8 (nI 301)) s).2.2.2.2 = _ from hl_s) dX6_setsThatMeet_35 hm_s ?_
  refine r_istore (ls2 := [(0, .ref 152), (1, .ref w), (2, .int (nI x)), (3, .int hl), (4, .int 0), (5, .int 0), (6, .int 0), (7, .int 0), (8, .ref s), (9, .int (nI len))]) hE dX6_setsThatMeet_36 (by decide) rfl ?_
  refine r_iconst (v := 0) hE dX6_setsThatMeet_38 (by decide) ?_
  refine r_istore (ls2 := [(0, .ref 152), (1, .ref w), (2, .int (nI x)), (3, .int hl), (4, .int 0), (5, .int 0), (6, .int 0), (7, .int 0), (8, .ref s), (9, .int (nI len)), (10, .int 0)]) hE dX6_setsThatMeet_39 (by decide) rfl ?_
  exact lp 0 0 0 0 0 _ 301 rfl (fun d _ => by rw [Int32.zero_mul, Int32.add_zero]; rfl) y_bd_0 y_bd_0 y_bd_0 hx (Nat.le_refl _) (by omega) (by omega)

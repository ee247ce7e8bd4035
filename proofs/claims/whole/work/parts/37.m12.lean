/-! Sitting.setsThatMeet -/
theorem k_isTagN {V : x_E} {n : Nat} {L : List Nat} {D : y_D} {a : Nat} (ha : a < 2 ^ 31) : x_Fn V yX6_isTag cX6_isTag 1 (some .boolean) 0 [.int (nI a)] (y_mk n L D) (some (.int (y_b (23 ≤ a ∧ a ≤ 28)))) (y_mk n L D) := by
  have h1 : (23 ≤ nI a ∧ nI a ≤ 28) ↔ (23 ≤ a ∧ a ≤ 28) := ⟨fun h => ⟨(nI_leI (a := 23) (by decide) ha).mp h.1, (nI_leI (b := 28) ha (by decide)).mp h.2⟩, fun h => ⟨(nI_leI (a := 23) (by decide) ha).mpr h.1, (nI_leI (b := 28) ha (by decide)).mpr h.2⟩⟩
  have e : y_b (23 ≤ nI a ∧ nI a ≤ 28) = y_b (23 ≤ a ∧ a ≤ 28) := by
    unfold y_b
    by_cases h : 23 ≤ a ∧ a ≤ 28
    · rw [if_pos h, if_pos (h1.mpr h)]
    · rw [if_neg h, if_neg (fun c => h (h1.mp c))]
  rw [← e]
  exact k_isTag
theorem y_min23 : ∀ t, t < 24 → (if 23 < nI (t + 1) then 23 else nI (t + 1)) = nI (min (t + 1) 23) := by decide +kernel
theorem y_max0 : ∀ t, t < 24 → (if nI t - 1 < 0 then 0 else nI t - 1) = nI (t - 1) := by decide +kernel
/-- one step: sum, part of each limb, top, row -/
def y_ms (D : y_D) (x : Nat) (hl : Int32) (g : Int32 × Int32 × Nat × (Nat → Int32)) (z : Nat) : Int32 × Int32 × Nat × (Nat → Int32) :=
  if z / 1024 = 8 ∨ z / 1024 = 9 then (0, 0, min (g.2.2.1 + 1) 23, upd g.2.2.2 (min (g.2.2.1 + 1) 23) (y_cm (nI (z / 1024)) g.1 g.2.1 5))
  else if z / 1024 = 3 then (-g.1, -g.2.1, g.2.2.1, g.2.2.2)
  else if z / 1024 = 30 then (g.1, g.2.1 + 1, g.2.2.1, g.2.2.2)
  else if z / 1024 = 22 then (g.1, g.2.1, g.2.2.1, upd g.2.2.2 g.2.2.1 (g.2.2.2 g.2.2.1 ^^^ 65535))
  else if z / 1024 = 21 then (g.1, g.2.1, g.2.2.1 - 1, upd g.2.2.2 (g.2.2.1 - 1) (g.2.2.2 (g.2.2.1 - 1) &&& g.2.2.2 (g.2.2.1 - 1 + 1)))
  else if z / 1024 = 20 then (g.1, g.2.1, g.2.2.1 - 1, upd g.2.2.2 (g.2.2.1 - 1) (g.2.2.2 (g.2.2.1 - 1) ||| g.2.2.2 (g.2.2.1 - 1 + 1)))
  else if z / 1024 = 24 then (g.1, g.2.1, min (g.2.2.1 + 1) 23, upd g.2.2.2 (min (g.2.2.1 + 1) 23) (if hl = 0 then 0 else 65535))
  else if 23 ≤ z / 1024 ∧ z / 1024 ≤ 28 then (g.1, g.2.1, min (g.2.2.1 + 1) 23, upd g.2.2.2 (min (g.2.2.1 + 1) 23) (K_tag D (nI (z / 1024)) (z % 1024) x))
  else (g.1 + K_partOf D (nI (z / 1024)) (z % 1024) (nI x), g.2.1, g.2.2.1, g.2.2.2)
def y_mf (D : y_D) (T : Nat → Int32) (x : Nat) (hl : Int32) : Nat → Int32 × Int32 × Nat × (Nat → Int32)
  | 0 => (0, 0, 0, upd (D 157).1 0 65535)
  | i + 1 => y_ms D x hl (y_mf D T x hl i) (T i).toNatClampNeg
/-- the steps of a WAY are as they are made -/
def y_wfs (T : Nat → Int32) (len : Nat) : Prop := ∀ i, i < len → ∃ z : Nat, T i = nI z ∧ z < 2 ^ 20 ∧ (z / 1024 = 31 ∨ z / 1024 = 32 ∨ (23 ≤ z / 1024 ∧ z / 1024 ≤ 28) → z % 1024 < 4)
theorem k_setsThatMeet {V : x_E} {n : Nat} {L : List Nat} {D : y_D} (hV : y_V V) {x w s len : Nat} {hl : Int32} (hL : y_ok L) (hx : x < 301) (hm_w : w ∈ L) (hd_w : y_dh w) (hk_w : (D w).2.2.2.1 = 2) (hs_w : (D w).2.2.1 0 = some s) (hm_s : s ∈ L) (hd_s : y_dh s) (hk_s : (D s).2.2.2.1 = 0) (hl_s : (D s).2.2.2.2 = len) (hlen : len ≤ 800) (hwf : y_wfs (D s).1 len) : x_Fn V yX6_setsThatMeet cX6_setsThatMeet 14 (some .int) 2 [.ref 152, .ref w, .int (nI x), .int hl] (y_mk n L D) (some (.int ((y_mf D (D s).1 x hl len).2.2.2 0))) (y_mk n L (y_sw D 157 (y_mf D (D s).1 x hl len).2.2.2)) := by
  refine x_fn (by decide) (Nat.le_of_ble_eq_true rfl) (fun E hE => ?_)
  change E 0 0 0 [(0, .ref 152), (1, .ref w), (2, .int (nI x)), (3, .int hl)] [] (y_mk n L D)
  have hdw : w ≠ 157 := by unfold y_dh at hd_w; omega
  have hds : s ≠ 157 := by unfold y_dh at hd_s; omega
  have lp : ∀ (i : Nat) (a : Int32) (b : Int32) (t : Nat) (f : Nat → Int32), y_mf D (D s).1 x hl i = (a, b, t, f) → t ≤ 23 → i ≤ len → E 0 0 31 [(0, .ref 152), (1, .ref w), (2, .int (nI x)), (3, .int hl), (4, .int a), (5, .int b), (6, .int (nI t)), (7, .ref s), (8, .int (nI len)), (9, .int (nI i))] [] (y_mk n L (y_sw D 157 f)) := by
    intro i a b t f
    induction hm9 : (len - i) using Nat.strongRecOn generalizing i a b t f with
    | _ m9 ih =>
      intro hg ht hi
      have hk_s : ((y_sw D 157 f) s).2.2.2.1 = 0 := by rw [y_sw_ne hds]; exact hk_s
      have hl_s : ((y_sw D 157 f) s).2.2.2.2 = len := by rw [y_sw_ne hds]; exact hl_s
      refine r_iload hE dX6_setsThatMeet_31 rfl ?_
      refine r_iload hE dX6_setsThatMeet_33 rfl ?_
      refine r_icmp_geN (a := i) (b := len) (tgt := 336) hE dX6_setsThatMeet_35 (by decide) (by omega) (by omega) (fun c35 => ?_) (fun c35 => ?_)
      · refine r_aload_n hE dX6_setsThatMeet_336 rfl ?_
        refine t_getr hE f_X6_24 y_R_152_7 dX6_setsThatMeet_337 (hL 152 (by decide)) ?_
        refine r_iconst (v := 0) hE dX6_setsThatMeet_340 (by decide) ?_
        refine t_ialdN (e := 0) hE y_A_157 dX6_setsThatMeet_341 (hL 157 (by decide)) (by omega) (by decide) ?_
        refine r_top (y := (f 0)) rfl ?_
        refine r_ireturn hE dX6_setsThatMeet_342 rfl rfl (Nat.zero_le _) (Nat.zero_le _) ?_
        have hi2 : i = len := by omega
        subst hi2
        rw [hg]
        exact ⟨rfl, rfl⟩
      · obtain ⟨z, hz, hz2, hz4⟩ := hwf i (by omega)
        refine r_aload hE dX6_setsThatMeet_38 rfl ?_
        refine r_iload hE dX6_setsThatMeet_40 rfl ?_
        refine t_diald (e := i) (len := len) hE hd_s (show ((y_sw D 157 f) s).2.2.2.1 = _ from hk_s) (show ((y_sw D 157 f) s).2.2.2.2 = _ from hl_s) dX6_setsThatMeet_42 hm_s (by omega) (by omega) ?_
        refine r_top (y := (nI z)) (by rw [y_sw_ne hds]; exact hz) ?_
        refine r_istore (ls2 := [(0, .ref 152), (1, .ref w), (2, .int (nI x)), (3, .int hl), (4, .int a), (5, .int b), (6, .int (nI t)), (7, .ref s), (8, .int (nI len)), (9, .int (nI i)), (10, .int (nI z))]) hE dX6_setsThatMeet_43 (by decide) rfl ?_
        refine r_iload hE dX6_setsThatMeet_45 rfl ?_
        refine r_sipush (v := 1024) hE dX6_setsThatMeet_47 (by decide) ?_
        refine r_idivN (a := z) (b := 1024) hE dX6_setsThatMeet_50 (by omega) (by omega) (by omega) ?_
        refine r_istore (ls2 := [(0, .ref 152), (1, .ref w), (2, .int (nI x)), (3, .int hl), (4, .int a), (5, .int b), (6, .int (nI t)), (7, .ref s), (8, .int (nI len)), (9, .int (nI i)), (10, .int (nI z)), (11, .int (nI (z / 1024)))]) hE dX6_setsThatMeet_51 (by decide) rfl ?_
        refine r_iload hE dX6_setsThatMeet_53 rfl ?_
        refine r_sipush (v := 1024) hE dX6_setsThatMeet_55 (by decide) ?_
        refine r_iremN (a := z) (b := 1024) hE dX6_setsThatMeet_58 (by omega) (by omega) (by omega) ?_
        refine r_istore (ls2 := [(0, .ref 152), (1, .ref w), (2, .int (nI x)), (3, .int hl), (4, .int a), (5, .int b), (6, .int (nI t)), (7, .ref s), (8, .int (nI len)), (9, .int (nI i)), (10, .int (nI z)), (11, .int (nI (z / 1024))), (12, .int (nI (z % 1024)))]) hE dX6_setsThatMeet_59 (by decide) rfl ?_
        refine r_iload hE dX6_setsThatMeet_61 rfl ?_
        refine r_bipush (v := 8) hE dX6_setsThatMeet_63 (by decide) ?_
        refine r_icmp_eqN (a := z / 1024) (b := 8) (tgt := 75) hE dX6_setsThatMeet_65 (by decide) (by omega) (by decide) (fun c65 => ?_) (fun c65 => ?_)
        · refine r_iload hE dX6_setsThatMeet_75 rfl ?_
          refine r_iconst (v := 1) hE dX6_setsThatMeet_77 (by decide) ?_
          refine r_iaddN (a := t) (b := 1) hE dX6_setsThatMeet_78 ?_
          refine r_bipush (v := 23) hE dX6_setsThatMeet_79 (by decide) ?_
          refine r_mmin hE m_X6_74 dX6_setsThatMeet_81 (by decide) (Nat.le_of_ble_eq_true rfl) ⟨Nat.le_refl _, Nat.le_refl _⟩ ?_
          refine r_top (y := (nI (min (t + 1) 23))) (y_min23 t (by omega)) ?_
          refine r_istore (ls2 := [(0, .ref 152), (1, .ref w), (2, .int (nI x)), (3, .int hl), (4, .int a), (5, .int b), (6, .int (nI (min (t + 1) 23))), (7, .ref s), (8, .int (nI len)), (9, .int (nI i)), (10, .int (nI z)), (11, .int (nI (z / 1024))), (12, .int (nI (z % 1024)))]) hE dX6_setsThatMeet_84 (by decide) rfl ?_
          refine r_aload_n hE dX6_setsThatMeet_86 rfl ?_
          refine t_getr hE f_X6_24 y_R_152_7 dX6_setsThatMeet_87 (hL 152 (by decide)) ?_
          refine r_iload hE dX6_setsThatMeet_90 rfl ?_
          refine r_iload hE dX6_setsThatMeet_92 rfl ?_
          refine r_iload hE dX6_setsThatMeet_94 rfl ?_
          refine r_iload hE dX6_setsThatMeet_96 rfl ?_
          refine t_invs (r := (some (.int (y_cm (nI (z / 1024)) a b 5)))) (S2 := (y_mk n L (y_sw D 157 f))) hE [.int (nI (z / 1024)), .int a, .int b] (k_setsThatCompare hV) s_yX6_setsThatCompare m_X6_79 dX6_setsThatMeet_98 rfl (by decide) ⟨Nat.le_refl _, Nat.le_refl _⟩ (Nat.le_of_ble_eq_true rfl) ?_
          show E 0 0 101 [(0, .ref 152), (1, .ref w), (2, .int (nI x)), (3, .int hl), (4, .int a), (5, .int b), (6, .int (nI (min (t + 1) 23))), (7, .ref s), (8, .int (nI len)), (9, .int (nI i)), (10, .int (nI z)), (11, .int (nI (z / 1024))), (12, .int (nI (z % 1024)))] [.int (y_cm (nI (z / 1024)) a b 5), .int (nI (min (t + 1) 23)), .ref 157] (y_mk n L (y_sw D 157 f))
          refine t_iastN (e := min (t + 1) 23) hE y_A_157 dX6_setsThatMeet_101 (hL 157 (by decide)) (by omega) (by decide) ?_
          refine r_iconst (v := 0) hE dX6_setsThatMeet_102 (by decide) ?_
          refine r_istore (ls2 := [(0, .ref 152), (1, .ref w), (2, .int (nI x)), (3, .int hl), (4, .int 0), (5, .int b), (6, .int (nI (min (t + 1) 23))), (7, .ref s), (8, .int (nI len)), (9, .int (nI i)), (10, .int (nI z)), (11, .int (nI (z / 1024))), (12, .int (nI (z % 1024)))]) hE dX6_setsThatMeet_103 (by decide) rfl ?_
          refine r_iconst (v := 0) hE dX6_setsThatMeet_105 (by decide) ?_
          refine r_istore (ls2 := [(0, .ref 152), (1, .ref w), (2, .int (nI x)), (3, .int hl), (4, .int 0), (5, .int 0), (6, .int (nI (min (t + 1) 23))), (7, .ref s), (8, .int (nI len)), (9, .int (nI i)), (10, .int (nI z)), (11, .int (nI (z / 1024))), (12, .int (nI (z % 1024)))]) hE dX6_setsThatMeet_106 (by decide) rfl ?_
          refine r_goto (tgt := 330) hE dX6_setsThatMeet_108 (by decide) ?_
          refine r_iincN (a := i) (b := 1) (ls2 := [(0, .ref 152), (1, .ref w), (2, .int (nI x)), (3, .int hl), (4, .int 0), (5, .int 0), (6, .int (nI (min (t + 1) 23))), (7, .ref s), (8, .int (nI len)), (9, .int (nI (i + 1))), (10, .int (nI z)), (11, .int (nI (z / 1024))), (12, .int (nI (z % 1024)))]) hE dX6_setsThatMeet_330 rfl rfl (by decide) rfl ?_
          refine r_goto (tgt := 31) hE dX6_setsThatMeet_333 (by decide) ?_
          rw [y_si_sw]
          have e9 : y_mf D (D s).1 x hl (i + 1) = (0, 0, min (t + 1) 23, (upd f (min (t + 1) 23) (y_cm (nI (z / 1024)) a b 5))) := by
            show y_ms D x hl (y_mf D (D s).1 x hl i) _ = _
            rw [hg, hz, nI_clamp (by omega)]
            unfold y_ms
            dsimp only
            repeat first | rw [if_pos (by first | assumption | omega)] | rw [if_neg (by first | assumption | omega)]
            all_goals (exfalso; omega)
          refine r_locs hE (ls2 := [(0, .ref 152), (1, .ref w), (2, .int (nI x)), (3, .int hl), (4, .int 0), (5, .int 0), (6, .int (nI (min (t + 1) 23))), (7, .ref s), (8, .int (nI len)), (9, .int (nI (i + 1)))]) ?_ (ih (len - (i + 1)) (by omega) (i + 1) _ _ _ _ rfl e9 (by omega) (by omega))
          simp [x_lk]
        · refine r_iload hE dX6_setsThatMeet_68 rfl ?_
          refine r_bipush (v := 9) hE dX6_setsThatMeet_70 (by decide) ?_
          refine r_icmp_neN (a := z / 1024) (b := 9) (tgt := 111) hE dX6_setsThatMeet_72 (by decide) (by omega) (by decide) (fun c72 => ?_) (fun c72 => ?_)
          · refine r_iload hE dX6_setsThatMeet_111 rfl ?_
            refine r_iconst (v := 3) hE dX6_setsThatMeet_113 (by decide) ?_
            refine r_icmp_neN (a := z / 1024) (b := 3) (tgt := 130) hE dX6_setsThatMeet_114 (by decide) (by omega) (by decide) (fun c114 => ?_) (fun c114 => ?_)
            · refine r_iload hE dX6_setsThatMeet_130 rfl ?_
              refine r_bipush (v := 30) hE dX6_setsThatMeet_132 (by decide) ?_
              refine r_icmp_neN (a := z / 1024) (b := 30) (tgt := 143) hE dX6_setsThatMeet_134 (by decide) (by omega) (by decide) (fun c134 => ?_) (fun c134 => ?_)
              · refine r_iload hE dX6_setsThatMeet_143 rfl ?_
                refine r_bipush (v := 22) hE dX6_setsThatMeet_145 (by decide) ?_
                refine r_icmp_neN (a := z / 1024) (b := 22) (tgt := 165) hE dX6_setsThatMeet_147 (by decide) (by omega) (by decide) (fun c147 => ?_) (fun c147 => ?_)
                · refine r_iload hE dX6_setsThatMeet_165 rfl ?_
                  refine r_bipush (v := 21) hE dX6_setsThatMeet_167 (by decide) ?_
                  refine r_icmp_eqN (a := z / 1024) (b := 21) (tgt := 179) hE dX6_setsThatMeet_169 (by decide) (by omega) (by decide) (fun c169 => ?_) (fun c169 => ?_)
                  · refine r_iload hE dX6_setsThatMeet_179 rfl ?_
                    refine r_iconst (v := 1) hE dX6_setsThatMeet_181 (by decide) ?_
                    refine r_isub hE dX6_setsThatMeet_182 ?_
                    refine r_iconst (v := 0) hE dX6_setsThatMeet_183 (by decide) ?_
                    refine r_mmax hE m_X6_83 dX6_setsThatMeet_184 (by decide) (Nat.le_of_ble_eq_true rfl) ⟨Nat.le_refl _, Nat.le_refl _⟩ ?_
                    refine r_top (y := (nI (t - 1))) (y_max0 t (by omega)) ?_
                    refine r_istore (ls2 := [(0, .ref 152), (1, .ref w), (2, .int (nI x)), (3, .int hl), (4, .int a), (5, .int b), (6, .int (nI (t - 1))), (7, .ref s), (8, .int (nI len)), (9, .int (nI i)), (10, .int (nI z)), (11, .int (nI (z / 1024))), (12, .int (nI (z % 1024)))]) hE dX6_setsThatMeet_187 (by decide) rfl ?_
                    refine r_aload_n hE dX6_setsThatMeet_189 rfl ?_
                    refine t_getr hE f_X6_24 y_R_152_7 dX6_setsThatMeet_190 (hL 152 (by decide)) ?_
                    refine r_iload hE dX6_setsThatMeet_193 rfl ?_
                    refine r_iconst (v := 1) hE dX6_setsThatMeet_195 (by decide) ?_
                    refine r_iaddN (a := t - 1) (b := 1) hE dX6_setsThatMeet_196 ?_
                    refine t_ialdN (e := (t - 1) + 1) hE y_A_157 dX6_setsThatMeet_197 (hL 157 (by decide)) (by omega) (by decide) ?_
                    refine r_top (y := (f (t - 1 + 1))) rfl ?_
                    refine r_istore (ls2 := [(0, .ref 152), (1, .ref w), (2, .int (nI x)), (3, .int hl), (4, .int a), (5, .int b), (6, .int (nI (t - 1))), (7, .ref s), (8, .int (nI len)), (9, .int (nI i)), (10, .int (nI z)), (11, .int (nI (z / 1024))), (12, .int (nI (z % 1024))), (13, .int (f (t - 1 + 1)))]) hE dX6_setsThatMeet_198 (by decide) rfl ?_
                    refine r_aload_n hE dX6_setsThatMeet_200 rfl ?_
                    refine t_getr hE f_X6_24 y_R_152_7 dX6_setsThatMeet_201 (hL 152 (by decide)) ?_
                    refine r_iload hE dX6_setsThatMeet_204 rfl ?_
                    refine r_iload hE dX6_setsThatMeet_206 rfl ?_
                    refine r_bipush (v := 21) hE dX6_setsThatMeet_208 (by decide) ?_
                    refine r_icmp_neN (a := z / 1024) (b := 21) (tgt := 226) hE dX6_setsThatMeet_210 (by decide) (by omega) (by decide) (fun c210 => ?_) (fun c210 => ?_)
                    · refine r_aload_n hE dX6_setsThatMeet_226 rfl ?_
                      refine t_getr hE f_X6_24 y_R_152_7 dX6_setsThatMeet_227 (hL 152 (by decide)) ?_
                      refine r_iload hE dX6_setsThatMeet_230 rfl ?_
                      refine t_ialdN (e := t - 1) hE y_A_157 dX6_setsThatMeet_232 (hL 157 (by decide)) (by omega) (by decide) ?_
                      refine r_top (y := (f (t - 1))) rfl ?_
                      refine r_iload hE dX6_setsThatMeet_233 rfl ?_
                      refine r_ior hE dX6_setsThatMeet_235 ?_
                      refine t_iastN (e := t - 1) hE y_A_157 dX6_setsThatMeet_236 (hL 157 (by decide)) (by omega) (by decide) ?_
                      refine r_goto (tgt := 330) hE dX6_setsThatMeet_237 (by decide) ?_
                      refine r_iincN (a := i) (b := 1) (ls2 := [(0, .ref 152), (1, .ref w), (2, .int (nI x)), (3, .int hl), (4, .int a), (5, .int b), (6, .int (nI (t - 1))), (7, .ref s), (8, .int (nI len)), (9, .int (nI (i + 1))), (10, .int (nI z)), (11, .int (nI (z / 1024))), (12, .int (nI (z % 1024))), (13, .int (f (t - 1 + 1)))]) hE dX6_setsThatMeet_330 rfl rfl (by decide) rfl ?_
                      refine r_goto (tgt := 31) hE dX6_setsThatMeet_333 (by decide) ?_
                      rw [y_si_sw]
                      have e9 : y_mf D (D s).1 x hl (i + 1) = (a, b, t - 1, (upd f (t - 1) ((f (t - 1)) ||| (f (t - 1 + 1))))) := by
                        show y_ms D x hl (y_mf D (D s).1 x hl i) _ = _
                        rw [hg, hz, nI_clamp (by omega)]
                        unfold y_ms
                        dsimp only
                        repeat first | rw [if_pos (by first | assumption | omega)] | rw [if_neg (by first | assumption | omega)]
                        all_goals (exfalso; omega)
                      refine r_locs hE (ls2 := [(0, .ref 152), (1, .ref w), (2, .int (nI x)), (3, .int hl), (4, .int a), (5, .int b), (6, .int (nI (t - 1))), (7, .ref s), (8, .int (nI len)), (9, .int (nI (i + 1)))]) ?_ (ih (len - (i + 1)) (by omega) (i + 1) _ _ _ _ rfl e9 (by omega) (by omega))
                      simp [x_lk]
                    · refine r_aload_n hE dX6_setsThatMeet_213 rfl ?_
                      refine t_getr hE f_X6_24 y_R_152_7 dX6_setsThatMeet_214 (hL 152 (by decide)) ?_
                      refine r_iload hE dX6_setsThatMeet_217 rfl ?_
                      refine t_ialdN (e := t - 1) hE y_A_157 dX6_setsThatMeet_219 (hL 157 (by decide)) (by omega) (by decide) ?_
                      refine r_top (y := (f (t - 1))) rfl ?_
                      refine r_iload hE dX6_setsThatMeet_220 rfl ?_
                      refine r_iand hE dX6_setsThatMeet_222 ?_
                      refine r_goto (tgt := 236) hE dX6_setsThatMeet_223 (by decide) ?_
                      refine t_iastN (e := t - 1) hE y_A_157 dX6_setsThatMeet_236 (hL 157 (by decide)) (by omega) (by decide) ?_
                      refine r_goto (tgt := 330) hE dX6_setsThatMeet_237 (by decide) ?_
                      refine r_iincN (a := i) (b := 1) (ls2 := [(0, .ref 152), (1, .ref w), (2, .int (nI x)), (3, .int hl), (4, .int a), (5, .int b), (6, .int (nI (t - 1))), (7, .ref s), (8, .int (nI len)), (9, .int (nI (i + 1))), (10, .int (nI z)), (11, .int (nI (z / 1024))), (12, .int (nI (z % 1024))), (13, .int (f (t - 1 + 1)))]) hE dX6_setsThatMeet_330 rfl rfl (by decide) rfl ?_
                      refine r_goto (tgt := 31) hE dX6_setsThatMeet_333 (by decide) ?_
                      rw [y_si_sw]
                      have e9 : y_mf D (D s).1 x hl (i + 1) = (a, b, t - 1, (upd f (t - 1) ((f (t - 1)) &&& (f (t - 1 + 1))))) := by
                        show y_ms D x hl (y_mf D (D s).1 x hl i) _ = _
                        rw [hg, hz, nI_clamp (by omega)]
                        unfold y_ms
                        dsimp only
                        repeat first | rw [if_pos (by first | assumption | omega)] | rw [if_neg (by first | assumption | omega)]
                        all_goals (exfalso; omega)
                      refine r_locs hE (ls2 := [(0, .ref 152), (1, .ref w), (2, .int (nI x)), (3, .int hl), (4, .int a), (5, .int b), (6, .int (nI (t - 1))), (7, .ref s), (8, .int (nI len)), (9, .int (nI (i + 1)))]) ?_ (ih (len - (i + 1)) (by omega) (i + 1) _ _ _ _ rfl e9 (by omega) (by omega))
                      simp [x_lk]
                  · refine r_iload hE dX6_setsThatMeet_172 rfl ?_
                    refine r_bipush (v := 20) hE dX6_setsThatMeet_174 (by decide) ?_
                    refine r_icmp_neN (a := z / 1024) (b := 20) (tgt := 240) hE dX6_setsThatMeet_176 (by decide) (by omega) (by decide) (fun c176 => ?_) (fun c176 => ?_)
                    · refine r_iload hE dX6_setsThatMeet_240 rfl ?_
                      refine r_bipush (v := 24) hE dX6_setsThatMeet_242 (by decide) ?_
                      refine r_icmp_neN (a := z / 1024) (b := 24) (tgt := 278) hE dX6_setsThatMeet_244 (by decide) (by omega) (by decide) (fun c244 => ?_) (fun c244 => ?_)
                      · refine r_iload hE dX6_setsThatMeet_278 rfl ?_
                        refine t_invs (r := (some (.int (y_b (23 ≤ z / 1024 ∧ z / 1024 ≤ 28))))) (S2 := (y_mk n L (y_sw D 157 f))) hE [.int (nI (z / 1024))] (k_isTagN (by omega)) s_yX6_isTag m_X6_86 dX6_setsThatMeet_280 rfl (by decide) ⟨Nat.le_refl _, Nat.le_refl _⟩ (Nat.le_of_ble_eq_true rfl) ?_
                        show E 0 0 283 [(0, .ref 152), (1, .ref w), (2, .int (nI x)), (3, .int hl), (4, .int a), (5, .int b), (6, .int (nI t)), (7, .ref s), (8, .int (nI len)), (9, .int (nI i)), (10, .int (nI z)), (11, .int (nI (z / 1024))), (12, .int (nI (z % 1024)))] [.int (y_b (23 ≤ z / 1024 ∧ z / 1024 ≤ 28))] (y_mk n L (y_sw D 157 f))
                        refine r_ifb_eq (tgt := 316) hE dX6_setsThatMeet_283 (by decide) (fun c283 => ?_) (fun c283 => ?_)
                        · refine r_iload hE dX6_setsThatMeet_316 rfl ?_
                          refine r_aload_n hE dX6_setsThatMeet_318 rfl ?_
                          refine r_iload hE dX6_setsThatMeet_319 rfl ?_
                          refine r_iload hE dX6_setsThatMeet_321 rfl ?_
                          refine r_iload_n hE dX6_setsThatMeet_323 rfl ?_
                          refine t_invv (r := (some (.int (K_partOf D (nI (z / 1024)) (z % 1024) (nI x))))) (S2 := (y_mk n L (y_sw D 157 f))) hE [.int (nI (z / 1024)), .int (nI (z % 1024)), .int (nI x)] (k_partOf (D := y_sw D 157 f) (p := nI (z / 1024)) (q := z % 1024) (x := nI x) hL (fun h => hz4 (by
        rcases h with h | h
        · exact Or.inl ((nI_eq (b := 31) (by omega) (by decide)).mp h)
        · exact Or.inr (Or.inl ((nI_eq (b := 32) (by omega) (by decide)).mp h))))) v_yX6_partOf m_X6_93 dX6_setsThatMeet_324 rfl (hL 152 (by decide)) (y_l_152 ((y_sw D 157 f) 152)) rfl (by decide) ⟨Nat.le_refl _, Nat.le_refl _⟩ (Nat.le_of_ble_eq_true rfl) ?_
                          show E 0 0 327 [(0, .ref 152), (1, .ref w), (2, .int (nI x)), (3, .int hl), (4, .int a), (5, .int b), (6, .int (nI t)), (7, .ref s), (8, .int (nI len)), (9, .int (nI i)), (10, .int (nI z)), (11, .int (nI (z / 1024))), (12, .int (nI (z % 1024)))] [.int (K_partOf D (nI (z / 1024)) (z % 1024) (nI x)), .int a] (y_mk n L (y_sw D 157 f))
                          refine r_iadd hE dX6_setsThatMeet_327 ?_
                          refine r_istore (ls2 := [(0, .ref 152), (1, .ref w), (2, .int (nI x)), (3, .int hl), (4, .int (a + (K_partOf D (nI (z / 1024)) (z % 1024) (nI x)))), (5, .int b), (6, .int (nI t)), (7, .ref s), (8, .int (nI len)), (9, .int (nI i)), (10, .int (nI z)), (11, .int (nI (z / 1024))), (12, .int (nI (z % 1024)))]) hE dX6_setsThatMeet_328 (by decide) rfl ?_
                          refine r_iincN (a := i) (b := 1) (ls2 := [(0, .ref 152), (1, .ref w), (2, .int (nI x)), (3, .int hl), (4, .int (a + (K_partOf D (nI (z / 1024)) (z % 1024) (nI x)))), (5, .int b), (6, .int (nI t)), (7, .ref s), (8, .int (nI len)), (9, .int (nI (i + 1))), (10, .int (nI z)), (11, .int (nI (z / 1024))), (12, .int (nI (z % 1024)))]) hE dX6_setsThatMeet_330 rfl rfl (by decide) rfl ?_
                          refine r_goto (tgt := 31) hE dX6_setsThatMeet_333 (by decide) ?_
                          have e9 : y_mf D (D s).1 x hl (i + 1) = (a + (K_partOf D (nI (z / 1024)) (z % 1024) (nI x)), b, t, f) := by
                            show y_ms D x hl (y_mf D (D s).1 x hl i) _ = _
                            rw [hg, hz, nI_clamp (by omega)]
                            unfold y_ms
                            dsimp only
                            repeat first | rw [if_pos (by first | assumption | omega)] | rw [if_neg (by first | assumption | omega)]
                            all_goals (exfalso; omega)
                          refine r_locs hE (ls2 := [(0, .ref 152), (1, .ref w), (2, .int (nI x)), (3, .int hl), (4, .int (a + (K_partOf D (nI (z / 1024)) (z % 1024) (nI x)))), (5, .int b), (6, .int (nI t)), (7, .ref s), (8, .int (nI len)), (9, .int (nI (i + 1)))]) ?_ (ih (len - (i + 1)) (by omega) (i + 1) _ _ _ _ rfl e9 (by omega) (by omega))
                          simp [x_lk]
                        · refine r_iload hE dX6_setsThatMeet_286 rfl ?_
                          refine r_iconst (v := 1) hE dX6_setsThatMeet_288 (by decide) ?_
                          refine r_iaddN (a := t) (b := 1) hE dX6_setsThatMeet_289 ?_
                          refine r_bipush (v := 23) hE dX6_setsThatMeet_290 (by decide) ?_
                          refine r_mmin hE m_X6_74 dX6_setsThatMeet_292 (by decide) (Nat.le_of_ble_eq_true rfl) ⟨Nat.le_refl _, Nat.le_refl _⟩ ?_
                          refine r_top (y := (nI (min (t + 1) 23))) (y_min23 t (by omega)) ?_
                          refine r_istore (ls2 := [(0, .ref 152), (1, .ref w), (2, .int (nI x)), (3, .int hl), (4, .int a), (5, .int b), (6, .int (nI (min (t + 1) 23))), (7, .ref s), (8, .int (nI len)), (9, .int (nI i)), (10, .int (nI z)), (11, .int (nI (z / 1024))), (12, .int (nI (z % 1024)))]) hE dX6_setsThatMeet_295 (by decide) rfl ?_
                          refine r_aload_n hE dX6_setsThatMeet_297 rfl ?_
                          refine t_getr hE f_X6_24 y_R_152_7 dX6_setsThatMeet_298 (hL 152 (by decide)) ?_
                          refine r_iload hE dX6_setsThatMeet_301 rfl ?_
                          refine r_aload_n hE dX6_setsThatMeet_303 rfl ?_
                          refine r_iload hE dX6_setsThatMeet_304 rfl ?_
                          refine r_iload hE dX6_setsThatMeet_306 rfl ?_
                          refine r_iload_n hE dX6_setsThatMeet_308 rfl ?_
                          refine t_invv (r := (some (.int (K_tag D (nI (z / 1024)) (z % 1024) x)))) (S2 := (y_mk n L (y_sw D 157 f))) hE [.int (nI (z / 1024)), .int (nI (z % 1024)), .int (nI x)] (k_setsOfTag (D := y_sw D 157 f) (p := nI (z / 1024)) (q := z % 1024) (x := x) hV hL (hz4 (Or.inr (Or.inr c283))) hx) v_yX6_setsOfTag m_X6_90 dX6_setsThatMeet_309 rfl (hL 152 (by decide)) (y_l_152 ((y_sw D 157 f) 152)) rfl (by decide) ⟨Nat.le_refl _, Nat.le_refl _⟩ (Nat.le_of_ble_eq_true rfl) ?_
                          show E 0 0 312 [(0, .ref 152), (1, .ref w), (2, .int (nI x)), (3, .int hl), (4, .int a), (5, .int b), (6, .int (nI (min (t + 1) 23))), (7, .ref s), (8, .int (nI len)), (9, .int (nI i)), (10, .int (nI z)), (11, .int (nI (z / 1024))), (12, .int (nI (z % 1024)))] [.int (K_tag D (nI (z / 1024)) (z % 1024) x), .int (nI (min (t + 1) 23)), .ref 157] (y_mk n L (y_sw D 157 f))
                          refine t_iastN (e := min (t + 1) 23) hE y_A_157 dX6_setsThatMeet_312 (hL 157 (by decide)) (by omega) (by decide) ?_
                          refine r_goto (tgt := 330) hE dX6_setsThatMeet_313 (by decide) ?_
                          refine r_iincN (a := i) (b := 1) (ls2 := [(0, .ref 152), (1, .ref w), (2, .int (nI x)), (3, .int hl), (4, .int a), (5, .int b), (6, .int (nI (min (t + 1) 23))), (7, .ref s), (8, .int (nI len)), (9, .int (nI (i + 1))), (10, .int (nI z)), (11, .int (nI (z / 1024))), (12, .int (nI (z % 1024)))]) hE dX6_setsThatMeet_330 rfl rfl (by decide) rfl ?_
                          refine r_goto (tgt := 31) hE dX6_setsThatMeet_333 (by decide) ?_
                          rw [y_si_sw]
                          have e9 : y_mf D (D s).1 x hl (i + 1) = (a, b, min (t + 1) 23, (upd f (min (t + 1) 23) (K_tag D (nI (z / 1024)) (z % 1024) x))) := by
                            show y_ms D x hl (y_mf D (D s).1 x hl i) _ = _
                            rw [hg, hz, nI_clamp (by omega)]
                            unfold y_ms
                            dsimp only
                            repeat first | rw [if_pos (by first | assumption | omega)] | rw [if_neg (by first | assumption | omega)]
                            all_goals (exfalso; omega)
                          refine r_locs hE (ls2 := [(0, .ref 152), (1, .ref w), (2, .int (nI x)), (3, .int hl), (4, .int a), (5, .int b), (6, .int (nI (min (t + 1) 23))), (7, .ref s), (8, .int (nI len)), (9, .int (nI (i + 1)))]) ?_ (ih (len - (i + 1)) (by omega) (i + 1) _ _ _ _ rfl e9 (by omega) (by omega))
                          simp [x_lk]
                      · refine r_iload hE dX6_setsThatMeet_247 rfl ?_
                        refine r_iconst (v := 1) hE dX6_setsThatMeet_249 (by decide) ?_
                        refine r_iaddN (a := t) (b := 1) hE dX6_setsThatMeet_250 ?_
                        refine r_bipush (v := 23) hE dX6_setsThatMeet_251 (by decide) ?_
                        refine r_mmin hE m_X6_74 dX6_setsThatMeet_253 (by decide) (Nat.le_of_ble_eq_true rfl) ⟨Nat.le_refl _, Nat.le_refl _⟩ ?_
                        refine r_top (y := (nI (min (t + 1) 23))) (y_min23 t (by omega)) ?_
                        refine r_istore (ls2 := [(0, .ref 152), (1, .ref w), (2, .int (nI x)), (3, .int hl), (4, .int a), (5, .int b), (6, .int (nI (min (t + 1) 23))), (7, .ref s), (8, .int (nI len)), (9, .int (nI i)), (10, .int (nI z)), (11, .int (nI (z / 1024))), (12, .int (nI (z % 1024)))]) hE dX6_setsThatMeet_256 (by decide) rfl ?_
                        refine r_aload_n hE dX6_setsThatMeet_258 rfl ?_
                        refine t_getr hE f_X6_24 y_R_152_7 dX6_setsThatMeet_259 (hL 152 (by decide)) ?_
                        refine r_iload hE dX6_setsThatMeet_262 rfl ?_
                        refine r_iload_n hE dX6_setsThatMeet_264 rfl ?_
                        refine r_if_eq (tgt := 273) hE dX6_setsThatMeet_265 (by decide) (fun c265 => ?_) (fun c265 => ?_)
                        · refine r_iconst (v := 0) hE dX6_setsThatMeet_273 (by decide) ?_
                          refine t_iastN (e := min (t + 1) 23) hE y_A_157 dX6_setsThatMeet_274 (hL 157 (by decide)) (by omega) (by decide) ?_
                          refine r_goto (tgt := 330) hE dX6_setsThatMeet_275 (by decide) ?_
                          refine r_iincN (a := i) (b := 1) (ls2 := [(0, .ref 152), (1, .ref w), (2, .int (nI x)), (3, .int hl), (4, .int a), (5, .int b), (6, .int (nI (min (t + 1) 23))), (7, .ref s), (8, .int (nI len)), (9, .int (nI (i + 1))), (10, .int (nI z)), (11, .int (nI (z / 1024))), (12, .int (nI (z % 1024)))]) hE dX6_setsThatMeet_330 rfl rfl (by decide) rfl ?_
                          refine r_goto (tgt := 31) hE dX6_setsThatMeet_333 (by decide) ?_
                          rw [y_si_sw]
                          have e9 : y_mf D (D s).1 x hl (i + 1) = (a, b, min (t + 1) 23, (upd f (min (t + 1) 23) 0)) := by
                            show y_ms D x hl (y_mf D (D s).1 x hl i) _ = _
                            rw [hg, hz, nI_clamp (by omega)]
                            unfold y_ms
                            dsimp only
                            repeat first | rw [if_pos (by first | assumption | omega)] | rw [if_neg (by first | assumption | omega)]
                            all_goals (exfalso; omega)
                          refine r_locs hE (ls2 := [(0, .ref 152), (1, .ref w), (2, .int (nI x)), (3, .int hl), (4, .int a), (5, .int b), (6, .int (nI (min (t + 1) 23))), (7, .ref s), (8, .int (nI len)), (9, .int (nI (i + 1)))]) ?_ (ih (len - (i + 1)) (by omega) (i + 1) _ _ _ _ rfl e9 (by omega) (by omega))
                          simp [x_lk]
                        · refine r_ldc (v := 65535) hE dX6_setsThatMeet_268 (x_gin (List.mem_append_right _ (tb_4 _ (List.mem_of_getElem? (i := 167) rfl))) rfl) ?_
                          refine r_goto (tgt := 274) hE dX6_setsThatMeet_270 (by decide) ?_
                          refine t_iastN (e := min (t + 1) 23) hE y_A_157 dX6_setsThatMeet_274 (hL 157 (by decide)) (by omega) (by decide) ?_
                          refine r_goto (tgt := 330) hE dX6_setsThatMeet_275 (by decide) ?_
                          refine r_iincN (a := i) (b := 1) (ls2 := [(0, .ref 152), (1, .ref w), (2, .int (nI x)), (3, .int hl), (4, .int a), (5, .int b), (6, .int (nI (min (t + 1) 23))), (7, .ref s), (8, .int (nI len)), (9, .int (nI (i + 1))), (10, .int (nI z)), (11, .int (nI (z / 1024))), (12, .int (nI (z % 1024)))]) hE dX6_setsThatMeet_330 rfl rfl (by decide) rfl ?_
                          refine r_goto (tgt := 31) hE dX6_setsThatMeet_333 (by decide) ?_
                          rw [y_si_sw]
                          have e9 : y_mf D (D s).1 x hl (i + 1) = (a, b, min (t + 1) 23, (upd f (min (t + 1) 23) 65535)) := by
                            show y_ms D x hl (y_mf D (D s).1 x hl i) _ = _
                            rw [hg, hz, nI_clamp (by omega)]
                            unfold y_ms
                            dsimp only
                            repeat first | rw [if_pos (by first | assumption | omega)] | rw [if_neg (by first | assumption | omega)]
                            all_goals (exfalso; omega)
                          refine r_locs hE (ls2 := [(0, .ref 152), (1, .ref w), (2, .int (nI x)), (3, .int hl), (4, .int a), (5, .int b), (6, .int (nI (min (t + 1) 23))), (7, .ref s), (8, .int (nI len)), (9, .int (nI (i + 1)))]) ?_ (ih (len - (i + 1)) (by omega) (i + 1) _ _ _ _ rfl e9 (by omega) (by omega))
                          simp [x_lk]
                    · refine r_iload hE dX6_setsThatMeet_179 rfl ?_
                      refine r_iconst (v := 1) hE dX6_setsThatMeet_181 (by decide) ?_
                      refine r_isub hE dX6_setsThatMeet_182 ?_
                      refine r_iconst (v := 0) hE dX6_setsThatMeet_183 (by decide) ?_
                      refine r_mmax hE m_X6_83 dX6_setsThatMeet_184 (by decide) (Nat.le_of_ble_eq_true rfl) ⟨Nat.le_refl _, Nat.le_refl _⟩ ?_
                      refine r_top (y := (nI (t - 1))) (y_max0 t (by omega)) ?_
                      refine r_istore (ls2 := [(0, .ref 152), (1, .ref w), (2, .int (nI x)), (3, .int hl), (4, .int a), (5, .int b), (6, .int (nI (t - 1))), (7, .ref s), (8, .int (nI len)), (9, .int (nI i)), (10, .int (nI z)), (11, .int (nI (z / 1024))), (12, .int (nI (z % 1024)))]) hE dX6_setsThatMeet_187 (by decide) rfl ?_
                      refine r_aload_n hE dX6_setsThatMeet_189 rfl ?_
                      refine t_getr hE f_X6_24 y_R_152_7 dX6_setsThatMeet_190 (hL 152 (by decide)) ?_
                      refine r_iload hE dX6_setsThatMeet_193 rfl ?_
                      refine r_iconst (v := 1) hE dX6_setsThatMeet_195 (by decide) ?_
                      refine r_iaddN (a := t - 1) (b := 1) hE dX6_setsThatMeet_196 ?_
                      refine t_ialdN (e := (t - 1) + 1) hE y_A_157 dX6_setsThatMeet_197 (hL 157 (by decide)) (by omega) (by decide) ?_
                      refine r_top (y := (f (t - 1 + 1))) rfl ?_
                      refine r_istore (ls2 := [(0, .ref 152), (1, .ref w), (2, .int (nI x)), (3, .int hl), (4, .int a), (5, .int b), (6, .int (nI (t - 1))), (7, .ref s), (8, .int (nI len)), (9, .int (nI i)), (10, .int (nI z)), (11, .int (nI (z / 1024))), (12, .int (nI (z % 1024))), (13, .int (f (t - 1 + 1)))]) hE dX6_setsThatMeet_198 (by decide) rfl ?_
                      refine r_aload_n hE dX6_setsThatMeet_200 rfl ?_
                      refine t_getr hE f_X6_24 y_R_152_7 dX6_setsThatMeet_201 (hL 152 (by decide)) ?_
                      refine r_iload hE dX6_setsThatMeet_204 rfl ?_
                      refine r_iload hE dX6_setsThatMeet_206 rfl ?_
                      refine r_bipush (v := 21) hE dX6_setsThatMeet_208 (by decide) ?_
                      refine r_icmp_neN (a := z / 1024) (b := 21) (tgt := 226) hE dX6_setsThatMeet_210 (by decide) (by omega) (by decide) (fun c210 => ?_) (fun c210 => ?_)
                      · refine r_aload_n hE dX6_setsThatMeet_226 rfl ?_
                        refine t_getr hE f_X6_24 y_R_152_7 dX6_setsThatMeet_227 (hL 152 (by decide)) ?_
                        refine r_iload hE dX6_setsThatMeet_230 rfl ?_
                        refine t_ialdN (e := t - 1) hE y_A_157 dX6_setsThatMeet_232 (hL 157 (by decide)) (by omega) (by decide) ?_
                        refine r_top (y := (f (t - 1))) rfl ?_
                        refine r_iload hE dX6_setsThatMeet_233 rfl ?_
                        refine r_ior hE dX6_setsThatMeet_235 ?_
                        refine t_iastN (e := t - 1) hE y_A_157 dX6_setsThatMeet_236 (hL 157 (by decide)) (by omega) (by decide) ?_
                        refine r_goto (tgt := 330) hE dX6_setsThatMeet_237 (by decide) ?_
                        refine r_iincN (a := i) (b := 1) (ls2 := [(0, .ref 152), (1, .ref w), (2, .int (nI x)), (3, .int hl), (4, .int a), (5, .int b), (6, .int (nI (t - 1))), (7, .ref s), (8, .int (nI len)), (9, .int (nI (i + 1))), (10, .int (nI z)), (11, .int (nI (z / 1024))), (12, .int (nI (z % 1024))), (13, .int (f (t - 1 + 1)))]) hE dX6_setsThatMeet_330 rfl rfl (by decide) rfl ?_
                        refine r_goto (tgt := 31) hE dX6_setsThatMeet_333 (by decide) ?_
                        rw [y_si_sw]
                        have e9 : y_mf D (D s).1 x hl (i + 1) = (a, b, t - 1, (upd f (t - 1) ((f (t - 1)) ||| (f (t - 1 + 1))))) := by
                          show y_ms D x hl (y_mf D (D s).1 x hl i) _ = _
                          rw [hg, hz, nI_clamp (by omega)]
                          unfold y_ms
                          dsimp only
                          repeat first | rw [if_pos (by first | assumption | omega)] | rw [if_neg (by first | assumption | omega)]
                          all_goals (exfalso; omega)
                        refine r_locs hE (ls2 := [(0, .ref 152), (1, .ref w), (2, .int (nI x)), (3, .int hl), (4, .int a), (5, .int b), (6, .int (nI (t - 1))), (7, .ref s), (8, .int (nI len)), (9, .int (nI (i + 1)))]) ?_ (ih (len - (i + 1)) (by omega) (i + 1) _ _ _ _ rfl e9 (by omega) (by omega))
                        simp [x_lk]
                      · refine r_aload_n hE dX6_setsThatMeet_213 rfl ?_
                        refine t_getr hE f_X6_24 y_R_152_7 dX6_setsThatMeet_214 (hL 152 (by decide)) ?_
                        refine r_iload hE dX6_setsThatMeet_217 rfl ?_
                        refine t_ialdN (e := t - 1) hE y_A_157 dX6_setsThatMeet_219 (hL 157 (by decide)) (by omega) (by decide) ?_
                        refine r_top (y := (f (t - 1))) rfl ?_
                        refine r_iload hE dX6_setsThatMeet_220 rfl ?_
                        refine r_iand hE dX6_setsThatMeet_222 ?_
                        refine r_goto (tgt := 236) hE dX6_setsThatMeet_223 (by decide) ?_
                        refine t_iastN (e := t - 1) hE y_A_157 dX6_setsThatMeet_236 (hL 157 (by decide)) (by omega) (by decide) ?_
                        refine r_goto (tgt := 330) hE dX6_setsThatMeet_237 (by decide) ?_
                        refine r_iincN (a := i) (b := 1) (ls2 := [(0, .ref 152), (1, .ref w), (2, .int (nI x)), (3, .int hl), (4, .int a), (5, .int b), (6, .int (nI (t - 1))), (7, .ref s), (8, .int (nI len)), (9, .int (nI (i + 1))), (10, .int (nI z)), (11, .int (nI (z / 1024))), (12, .int (nI (z % 1024))), (13, .int (f (t - 1 + 1)))]) hE dX6_setsThatMeet_330 rfl rfl (by decide) rfl ?_
                        refine r_goto (tgt := 31) hE dX6_setsThatMeet_333 (by decide) ?_
                        rw [y_si_sw]
                        have e9 : y_mf D (D s).1 x hl (i + 1) = (a, b, t - 1, (upd f (t - 1) ((f (t - 1)) &&& (f (t - 1 + 1))))) := by
                          show y_ms D x hl (y_mf D (D s).1 x hl i) _ = _
                          rw [hg, hz, nI_clamp (by omega)]
                          unfold y_ms
                          dsimp only
                          repeat first | rw [if_pos (by first | assumption | omega)] | rw [if_neg (by first | assumption | omega)]
                          all_goals (exfalso; omega)
                        refine r_locs hE (ls2 := [(0, .ref 152), (1, .ref w), (2, .int (nI x)), (3, .int hl), (4, .int a), (5, .int b), (6, .int (nI (t - 1))), (7, .ref s), (8, .int (nI len)), (9, .int (nI (i + 1)))]) ?_ (ih (len - (i + 1)) (by omega) (i + 1) _ _ _ _ rfl e9 (by omega) (by omega))
                        simp [x_lk]
                · refine r_aload_n hE dX6_setsThatMeet_150 rfl ?_
                  refine t_getr hE f_X6_24 y_R_152_7 dX6_setsThatMeet_151 (hL 152 (by decide)) ?_
                  refine r_iload hE dX6_setsThatMeet_154 rfl ?_
                  refine r_dup2 hE dX6_setsThatMeet_156 rfl rfl ?_
                  refine t_ialdN (e := t) hE y_A_157 dX6_setsThatMeet_157 (hL 157 (by decide)) (by omega) (by decide) ?_
                  refine r_top (y := (f t)) rfl ?_
                  refine r_ldc (v := 65535) hE dX6_setsThatMeet_158 (x_gin (List.mem_append_right _ (tb_4 _ (List.mem_of_getElem? (i := 167) rfl))) rfl) ?_
                  refine r_ixor hE dX6_setsThatMeet_160 ?_
                  refine t_iastN (e := t) hE y_A_157 dX6_setsThatMeet_161 (hL 157 (by decide)) (by omega) (by decide) ?_
                  refine r_goto (tgt := 330) hE dX6_setsThatMeet_162 (by decide) ?_
                  refine r_iincN (a := i) (b := 1) (ls2 := [(0, .ref 152), (1, .ref w), (2, .int (nI x)), (3, .int hl), (4, .int a), (5, .int b), (6, .int (nI t)), (7, .ref s), (8, .int (nI len)), (9, .int (nI (i + 1))), (10, .int (nI z)), (11, .int (nI (z / 1024))), (12, .int (nI (z % 1024)))]) hE dX6_setsThatMeet_330 rfl rfl (by decide) rfl ?_
                  refine r_goto (tgt := 31) hE dX6_setsThatMeet_333 (by decide) ?_
                  rw [y_si_sw]
                  have e9 : y_mf D (D s).1 x hl (i + 1) = (a, b, t, (upd f t ((f t) ^^^ 65535))) := by
                    show y_ms D x hl (y_mf D (D s).1 x hl i) _ = _
                    rw [hg, hz, nI_clamp (by omega)]
                    unfold y_ms
                    dsimp only
                    repeat first | rw [if_pos (by first | assumption | omega)] | rw [if_neg (by first | assumption | omega)]
                    all_goals (exfalso; omega)
                  refine r_locs hE (ls2 := [(0, .ref 152), (1, .ref w), (2, .int (nI x)), (3, .int hl), (4, .int a), (5, .int b), (6, .int (nI t)), (7, .ref s), (8, .int (nI len)), (9, .int (nI (i + 1)))]) ?_ (ih (len - (i + 1)) (by omega) (i + 1) _ _ _ _ rfl e9 (by omega) (by omega))
                  simp [x_lk]
              · refine r_iinc (v := b + 1) (ls2 := [(0, .ref 152), (1, .ref w), (2, .int (nI x)), (3, .int hl), (4, .int a), (5, .int (b + 1)), (6, .int (nI t)), (7, .ref s), (8, .int (nI len)), (9, .int (nI i)), (10, .int (nI z)), (11, .int (nI (z / 1024))), (12, .int (nI (z % 1024)))]) hE dX6_setsThatMeet_137 rfl rfl (by decide) rfl ?_
                refine r_goto (tgt := 330) hE dX6_setsThatMeet_140 (by decide) ?_
                refine r_iincN (a := i) (b := 1) (ls2 := [(0, .ref 152), (1, .ref w), (2, .int (nI x)), (3, .int hl), (4, .int a), (5, .int (b + 1)), (6, .int (nI t)), (7, .ref s), (8, .int (nI len)), (9, .int (nI (i + 1))), (10, .int (nI z)), (11, .int (nI (z / 1024))), (12, .int (nI (z % 1024)))]) hE dX6_setsThatMeet_330 rfl rfl (by decide) rfl ?_
                refine r_goto (tgt := 31) hE dX6_setsThatMeet_333 (by decide) ?_
                have e9 : y_mf D (D s).1 x hl (i + 1) = (a, b + 1, t, f) := by
                  show y_ms D x hl (y_mf D (D s).1 x hl i) _ = _
                  rw [hg, hz, nI_clamp (by omega)]
                  unfold y_ms
                  dsimp only
                  repeat first | rw [if_pos (by first | assumption | omega)] | rw [if_neg (by first | assumption | omega)]
                  all_goals (exfalso; omega)
                refine r_locs hE (ls2 := [(0, .ref 152), (1, .ref w), (2, .int (nI x)), (3, .int hl), (4, .int a), (5, .int (b + 1)), (6, .int (nI t)), (7, .ref s), (8, .int (nI len)), (9, .int (nI (i + 1)))]) ?_ (ih (len - (i + 1)) (by omega) (i + 1) _ _ _ _ rfl e9 (by omega) (by omega))
                simp [x_lk]
            · refine r_iload hE dX6_setsThatMeet_117 rfl ?_
              refine r_ineg hE dX6_setsThatMeet_119 ?_
              refine r_istore (ls2 := [(0, .ref 152), (1, .ref w), (2, .int (nI x)), (3, .int hl), (4, .int (-a)), (5, .int b), (6, .int (nI t)), (7, .ref s), (8, .int (nI len)), (9, .int (nI i)), (10, .int (nI z)), (11, .int (nI (z / 1024))), (12, .int (nI (z % 1024)))]) hE dX6_setsThatMeet_120 (by decide) rfl ?_
              refine r_iload hE dX6_setsThatMeet_122 rfl ?_
              refine r_ineg hE dX6_setsThatMeet_124 ?_
              refine r_istore (ls2 := [(0, .ref 152), (1, .ref w), (2, .int (nI x)), (3, .int hl), (4, .int (-a)), (5, .int (-b)), (6, .int (nI t)), (7, .ref s), (8, .int (nI len)), (9, .int (nI i)), (10, .int (nI z)), (11, .int (nI (z / 1024))), (12, .int (nI (z % 1024)))]) hE dX6_setsThatMeet_125 (by decide) rfl ?_
              refine r_goto (tgt := 330) hE dX6_setsThatMeet_127 (by decide) ?_
              refine r_iincN (a := i) (b := 1) (ls2 := [(0, .ref 152), (1, .ref w), (2, .int (nI x)), (3, .int hl), (4, .int (-a)), (5, .int (-b)), (6, .int (nI t)), (7, .ref s), (8, .int (nI len)), (9, .int (nI (i + 1))), (10, .int (nI z)), (11, .int (nI (z / 1024))), (12, .int (nI (z % 1024)))]) hE dX6_setsThatMeet_330 rfl rfl (by decide) rfl ?_
              refine r_goto (tgt := 31) hE dX6_setsThatMeet_333 (by decide) ?_
              have e9 : y_mf D (D s).1 x hl (i + 1) = (-a, -b, t, f) := by
                show y_ms D x hl (y_mf D (D s).1 x hl i) _ = _
                rw [hg, hz, nI_clamp (by omega)]
                unfold y_ms
                dsimp only
                repeat first | rw [if_pos (by first | assumption | omega)] | rw [if_neg (by first | assumption | omega)]
                all_goals (exfalso; omega)
              refine r_locs hE (ls2 := [(0, .ref 152), (1, .ref w), (2, .int (nI x)), (3, .int hl), (4, .int (-a)), (5, .int (-b)), (6, .int (nI t)), (7, .ref s), (8, .int (nI len)), (9, .int (nI (i + 1)))]) ?_ (ih (len - (i + 1)) (by omega) (i + 1) _ _ _ _ rfl e9 (by omega) (by omega))
              simp [x_lk]
          · refine r_iload hE dX6_setsThatMeet_75 rfl ?_
            refine r_iconst (v := 1) hE dX6_setsThatMeet_77 (by decide) ?_
            refine r_iaddN (a := t) (b := 1) hE dX6_setsThatMeet_78 ?_
            refine r_bipush (v := 23) hE dX6_setsThatMeet_79 (by decide) ?_
            refine r_mmin hE m_X6_74 dX6_setsThatMeet_81 (by decide) (Nat.le_of_ble_eq_true rfl) ⟨Nat.le_refl _, Nat.le_refl _⟩ ?_
            refine r_top (y := (nI (min (t + 1) 23))) (y_min23 t (by omega)) ?_
            refine r_istore (ls2 := [(0, .ref 152), (1, .ref w), (2, .int (nI x)), (3, .int hl), (4, .int a), (5, .int b), (6, .int (nI (min (t + 1) 23))), (7, .ref s), (8, .int (nI len)), (9, .int (nI i)), (10, .int (nI z)), (11, .int (nI (z / 1024))), (12, .int (nI (z % 1024)))]) hE dX6_setsThatMeet_84 (by decide) rfl ?_
            refine r_aload_n hE dX6_setsThatMeet_86 rfl ?_
            refine t_getr hE f_X6_24 y_R_152_7 dX6_setsThatMeet_87 (hL 152 (by decide)) ?_
            refine r_iload hE dX6_setsThatMeet_90 rfl ?_
            refine r_iload hE dX6_setsThatMeet_92 rfl ?_
            refine r_iload hE dX6_setsThatMeet_94 rfl ?_
            refine r_iload hE dX6_setsThatMeet_96 rfl ?_
            refine t_invs (r := (some (.int (y_cm (nI (z / 1024)) a b 5)))) (S2 := (y_mk n L (y_sw D 157 f))) hE [.int (nI (z / 1024)), .int a, .int b] (k_setsThatCompare hV) s_yX6_setsThatCompare m_X6_79 dX6_setsThatMeet_98 rfl (by decide) ⟨Nat.le_refl _, Nat.le_refl _⟩ (Nat.le_of_ble_eq_true rfl) ?_
            show E 0 0 101 [(0, .ref 152), (1, .ref w), (2, .int (nI x)), (3, .int hl), (4, .int a), (5, .int b), (6, .int (nI (min (t + 1) 23))), (7, .ref s), (8, .int (nI len)), (9, .int (nI i)), (10, .int (nI z)), (11, .int (nI (z / 1024))), (12, .int (nI (z % 1024)))] [.int (y_cm (nI (z / 1024)) a b 5), .int (nI (min (t + 1) 23)), .ref 157] (y_mk n L (y_sw D 157 f))
            refine t_iastN (e := min (t + 1) 23) hE y_A_157 dX6_setsThatMeet_101 (hL 157 (by decide)) (by omega) (by decide) ?_
            refine r_iconst (v := 0) hE dX6_setsThatMeet_102 (by decide) ?_
            refine r_istore (ls2 := [(0, .ref 152), (1, .ref w), (2, .int (nI x)), (3, .int hl), (4, .int 0), (5, .int b), (6, .int (nI (min (t + 1) 23))), (7, .ref s), (8, .int (nI len)), (9, .int (nI i)), (10, .int (nI z)), (11, .int (nI (z / 1024))), (12, .int (nI (z % 1024)))]) hE dX6_setsThatMeet_103 (by decide) rfl ?_
            refine r_iconst (v := 0) hE dX6_setsThatMeet_105 (by decide) ?_
            refine r_istore (ls2 := [(0, .ref 152), (1, .ref w), (2, .int (nI x)), (3, .int hl), (4, .int 0), (5, .int 0), (6, .int (nI (min (t + 1) 23))), (7, .ref s), (8, .int (nI len)), (9, .int (nI i)), (10, .int (nI z)), (11, .int (nI (z / 1024))), (12, .int (nI (z % 1024)))]) hE dX6_setsThatMeet_106 (by decide) rfl ?_
            refine r_goto (tgt := 330) hE dX6_setsThatMeet_108 (by decide) ?_
            refine r_iincN (a := i) (b := 1) (ls2 := [(0, .ref 152), (1, .ref w), (2, .int (nI x)), (3, .int hl), (4, .int 0), (5, .int 0), (6, .int (nI (min (t + 1) 23))), (7, .ref s), (8, .int (nI len)), (9, .int (nI (i + 1))), (10, .int (nI z)), (11, .int (nI (z / 1024))), (12, .int (nI (z % 1024)))]) hE dX6_setsThatMeet_330 rfl rfl (by decide) rfl ?_
            refine r_goto (tgt := 31) hE dX6_setsThatMeet_333 (by decide) ?_
            rw [y_si_sw]
            have e9 : y_mf D (D s).1 x hl (i + 1) = (0, 0, min (t + 1) 23, (upd f (min (t + 1) 23) (y_cm (nI (z / 1024)) a b 5))) := by
              show y_ms D x hl (y_mf D (D s).1 x hl i) _ = _
              rw [hg, hz, nI_clamp (by omega)]
              unfold y_ms
              dsimp only
              repeat first | rw [if_pos (by first | assumption | omega)] | rw [if_neg (by first | assumption | omega)]
              all_goals (exfalso; omega)
            refine r_locs hE (ls2 := [(0, .ref 152), (1, .ref w), (2, .int (nI x)), (3, .int hl), (4, .int 0), (5, .int 0), (6, .int (nI (min (t + 1) 23))), (7, .ref s), (8, .int (nI len)), (9, .int (nI (i + 1)))]) ?_ (ih (len - (i + 1)) (by omega) (i + 1) _ _ _ _ rfl e9 (by omega) (by omega))
            simp [x_lk]
  refine r_iconst (v := 0) hE dX6_setsThatMeet_0 (by decide) ?_
  refine r_istore (ls2 := [(0, .ref 152), (1, .ref w), (2, .int (nI x)), (3, .int hl), (4, .int 0)]) hE dX6_setsThatMeet_1 (by decide) rfl ?_
  refine r_iconst (v := 0) hE dX6_setsThatMeet_3 (by decide) ?_
  refine r_istore (ls2 := [(0, .ref 152), (1, .ref w), (2, .int (nI x)), (3, .int hl), (4, .int 0), (5, .int 0)]) hE dX6_setsThatMeet_4 (by decide) rfl ?_
  refine r_iconst (v := 0) hE dX6_setsThatMeet_6 (by decide) ?_
  refine r_istore (ls2 := [(0, .ref 152), (1, .ref w), (2, .int (nI x)), (3, .int hl), (4, .int 0), (5, .int 0), (6, .int 0)]) hE dX6_setsThatMeet_7 (by decide) rfl ?_
  refine r_aload_n hE dX6_setsThatMeet_9 rfl ?_
  refine t_getr hE f_X6_24 y_R_152_7 dX6_setsThatMeet_10 (hL 152 (by decide)) ?_
  refine r_iconst (v := 0) hE dX6_setsThatMeet_13 (by decide) ?_
  refine r_ldc (v := 65535) hE dX6_setsThatMeet_14 (x_gin (List.mem_append_right _ (tb_4 _ (List.mem_of_getElem? (i := 167) rfl))) rfl) ?_
  refine t_iastN (e := 0) hE y_A_157 dX6_setsThatMeet_16 (hL 157 (by decide)) (by omega) (by decide) ?_
  change E 0 0 17 [(0, .ref 152), (1, .ref w), (2, .int (nI x)), (3, .int hl), (4, .int 0), (5, .int 0), (6, .int 0)] [] (y_mk n L (y_sw D 157 (upd (D 157).1 0 65535)))
  have hk_w : ((y_sw D 157 (upd (D 157).1 0 65535)) w).2.2.2.1 = 2 := by rw [y_sw_ne hdw]; exact hk_w
  have hs_w : ((y_sw D 157 (upd (D 157).1 0 65535)) w).2.2.1 0 = some s := by rw [y_sw_ne hdw]; exact hs_w
  have hk_s : ((y_sw D 157 (upd (D 157).1 0 65535)) s).2.2.2.1 = 0 := by rw [y_sw_ne hds]; exact hk_s
  have hl_s : ((y_sw D 157 (upd (D 157).1 0 65535)) s).2.2.2.2 = len := by rw [y_sw_ne hds]; exact hl_s
  refine r_aload_n hE dX6_setsThatMeet_17 rfl ?_
  refine r_getf hE f_X6_65 dX6_setsThatMeet_18 hm_w (y_way_lay hd_w (show ((y_sw D 157 (upd (D 157).1 0 65535)) w).2.2.2.1 = _ from hk_w)) (show _ = some (Value.ref s) by show some (va_rf (((y_sw D 157 (upd (D 157).1 0 65535)) w).2.2.1 0)) = _; rw [hs_w]; rfl) ?_
  refine r_astore (ls2 := [(0, .ref 152), (1, .ref w), (2, .int (nI x)), (3, .int hl), (4, .int 0), (5, .int 0), (6, .int 0), (7, .ref s)]) hE dX6_setsThatMeet_21 (by decide) rfl ?_
  refine r_aload hE dX6_setsThatMeet_23 rfl ?_
  refine t_dlen (len := len) hE hd_s (show ((y_sw D 157 (upd (D 157).1 0 65535)) s).2.2.2.1 = _ from hk_s) (show ((y_sw D 157 (upd (D 157).1 0 65535)) s).2.2.2.2 = _ from hl_s) dX6_setsThatMeet_25 hm_s ?_
  refine r_istore (ls2 := [(0, .ref 152), (1, .ref w), (2, .int (nI x)), (3, .int hl), (4, .int 0), (5, .int 0), (6, .int 0), (7, .ref s), (8, .int (nI len))]) hE dX6_setsThatMeet_26 (by decide) rfl ?_
  refine r_iconst (v := 0) hE dX6_setsThatMeet_28 (by decide) ?_
  refine r_istore (ls2 := [(0, .ref 152), (1, .ref w), (2, .int (nI x)), (3, .int hl), (4, .int 0), (5, .int 0), (6, .int 0), (7, .ref s), (8, .int (nI len)), (9, .int 0)]) hE dX6_setsThatMeet_29 (by decide) rfl ?_
  exact lp 0 0 0 0 _ rfl (by omega) (by omega)

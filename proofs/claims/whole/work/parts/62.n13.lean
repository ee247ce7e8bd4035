/-! ===== the reference: stories weighed ===== -/
section R62
variable {V : x_E} {own nm : String} {cc : ByteArray} {nL d MC MS pc ce sl : Nat} {ret : Option FieldType} {Q : Option Value → x_S → Prop} {E : x_P} {ls : List (Nat × Value)} {st : List Value} {S : x_S}
theorem r_topL {x y : Int64} (h : x = y) (kk : E ce sl pc ls (.long y :: st) S) : E ce sl pc ls (.long x :: st) S := by rw [h]; exact kk
end R62
theorem y_mask_id {k us : Nat} (h : us < 2 ^ k) : nI us &&& (nI (2 ^ k) - 1) = nI us := by rw [y_allN, nx_and, Nat.and_two_pow_sub_one_eq_mod, Nat.mod_eq_of_lt h]
/-- what canBe leaves as it was -/
def m_fA (D D2 : y_D) : Prop := (∀ j, j < 169 ∨ (169 < j ∧ j < 174) ∨ 184 < j → D2 j = D j) ∧ ∀ k, k ≠ 13 → k ≠ 23 → (D2 169).1 k = (D 169).1 k
theorem m_fA_r {D : y_D} : m_fA D D := ⟨fun _ _ => rfl, fun _ _ _ => rfl⟩
theorem m_fA_t {D D2 D3 : y_D} (a : m_fA D D2) (b : m_fA D2 D3) : m_fA D D3 := ⟨fun j hj => by rw [b.1 j hj, a.1 j hj], fun k h1 h2 => by rw [b.2 k h1 h2, a.2 k h1 h2]⟩
theorem m_fA_s {D D2 : y_D} {h k : Nat} {v : Int32} (a : m_fA D D2) (hh : 174 ≤ h ∧ h ≤ 184) : m_fA D (y_si D2 h k v) := ⟨fun j hj => by rw [y_si_ne (by omega), a.1 j hj], fun k h1 h2 => by rw [y_si_ne (by omega), a.2 k h1 h2]⟩
theorem m_fA_lay {D D2 : y_D} {t i : Nat} {wo : Int32} (a : m_lay D D2 t wo i) : m_fA D D2 := ⟨fun j hj => a.1 j (by omega) (by omega) (by omega) (by omega), fun k h1 _ => a.2.1 k h1⟩
theorem m_fA_7 {D D2 : y_D} {u : Int32} (a : m_M7 D D2 u) : m_fA D D2 := ⟨fun j hj => a.1.1 j (by simp only [List.mem_cons, List.not_mem_nil, or_false]; omega), fun k _ h2 => a.2.1 k h2⟩
/-- the THING th can be done at some second -/
def m_cth (W : Nat → Int32) (DL : y_D) (t us h th : Nat) : Prop := ∃ s f, s ≤ m_ls W t (-1) ∧ f < 16 ∧ m_me DL (nI us) (nI h) (m_ls W t (-1)) (q_n W 2) (16 * s + f) ∧ m_cd W th f (m_rc W (nI us) (q_n W 2))
def m_cbe (W : Nat → Int32) (t us h : Nat) (v : Int32) : Prop := ∃ DL, m_L W DL t (-1) ∧ y_s8 v (fun th => th < q_n W 3 ∧ m_cth W DL t us h th)
/-- what is known is so -/
def m_KI (W : Nat → Int32) (D : y_D) : Prop := ∀ t, t < q_n W 1 → ∀ us, us < 2 ^ q_n W 2 → ∀ h, h < 2 → (D 183).1 (2 * (64 * t + us) + h) = 0 ∨ m_cbe W t us h ((D 184).1 (2 * (64 * t + us) + h))
theorem c_forgets {V : x_E} {n : Nat} {L : List Nat} {D : y_D} (hL : y_ok L) : x_Fn V yX11_forgets cX11_forgets 2 none 0 [.ref 169] (y_mk n L D) none (y_mk n L (y_sw D 183 (y_cp (fun _ => 0) (D 183).1 512))) := by
  refine x_fn (by decide) (Nat.le_of_ble_eq_true rfl) (fun E hE => ?_)
  change E 0 0 0 [(0, .ref 169)] [] (y_mk n L D)
  have lp : ∀ (i : Nat), i ≤ 512 → E 0 0 2 [(0, .ref 169), (1, .int (nI i))] [] (y_mk n L (y_sw D 183 (y_cp (fun _ => 0) (D 183).1 i))) := by
    intro i
    induction hm9 : (512 - i) using Nat.strongRecOn generalizing i with
    | _ m9 ih =>
      intro hi
      subst hm9
      refine r_iload_n hE dX11_forgets_2 rfl ?_
      refine r_sipush (v := 512) hE dX11_forgets_3 (by decide) ?_
      refine r_icmp_geN (a := i) (b := 512) (tgt := 22) hE dX11_forgets_6 (by decide) (by omega) (by decide) (fun c6 => ?_) (fun c6 => ?_)
      · refine r_return hE dX11_forgets_22 rfl (Nat.zero_le _) (Nat.zero_le _) ?_
        have hi2 : i = 512 := by omega
        subst hi2
        exact ⟨rfl, rfl⟩
      · refine r_aload_n hE dX11_forgets_9 rfl ?_
        refine t_getr hE f_X11_58 y_R_169_24 dX11_forgets_10 (hL 169 (by decide)) ?_
        refine r_iload_n hE dX11_forgets_13 rfl ?_
        refine r_iconst (v := 0) hE dX11_forgets_14 (by decide) ?_
        refine t_zastN (e := i) hE y_A_183 dX11_forgets_15 (hL 183 (by decide)) (by omega) (by decide) ?_
        refine r_iincN (a := i) (b := 1) (ls2 := [(0, .ref 169), (1, .int (nI (i + 1)))]) hE dX11_forgets_16 rfl rfl (by decide) rfl ?_
        refine r_goto (tgt := 2) hE dX11_forgets_19 (by decide) ?_
        rw [y_si_sw, y_nb0, y_cp_s (f := fun _ => 0)]
        exact ih (512 - (i + 1)) (by omega) (i + 1) rfl (by omega)
  refine r_iconst (v := 0) hE dX11_forgets_0 (by decide) ?_
  refine r_istore_n (ls2 := [(0, .ref 169), (1, .int 0)]) hE dX11_forgets_1 (by decide) rfl ?_
  have h0 := lp 0 (by omega)
  rw [y_cp_0, y_sw_self] at h0
  exact h0
theorem c_canBe0 {V : x_E} {n : Nat} {L : List Nat} {D : y_D} {t : Nat} {u : Int32} (hL : y_ok L) (hW : m_W (D 170).1) (hKI : m_KI (D 170).1 D) (ht : t < q_n (D 170).1 1) : y_Ri V yX11_canBe cX11_canBe 7 (some .int) 8 [.ref 169, .int (nI t), .int u, .int 0] n L D (fun v D2 => m_fA D D2 ∧ m_KI (D 170).1 D2 ∧ ∃ us, us < 2 ^ (q_n (D 170).1 2) ∧ u &&& (nI (2 ^ (q_n (D 170).1 2)) - 1) = nI us ∧ m_cbe (D 170).1 t us 0 v) := by
  refine y_ri (by decide) (Nat.le_of_ble_eq_true rfl) (fun E hE => ?_)
  change E 0 0 0 [(0, .ref 169), (1, .int (nI t)), (2, .int u), (3, .int 0)] [] (y_mk n L D)
  have hr4 : q_n (D 170).1 1 ≤ 4 := hW.2.1.2
  have hkw6 : (q_n (D 170).1 2) ≤ 6 := hW.2.2.1.2
  have hp6 : 2 ^ (q_n (D 170).1 2) ≤ 2 ^ 6 := Nat.pow_le_pow_right (by decide) hkw6
  have hp7 : (2 : Nat) ^ 6 = 64 := rfl
  have hwr := hW.2.2.2.2.2.1 t ht
  have hk3 := m_ls_b (wo := (-1)) hwr
  obtain ⟨us, hus, eus⟩ := y_mask hkw6 u
  refine r_iload_n hE dX11_canBe_0 rfl ?_
  refine r_iconst (v := 1) hE dX11_canBe_1 (by decide) ?_
  refine r_aload_n hE dX11_canBe_2 rfl ?_
  refine t_getr hE f_X11_13 y_R_169_1 dX11_canBe_3 (hL 169 (by decide)) ?_
  refine r_iconst (v := 2) hE dX11_canBe_6 (by decide) ?_
  refine t_ialdN (e := 2) hE y_A_170 dX11_canBe_7 (hL 170 (by decide)) (by omega) (by decide) ?_
  refine r_top (y := (nI (q_n (D 170).1 2))) hW.2.2.1.1 ?_
  refine r_shl1N (k := (q_n (D 170).1 2)) hE dX11_canBe_8 (by omega) ?_
  refine r_iconst (v := 1) hE dX11_canBe_9 (by decide) ?_
  refine r_isub hE dX11_canBe_10 ?_
  refine r_iand hE dX11_canBe_11 ?_
  refine r_top (y := (nI us)) eus ?_
  refine r_istore (ls2 := [(0, .ref 169), (1, .int (nI t)), (2, .int u), (3, .int 0), (4, .int (nI us))]) hE dX11_canBe_12 (by decide) rfl ?_
  refine r_iconst (v := 2) hE dX11_canBe_14 (by decide) ?_
  refine r_bipush (v := 64) hE dX11_canBe_15 (by decide) ?_
  refine r_iload_n hE dX11_canBe_17 rfl ?_
  refine r_imulN (a := 64) (b := t) hE dX11_canBe_18 ?_
  refine r_iload hE dX11_canBe_19 rfl ?_
  refine r_iaddN (a := 64 * t) (b := us) hE dX11_canBe_21 ?_
  refine r_imulN (a := 2) (b := (64 * t) + us) hE dX11_canBe_22 ?_
  refine r_iload_n hE dX11_canBe_23 rfl ?_
  refine r_if_eq (tgt := 31) hE dX11_canBe_24 (by decide) (fun _ => ?_) (fun c24 => by first | exact absurd c24 (by decide) | exact absurd (by decide) c24)
  refine r_iconst (v := 0) hE dX11_canBe_31 (by decide) ?_
  refine r_iaddN (a := 2 * ((64 * t) + us)) (b := 0) hE dX11_canBe_32 ?_
  refine r_istore (ls2 := [(0, .ref 169), (1, .int (nI t)), (2, .int u), (3, .int 0), (4, .int (nI us)), (5, .int (nI ((2 * ((64 * t) + us)) + 0)))]) hE dX11_canBe_33 (by decide) rfl ?_
  refine r_aload_n hE dX11_canBe_35 rfl ?_
  refine t_getr hE f_X11_58 y_R_169_24 dX11_canBe_36 (hL 169 (by decide)) ?_
  refine r_iload hE dX11_canBe_39 rfl ?_
  refine t_zaldN (e := (2 * ((64 * t) + us)) + 0) hE y_A_183 dX11_canBe_41 (hL 183 (by decide)) (by omega) (by decide) ?_
  refine r_if_eq (tgt := 53) hE dX11_canBe_42 (by decide) (fun c42 => ?_) (fun c42 => ?_)
  · refine r_aload_n hE dX11_canBe_53 rfl ?_
    refine t_getr hE f_X11_58 y_R_169_24 dX11_canBe_54 (hL 169 (by decide)) ?_
    refine r_iload hE dX11_canBe_57 rfl ?_
    refine r_iconst (v := 1) hE dX11_canBe_59 (by decide) ?_
    refine t_zastN (e := (2 * ((64 * t) + us)) + 0) hE y_A_183 dX11_canBe_60 (hL 183 (by decide)) (by omega) (by decide) ?_
    obtain ⟨D5, hD5⟩ : ∃ z, z = y_si D 183 (2 * (64 * t + us) + 0) (vp_nar .boolean 1) := ⟨_, rfl⟩
    rw [← hD5]
    have fA5 : m_fA D D5 := by rw [hD5]; exact m_fA_s m_fA_r (by decide)
    have e170 : D5 170 = D 170 := fA5.1 170 (by decide)
    refine r_aload_n hE dX11_canBe_61 rfl ?_
    refine r_iload_n hE dX11_canBe_62 rfl ?_
    refine r_iconst (v := (-1)) hE dX11_canBe_63 (by decide) ?_
    refine t_invvRv hE [.int (nI t), .int (-1)] (c_laysOut (D := D5) (t := t) (wo := (-1)) hL (by omega) (by rw [e170]; exact hwr)) v_yX11_laysOut m_X11_265 dX11_canBe_64 rfl (hL 169 (by decide)) (y_l_169 (D5 169)) rfl (by decide) ⟨Nat.le_refl _, Nat.le_refl _⟩ (Nat.le_of_ble_eq_true rfl) (fun DL ql => ?_)
    have hml : m_L (D 170).1 DL t (-1) := by have := m_L_lay (D := D5) (by rw [e170]; rw [e170] at ql; exact ql); rw [e170] at this; exact this
    have h170 : DL 170 = D 170 := by rw [ql.1 170 (by decide) (by decide) (by decide) (by decide), e170]
    show E 0 0 67 [(0, .ref 169), (1, .int (nI t)), (2, .int u), (3, .int 0), (4, .int (nI us)), (5, .int (nI ((2 * ((64 * t) + us)) + 0)))] [] (y_mk n L DL)
    refine r_aload_n hE dX11_canBe_67 rfl ?_
    refine r_iload hE dX11_canBe_68 rfl ?_
    refine r_iload_n hE dX11_canBe_70 rfl ?_
    refine t_invvRv hE [.int (nI us), .int 0] (c_meets (D := DL) (u := nI us) (hl := 0) hL hml.2.1 hk3 (by rw [h170]; exact hW.2.2.1.1) hW.2.2.1.2 (by rw [h170]; exact hW.2.2.2.2.2.2.1) (m_L_hd hwr hml)) v_yX11_meets m_X11_330 dX11_canBe_71 rfl (hL 169 (by decide)) (y_l_169 (DL 169)) rfl (by decide) ⟨Nat.le_refl _, Nat.le_refl _⟩ (Nat.le_of_ble_eq_true rfl) (fun D1 q1 => ?_)
    rw [y_mask_id hus] at q1
    have fA1 : m_fA D D1 := m_fA_t (m_fA_t fA5 (m_fA_lay ql)) (m_fA_7 q1.1)
    show E 0 0 74 [(0, .ref 169), (1, .int (nI t)), (2, .int u), (3, .int 0), (4, .int (nI us)), (5, .int (nI ((2 * ((64 * t) + us)) + 0)))] [] (y_mk n L D1)
    refine r_aload_n hE dX11_canBe_74 rfl ?_
    refine t_getr hE f_X11_61 y_R_169_25 dX11_canBe_75 (hL 169 (by decide)) ?_
    refine r_iload hE dX11_canBe_78 rfl ?_
    refine r_iconst (v := 0) hE dX11_canBe_80 (by decide) ?_
    refine t_iastN (e := (2 * ((64 * t) + us)) + 0) hE y_A_184 dX11_canBe_81 (hL 184 (by decide)) (by omega) (by decide) ?_
    refine r_iconst (v := 0) hE dX11_canBe_82 (by decide) ?_
    refine r_istore (ls2 := [(0, .ref 169), (1, .int (nI t)), (2, .int u), (3, .int 0), (4, .int (nI us)), (5, .int (nI ((2 * ((64 * t) + us)) + 0))), (6, .int 0)]) hE dX11_canBe_83 (by decide) rfl ?_
    have hnt6 : (q_n (D 170).1 3) ≤ 6 := hW.2.2.2.1.2
    have lp : ∀ (i : Nat) (D8 : y_D), i ≤ (q_n (D 170).1 3) → m_fA D D8 → D8 169 = D1 169 → D8 181 = D1 181 → D8 183 = D5 183 → (∀ k, k ≠ 2 * (64 * t + us) + 0 → (D8 184).1 k = (D 184).1 k) → y_s8 ((D8 184).1 (2 * (64 * t + us) + 0)) (fun th => th < i ∧ m_cth (D 170).1 DL t us 0 th) → E 0 0 85 [(0, .ref 169), (1, .int (nI t)), (2, .int u), (3, .int 0), (4, .int (nI us)), (5, .int (nI (2 * (64 * t + us) + 0))), (6, .int (nI i))] [] (y_mk n L D8) := by
      intro i D8
      induction hm9 : ((q_n (D 170).1 3) - i) using Nat.strongRecOn generalizing i D8 with
      | _ m9 ih =>
        intro hi fr e169 e181 e183 ho hv
        subst hm9
        refine r_iload hE dX11_canBe_85 rfl ?_
        refine r_aload_n hE dX11_canBe_87 rfl ?_
        refine t_getr hE f_X11_13 y_R_169_1 dX11_canBe_88 (hL 169 (by decide)) ?_
        refine r_iconst (v := 3) hE dX11_canBe_91 (by decide) ?_
        refine t_ialdN (e := 3) hE y_A_170 dX11_canBe_92 (hL 170 (by decide)) (by omega) (by decide) ?_
        refine r_top (y := (nI (q_n (D 170).1 3))) (by rw [fr.1 170 (by decide)]; exact hW.2.2.2.1.1) ?_
        refine r_icmp_geN (a := i) (b := (q_n (D 170).1 3)) (tgt := 135) hE dX11_canBe_93 (by decide) (by omega) (by omega) (fun c93 => ?_) (fun c93 => ?_)
        · refine r_aload_n hE dX11_canBe_135 rfl ?_
          refine t_getr hE f_X11_61 y_R_169_25 dX11_canBe_136 (hL 169 (by decide)) ?_
          refine r_iload hE dX11_canBe_139 rfl ?_
          refine t_ialdN (e := 2 * (64 * t + us) + 0) hE y_A_184 dX11_canBe_141 (hL 184 (by decide)) (by omega) (by decide) ?_
          refine r_ireturn hE dX11_canBe_142 rfl rfl (Nat.zero_le _) (Nat.zero_le _) ?_
          rw [show i = (q_n (D 170).1 3) by omega] at hv
          refine ⟨_, _, rfl, rfl, fr, fun t2 ht2 us2 hus2 h2 hh2 => ?_, us, hus, eus, ⟨DL, hml, hv⟩⟩
          by_cases ck : 2 * (64 * t2 + us2) + h2 = 2 * (64 * t + us) + 0
          · have c1 : t2 = t := by omega
            have c2 : us2 = us := by omega
            have c3 : h2 = 0 := by omega
            rw [c1, c2, c3]
            exact Or.inr ⟨DL, hml, hv⟩
          · rw [e183, hD5, y_si_1, if_neg ck, ho _ ck]
            exact hKI t2 ht2 us2 hus2 h2 hh2
        · refine r_aload_n hE dX11_canBe_96 rfl ?_
          refine t_getr hE f_X11_61 y_R_169_25 dX11_canBe_97 (hL 169 (by decide)) ?_
          refine r_iload hE dX11_canBe_100 rfl ?_
          refine r_dup2 hE dX11_canBe_102 rfl rfl ?_
          refine t_ialdN (e := 2 * (64 * t + us) + 0) hE y_A_184 dX11_canBe_103 (hL 184 (by decide)) (by omega) (by decide) ?_
          refine r_aload_n hE dX11_canBe_104 rfl ?_
          refine r_iload hE dX11_canBe_105 rfl ?_
          refine r_aload_n hE dX11_canBe_107 rfl ?_
          refine r_iload hE dX11_canBe_108 rfl ?_
          refine t_invv (r := (some (.int (nI (m_rc (D8 170).1 (nI us) (q_n (D 170).1 2)))))) (S2 := (y_mk n L D8)) hE [.int (nI us)] (c_reachOf (D := D8) (u := nI us) (kw := (q_n (D 170).1 2)) hL (by rw [fr.1 170 (by decide)]; exact hW.2.2.1.1) hW.2.2.1.2 (by rw [fr.1 170 (by decide)]; exact hW.2.2.2.2.2.2.1)) v_yX11_reachOf m_X11_305 dX11_canBe_110 rfl (hL 169 (by decide)) (y_l_169 (D8 169)) rfl (by decide) ⟨Nat.le_refl _, Nat.le_refl _⟩ (Nat.le_of_ble_eq_true rfl) ?_
          show E 0 0 113 [(0, .ref 169), (1, .int (nI t)), (2, .int u), (3, .int 0), (4, .int (nI us)), (5, .int (nI (2 * (64 * t + us) + 0))), (6, .int (nI i))] [.int (nI (m_rc (D8 170).1 (nI us) (q_n (D 170).1 2))), .int (nI i), .ref 169, .int ((D8 184).1 (2 * (64 * t + us) + 0)), .int (nI (2 * (64 * t + us) + 0)), .ref 184] (y_mk n L D8)
          refine r_top (y := (nI (m_rc (D 170).1 (nI us) (q_n (D 170).1 2)))) (by rw [fr.1 170 (by decide)]) ?_
          refine t_invvRi hE [.int (nI i), .int (nI (m_rc (D 170).1 (nI us) (q_n (D 170).1 2)))] (c_earliestOf (D := D8) (k := m_ls (D 170).1 t (-1)) (th := i) (rc := m_rc (D 170).1 (nI us) (q_n (D 170).1 2)) (P := m_me DL (nI us) 0 (m_ls (D 170).1 t (-1)) (q_n (D 170).1 2)) hL (by rw [e169, q1.1.2.1 13 (by decide)]; exact hml.2.1) hk3 (by omega) (fun m hm => by rw [e181]; exact q1.2 m hm)) v_yX11_earliestOf m_X11_334 dX11_canBe_113 rfl (hL 169 (by decide)) (y_l_169 (D8 169)) rfl (by decide) ⟨Nat.le_refl _, Nat.le_refl _⟩ (Nat.le_of_ble_eq_true rfl) (fun v2 D2 q2 => ?_)
          obtain ⟨q2, hD2⟩ := q2
          rw [hD2]
          rw [fr.1 170 (by decide)] at q2
          show E 0 0 116 [(0, .ref 169), (1, .int (nI t)), (2, .int u), (3, .int 0), (4, .int (nI us)), (5, .int (nI (2 * (64 * t + us) + 0))), (6, .int (nI i))] [.int v2, .int ((D8 184).1 (2 * (64 * t + us) + 0)), .int (nI (2 * (64 * t + us) + 0)), .ref 184] (y_mk n L D8)
          refine r_if_lt (tgt := 126) hE dX11_canBe_116 (by decide) (fun c116 => ?_) (fun c116 => ?_)
          · refine r_iconst (v := 0) hE dX11_canBe_126 (by decide) ?_
            refine r_ior hE dX11_canBe_127 ?_
            refine t_iastN (e := 2 * (64 * t + us) + 0) hE y_A_184 dX11_canBe_128 (hL 184 (by decide)) (by omega) (by decide) ?_
            refine r_iincN (a := i) (b := 1) (ls2 := [(0, .ref 169), (1, .int (nI t)), (2, .int u), (3, .int 0), (4, .int (nI us)), (5, .int (nI (2 * (64 * t + us) + 0))), (6, .int (nI (i + 1)))]) hE dX11_canBe_129 rfl rfl (by decide) rfl ?_
            refine r_goto (tgt := 85) hE dX11_canBe_132 (by decide) ?_
            have hct : ¬ m_cth (D 170).1 DL t us 0 i := by
              rintro ⟨s, f, s1, f1, f2, f3⟩
              rcases q2 with ⟨-, e⟩ | ⟨s, s1, e, -⟩
              · exact e s s1 f f1 ⟨f2, f3⟩
              · rw [e] at c116; exact nI_pos (by omega) c116
            refine r_locs hE (ls2 := [(0, .ref 169), (1, .int (nI t)), (2, .int u), (3, .int 0), (4, .int (nI us)), (5, .int (nI (2 * (64 * t + us) + 0))), (6, .int (nI (i + 1)))]) ?_ (ih ((q_n (D 170).1 3) - (i + 1)) (by omega) (i + 1) _ rfl (by omega) (m_fA_s fr (by decide)) (by rw [y_si_ne (by decide)]; exact e169) (by rw [y_si_ne (by decide)]; exact e181) (by rw [y_si_ne (by decide)]; exact e183) (fun k hk => by rw [y_si_1, if_neg hk]; exact ho k hk) (by rw [y_si_1, if_pos rfl]; exact by rw [Int32.or_zero]; exact y_s8_n (P := fun th => m_cth (D 170).1 DL t us 0 th) hv hct))
            simp [x_lk]
          · refine r_iconst (v := 1) hE dX11_canBe_119 (by decide) ?_
            refine r_iload hE dX11_canBe_120 rfl ?_
            refine r_shl1N (k := i) hE dX11_canBe_122 (by omega) ?_
            refine r_goto (tgt := 127) hE dX11_canBe_123 (by decide) ?_
            refine r_ior hE dX11_canBe_127 ?_
            refine t_iastN (e := 2 * (64 * t + us) + 0) hE y_A_184 dX11_canBe_128 (hL 184 (by decide)) (by omega) (by decide) ?_
            refine r_iincN (a := i) (b := 1) (ls2 := [(0, .ref 169), (1, .int (nI t)), (2, .int u), (3, .int 0), (4, .int (nI us)), (5, .int (nI (2 * (64 * t + us) + 0))), (6, .int (nI (i + 1)))]) hE dX11_canBe_129 rfl rfl (by decide) rfl ?_
            refine r_goto (tgt := 85) hE dX11_canBe_132 (by decide) ?_
            have hct : m_cth (D 170).1 DL t us 0 i := by
              rcases q2 with ⟨e, -⟩ | ⟨s, s1, -, ⟨f, f1, f2, f3⟩, -⟩
              · rw [e] at c116; exact absurd (by decide) c116
              · exact ⟨s, f, s1, f1, f2, f3⟩
            refine r_locs hE (ls2 := [(0, .ref 169), (1, .int (nI t)), (2, .int u), (3, .int 0), (4, .int (nI us)), (5, .int (nI (2 * (64 * t + us) + 0))), (6, .int (nI (i + 1)))]) ?_ (ih ((q_n (D 170).1 3) - (i + 1)) (by omega) (i + 1) _ rfl (by omega) (m_fA_s fr (by decide)) (by rw [y_si_ne (by decide)]; exact e169) (by rw [y_si_ne (by decide)]; exact e181) (by rw [y_si_ne (by decide)]; exact e183) (fun k hk => by rw [y_si_1, if_neg hk]; exact ho k hk) (by rw [y_si_1, if_pos rfl]; exact y_s8_y (P := fun th => m_cth (D 170).1 DL t us 0 th) (by omega) hv hct))
            simp [x_lk]
    refine lp 0 _ (by omega) (m_fA_s fA1 (by decide)) (y_si_ne (by decide)) (y_si_ne (by decide)) ?_ (fun k hk => ?_) (by rw [y_si_1, if_pos rfl]; exact y_s8_z (fun p hp q => by omega))
    · rw [y_si_ne (by decide), q1.1.1.1 183 (by decide), ql.1 183 (by decide) (by decide) (by decide) (by decide)]
    · rw [y_si_1, if_neg hk, q1.1.1.1 184 (by decide), ql.1 184 (by decide) (by decide) (by decide) (by decide), hD5, y_si_ne (by decide)]
  · refine r_aload_n hE dX11_canBe_45 rfl ?_
    refine t_getr hE f_X11_61 y_R_169_25 dX11_canBe_46 (hL 169 (by decide)) ?_
    refine r_iload hE dX11_canBe_49 rfl ?_
    refine t_ialdN (e := (2 * ((64 * t) + us)) + 0) hE y_A_184 dX11_canBe_51 (hL 184 (by decide)) (by omega) (by decide) ?_
    refine r_ireturn hE dX11_canBe_52 rfl rfl (Nat.zero_le _) (Nat.zero_le _) ?_
    exact ⟨_, _, rfl, rfl, m_fA_r, hKI, us, hus, eus, (hKI t ht us hus 0 (by decide)).resolve_left c42⟩
theorem c_canBe1 {V : x_E} {n : Nat} {L : List Nat} {D : y_D} {t : Nat} {u : Int32} (hL : y_ok L) (hW : m_W (D 170).1) (hKI : m_KI (D 170).1 D) (ht : t < q_n (D 170).1 1) : y_Ri V yX11_canBe cX11_canBe 7 (some .int) 8 [.ref 169, .int (nI t), .int u, .int 1] n L D (fun v D2 => m_fA D D2 ∧ m_KI (D 170).1 D2 ∧ ∃ us, us < 2 ^ (q_n (D 170).1 2) ∧ u &&& (nI (2 ^ (q_n (D 170).1 2)) - 1) = nI us ∧ m_cbe (D 170).1 t us 1 v) := by
  refine y_ri (by decide) (Nat.le_of_ble_eq_true rfl) (fun E hE => ?_)
  change E 0 0 0 [(0, .ref 169), (1, .int (nI t)), (2, .int u), (3, .int 1)] [] (y_mk n L D)
  have hr4 : q_n (D 170).1 1 ≤ 4 := hW.2.1.2
  have hkw6 : (q_n (D 170).1 2) ≤ 6 := hW.2.2.1.2
  have hp6 : 2 ^ (q_n (D 170).1 2) ≤ 2 ^ 6 := Nat.pow_le_pow_right (by decide) hkw6
  have hp7 : (2 : Nat) ^ 6 = 64 := rfl
  have hwr := hW.2.2.2.2.2.1 t ht
  have hk3 := m_ls_b (wo := (-1)) hwr
  obtain ⟨us, hus, eus⟩ := y_mask hkw6 u
  refine r_iload_n hE dX11_canBe_0 rfl ?_
  refine r_iconst (v := 1) hE dX11_canBe_1 (by decide) ?_
  refine r_aload_n hE dX11_canBe_2 rfl ?_
  refine t_getr hE f_X11_13 y_R_169_1 dX11_canBe_3 (hL 169 (by decide)) ?_
  refine r_iconst (v := 2) hE dX11_canBe_6 (by decide) ?_
  refine t_ialdN (e := 2) hE y_A_170 dX11_canBe_7 (hL 170 (by decide)) (by omega) (by decide) ?_
  refine r_top (y := (nI (q_n (D 170).1 2))) hW.2.2.1.1 ?_
  refine r_shl1N (k := (q_n (D 170).1 2)) hE dX11_canBe_8 (by omega) ?_
  refine r_iconst (v := 1) hE dX11_canBe_9 (by decide) ?_
  refine r_isub hE dX11_canBe_10 ?_
  refine r_iand hE dX11_canBe_11 ?_
  refine r_top (y := (nI us)) eus ?_
  refine r_istore (ls2 := [(0, .ref 169), (1, .int (nI t)), (2, .int u), (3, .int 1), (4, .int (nI us))]) hE dX11_canBe_12 (by decide) rfl ?_
  refine r_iconst (v := 2) hE dX11_canBe_14 (by decide) ?_
  refine r_bipush (v := 64) hE dX11_canBe_15 (by decide) ?_
  refine r_iload_n hE dX11_canBe_17 rfl ?_
  refine r_imulN (a := 64) (b := t) hE dX11_canBe_18 ?_
  refine r_iload hE dX11_canBe_19 rfl ?_
  refine r_iaddN (a := 64 * t) (b := us) hE dX11_canBe_21 ?_
  refine r_imulN (a := 2) (b := (64 * t) + us) hE dX11_canBe_22 ?_
  refine r_iload_n hE dX11_canBe_23 rfl ?_
  refine r_if_eq (tgt := 31) hE dX11_canBe_24 (by decide) (fun c24 => by first | exact absurd c24 (by decide) | exact absurd (by decide) c24) (fun _ => ?_)
  refine r_iconst (v := 1) hE dX11_canBe_27 (by decide) ?_
  refine r_goto (tgt := 32) hE dX11_canBe_28 (by decide) ?_
  refine r_iaddN (a := 2 * ((64 * t) + us)) (b := 1) hE dX11_canBe_32 ?_
  refine r_istore (ls2 := [(0, .ref 169), (1, .int (nI t)), (2, .int u), (3, .int 1), (4, .int (nI us)), (5, .int (nI ((2 * ((64 * t) + us)) + 1)))]) hE dX11_canBe_33 (by decide) rfl ?_
  refine r_aload_n hE dX11_canBe_35 rfl ?_
  refine t_getr hE f_X11_58 y_R_169_24 dX11_canBe_36 (hL 169 (by decide)) ?_
  refine r_iload hE dX11_canBe_39 rfl ?_
  refine t_zaldN (e := (2 * ((64 * t) + us)) + 1) hE y_A_183 dX11_canBe_41 (hL 183 (by decide)) (by omega) (by decide) ?_
  refine r_if_eq (tgt := 53) hE dX11_canBe_42 (by decide) (fun c42 => ?_) (fun c42 => ?_)
  · refine r_aload_n hE dX11_canBe_53 rfl ?_
    refine t_getr hE f_X11_58 y_R_169_24 dX11_canBe_54 (hL 169 (by decide)) ?_
    refine r_iload hE dX11_canBe_57 rfl ?_
    refine r_iconst (v := 1) hE dX11_canBe_59 (by decide) ?_
    refine t_zastN (e := (2 * ((64 * t) + us)) + 1) hE y_A_183 dX11_canBe_60 (hL 183 (by decide)) (by omega) (by decide) ?_
    obtain ⟨D5, hD5⟩ : ∃ z, z = y_si D 183 (2 * (64 * t + us) + 1) (vp_nar .boolean 1) := ⟨_, rfl⟩
    rw [← hD5]
    have fA5 : m_fA D D5 := by rw [hD5]; exact m_fA_s m_fA_r (by decide)
    have e170 : D5 170 = D 170 := fA5.1 170 (by decide)
    refine r_aload_n hE dX11_canBe_61 rfl ?_
    refine r_iload_n hE dX11_canBe_62 rfl ?_
    refine r_iconst (v := (-1)) hE dX11_canBe_63 (by decide) ?_
    refine t_invvRv hE [.int (nI t), .int (-1)] (c_laysOut (D := D5) (t := t) (wo := (-1)) hL (by omega) (by rw [e170]; exact hwr)) v_yX11_laysOut m_X11_265 dX11_canBe_64 rfl (hL 169 (by decide)) (y_l_169 (D5 169)) rfl (by decide) ⟨Nat.le_refl _, Nat.le_refl _⟩ (Nat.le_of_ble_eq_true rfl) (fun DL ql => ?_)
    have hml : m_L (D 170).1 DL t (-1) := by have := m_L_lay (D := D5) (by rw [e170]; rw [e170] at ql; exact ql); rw [e170] at this; exact this
    have h170 : DL 170 = D 170 := by rw [ql.1 170 (by decide) (by decide) (by decide) (by decide), e170]
    show E 0 0 67 [(0, .ref 169), (1, .int (nI t)), (2, .int u), (3, .int 1), (4, .int (nI us)), (5, .int (nI ((2 * ((64 * t) + us)) + 1)))] [] (y_mk n L DL)
    refine r_aload_n hE dX11_canBe_67 rfl ?_
    refine r_iload hE dX11_canBe_68 rfl ?_
    refine r_iload_n hE dX11_canBe_70 rfl ?_
    refine t_invvRv hE [.int (nI us), .int 1] (c_meets (D := DL) (u := nI us) (hl := 1) hL hml.2.1 hk3 (by rw [h170]; exact hW.2.2.1.1) hW.2.2.1.2 (by rw [h170]; exact hW.2.2.2.2.2.2.1) (m_L_hd hwr hml)) v_yX11_meets m_X11_330 dX11_canBe_71 rfl (hL 169 (by decide)) (y_l_169 (DL 169)) rfl (by decide) ⟨Nat.le_refl _, Nat.le_refl _⟩ (Nat.le_of_ble_eq_true rfl) (fun D1 q1 => ?_)
    rw [y_mask_id hus] at q1
    have fA1 : m_fA D D1 := m_fA_t (m_fA_t fA5 (m_fA_lay ql)) (m_fA_7 q1.1)
    show E 0 0 74 [(0, .ref 169), (1, .int (nI t)), (2, .int u), (3, .int 1), (4, .int (nI us)), (5, .int (nI ((2 * ((64 * t) + us)) + 1)))] [] (y_mk n L D1)
    refine r_aload_n hE dX11_canBe_74 rfl ?_
    refine t_getr hE f_X11_61 y_R_169_25 dX11_canBe_75 (hL 169 (by decide)) ?_
    refine r_iload hE dX11_canBe_78 rfl ?_
    refine r_iconst (v := 0) hE dX11_canBe_80 (by decide) ?_
    refine t_iastN (e := (2 * ((64 * t) + us)) + 1) hE y_A_184 dX11_canBe_81 (hL 184 (by decide)) (by omega) (by decide) ?_
    refine r_iconst (v := 0) hE dX11_canBe_82 (by decide) ?_
    refine r_istore (ls2 := [(0, .ref 169), (1, .int (nI t)), (2, .int u), (3, .int 1), (4, .int (nI us)), (5, .int (nI ((2 * ((64 * t) + us)) + 1))), (6, .int 0)]) hE dX11_canBe_83 (by decide) rfl ?_
    have hnt6 : (q_n (D 170).1 3) ≤ 6 := hW.2.2.2.1.2
    have lp : ∀ (i : Nat) (D8 : y_D), i ≤ (q_n (D 170).1 3) → m_fA D D8 → D8 169 = D1 169 → D8 181 = D1 181 → D8 183 = D5 183 → (∀ k, k ≠ 2 * (64 * t + us) + 1 → (D8 184).1 k = (D 184).1 k) → y_s8 ((D8 184).1 (2 * (64 * t + us) + 1)) (fun th => th < i ∧ m_cth (D 170).1 DL t us 1 th) → E 0 0 85 [(0, .ref 169), (1, .int (nI t)), (2, .int u), (3, .int 1), (4, .int (nI us)), (5, .int (nI (2 * (64 * t + us) + 1))), (6, .int (nI i))] [] (y_mk n L D8) := by
      intro i D8
      induction hm9 : ((q_n (D 170).1 3) - i) using Nat.strongRecOn generalizing i D8 with
      | _ m9 ih =>
        intro hi fr e169 e181 e183 ho hv
        subst hm9
        refine r_iload hE dX11_canBe_85 rfl ?_
        refine r_aload_n hE dX11_canBe_87 rfl ?_
        refine t_getr hE f_X11_13 y_R_169_1 dX11_canBe_88 (hL 169 (by decide)) ?_
        refine r_iconst (v := 3) hE dX11_canBe_91 (by decide) ?_
        refine t_ialdN (e := 3) hE y_A_170 dX11_canBe_92 (hL 170 (by decide)) (by omega) (by decide) ?_
        refine r_top (y := (nI (q_n (D 170).1 3))) (by rw [fr.1 170 (by decide)]; exact hW.2.2.2.1.1) ?_
        refine r_icmp_geN (a := i) (b := (q_n (D 170).1 3)) (tgt := 135) hE dX11_canBe_93 (by decide) (by omega) (by omega) (fun c93 => ?_) (fun c93 => ?_)
        · refine r_aload_n hE dX11_canBe_135 rfl ?_
          refine t_getr hE f_X11_61 y_R_169_25 dX11_canBe_136 (hL 169 (by decide)) ?_
          refine r_iload hE dX11_canBe_139 rfl ?_
          refine t_ialdN (e := 2 * (64 * t + us) + 1) hE y_A_184 dX11_canBe_141 (hL 184 (by decide)) (by omega) (by decide) ?_
          refine r_ireturn hE dX11_canBe_142 rfl rfl (Nat.zero_le _) (Nat.zero_le _) ?_
          rw [show i = (q_n (D 170).1 3) by omega] at hv
          refine ⟨_, _, rfl, rfl, fr, fun t2 ht2 us2 hus2 h2 hh2 => ?_, us, hus, eus, ⟨DL, hml, hv⟩⟩
          by_cases ck : 2 * (64 * t2 + us2) + h2 = 2 * (64 * t + us) + 1
          · have c1 : t2 = t := by omega
            have c2 : us2 = us := by omega
            have c3 : h2 = 1 := by omega
            rw [c1, c2, c3]
            exact Or.inr ⟨DL, hml, hv⟩
          · rw [e183, hD5, y_si_1, if_neg ck, ho _ ck]
            exact hKI t2 ht2 us2 hus2 h2 hh2
        · refine r_aload_n hE dX11_canBe_96 rfl ?_
          refine t_getr hE f_X11_61 y_R_169_25 dX11_canBe_97 (hL 169 (by decide)) ?_
          refine r_iload hE dX11_canBe_100 rfl ?_
          refine r_dup2 hE dX11_canBe_102 rfl rfl ?_
          refine t_ialdN (e := 2 * (64 * t + us) + 1) hE y_A_184 dX11_canBe_103 (hL 184 (by decide)) (by omega) (by decide) ?_
          refine r_aload_n hE dX11_canBe_104 rfl ?_
          refine r_iload hE dX11_canBe_105 rfl ?_
          refine r_aload_n hE dX11_canBe_107 rfl ?_
          refine r_iload hE dX11_canBe_108 rfl ?_
          refine t_invv (r := (some (.int (nI (m_rc (D8 170).1 (nI us) (q_n (D 170).1 2)))))) (S2 := (y_mk n L D8)) hE [.int (nI us)] (c_reachOf (D := D8) (u := nI us) (kw := (q_n (D 170).1 2)) hL (by rw [fr.1 170 (by decide)]; exact hW.2.2.1.1) hW.2.2.1.2 (by rw [fr.1 170 (by decide)]; exact hW.2.2.2.2.2.2.1)) v_yX11_reachOf m_X11_305 dX11_canBe_110 rfl (hL 169 (by decide)) (y_l_169 (D8 169)) rfl (by decide) ⟨Nat.le_refl _, Nat.le_refl _⟩ (Nat.le_of_ble_eq_true rfl) ?_
          show E 0 0 113 [(0, .ref 169), (1, .int (nI t)), (2, .int u), (3, .int 1), (4, .int (nI us)), (5, .int (nI (2 * (64 * t + us) + 1))), (6, .int (nI i))] [.int (nI (m_rc (D8 170).1 (nI us) (q_n (D 170).1 2))), .int (nI i), .ref 169, .int ((D8 184).1 (2 * (64 * t + us) + 1)), .int (nI (2 * (64 * t + us) + 1)), .ref 184] (y_mk n L D8)
          refine r_top (y := (nI (m_rc (D 170).1 (nI us) (q_n (D 170).1 2)))) (by rw [fr.1 170 (by decide)]) ?_
          refine t_invvRi hE [.int (nI i), .int (nI (m_rc (D 170).1 (nI us) (q_n (D 170).1 2)))] (c_earliestOf (D := D8) (k := m_ls (D 170).1 t (-1)) (th := i) (rc := m_rc (D 170).1 (nI us) (q_n (D 170).1 2)) (P := m_me DL (nI us) 1 (m_ls (D 170).1 t (-1)) (q_n (D 170).1 2)) hL (by rw [e169, q1.1.2.1 13 (by decide)]; exact hml.2.1) hk3 (by omega) (fun m hm => by rw [e181]; exact q1.2 m hm)) v_yX11_earliestOf m_X11_334 dX11_canBe_113 rfl (hL 169 (by decide)) (y_l_169 (D8 169)) rfl (by decide) ⟨Nat.le_refl _, Nat.le_refl _⟩ (Nat.le_of_ble_eq_true rfl) (fun v2 D2 q2 => ?_)
          obtain ⟨q2, hD2⟩ := q2
          rw [hD2]
          rw [fr.1 170 (by decide)] at q2
          show E 0 0 116 [(0, .ref 169), (1, .int (nI t)), (2, .int u), (3, .int 1), (4, .int (nI us)), (5, .int (nI (2 * (64 * t + us) + 1))), (6, .int (nI i))] [.int v2, .int ((D8 184).1 (2 * (64 * t + us) + 1)), .int (nI (2 * (64 * t + us) + 1)), .ref 184] (y_mk n L D8)
          refine r_if_lt (tgt := 126) hE dX11_canBe_116 (by decide) (fun c116 => ?_) (fun c116 => ?_)
          · refine r_iconst (v := 0) hE dX11_canBe_126 (by decide) ?_
            refine r_ior hE dX11_canBe_127 ?_
            refine t_iastN (e := 2 * (64 * t + us) + 1) hE y_A_184 dX11_canBe_128 (hL 184 (by decide)) (by omega) (by decide) ?_
            refine r_iincN (a := i) (b := 1) (ls2 := [(0, .ref 169), (1, .int (nI t)), (2, .int u), (3, .int 1), (4, .int (nI us)), (5, .int (nI (2 * (64 * t + us) + 1))), (6, .int (nI (i + 1)))]) hE dX11_canBe_129 rfl rfl (by decide) rfl ?_
            refine r_goto (tgt := 85) hE dX11_canBe_132 (by decide) ?_
            have hct : ¬ m_cth (D 170).1 DL t us 1 i := by
              rintro ⟨s, f, s1, f1, f2, f3⟩
              rcases q2 with ⟨-, e⟩ | ⟨s, s1, e, -⟩
              · exact e s s1 f f1 ⟨f2, f3⟩
              · rw [e] at c116; exact nI_pos (by omega) c116
            refine r_locs hE (ls2 := [(0, .ref 169), (1, .int (nI t)), (2, .int u), (3, .int 1), (4, .int (nI us)), (5, .int (nI (2 * (64 * t + us) + 1))), (6, .int (nI (i + 1)))]) ?_ (ih ((q_n (D 170).1 3) - (i + 1)) (by omega) (i + 1) _ rfl (by omega) (m_fA_s fr (by decide)) (by rw [y_si_ne (by decide)]; exact e169) (by rw [y_si_ne (by decide)]; exact e181) (by rw [y_si_ne (by decide)]; exact e183) (fun k hk => by rw [y_si_1, if_neg hk]; exact ho k hk) (by rw [y_si_1, if_pos rfl]; exact by rw [Int32.or_zero]; exact y_s8_n (P := fun th => m_cth (D 170).1 DL t us 1 th) hv hct))
            simp [x_lk]
          · refine r_iconst (v := 1) hE dX11_canBe_119 (by decide) ?_
            refine r_iload hE dX11_canBe_120 rfl ?_
            refine r_shl1N (k := i) hE dX11_canBe_122 (by omega) ?_
            refine r_goto (tgt := 127) hE dX11_canBe_123 (by decide) ?_
            refine r_ior hE dX11_canBe_127 ?_
            refine t_iastN (e := 2 * (64 * t + us) + 1) hE y_A_184 dX11_canBe_128 (hL 184 (by decide)) (by omega) (by decide) ?_
            refine r_iincN (a := i) (b := 1) (ls2 := [(0, .ref 169), (1, .int (nI t)), (2, .int u), (3, .int 1), (4, .int (nI us)), (5, .int (nI (2 * (64 * t + us) + 1))), (6, .int (nI (i + 1)))]) hE dX11_canBe_129 rfl rfl (by decide) rfl ?_
            refine r_goto (tgt := 85) hE dX11_canBe_132 (by decide) ?_
            have hct : m_cth (D 170).1 DL t us 1 i := by
              rcases q2 with ⟨e, -⟩ | ⟨s, s1, -, ⟨f, f1, f2, f3⟩, -⟩
              · rw [e] at c116; exact absurd (by decide) c116
              · exact ⟨s, f, s1, f1, f2, f3⟩
            refine r_locs hE (ls2 := [(0, .ref 169), (1, .int (nI t)), (2, .int u), (3, .int 1), (4, .int (nI us)), (5, .int (nI (2 * (64 * t + us) + 1))), (6, .int (nI (i + 1)))]) ?_ (ih ((q_n (D 170).1 3) - (i + 1)) (by omega) (i + 1) _ rfl (by omega) (m_fA_s fr (by decide)) (by rw [y_si_ne (by decide)]; exact e169) (by rw [y_si_ne (by decide)]; exact e181) (by rw [y_si_ne (by decide)]; exact e183) (fun k hk => by rw [y_si_1, if_neg hk]; exact ho k hk) (by rw [y_si_1, if_pos rfl]; exact y_s8_y (P := fun th => m_cth (D 170).1 DL t us 1 th) (by omega) hv hct))
            simp [x_lk]
    refine lp 0 _ (by omega) (m_fA_s fA1 (by decide)) (y_si_ne (by decide)) (y_si_ne (by decide)) ?_ (fun k hk => ?_) (by rw [y_si_1, if_pos rfl]; exact y_s8_z (fun p hp q => by omega))
    · rw [y_si_ne (by decide), q1.1.1.1 183 (by decide), ql.1 183 (by decide) (by decide) (by decide) (by decide)]
    · rw [y_si_1, if_neg hk, q1.1.1.1 184 (by decide), ql.1 184 (by decide) (by decide) (by decide) (by decide), hD5, y_si_ne (by decide)]
  · refine r_aload_n hE dX11_canBe_45 rfl ?_
    refine t_getr hE f_X11_61 y_R_169_25 dX11_canBe_46 (hL 169 (by decide)) ?_
    refine r_iload hE dX11_canBe_49 rfl ?_
    refine t_ialdN (e := (2 * ((64 * t) + us)) + 1) hE y_A_184 dX11_canBe_51 (hL 184 (by decide)) (by omega) (by decide) ?_
    refine r_ireturn hE dX11_canBe_52 rfl rfl (Nat.zero_le _) (Nat.zero_le _) ?_
    exact ⟨_, _, rfl, rfl, m_fA_r, hKI, us, hus, eus, (hKI t ht us hus 1 (by decide)).resolve_left c42⟩
def m_spr (W : Nat → Int32) (k t : Nat) : Nat := if y_bit (W (78 + 3 * k + 1)) (q_n W (66 + 3 * t)) then q_n W (66 + 3 * t + 1) else q_n W (66 + 3 * t + 2)
/-- TRAPS, STORIES, NIGHTS can be -/
def m_WO (W : Nat → Int32) : Prop := q_ok W 5 4 ∧ q_ok W 6 5 ∧ q_ok W 7 12 ∧ (∀ t, t < q_n W 5 → q_ok W (66 + 3 * t) 5 ∧ (q_ok W (66 + 3 * t + 1) 9 ∧ 1 ≤ q_n W (66 + 3 * t + 1)) ∧ q_ok W (66 + 3 * t + 2) 9 ∧ 1 ≤ q_n W (66 + 3 * t + 2)) ∧ (∀ k, k < q_n W 6 → (q_ok W (78 + 3 * k) 99 ∧ 1 ≤ q_n W (78 + 3 * k)) ∧ (W (78 + 3 * k + 2) = -1 ∨ q_ok W (78 + 3 * k + 2) 7)) ∧ ∀ n, n < q_n W 7 → W (93 + 5 * n) = nI (q_n W (93 + 5 * n)) ∧ q_n W (93 + 5 * n) < q_n W 1
theorem m_spr_b {W : Nat → Int32} {k t : Nat} (h : m_WO W) (ht : t < q_n W 5) : 1 ≤ m_spr W k t ∧ m_spr W k t ≤ 9 := by
  have := h.2.2.2.1 t ht
  unfold m_spr
  split
  · exact ⟨this.2.1.2, this.2.1.1.2⟩
  · exact ⟨this.2.2.2, this.2.2.1.2⟩
theorem c_springs {V : x_E} {n : Nat} {L : List Nat} {D : y_D} {k t : Nat} (hL : y_ok L) (hO : m_WO (D 170).1) (hk : k < q_n (D 170).1 6) (ht : t < q_n (D 170).1 5) : x_Fn V yX11_springs cX11_springs 3 (some .int) 0 [.ref 169, .int (nI k), .int (nI t)] (y_mk n L D) (some (.int (nI (m_spr (D 170).1 k t)))) (y_mk n L D) := by
  refine x_fn (by decide) (Nat.le_of_ble_eq_true rfl) (fun E hE => ?_)
  change E 0 0 0 [(0, .ref 169), (1, .int (nI k)), (2, .int (nI t))] [] (y_mk n L D)
  have h4 := hO.1.2
  have h5 := hO.2.1.2
  refine r_aload_n hE dX11_springs_0 rfl ?_
  refine t_getr hE f_X11_13 y_R_169_1 dX11_springs_1 (hL 169 (by decide)) ?_
  refine r_bipush (v := 66) hE dX11_springs_4 (by decide) ?_
  refine r_iconst (v := 3) hE dX11_springs_6 (by decide) ?_
  refine r_iload_n hE dX11_springs_7 rfl ?_
  refine r_imulN (a := 3) (b := t) hE dX11_springs_8 ?_
  refine r_iaddN (a := 66) (b := 3 * t) hE dX11_springs_9 ?_
  refine r_aload_n hE dX11_springs_10 rfl ?_
  refine t_getr hE f_X11_13 y_R_169_1 dX11_springs_11 (hL 169 (by decide)) ?_
  refine r_bipush (v := 78) hE dX11_springs_14 (by decide) ?_
  refine r_iconst (v := 3) hE dX11_springs_16 (by decide) ?_
  refine r_iload_n hE dX11_springs_17 rfl ?_
  refine r_imulN (a := 3) (b := k) hE dX11_springs_18 ?_
  refine r_iaddN (a := 78) (b := 3 * k) hE dX11_springs_19 ?_
  refine r_iconst (v := 1) hE dX11_springs_20 (by decide) ?_
  refine r_iaddN (a := 78 + (3 * k)) (b := 1) hE dX11_springs_21 ?_
  refine t_ialdN (e := (78 + (3 * k)) + 1) hE y_A_170 dX11_springs_22 (hL 170 (by decide)) (by omega) (by decide) ?_
  refine r_aload_n hE dX11_springs_23 rfl ?_
  refine t_getr hE f_X11_13 y_R_169_1 dX11_springs_24 (hL 169 (by decide)) ?_
  refine r_bipush (v := 66) hE dX11_springs_27 (by decide) ?_
  refine r_iconst (v := 3) hE dX11_springs_29 (by decide) ?_
  refine r_iload_n hE dX11_springs_30 rfl ?_
  refine r_imulN (a := 3) (b := t) hE dX11_springs_31 ?_
  refine r_iaddN (a := 66) (b := 3 * t) hE dX11_springs_32 ?_
  refine t_ialdN (e := 66 + (3 * t)) hE y_A_170 dX11_springs_33 (hL 170 (by decide)) (by omega) (by decide) ?_
  refine r_top (y := (nI (q_n (D 170).1 (66 + 3 * t)))) (hO.2.2.2.1 t ht).1.1 ?_
  refine r_ishr hE dX11_springs_34 ?_
  refine r_iconst (v := 1) hE dX11_springs_35 (by decide) ?_
  refine r_iand hE dX11_springs_36 ?_
  refine r_iconst (v := 1) hE dX11_springs_37 (by decide) ?_
  refine r_icmp_ne (tgt := 45) hE dX11_springs_38 (by decide) (fun c38 => ?_) (fun c38 => ?_)
  · refine r_iconst (v := 2) hE dX11_springs_45 (by decide) ?_
    refine r_iaddN (a := 66 + (3 * t)) (b := 2) hE dX11_springs_46 ?_
    refine t_ialdN (e := (66 + (3 * t)) + 2) hE y_A_170 dX11_springs_47 (hL 170 (by decide)) (by omega) (by decide) ?_
    refine r_top (y := (nI (q_n (D 170).1 (66 + 3 * t + 2)))) (hO.2.2.2.1 t ht).2.2.1.1 ?_
    refine r_ireturn hE dX11_springs_48 rfl rfl (Nat.zero_le _) (Nat.zero_le _) ?_
    unfold m_spr
    first | (rw [if_pos c38]; exact ⟨rfl, rfl⟩) | (rw [if_neg c38]; exact ⟨rfl, rfl⟩)
  · refine r_iconst (v := 1) hE dX11_springs_41 (by decide) ?_
    refine r_goto (tgt := 46) hE dX11_springs_42 (by decide) ?_
    refine r_iaddN (a := 66 + (3 * t)) (b := 1) hE dX11_springs_46 ?_
    refine t_ialdN (e := (66 + (3 * t)) + 1) hE y_A_170 dX11_springs_47 (hL 170 (by decide)) (by omega) (by decide) ?_
    refine r_top (y := (nI (q_n (D 170).1 (66 + 3 * t + 1)))) (hO.2.2.2.1 t ht).2.1.1.1 ?_
    refine r_ireturn hE dX11_springs_48 rfl rfl (Nat.zero_le _) (Nat.zero_le _) ?_
    unfold m_spr
    first | (rw [if_pos c38]; exact ⟨rfl, rfl⟩) | (rw [if_neg c38]; exact ⟨rfl, rfl⟩)

/-! Course.bringsAllNotes -/
def y_a6 (D D2 : y_D) : Prop := ∀ j, j ≠ 160 → D2 j = D j
theorem y_a6_w {D D2 : y_D} {L : List Nat} {i c : Nat} (h : y_a6 D D2) (hR : y_rq D L 77 6 2) (hi : i < 6) : y_w D2 i c = y_w D i c := by
  obtain ⟨r, hr, -, hd, -⟩ := hR i hi
  have hr2 : (D2 77).2.2.1 i = some r := by rw [h 77 (by decide)]; exact hr
  rw [← y_w_ok hr, ← y_w_ok hr2, h r (by unfold y_dh at hd; omega)]
theorem y_a6_rq {D D2 : y_D} {L : List Nat} (h : y_a6 D D2) (hR : y_rq D L 77 6 2) : y_rq D2 L 77 6 2 := by
  intro i hi
  obtain ⟨r, hr, hm, hd, hk⟩ := hR i hi
  exact ⟨r, by rw [h 77 (by decide)]; exact hr, hm, hd, by rw [h r (by unfold y_dh at hd; omega)]; exact hk⟩
theorem y_wi_ag {D8 : y_D} {x : Nat} {u : Int32} {i : Nat} : y_ag D8 (y_wi D8 x u i).2 := by
  induction i with
  | zero => exact fun _ _ _ _ => rfl
  | succ i ih =>
    unfold y_wi
    split
    · exact y_ag_gs ih
    · exact ih
theorem y_wo_ag {D : y_D} {u : Int32} {kw x : Nat} : y_ag D (y_wo D u kw x) := by
  induction x with
  | zero => exact y_ag_si (fun _ _ _ _ => rfl)
  | succ x ih =>
    unfold y_wo
    refine y_ag_si (fun j h1 h2 h3 => ?_)
    rw [y_wi_ag j h1 h2 h3, ih j h1 h2 h3]
def y_sec (D : y_D) (i : Nat) : Nat := ((D 81).1 (i * 2 + 1)).toNatClampNeg
def y_thi (D : y_D) (i : Nat) : Nat := ((D 81).1 (i * 2)).toNatClampNeg
def y_bn (D : y_D) (k kt kw : Nat) (u : Int32) : Nat → y_D
  | 0 => y_sw D 160 (y_cp (y_al D k) (D 160).1 (k + 1))
  | i + 1 => y_si (y_bn D k kt kw u i) 160 (y_sec D i) (((y_bn D k kt kw u i) 160).1 (y_sec D i) &&& K_setsFor (y_bn D k kt kw u i) kt (y_thi D i) kw u)
def P_bn (D : y_D) (k kt kw kn : Nat) (u v : Int32) (D2 : y_D) : Prop := (∀ j, j ≠ 159 → j ≠ 160 → j ≠ 161 → j ≠ 190 → D2 j = D j) ∧ (v = 1 ∨ v = 0) ∧ (v = 1 ↔ (∀ i, i < kn → y_sec D i ≤ k) ∧ ((y_wo (y_bn D k kt kw u kn) u kw k) 161).1 k ≠ 0)
theorem k_bringsAllNotes {V : x_E} {n : Nat} {L : List Nat} {D : y_D} (hV : y_V V) {u : Int32} {k kt kw kn : Nat} (hL : y_ok L) (hs : (D 152).1 0 = nI k) (hk : k ≤ 300) (hw : (D 73).1 4 = nI kw) (hkw : kw ≤ 6) (hR2 : y_rq D L 77 6 2) (htk : ∀ i, i < kw → ∃ tk : Nat, y_w D i 1 = nI tk ∧ 1 ≤ tk ∧ tk < 1000) (ht : (D 78).1 2 = nI kt) (htw : (D 78).1 0 = nI 3) (hkt : kt ≤ 6) (hn : (D 80).1 2 = nI kn) (hnw : (D 80).1 0 = nI 2) (hkn : kn ≤ 10) (hnt : ∀ i, i < kn → ∃ th sec : Nat, (D 81).1 (i * 2 + 0) = nI th ∧ (D 81).1 (i * 2 + 1) = nI sec ∧ th < 2 ^ 31 ∧ sec ≤ 300) (hTH : ∀ th c, c < 2 → ∃ a, a ≤ 2 ∧ y_tg D kt th c = nI a) : y_Ri V yX1_bringsAllNotes cX1_bringsAllNotes 4 (some .boolean) 4 [.ref 151, .int u] n L D (fun v D2 => P_bn D k kt kw kn u v D2) := by
  refine y_ri (by decide) (Nat.le_of_ble_eq_true rfl) (fun E hE => ?_)
  change E 0 0 0 [(0, .ref 151), (1, .int u)] [] (y_mk n L D)
  have lp : ∀ (i : Nat) (D8 : y_D), i ≤ kn → y_bn D k kt kw u i = D8 → y_a6 D D8 → (∀ j, j < i → y_sec D j ≤ k) → E 0 0 6 [(0, .ref 151), (1, .int u), (2, .int (nI i))] [] (y_mk n L D8) := by
    intro i D8
    induction hm9 : (kn - i) using Nat.strongRecOn generalizing i D8 with
    | _ m9 ih =>
      intro hi hg ag hall
      refine r_iload_n hE dX1_bringsAllNotes_6 rfl ?_
      refine r_aload_n hE dX1_bringsAllNotes_7 rfl ?_
      refine t_getr hE f_X1_37 y_R_151_0 dX1_bringsAllNotes_8 (hL 151 (by decide)) ?_
      refine t_getr hE f_X1_92 y_R_73_6 dX1_bringsAllNotes_11 (hL 73 (by decide)) ?_
      refine t_geti hE f_X1_95 y_I_80_2 dX1_bringsAllNotes_14 (hL 80 (by decide)) ?_
      refine r_top (y := (nI kn)) (by rw [ag 80 (by decide)]; exact hn) ?_
      refine r_icmp_geN (a := i) (b := kn) (tgt := 81) hE dX1_bringsAllNotes_17 (by decide) (by omega) (by omega) (fun c17 => ?_) (fun c17 => ?_)
      · refine r_aload_n hE dX1_bringsAllNotes_81 rfl ?_
        refine r_iload_n hE dX1_bringsAllNotes_82 rfl ?_
        refine t_invv (r := none) (S2 := (y_mk n L (y_wo D8 u kw k))) hE [.int u] (k_walk (D := D8) (k := k) (kw := kw) hV hL (by rw [ag 152 (by decide)]; exact hs) hk (by rw [ag 73 (by decide)]; exact hw) hkw (y_a6_rq ag hR2) (fun i9 hi9 => by rw [y_a6_w ag hR2 (by omega)]; exact htk i9 hi9)) v_yX1_walk m_X1_107 dX1_bringsAllNotes_83 rfl (hL 151 (by decide)) (y_l_151 (D8 151)) rfl (by decide) ⟨Nat.le_refl _, Nat.le_refl _⟩ (Nat.le_of_ble_eq_true rfl) ?_
        show E 0 0 86 [(0, .ref 151), (1, .int u), (2, .int (nI i))] [] (y_mk n L (y_wo D8 u kw k))
        refine r_aload_n hE dX1_bringsAllNotes_86 rfl ?_
        refine t_getr hE f_X1_31 y_R_151_6 dX1_bringsAllNotes_87 (hL 151 (by decide)) ?_
        refine r_aload_n hE dX1_bringsAllNotes_90 rfl ?_
        refine t_getr hE f_X1_12 y_R_151_1 dX1_bringsAllNotes_91 (hL 151 (by decide)) ?_
        refine t_geti hE f_X1_82 y_I_152_0 dX1_bringsAllNotes_94 (hL 152 (by decide)) ?_
        refine r_top (y := (nI k)) (by rw [y_wo_ag 152 (by decide) (by decide) (by decide), ag 152 (by decide)]; exact hs) ?_
        refine t_ialdN (e := k) hE y_A_161 dX1_bringsAllNotes_97 (hL 161 (by decide)) (by omega) (by decide) ?_
        refine r_if_eq (tgt := 105) hE dX1_bringsAllNotes_98 (by decide) (fun c98 => ?_) (fun c98 => ?_)
        · refine r_iconst (v := 0) hE dX1_bringsAllNotes_105 (by decide) ?_
          refine r_ireturn hE dX1_bringsAllNotes_106 rfl (by decide) (Nat.zero_le _) (Nat.zero_le _) ?_
          have hi2 : i = kn := by omega
          subst hi2
          refine ⟨_, _, rfl, rfl, fun j h1 h2 h3 h4 => (y_wo_ag j h1 h3 h4).trans (ag j h2), by simp, ?_⟩
          rw [hg]
          first
          | exact ⟨fun _ => ⟨hall, c98⟩, fun _ => rfl⟩
          | exact ⟨fun h => absurd h (by decide), fun h => absurd c98 h.2⟩
        · refine r_iconst (v := 1) hE dX1_bringsAllNotes_101 (by decide) ?_
          refine r_goto (tgt := 106) hE dX1_bringsAllNotes_102 (by decide) ?_
          refine r_ireturn hE dX1_bringsAllNotes_106 rfl (by decide) (Nat.zero_le _) (Nat.zero_le _) ?_
          have hi2 : i = kn := by omega
          subst hi2
          refine ⟨_, _, rfl, rfl, fun j h1 h2 h3 h4 => (y_wo_ag j h1 h3 h4).trans (ag j h2), by simp, ?_⟩
          rw [hg]
          first
          | exact ⟨fun _ => ⟨hall, c98⟩, fun _ => rfl⟩
          | exact ⟨fun h => absurd h (by decide), fun h => absurd c98 h.2⟩
      · obtain ⟨th, sec, h1, h2, hth3, hsec⟩ := hnt i (by omega)
        refine r_aload_n hE dX1_bringsAllNotes_20 rfl ?_
        refine t_getr hE f_X1_37 y_R_151_0 dX1_bringsAllNotes_21 (hL 151 (by decide)) ?_
        refine t_getr hE f_X1_92 y_R_73_6 dX1_bringsAllNotes_24 (hL 73 (by decide)) ?_
        refine r_iload_n hE dX1_bringsAllNotes_27 rfl ?_
        refine r_iconst (v := 1) hE dX1_bringsAllNotes_28 (by decide) ?_
        refine t_invv (r := (some (.int (if i < kn ∧ 1 < 2 then (D8 81).1 (i * 2 + 1) else 0)))) (S2 := (y_mk n L D8)) hE [.int (nI i), .int 1] (k_get (D := D8) (k := kn) (wd := 2) y_T_80 (hL 80 (by decide)) (hL 81 (by decide)) (by rw [ag 80 (by decide)]; exact hn) (by rw [ag 80 (by decide)]; exact hnw) (by omega) (by decide) (by decide) (r := i) (c := 1) (by omega) (by decide) (by omega)) v_yX7_get m_X1_100 dX1_bringsAllNotes_29 rfl (hL 80 (by decide)) (y_l_80 (D8 80)) rfl (by decide) ⟨Nat.le_refl _, Nat.le_refl _⟩ (Nat.le_of_ble_eq_true rfl) ?_
        show E 0 0 32 [(0, .ref 151), (1, .int u), (2, .int (nI i))] [.int (if i < kn ∧ 1 < 2 then (D8 81).1 (i * 2 + 1) else 0)] (y_mk n L D8)
        refine r_top (y := (nI sec)) (by rw [if_pos (by omega), ag 81 (by decide)]; exact h2) ?_
        refine r_istore_n (ls2 := [(0, .ref 151), (1, .int u), (2, .int (nI i)), (3, .int (nI sec))]) hE dX1_bringsAllNotes_32 (by decide) rfl ?_
        refine r_iload_n hE dX1_bringsAllNotes_33 rfl ?_
        refine r_aload_n hE dX1_bringsAllNotes_34 rfl ?_
        refine t_getr hE f_X1_12 y_R_151_1 dX1_bringsAllNotes_35 (hL 151 (by decide)) ?_
        refine t_geti hE f_X1_82 y_I_152_0 dX1_bringsAllNotes_38 (hL 152 (by decide)) ?_
        refine r_top (y := (nI k)) (by rw [ag 152 (by decide)]; exact hs) ?_
        refine r_icmp_leN (a := sec) (b := k) (tgt := 46) hE dX1_bringsAllNotes_41 (by decide) (by omega) (by omega) (fun c41 => ?_) (fun c41 => ?_)
        · refine r_aload_n hE dX1_bringsAllNotes_46 rfl ?_
          refine t_getr hE f_X1_28 y_R_151_5 dX1_bringsAllNotes_47 (hL 151 (by decide)) ?_
          refine r_iload_n hE dX1_bringsAllNotes_50 rfl ?_
          refine r_dup2 hE dX1_bringsAllNotes_51 rfl rfl ?_
          refine t_ialdN (e := sec) hE y_A_160 dX1_bringsAllNotes_52 (hL 160 (by decide)) (by omega) (by decide) ?_
          refine r_aload_n hE dX1_bringsAllNotes_53 rfl ?_
          refine t_getr hE f_X1_37 y_R_151_0 dX1_bringsAllNotes_54 (hL 151 (by decide)) ?_
          refine r_aload_n hE dX1_bringsAllNotes_57 rfl ?_
          refine t_getr hE f_X1_37 y_R_151_0 dX1_bringsAllNotes_58 (hL 151 (by decide)) ?_
          refine t_getr hE f_X1_92 y_R_73_6 dX1_bringsAllNotes_61 (hL 73 (by decide)) ?_
          refine r_iload_n hE dX1_bringsAllNotes_64 rfl ?_
          refine r_iconst (v := 0) hE dX1_bringsAllNotes_65 (by decide) ?_
          refine t_invv (r := (some (.int (if i < kn ∧ 0 < 2 then (D8 81).1 (i * 2 + 0) else 0)))) (S2 := (y_mk n L D8)) hE [.int (nI i), .int 0] (k_get (D := D8) (k := kn) (wd := 2) y_T_80 (hL 80 (by decide)) (hL 81 (by decide)) (by rw [ag 80 (by decide)]; exact hn) (by rw [ag 80 (by decide)]; exact hnw) (by omega) (by decide) (by decide) (r := i) (c := 0) (by omega) (by decide) (by omega)) v_yX7_get m_X1_100 dX1_bringsAllNotes_66 rfl (hL 80 (by decide)) (y_l_80 (D8 80)) rfl (by decide) ⟨Nat.le_refl _, Nat.le_refl _⟩ (Nat.le_of_ble_eq_true rfl) ?_
          show E 0 0 69 [(0, .ref 151), (1, .int u), (2, .int (nI i)), (3, .int (nI sec))] [.int (if i < kn ∧ 0 < 2 then (D8 81).1 (i * 2 + 0) else 0), .ref 73, .int ((D8 160).1 sec), .int (nI sec), .ref 160] (y_mk n L D8)
          refine r_top (y := (nI th)) (by rw [if_pos (by omega), ag 81 (by decide)]; exact h1) ?_
          refine r_iload_n hE dX1_bringsAllNotes_69 rfl ?_
          refine t_invv (r := (some (.int (K_setsFor D8 kt th kw u)))) (S2 := (y_mk n L D8)) hE [.int (nI th), .int u] (k_setsFor (D := D8) (k := kw) (kt := kt) (th := th) hV hL (by rw [ag 73 (by decide)]; exact hw) hkw (y_a6_rq ag hR2) (by rw [ag 78 (by decide)]; exact ht) (by rw [ag 78 (by decide)]; exact htw) hkt hth3 (by unfold y_tg; rw [ag 79 (by decide)]; exact hTH th 0 (by decide)) (by unfold y_tg; rw [ag 79 (by decide)]; exact hTH th 1 (by decide))) v_yX0_setsFor m_X1_104 dX1_bringsAllNotes_70 rfl (hL 73 (by decide)) (y_l_73 (D8 73)) rfl (by decide) ⟨Nat.le_refl _, Nat.le_refl _⟩ (Nat.le_of_ble_eq_true rfl) ?_
          show E 0 0 73 [(0, .ref 151), (1, .int u), (2, .int (nI i)), (3, .int (nI sec))] [.int (K_setsFor D8 kt th kw u), .int ((D8 160).1 sec), .int (nI sec), .ref 160] (y_mk n L D8)
          refine r_iand hE dX1_bringsAllNotes_73 ?_
          refine t_iastN (e := sec) hE y_A_160 dX1_bringsAllNotes_74 (hL 160 (by decide)) (by omega) (by decide) ?_
          refine r_iincN (a := i) (b := 1) (ls2 := [(0, .ref 151), (1, .int u), (2, .int (nI (i + 1))), (3, .int (nI sec))]) hE dX1_bringsAllNotes_75 rfl rfl (by decide) rfl ?_
          refine r_goto (tgt := 6) hE dX1_bringsAllNotes_78 (by decide) ?_
          refine r_locs hE (ls2 := [(0, .ref 151), (1, .int u), (2, .int (nI (i + 1)))]) ?_ (ih (kn - (i + 1)) (by omega) (i + 1) _ rfl (by omega) ?_ ?_ ?_)
          · simp [x_lk]
          · show y_si (y_bn D k kt kw u i) 160 (y_sec D i) _ = _
            rw [hg, show y_sec D i = sec by unfold y_sec; rw [h2, nI_clamp (by omega)], show y_thi D i = th by unfold y_thi; rw [show i * 2 = i * 2 + 0 from rfl, h1, nI_clamp hth3]]
          · intro j hj
            rw [y_si_ne hj, ag j hj]
          · intro j hj
            by_cases hj2 : j = i
            · rw [hj2, show y_sec D i = sec by unfold y_sec; rw [h2, nI_clamp (by omega)]]
              omega
            · exact hall j (by omega)
        · refine r_iconst (v := 0) hE dX1_bringsAllNotes_44 (by decide) ?_
          refine r_ireturn hE dX1_bringsAllNotes_45 rfl (by decide) (Nat.zero_le _) (Nat.zero_le _) ?_
          refine ⟨_, _, rfl, rfl, fun j _ h2 _ _ => ag j h2, by simp, ?_⟩
          refine ⟨fun h => absurd h (by decide), fun h => absurd (h.1 i (by omega)) ?_⟩
          unfold y_sec
          rw [h2, nI_clamp (by omega)]
          omega
  refine r_aload_n hE dX1_bringsAllNotes_0 rfl ?_
  refine t_invv (r := none) (S2 := (y_mk n L (y_sw D 160 (y_cp (y_al D k) (D 160).1 (k + 1))))) hE [] (k_allowUnseen hL hs hk) v_yX1_allowUnseen m_X1_61 dX1_bringsAllNotes_1 rfl (hL 151 (by decide)) (y_l_151 (D 151)) rfl (by decide) ⟨Nat.le_refl _, Nat.le_refl _⟩ (Nat.le_of_ble_eq_true rfl) ?_
  show E 0 0 4 [(0, .ref 151), (1, .int u)] [] (y_mk n L (y_sw D 160 (y_cp (y_al D k) (D 160).1 (k + 1))))
  refine r_iconst (v := 0) hE dX1_bringsAllNotes_4 (by decide) ?_
  refine r_istore_n (ls2 := [(0, .ref 151), (1, .int u), (2, .int 0)]) hE dX1_bringsAllNotes_5 (by decide) rfl ?_
  exact lp 0 _ (by omega) rfl (fun j hj => y_sw_ne hj) (fun j hj => absurd hj (by omega))

/-! the class's reader: its state, one token -/
def k_Q (D : y_D) (nx : Nat) (wr : Int32) (lc : Nat) (fr tk rc : Int32) (sc : Nat) (LN ST : Nat → Int32) : y_D := y_sw (y_sw (y_sw D 66 (upd (upd (upd (upd (upd (upd (upd (D 66).1 1 (nI nx)) 2 wr) 4 (nI lc)) 5 fr) 6 tk) 7 rc) 9 (nI sc))) 71 LN) 72 ST
section R82
variable {D : y_D} {nx lc sc k q : Nat} {wr fr tk rc v : Int32} {LN ST : Nat → Int32}
theorem k_Q_66 : y_si (k_Q D nx wr lc fr tk rc sc LN ST) 66 k v = y_sw (y_sw (y_sw D 66 (upd (upd (upd (upd (upd (upd (upd (upd (D 66).1 1 (nI nx)) 2 wr) 4 (nI lc)) 5 fr) 6 tk) 7 rc) 9 (nI sc)) k v)) 71 LN) 72 ST := by
  funext j
  by_cases c : j = 66
  · subst c; rfl
  · rw [y_si_ne c]
    unfold k_Q
    by_cases c2 : j = 72
    · subst c2; rfl
    · by_cases c3 : j = 71
      · subst c3; rfl
      · rw [y_sw_ne c2, y_sw_ne c3, y_sw_ne c, y_sw_ne c2, y_sw_ne c3, y_sw_ne c]
theorem k_Q_1 : y_si (k_Q D nx wr lc fr tk rc sc LN ST) 66 1 (nI q) = k_Q D q wr lc fr tk rc sc LN ST := by
  rw [k_Q_66]
  unfold k_Q
  congr 3
  funext i
  unfold upd
  by_cases h : i = 1 <;> simp [h]
theorem k_Q_2 : y_si (k_Q D nx wr lc fr tk rc sc LN ST) 66 2 v = k_Q D nx v lc fr tk rc sc LN ST := by
  rw [k_Q_66]
  unfold k_Q
  congr 3
  funext i
  unfold upd
  by_cases h : i = 2 <;> simp [h]
theorem k_Q_4 : y_si (k_Q D nx wr lc fr tk rc sc LN ST) 66 4 (nI q) = k_Q D nx wr q fr tk rc sc LN ST := by
  rw [k_Q_66]
  unfold k_Q
  congr 3
  funext i
  unfold upd
  by_cases h : i = 4 <;> simp [h]
theorem k_Q_5 : y_si (k_Q D nx wr lc fr tk rc sc LN ST) 66 5 v = k_Q D nx wr lc v tk rc sc LN ST := by
  rw [k_Q_66]
  unfold k_Q
  congr 3
  funext i
  unfold upd
  by_cases h : i = 5 <;> simp [h]
theorem k_Q_6 : y_si (k_Q D nx wr lc fr tk rc sc LN ST) 66 6 v = k_Q D nx wr lc fr v rc sc LN ST := by
  rw [k_Q_66]
  unfold k_Q
  congr 3
  funext i
  unfold upd
  by_cases h : i = 6 <;> simp [h]
theorem k_Q_7 : y_si (k_Q D nx wr lc fr tk rc sc LN ST) 66 7 v = k_Q D nx wr lc fr tk v sc LN ST := by
  rw [k_Q_66]
  unfold k_Q
  congr 3
  funext i
  unfold upd
  by_cases h : i = 7 <;> simp [h]
theorem k_Q_9 : y_si (k_Q D nx wr lc fr tk rc sc LN ST) 66 9 (nI q) = k_Q D nx wr lc fr tk rc q LN ST := by
  rw [k_Q_66]
  unfold k_Q
  congr 3
  funext i
  unfold upd
  by_cases h : i = 9 <;> simp [h]
theorem k_Q_71 : y_si (k_Q D nx wr lc fr tk rc sc LN ST) 71 k v = k_Q D nx wr lc fr tk rc sc (upd LN k v) ST := by
  funext j
  by_cases c : j = 71
  · subst c; rfl
  · rw [y_si_ne c]
    unfold k_Q
    by_cases c2 : j = 72
    · subst c2; rfl
    · rw [y_sw_ne c2, y_sw_ne c, y_sw_ne c2, y_sw_ne c]
theorem k_Q_72 : y_si (k_Q D nx wr lc fr tk rc sc LN ST) 72 k v = k_Q D nx wr lc fr tk rc sc LN (upd ST k v) := by
  unfold k_Q
  rw [y_si_sw]
theorem k_Q_new : y_si (y_si (y_si (y_si (y_si (y_si (y_si D 66 1 0) 66 2 (-1)) 66 4 0) 66 5 0) 66 6 1) 66 7 0) 66 9 0 = k_Q D 0 (-1) 0 0 1 0 0 (D 71).1 (D 72).1 := by
  funext j
  by_cases c : j = 66
  · subst c; rfl
  · rw [y_si_ne c, y_si_ne c, y_si_ne c, y_si_ne c, y_si_ne c, y_si_ne c, y_si_ne c]
    unfold k_Q
    by_cases c2 : j = 72
    · subst c2; rfl
    · by_cases c3 : j = 71
      · subst c3; rfl
      · rw [y_sw_ne c2, y_sw_ne c3, y_sw_ne c]
end R82
/-- the number that a token tells; -1 -/
def k_nx (K C : Nat → Int32) (j : Nat) : Int32 := if K j = 2 then C j else -1
abbrev k_bad (x lo hi : Int32) : Prop := x < lo ∨ hi < x
def k_nb (K C : Nat → Int32) (j : Nat) (lo hi : Int32) : Int32 := if k_bad (k_nx K C j) lo hi then -1 else k_nx K C j
theorem k_startAnew {V : x_E} {n : Nat} {L : List Nat} {D : y_D} (hL : y_ok L) : x_Fn V yX2_startAnew cX2_startAnew 1 none 0 [.ref 66] (y_mk n L D) none (y_mk n L (k_Q D 0 (-1) 0 0 1 0 0 (D 71).1 (D 72).1)) := by
  refine x_fn (by decide) (Nat.le_of_ble_eq_true rfl) (fun E hE => ?_)
  change E 0 0 0 [(0, .ref 66)] [] (y_mk n L D)
  refine r_aload_n hE dX2_startAnew_0 rfl ?_
  refine r_iconst (v := 0) hE dX2_startAnew_1 (by decide) ?_
  refine t_puti hE f_X2_87 y_I_66_1 dX2_startAnew_2 (hL 66 (by decide)) rfl rfl ?_
  refine r_aload_n hE dX2_startAnew_5 rfl ?_
  refine r_iconst (v := (-1)) hE dX2_startAnew_6 (by decide) ?_
  refine t_puti hE f_X2_18 y_I_66_2 dX2_startAnew_7 (hL 66 (by decide)) rfl rfl ?_
  refine r_aload_n hE dX2_startAnew_10 rfl ?_
  refine r_iconst (v := 0) hE dX2_startAnew_11 (by decide) ?_
  refine t_puti hE f_X2_58 y_I_66_4 dX2_startAnew_12 (hL 66 (by decide)) rfl rfl ?_
  refine r_aload_n hE dX2_startAnew_15 rfl ?_
  refine r_iconst (v := 0) hE dX2_startAnew_16 (by decide) ?_
  refine t_puti hE f_X2_72 y_I_66_5 dX2_startAnew_17 (hL 66 (by decide)) rfl rfl ?_
  refine r_aload_n hE dX2_startAnew_20 rfl ?_
  refine r_iconst (v := 1) hE dX2_startAnew_21 (by decide) ?_
  refine t_puti hE f_X2_75 y_I_66_6 dX2_startAnew_22 (hL 66 (by decide)) rfl rfl ?_
  refine r_aload_n hE dX2_startAnew_25 rfl ?_
  refine r_iconst (v := 0) hE dX2_startAnew_26 (by decide) ?_
  refine t_puti hE f_X2_78 y_I_66_7 dX2_startAnew_27 (hL 66 (by decide)) rfl rfl ?_
  refine r_aload_n hE dX2_startAnew_30 rfl ?_
  refine r_iconst (v := 0) hE dX2_startAnew_31 (by decide) ?_
  refine t_puti hE f_X2_81 y_I_66_9 dX2_startAnew_32 (hL 66 (by decide)) rfl rfl ?_
  refine r_return hE dX2_startAnew_35 rfl (Nat.zero_le _) (Nat.zero_le _) ?_
  exact ⟨rfl, by rw [k_Q_new]⟩
theorem k_token {V : x_E} {n : Nat} {L : List Nat} {D : y_D} {nx lc sc : Nat} {wr fr tk rc : Int32} {LN ST : Nat → Int32} (hL : y_ok L) (hx : nx < 401) : x_Fn V yX2_token cX2_token 1 (some .int) 0 [.ref 66] (y_mk n L (k_Q D nx wr lc fr tk rc sc LN ST)) (some (.int ((D 68).1 nx))) (y_mk n L (k_Q D nx wr lc fr tk rc sc LN ST)) := by
  refine x_fn (by decide) (Nat.le_of_ble_eq_true rfl) (fun E hE => ?_)
  change E 0 0 0 [(0, .ref 66)] [] (y_mk n L (k_Q D nx wr lc fr tk rc sc LN ST))
  refine r_aload_n hE dX2_token_0 rfl ?_
  refine t_getr hE f_X2_12 y_R_66_0 dX2_token_1 (hL 66 (by decide)) ?_
  refine t_getr hE f_X2_90 y_R_67_0 dX2_token_4 (hL 67 (by decide)) ?_
  refine r_aload_n hE dX2_token_7 rfl ?_
  refine t_geti hE f_X2_87 y_I_66_1 dX2_token_8 (hL 66 (by decide)) ?_
  refine r_top (y := (nI nx)) rfl ?_
  refine t_ialdN (e := nx) hE y_A_68 dX2_token_11 (hL 68 (by decide)) (by omega) (by decide) ?_
  refine r_top (y := ((D 68).1 nx)) rfl ?_
  refine r_ireturn hE dX2_token_12 rfl rfl (Nat.zero_le _) (Nat.zero_le _) ?_
  exact ⟨rfl, rfl⟩
theorem k_refuse {V : x_E} {n : Nat} {L : List Nat} {D : y_D} {nx lc sc : Nat} {wr fr tk rc : Int32} {LN ST : Nat → Int32} (hL : y_ok L) (hx : nx < 401) : x_Fn V yX2_refuse cX2_refuse 1 (some .boolean) 0 [.ref 66] (y_mk n L (k_Q D nx wr lc fr tk rc sc LN ST)) (some (.int 0)) (y_mk n L (k_Q D nx ((D 69).1 nx) lc fr tk rc sc LN ST)) := by
  refine x_fn (by decide) (Nat.le_of_ble_eq_true rfl) (fun E hE => ?_)
  change E 0 0 0 [(0, .ref 66)] [] (y_mk n L (k_Q D nx wr lc fr tk rc sc LN ST))
  refine r_aload_n hE dX2_refuse_0 rfl ?_
  refine r_aload_n hE dX2_refuse_1 rfl ?_
  refine t_getr hE f_X2_12 y_R_66_0 dX2_refuse_2 (hL 66 (by decide)) ?_
  refine t_getr hE f_X2_93 y_R_67_1 dX2_refuse_5 (hL 67 (by decide)) ?_
  refine r_aload_n hE dX2_refuse_8 rfl ?_
  refine t_geti hE f_X2_87 y_I_66_1 dX2_refuse_9 (hL 66 (by decide)) ?_
  refine r_top (y := (nI nx)) rfl ?_
  refine t_ialdN (e := nx) hE y_A_69 dX2_refuse_12 (hL 69 (by decide)) (by omega) (by decide) ?_
  refine r_top (y := ((D 69).1 nx)) rfl ?_
  refine t_puti hE f_X2_18 y_I_66_2 dX2_refuse_13 (hL 66 (by decide)) rfl rfl ?_
  rw [k_Q_2]
  refine r_iconst (v := 0) hE dX2_refuse_16 (by decide) ?_
  refine r_ireturn hE dX2_refuse_17 rfl (by first | rfl | exact y_nb _) (Nat.zero_le _) (Nat.zero_le _) ?_
  exact ⟨rfl, rfl⟩
theorem k_pass {V : x_E} {n : Nat} {L : List Nat} {D : y_D} {t : Int32} {nx lc sc : Nat} {wr fr tk rc : Int32} {LN ST : Nat → Int32} (hL : y_ok L) (hx : nx < 401) : x_Fn V yX2_pass cX2_pass 2 (some .boolean) 1 [.ref 66, .int t] (y_mk n L (k_Q D nx wr lc fr tk rc sc LN ST)) (some (.int (y_b ((D 68).1 nx = t)))) (y_mk n L (k_Q D (if (D 68).1 nx = t then nx + 1 else nx) (if (D 68).1 nx = t then wr else (D 69).1 nx) lc fr tk rc sc LN ST)) := by
  refine x_fn (by decide) (Nat.le_of_ble_eq_true rfl) (fun E hE => ?_)
  change E 0 0 0 [(0, .ref 66), (1, .int t)] [] (y_mk n L (k_Q D nx wr lc fr tk rc sc LN ST))
  refine r_aload_n hE dX2_pass_0 rfl ?_
  refine t_invv (r := (some (.int ((D 68).1 nx)))) (S2 := (y_mk n L (k_Q D nx wr lc fr tk rc sc LN ST))) hE [] (k_token hL (by omega)) v_yX2_token m_X2_38 dX2_pass_1 rfl (hL 66 (by decide)) (y_l_66 ((k_Q D nx wr lc fr tk rc sc LN ST) 66)) rfl (by decide) ⟨Nat.le_refl _, Nat.le_refl _⟩ (Nat.le_of_ble_eq_true rfl) ?_
  show E 0 0 4 [(0, .ref 66), (1, .int t)] [.int ((D 68).1 nx)] (y_mk n L (k_Q D nx wr lc fr tk rc sc LN ST))
  refine r_iload_n hE dX2_pass_4 rfl ?_
  refine r_icmp_eq (tgt := 13) hE dX2_pass_5 (by decide) (fun c5 => ?_) (fun c5 => ?_)
  · refine r_aload_n hE dX2_pass_13 rfl ?_
    refine r_dup hE dX2_pass_14 rfl ?_
    refine t_geti hE f_X2_87 y_I_66_1 dX2_pass_15 (hL 66 (by decide)) ?_
    refine r_top (y := (nI nx)) rfl ?_
    refine r_iconst (v := 1) hE dX2_pass_18 (by decide) ?_
    refine r_iaddN (a := nx) (b := 1) hE dX2_pass_19 ?_
    refine t_puti hE f_X2_87 y_I_66_1 dX2_pass_20 (hL 66 (by decide)) rfl rfl ?_
    rw [k_Q_1]
    refine r_iconst (v := 1) hE dX2_pass_23 (by decide) ?_
    refine r_ireturn hE dX2_pass_24 rfl (by rfl) (Nat.zero_le _) (Nat.zero_le _) ?_
    first | rw [if_pos (by assumption), if_pos (by assumption), y_b_t (by assumption)] | rw [if_neg (by assumption), if_neg (by assumption), y_b_f (by assumption)]
    exact ⟨rfl, rfl⟩
  · refine r_aload_n hE dX2_pass_8 rfl ?_
    refine t_invv (r := (some (.int 0))) (S2 := (y_mk n L (k_Q D nx ((D 69).1 nx) lc fr tk rc sc LN ST))) hE [] (k_refuse hL (by omega)) v_yX2_refuse m_X2_55 dX2_pass_9 rfl (hL 66 (by decide)) (y_l_66 ((k_Q D nx wr lc fr tk rc sc LN ST) 66)) rfl (by decide) ⟨Nat.le_refl _, Nat.le_refl _⟩ (Nat.le_of_ble_eq_true rfl) ?_
    show E 0 0 12 [(0, .ref 66), (1, .int t)] [.int 0] (y_mk n L (k_Q D nx ((D 69).1 nx) lc fr tk rc sc LN ST))
    refine r_ireturn hE dX2_pass_12 rfl (by rfl) (Nat.zero_le _) (Nat.zero_le _) ?_
    first | rw [if_pos (by assumption), if_pos (by assumption), y_b_t (by assumption)] | rw [if_neg (by assumption), if_neg (by assumption), y_b_f (by assumption)]
    exact ⟨rfl, rfl⟩
theorem k_number {V : x_E} {n : Nat} {L : List Nat} {D : y_D} {lo hi : Int32} {nx lc sc : Nat} {wr fr tk rc : Int32} {LN ST : Nat → Int32} (hL : y_ok L) (hx : nx < 401) : x_Fn V yX2_number cX2_number 4 (some .int) 0 [.ref 66, .int lo, .int hi] (y_mk n L (k_Q D nx wr lc fr tk rc sc LN ST)) (some (.int (k_nb (D 68).1 (D 70).1 nx lo hi))) (y_mk n L (k_Q D (if k_bad (k_nx (D 68).1 (D 70).1 nx) lo hi then nx else nx + 1) (if k_bad (k_nx (D 68).1 (D 70).1 nx) lo hi then (D 69).1 nx else wr) lc fr tk rc sc LN ST)) := by
  refine x_fn (by decide) (Nat.le_of_ble_eq_true rfl) (fun E hE => ?_)
  change E 0 0 0 [(0, .ref 66), (1, .int lo), (2, .int hi)] [] (y_mk n L (k_Q D nx wr lc fr tk rc sc LN ST))
  refine r_aload_n hE dX2_number_0 rfl ?_
  refine t_getr hE f_X2_12 y_R_66_0 dX2_number_1 (hL 66 (by decide)) ?_
  refine t_getr hE f_X2_90 y_R_67_0 dX2_number_4 (hL 67 (by decide)) ?_
  refine r_aload_n hE dX2_number_7 rfl ?_
  refine t_geti hE f_X2_87 y_I_66_1 dX2_number_8 (hL 66 (by decide)) ?_
  refine r_top (y := (nI nx)) rfl ?_
  refine t_ialdN (e := nx) hE y_A_68 dX2_number_11 (hL 68 (by decide)) (by omega) (by decide) ?_
  refine r_top (y := ((D 68).1 nx)) rfl ?_
  refine r_iconst (v := 2) hE dX2_number_12 (by decide) ?_
  refine r_icmp_ne (tgt := 31) hE dX2_number_13 (by decide) (fun c13 => ?_) (fun c13 => ?_)
  · refine r_iconst (v := (-1)) hE dX2_number_31 (by decide) ?_
    refine r_istore_n (ls2 := [(0, .ref 66), (1, .int lo), (2, .int hi), (3, .int (-1))]) hE dX2_number_32 (by decide) rfl ?_
    refine r_iload_n hE dX2_number_33 rfl ?_
    refine r_iload_n hE dX2_number_34 rfl ?_
    refine r_icmp_lt (tgt := 43) hE dX2_number_35 (by decide) (fun c35 => ?_) (fun c35 => ?_)
    · refine r_aload_n hE dX2_number_43 rfl ?_
      refine r_aload_n hE dX2_number_44 rfl ?_
      refine t_getr hE f_X2_12 y_R_66_0 dX2_number_45 (hL 66 (by decide)) ?_
      refine t_getr hE f_X2_93 y_R_67_1 dX2_number_48 (hL 67 (by decide)) ?_
      refine r_aload_n hE dX2_number_51 rfl ?_
      refine t_geti hE f_X2_87 y_I_66_1 dX2_number_52 (hL 66 (by decide)) ?_
      refine r_top (y := (nI nx)) rfl ?_
      refine t_ialdN (e := nx) hE y_A_69 dX2_number_55 (hL 69 (by decide)) (by omega) (by decide) ?_
      refine r_top (y := ((D 69).1 nx)) rfl ?_
      refine t_puti hE f_X2_18 y_I_66_2 dX2_number_56 (hL 66 (by decide)) rfl rfl ?_
      rw [k_Q_2]
      refine r_iconst (v := (-1)) hE dX2_number_59 (by decide) ?_
      refine r_ireturn hE dX2_number_60 rfl rfl (Nat.zero_le _) (Nat.zero_le _) ?_
      have hx9 : k_bad (k_nx (D 68).1 (D 70).1 nx) lo hi := by
        unfold k_nx
        first | rw [if_pos c13] | rw [if_neg c13]
        first | exact Or.inl c35 | exact Or.inr (Int32.not_le.mp c40)
      unfold k_nb
      rw [if_pos hx9, if_pos hx9, if_pos hx9]
      exact ⟨rfl, rfl⟩
    · refine r_iload_n hE dX2_number_38 rfl ?_
      refine r_iload_n hE dX2_number_39 rfl ?_
      refine r_icmp_le (tgt := 61) hE dX2_number_40 (by decide) (fun c40 => ?_) (fun c40 => ?_)
      · refine r_aload_n hE dX2_number_61 rfl ?_
        refine r_dup hE dX2_number_62 rfl ?_
        refine t_geti hE f_X2_87 y_I_66_1 dX2_number_63 (hL 66 (by decide)) ?_
        refine r_top (y := (nI nx)) rfl ?_
        refine r_iconst (v := 1) hE dX2_number_66 (by decide) ?_
        refine r_iaddN (a := nx) (b := 1) hE dX2_number_67 ?_
        refine t_puti hE f_X2_87 y_I_66_1 dX2_number_68 (hL 66 (by decide)) rfl rfl ?_
        rw [k_Q_1]
        refine r_iload_n hE dX2_number_71 rfl ?_
        refine r_ireturn hE dX2_number_72 rfl rfl (Nat.zero_le _) (Nat.zero_le _) ?_
        have hx8 : k_nx (D 68).1 (D 70).1 nx = (-1) := by
          unfold k_nx
          first | rw [if_pos c13] | rw [if_neg c13]
        have hx9 : ¬ k_bad (k_nx (D 68).1 (D 70).1 nx) lo hi := by
          rw [hx8]
          exact fun z => z.elim c35 (fun h => absurd c40 (Int32.not_le.mpr h))
        unfold k_nb
        rw [if_neg hx9, if_neg hx9, if_neg hx9, hx8]
        exact ⟨rfl, rfl⟩
      · refine r_aload_n hE dX2_number_43 rfl ?_
        refine r_aload_n hE dX2_number_44 rfl ?_
        refine t_getr hE f_X2_12 y_R_66_0 dX2_number_45 (hL 66 (by decide)) ?_
        refine t_getr hE f_X2_93 y_R_67_1 dX2_number_48 (hL 67 (by decide)) ?_
        refine r_aload_n hE dX2_number_51 rfl ?_
        refine t_geti hE f_X2_87 y_I_66_1 dX2_number_52 (hL 66 (by decide)) ?_
        refine r_top (y := (nI nx)) rfl ?_
        refine t_ialdN (e := nx) hE y_A_69 dX2_number_55 (hL 69 (by decide)) (by omega) (by decide) ?_
        refine r_top (y := ((D 69).1 nx)) rfl ?_
        refine t_puti hE f_X2_18 y_I_66_2 dX2_number_56 (hL 66 (by decide)) rfl rfl ?_
        rw [k_Q_2]
        refine r_iconst (v := (-1)) hE dX2_number_59 (by decide) ?_
        refine r_ireturn hE dX2_number_60 rfl rfl (Nat.zero_le _) (Nat.zero_le _) ?_
        have hx9 : k_bad (k_nx (D 68).1 (D 70).1 nx) lo hi := by
          unfold k_nx
          first | rw [if_pos c13] | rw [if_neg c13]
          first | exact Or.inl c35 | exact Or.inr (Int32.not_le.mp c40)
        unfold k_nb
        rw [if_pos hx9, if_pos hx9, if_pos hx9]
        exact ⟨rfl, rfl⟩
  · refine r_aload_n hE dX2_number_16 rfl ?_
    refine t_getr hE f_X2_12 y_R_66_0 dX2_number_17 (hL 66 (by decide)) ?_
    refine t_getr hE f_X2_96 y_R_67_2 dX2_number_20 (hL 67 (by decide)) ?_
    refine r_aload_n hE dX2_number_23 rfl ?_
    refine t_geti hE f_X2_87 y_I_66_1 dX2_number_24 (hL 66 (by decide)) ?_
    refine r_top (y := (nI nx)) rfl ?_
    refine t_ialdN (e := nx) hE y_A_70 dX2_number_27 (hL 70 (by decide)) (by omega) (by decide) ?_
    refine r_top (y := ((D 70).1 nx)) rfl ?_
    refine r_goto (tgt := 32) hE dX2_number_28 (by decide) ?_
    refine r_istore_n (ls2 := [(0, .ref 66), (1, .int lo), (2, .int hi), (3, .int ((D 70).1 nx))]) hE dX2_number_32 (by decide) rfl ?_
    refine r_iload_n hE dX2_number_33 rfl ?_
    refine r_iload_n hE dX2_number_34 rfl ?_
    refine r_icmp_lt (tgt := 43) hE dX2_number_35 (by decide) (fun c35 => ?_) (fun c35 => ?_)
    · refine r_aload_n hE dX2_number_43 rfl ?_
      refine r_aload_n hE dX2_number_44 rfl ?_
      refine t_getr hE f_X2_12 y_R_66_0 dX2_number_45 (hL 66 (by decide)) ?_
      refine t_getr hE f_X2_93 y_R_67_1 dX2_number_48 (hL 67 (by decide)) ?_
      refine r_aload_n hE dX2_number_51 rfl ?_
      refine t_geti hE f_X2_87 y_I_66_1 dX2_number_52 (hL 66 (by decide)) ?_
      refine r_top (y := (nI nx)) rfl ?_
      refine t_ialdN (e := nx) hE y_A_69 dX2_number_55 (hL 69 (by decide)) (by omega) (by decide) ?_
      refine r_top (y := ((D 69).1 nx)) rfl ?_
      refine t_puti hE f_X2_18 y_I_66_2 dX2_number_56 (hL 66 (by decide)) rfl rfl ?_
      rw [k_Q_2]
      refine r_iconst (v := (-1)) hE dX2_number_59 (by decide) ?_
      refine r_ireturn hE dX2_number_60 rfl rfl (Nat.zero_le _) (Nat.zero_le _) ?_
      have hx9 : k_bad (k_nx (D 68).1 (D 70).1 nx) lo hi := by
        unfold k_nx
        first | rw [if_pos c13] | rw [if_neg c13]
        first | exact Or.inl c35 | exact Or.inr (Int32.not_le.mp c40)
      unfold k_nb
      rw [if_pos hx9, if_pos hx9, if_pos hx9]
      exact ⟨rfl, rfl⟩
    · refine r_iload_n hE dX2_number_38 rfl ?_
      refine r_iload_n hE dX2_number_39 rfl ?_
      refine r_icmp_le (tgt := 61) hE dX2_number_40 (by decide) (fun c40 => ?_) (fun c40 => ?_)
      · refine r_aload_n hE dX2_number_61 rfl ?_
        refine r_dup hE dX2_number_62 rfl ?_
        refine t_geti hE f_X2_87 y_I_66_1 dX2_number_63 (hL 66 (by decide)) ?_
        refine r_top (y := (nI nx)) rfl ?_
        refine r_iconst (v := 1) hE dX2_number_66 (by decide) ?_
        refine r_iaddN (a := nx) (b := 1) hE dX2_number_67 ?_
        refine t_puti hE f_X2_87 y_I_66_1 dX2_number_68 (hL 66 (by decide)) rfl rfl ?_
        rw [k_Q_1]
        refine r_iload_n hE dX2_number_71 rfl ?_
        refine r_ireturn hE dX2_number_72 rfl rfl (Nat.zero_le _) (Nat.zero_le _) ?_
        have hx8 : k_nx (D 68).1 (D 70).1 nx = ((D 70).1 nx) := by
          unfold k_nx
          first | rw [if_pos c13] | rw [if_neg c13]
        have hx9 : ¬ k_bad (k_nx (D 68).1 (D 70).1 nx) lo hi := by
          rw [hx8]
          exact fun z => z.elim c35 (fun h => absurd c40 (Int32.not_le.mpr h))
        unfold k_nb
        rw [if_neg hx9, if_neg hx9, if_neg hx9, hx8]
        exact ⟨rfl, rfl⟩
      · refine r_aload_n hE dX2_number_43 rfl ?_
        refine r_aload_n hE dX2_number_44 rfl ?_
        refine t_getr hE f_X2_12 y_R_66_0 dX2_number_45 (hL 66 (by decide)) ?_
        refine t_getr hE f_X2_93 y_R_67_1 dX2_number_48 (hL 67 (by decide)) ?_
        refine r_aload_n hE dX2_number_51 rfl ?_
        refine t_geti hE f_X2_87 y_I_66_1 dX2_number_52 (hL 66 (by decide)) ?_
        refine r_top (y := (nI nx)) rfl ?_
        refine t_ialdN (e := nx) hE y_A_69 dX2_number_55 (hL 69 (by decide)) (by omega) (by decide) ?_
        refine r_top (y := ((D 69).1 nx)) rfl ?_
        refine t_puti hE f_X2_18 y_I_66_2 dX2_number_56 (hL 66 (by decide)) rfl rfl ?_
        rw [k_Q_2]
        refine r_iconst (v := (-1)) hE dX2_number_59 (by decide) ?_
        refine r_ireturn hE dX2_number_60 rfl rfl (Nat.zero_le _) (Nat.zero_le _) ?_
        have hx9 : k_bad (k_nx (D 68).1 (D 70).1 nx) lo hi := by
          unfold k_nx
          first | rw [if_pos c13] | rw [if_neg c13]
          first | exact Or.inl c35 | exact Or.inr (Int32.not_le.mp c40)
        unfold k_nb
        rw [if_pos hx9, if_pos hx9, if_pos hx9]
        exact ⟨rfl, rfl⟩
theorem k_keepLine {V : x_E} {n : Nat} {L : List Nat} {D : y_D} {t a b : Int32} {nx lc sc : Nat} {wr fr tk rc : Int32} {LN ST : Nat → Int32} (hL : y_ok L) (hx : nx < 401) (hlc : lc ≤ 30) : x_Fn V yX2_keepLine cX2_keepLine 4 (some .boolean) 0 [.ref 66, .int t, .int a, .int b] (y_mk n L (k_Q D nx wr lc fr tk rc sc LN ST)) (some (.int (y_b (a ≠ -1 ∧ b ≠ -1 ∧ lc + 3 ≤ 30)))) (y_mk n L (k_Q D nx wr (if a ≠ -1 ∧ b ≠ -1 ∧ lc + 3 ≤ 30 then lc + 3 else lc) fr tk rc sc (if a ≠ -1 ∧ b ≠ -1 ∧ lc + 3 ≤ 30 then upd (upd (upd LN lc t) (lc + 1) a) (lc + 2) b else LN) ST)) := by
  refine x_fn (by decide) (Nat.le_of_ble_eq_true rfl) (fun E hE => ?_)
  change E 0 0 0 [(0, .ref 66), (1, .int t), (2, .int a), (3, .int b)] [] (y_mk n L (k_Q D nx wr lc fr tk rc sc LN ST))
  refine r_iload_n hE dX2_keepLine_0 rfl ?_
  refine r_iconst (v := (-1)) hE dX2_keepLine_1 (by decide) ?_
  refine r_icmp_eq (tgt := 24) hE dX2_keepLine_2 (by decide) (fun c2 => ?_) (fun c2 => ?_)
  · refine r_iconst (v := 0) hE dX2_keepLine_24 (by decide) ?_
    refine r_ireturn hE dX2_keepLine_25 rfl (by rfl) (Nat.zero_le _) (Nat.zero_le _) ?_
    have hz : ¬ (a ≠ -1 ∧ b ≠ -1 ∧ lc + 3 ≤ 30) := by
      first | exact fun z => z.1 c2 | exact fun z => z.2.1 c7 | exact fun z => absurd z.2.2 (by omega)
    rw [y_b_f hz, if_neg hz, if_neg hz]
    exact ⟨rfl, rfl⟩
  · refine r_iload_n hE dX2_keepLine_5 rfl ?_
    refine r_iconst (v := (-1)) hE dX2_keepLine_6 (by decide) ?_
    refine r_icmp_eq (tgt := 24) hE dX2_keepLine_7 (by decide) (fun c7 => ?_) (fun c7 => ?_)
    · refine r_iconst (v := 0) hE dX2_keepLine_24 (by decide) ?_
      refine r_ireturn hE dX2_keepLine_25 rfl (by rfl) (Nat.zero_le _) (Nat.zero_le _) ?_
      have hz : ¬ (a ≠ -1 ∧ b ≠ -1 ∧ lc + 3 ≤ 30) := by
        first | exact fun z => z.1 c2 | exact fun z => z.2.1 c7 | exact fun z => absurd z.2.2 (by omega)
      rw [y_b_f hz, if_neg hz, if_neg hz]
      exact ⟨rfl, rfl⟩
    · refine r_aload_n hE dX2_keepLine_10 rfl ?_
      refine t_geti hE f_X2_58 y_I_66_4 dX2_keepLine_11 (hL 66 (by decide)) ?_
      refine r_top (y := (nI lc)) rfl ?_
      refine r_iconst (v := 3) hE dX2_keepLine_14 (by decide) ?_
      refine r_iaddN (a := lc) (b := 3) hE dX2_keepLine_15 ?_
      refine r_aload_n hE dX2_keepLine_16 rfl ?_
      refine t_getr hE f_X2_24 y_R_66_3 dX2_keepLine_17 (hL 66 (by decide)) ?_
      refine t_alen (v := nI 30) hE y_A_71 (by decide) dX2_keepLine_20 (hL 71 (by decide)) rfl ?_
      refine r_icmp_leN (a := lc + 3) (b := 30) (tgt := 26) hE dX2_keepLine_21 (by decide) (by omega) (by decide) (fun c21 => ?_) (fun c21 => ?_)
      · refine r_aload_n hE dX2_keepLine_26 rfl ?_
        refine t_getr hE f_X2_24 y_R_66_3 dX2_keepLine_27 (hL 66 (by decide)) ?_
        refine r_aload_n hE dX2_keepLine_30 rfl ?_
        refine t_geti hE f_X2_58 y_I_66_4 dX2_keepLine_31 (hL 66 (by decide)) ?_
        refine r_top (y := (nI lc)) rfl ?_
        refine r_iload_n hE dX2_keepLine_34 rfl ?_
        refine t_iastN (e := lc) hE y_A_71 dX2_keepLine_35 (hL 71 (by decide)) (by omega) (by decide) ?_
        rw [k_Q_71]
        refine r_aload_n hE dX2_keepLine_36 rfl ?_
        refine t_getr hE f_X2_24 y_R_66_3 dX2_keepLine_37 (hL 66 (by decide)) ?_
        refine r_aload_n hE dX2_keepLine_40 rfl ?_
        refine t_geti hE f_X2_58 y_I_66_4 dX2_keepLine_41 (hL 66 (by decide)) ?_
        refine r_top (y := (nI lc)) rfl ?_
        refine r_iconst (v := 1) hE dX2_keepLine_44 (by decide) ?_
        refine r_iaddN (a := lc) (b := 1) hE dX2_keepLine_45 ?_
        refine r_iload_n hE dX2_keepLine_46 rfl ?_
        refine t_iastN (e := lc + 1) hE y_A_71 dX2_keepLine_47 (hL 71 (by decide)) (by omega) (by decide) ?_
        rw [k_Q_71]
        refine r_aload_n hE dX2_keepLine_48 rfl ?_
        refine t_getr hE f_X2_24 y_R_66_3 dX2_keepLine_49 (hL 66 (by decide)) ?_
        refine r_aload_n hE dX2_keepLine_52 rfl ?_
        refine t_geti hE f_X2_58 y_I_66_4 dX2_keepLine_53 (hL 66 (by decide)) ?_
        refine r_top (y := (nI lc)) rfl ?_
        refine r_iconst (v := 2) hE dX2_keepLine_56 (by decide) ?_
        refine r_iaddN (a := lc) (b := 2) hE dX2_keepLine_57 ?_
        refine r_iload_n hE dX2_keepLine_58 rfl ?_
        refine t_iastN (e := lc + 2) hE y_A_71 dX2_keepLine_59 (hL 71 (by decide)) (by omega) (by decide) ?_
        rw [k_Q_71]
        refine r_aload_n hE dX2_keepLine_60 rfl ?_
        refine r_dup hE dX2_keepLine_61 rfl ?_
        refine t_geti hE f_X2_58 y_I_66_4 dX2_keepLine_62 (hL 66 (by decide)) ?_
        refine r_top (y := (nI lc)) rfl ?_
        refine r_iconst (v := 3) hE dX2_keepLine_65 (by decide) ?_
        refine r_iaddN (a := lc) (b := 3) hE dX2_keepLine_66 ?_
        refine t_puti hE f_X2_58 y_I_66_4 dX2_keepLine_67 (hL 66 (by decide)) rfl rfl ?_
        rw [k_Q_4]
        refine r_iconst (v := 1) hE dX2_keepLine_70 (by decide) ?_
        refine r_ireturn hE dX2_keepLine_71 rfl (by rfl) (Nat.zero_le _) (Nat.zero_le _) ?_
        have hz : a ≠ -1 ∧ b ≠ -1 ∧ lc + 3 ≤ 30 := ⟨c2, c7, c21⟩
        rw [y_b_t hz, if_pos hz, if_pos hz]
        exact ⟨rfl, rfl⟩
      · refine r_iconst (v := 0) hE dX2_keepLine_24 (by decide) ?_
        refine r_ireturn hE dX2_keepLine_25 rfl (by rfl) (Nat.zero_le _) (Nat.zero_le _) ?_
        have hz : ¬ (a ≠ -1 ∧ b ≠ -1 ∧ lc + 3 ≤ 30) := by
          first | exact fun z => z.1 c2 | exact fun z => z.2.1 c7 | exact fun z => absurd z.2.2 (by omega)
        rw [y_b_f hz, if_neg hz, if_neg hz]
        exact ⟨rfl, rfl⟩
theorem k_keepStep {V : x_E} {n : Nat} {L : List Nat} {D : y_D} {t a : Int32} {nx lc sc : Nat} {wr fr tk rc : Int32} {LN ST : Nat → Int32} (hL : y_ok L) (hx : nx < 401) (hsc : sc ≤ 800) : x_Fn V yX2_keepStep cX2_keepStep 3 (some .boolean) 0 [.ref 66, .int t, .int a] (y_mk n L (k_Q D nx wr lc fr tk rc sc LN ST)) (some (.int (y_b (a ≠ -1 ∧ sc < 800)))) (y_mk n L (k_Q D nx wr lc fr tk rc (if a ≠ -1 ∧ sc < 800 then sc + 1 else sc) LN (if a ≠ -1 ∧ sc < 800 then upd ST sc (t * 1024 + a) else ST))) := by
  refine x_fn (by decide) (Nat.le_of_ble_eq_true rfl) (fun E hE => ?_)
  change E 0 0 0 [(0, .ref 66), (1, .int t), (2, .int a)] [] (y_mk n L (k_Q D nx wr lc fr tk rc sc LN ST))
  refine r_iload_n hE dX2_keepStep_0 rfl ?_
  refine r_iconst (v := (-1)) hE dX2_keepStep_1 (by decide) ?_
  refine r_icmp_eq (tgt := 17) hE dX2_keepStep_2 (by decide) (fun c2 => ?_) (fun c2 => ?_)
  · refine r_iconst (v := 0) hE dX2_keepStep_17 (by decide) ?_
    refine r_ireturn hE dX2_keepStep_18 rfl (by rfl) (Nat.zero_le _) (Nat.zero_le _) ?_
    have hz : ¬ (a ≠ -1 ∧ sc < 800) := by
      first | exact fun z => z.1 c2 | exact fun z => absurd z.2 (by omega)
    rw [y_b_f hz, if_neg hz, if_neg hz]
    exact ⟨rfl, rfl⟩
  · refine r_aload_n hE dX2_keepStep_5 rfl ?_
    refine t_geti hE f_X2_81 y_I_66_9 dX2_keepStep_6 (hL 66 (by decide)) ?_
    refine r_top (y := (nI sc)) rfl ?_
    refine r_aload_n hE dX2_keepStep_9 rfl ?_
    refine t_getr hE f_X2_28 y_R_66_8 dX2_keepStep_10 (hL 66 (by decide)) ?_
    refine t_alen (v := nI 800) hE y_A_72 (by decide) dX2_keepStep_13 (hL 72 (by decide)) rfl ?_
    refine r_icmp_ltN (a := sc) (b := 800) (tgt := 19) hE dX2_keepStep_14 (by decide) (by omega) (by decide) (fun c14 => ?_) (fun c14 => ?_)
    · refine r_aload_n hE dX2_keepStep_19 rfl ?_
      refine t_getr hE f_X2_28 y_R_66_8 dX2_keepStep_20 (hL 66 (by decide)) ?_
      refine r_aload_n hE dX2_keepStep_23 rfl ?_
      refine t_geti hE f_X2_81 y_I_66_9 dX2_keepStep_24 (hL 66 (by decide)) ?_
      refine r_top (y := (nI sc)) rfl ?_
      refine r_iload_n hE dX2_keepStep_27 rfl ?_
      refine r_sipush (v := 1024) hE dX2_keepStep_28 (by decide) ?_
      refine r_imul hE dX2_keepStep_31 ?_
      refine r_iload_n hE dX2_keepStep_32 rfl ?_
      refine r_iadd hE dX2_keepStep_33 ?_
      refine t_iastN (e := sc) hE y_A_72 dX2_keepStep_34 (hL 72 (by decide)) (by omega) (by decide) ?_
      rw [k_Q_72]
      refine r_aload_n hE dX2_keepStep_35 rfl ?_
      refine r_dup hE dX2_keepStep_36 rfl ?_
      refine t_geti hE f_X2_81 y_I_66_9 dX2_keepStep_37 (hL 66 (by decide)) ?_
      refine r_top (y := (nI sc)) rfl ?_
      refine r_iconst (v := 1) hE dX2_keepStep_40 (by decide) ?_
      refine r_iaddN (a := sc) (b := 1) hE dX2_keepStep_41 ?_
      refine t_puti hE f_X2_81 y_I_66_9 dX2_keepStep_42 (hL 66 (by decide)) rfl rfl ?_
      rw [k_Q_9]
      refine r_iconst (v := 1) hE dX2_keepStep_45 (by decide) ?_
      refine r_ireturn hE dX2_keepStep_46 rfl (by rfl) (Nat.zero_le _) (Nat.zero_le _) ?_
      have hz : a ≠ -1 ∧ sc < 800 := ⟨c2, c14⟩
      rw [y_b_t hz, if_pos hz, if_pos hz]
      exact ⟨rfl, rfl⟩
    · refine r_iconst (v := 0) hE dX2_keepStep_17 (by decide) ?_
      refine r_ireturn hE dX2_keepStep_18 rfl (by rfl) (Nat.zero_le _) (Nat.zero_le _) ?_
      have hz : ¬ (a ≠ -1 ∧ sc < 800) := by
        first | exact fun z => z.1 c2 | exact fun z => absurd z.2 (by omega)
      rw [y_b_f hz, if_neg hz, if_neg hz]
      exact ⟨rfl, rfl⟩

/-! Sitting.settle -/
def y_lit (t : Nat → Int32) (q i : Nat) : Nat → Int32 := fun j => if q ≤ j ∧ j < i then 1 else t j
theorem y_lit_0 {t : Nat → Int32} {q : Nat} : y_lit t q q = t := by
  funext j
  unfold y_lit
  rw [if_neg (by omega)]
theorem y_lit_s {t : Nat → Int32} {q i : Nat} (h : q ≤ i) : upd (y_lit t q i) i 1 = y_lit t q (i + 1) := by
  funext j
  unfold upd y_lit
  by_cases c : j = i
  · rw [if_pos c, if_pos (by omega)]
  · rw [if_neg c]
    by_cases c2 : q ≤ j ∧ j < i
    · rw [if_pos c2, if_pos (by omega)]
    · rw [if_neg c2, if_neg (by omega)]
theorem y_lit_e {t : Nat → Int32} {q i o : Nat} (h : i = o ∨ (i = q ∧ o ≤ q)) : y_lit t q i = y_lit t q o := by
  funext j
  unfold y_lit
  by_cases c2 : q ≤ j ∧ j < i
  · rw [if_pos c2, if_pos (by omega)]
  · rw [if_neg c2, if_neg (by omega)]
/-- the number c of the PERSON o -/
def y_pg (D : y_D) (k o c : Nat) : Int32 := if o < k ∧ c < 2 then (D 75).1 (o * 2 + c) else 0
def y_sln (D : y_D) (k : Nat) (p : Int32) (q o : Nat) : y_D := if p = 10 then y_si (y_si (y_si D 152 1 ((D 152).1 1 ||| nI (2 ^ q))) 154 q (y_pg D k o 0)) 155 q (y_pg D k o 1) else if p = 12 then y_si (y_si D 152 2 ((D 152).1 2 ||| nI (2 ^ q))) 156 q (nI o) else if p = 13 then y_sw D 153 (y_lit (D 153).1 q o) else y_si D 152 0 (nI q)
theorem k_settleLine {V : x_E} {n : Nat} {L : List Nat} {D : y_D} {k : Nat} {p : Int32} {q o : Nat} (hL : y_ok L) (hs : (D 74).1 2 = nI k) (hw : (D 74).1 0 = nI 2) (hk : k ≤ 8) (hq : p = 10 ∨ p = 12 → q < 4) (ho : p = 13 → o ≤ 301) (hq3 : q < 2 ^ 31) (ho3 : o < 2 ^ 31) : x_Fn V yX6_settleLine cX6_settleLine 6 none 1 [.ref 152, .int p, .int (nI q), .int (nI o), .ref 74] (y_mk n L D) none (y_mk n L (y_sln D k p q o)) := by
  refine x_fn (by decide) (Nat.le_of_ble_eq_true rfl) (fun E hE => ?_)
  change E 0 0 0 [(0, .ref 152), (1, .int p), (2, .int (nI q)), (3, .int (nI o)), (4, .ref 74)] [] (y_mk n L D)
  have lp : ∀ (i : Nat), p = 13 → q ≤ i → i ≤ o ∨ i = q → E 0 0 98 [(0, .ref 152), (1, .int p), (2, .int (nI q)), (3, .int (nI o)), (4, .ref 74), (5, .int (nI i))] [] (y_mk n L (y_sw D 153 (y_lit (D 153).1 q i))) := by
    intro i
    induction hm9 : (o - i) using Nat.strongRecOn generalizing i with
    | _ m9 ih =>
      intro hp hqi hi
      have ho2 := ho hp
      refine r_iload hE dX6_settleLine_98 rfl ?_
      refine r_iload_n hE dX6_settleLine_100 rfl ?_
      refine r_icmp_geN (a := i) (b := o) (tgt := 118) hE dX6_settleLine_101 (by decide) (by omega) (by omega) (fun c101 => ?_) (fun c101 => ?_)
      · refine r_goto (tgt := 126) hE dX6_settleLine_118 (by decide) ?_
        refine r_return hE dX6_settleLine_126 rfl (Nat.zero_le _) (Nat.zero_le _) ?_
        subst hp
        refine ⟨rfl, congrArg (y_mk n L) ?_⟩
        show _ = y_sw D 153 (y_lit (D 153).1 q o)
        rw [y_lit_e (i := i) (o := o) (by omega)]
      · refine r_aload_n hE dX6_settleLine_104 rfl ?_
        refine t_getr hE f_X6_9 y_R_152_3 dX6_settleLine_105 (hL 152 (by decide)) ?_
        refine r_iload hE dX6_settleLine_108 rfl ?_
        refine r_iconst (v := 1) hE dX6_settleLine_110 (by decide) ?_
        refine t_iastN (e := i) hE y_A_153 dX6_settleLine_111 (hL 153 (by decide)) (by omega) (by decide) ?_
        refine r_iincN (a := i) (b := 1) (ls2 := [(0, .ref 152), (1, .int p), (2, .int (nI q)), (3, .int (nI o)), (4, .ref 74), (5, .int (nI (i + 1)))]) hE dX6_settleLine_112 rfl rfl (by decide) rfl ?_
        refine r_goto (tgt := 98) hE dX6_settleLine_115 (by decide) ?_
        rw [y_si_sw, y_lit_s hqi]
        exact ih (o - (i + 1)) (by omega) (i + 1) rfl hp (by omega) (by omega)
  refine r_iload_n hE dX6_settleLine_0 rfl ?_
  rcases y_sw_10_13 p with h9 | rfl | rfl | rfl | rfl
  · refine r_tsout (tgt := 121) hE dX6_settleLine_1 h9 (by decide) ?_
    refine r_aload_n hE dX6_settleLine_121 rfl ?_
    refine r_iload_n hE dX6_settleLine_122 rfl ?_
    refine t_puti hE f_X6_27 y_I_152_0 dX6_settleLine_123 (hL 152 (by decide)) rfl rfl ?_
    refine r_return hE dX6_settleLine_126 rfl (Nat.zero_le _) (Nat.zero_le _) ?_
    refine ⟨rfl, congrArg (y_mk n L) ?_⟩
    have hn : ∀ c : Int32, 10 ≤ c.toInt ∧ c.toInt ≤ 13 → p ≠ c := fun c hc he => by rw [he] at h9; omega
    unfold y_sln
    rw [if_neg (hn 10 (by decide)), if_neg (hn 12 (by decide)), if_neg (hn 13 (by decide))]
  · refine r_tsin (tgt := 32) hE dX6_settleLine_1 (by decide) (by decide) rfl (by decide) ?_
    refine r_aload_n hE dX6_settleLine_32 rfl ?_
    refine r_dup hE dX6_settleLine_33 rfl ?_
    refine t_geti hE f_X6_31 y_I_152_1 dX6_settleLine_34 (hL 152 (by decide)) ?_
    refine r_iconst (v := 1) hE dX6_settleLine_37 (by decide) ?_
    refine r_iload_n hE dX6_settleLine_38 rfl ?_
    refine r_shl1N (k := q) hE dX6_settleLine_39 (by have h4 := hq (Or.inl rfl); omega) ?_
    refine r_ior hE dX6_settleLine_40 ?_
    refine t_puti hE f_X6_31 y_I_152_1 dX6_settleLine_41 (hL 152 (by decide)) rfl rfl ?_
    refine r_aload_n hE dX6_settleLine_44 rfl ?_
    refine t_getr hE f_X6_15 y_R_152_4 dX6_settleLine_45 (hL 152 (by decide)) ?_
    refine r_iload_n hE dX6_settleLine_48 rfl ?_
    refine r_aload hE dX6_settleLine_49 rfl ?_
    refine r_iload_n hE dX6_settleLine_51 rfl ?_
    refine r_iconst (v := 0) hE dX6_settleLine_52 (by decide) ?_
    refine t_invv (r := (some (.int (y_pg D k o 0)))) (S2 := (y_mk n L (y_si D 152 1 (((D 152).1 1) ||| (nI (2 ^ q)))))) hE [.int (nI o), .int 0] (k_get (D := y_si D 152 1 (((D 152).1 1) ||| (nI (2 ^ q)))) (k := k) (wd := 2) y_T_74 (hL 74 (by decide)) (hL 75 (by decide)) hs hw (by omega) (by decide) (by decide) (r := o) (c := 0) (by omega) (by decide) (by omega)) v_yX7_get m_X6_58 dX6_settleLine_53 rfl (hL 74 (by decide)) (y_l_74 ((y_si D 152 1 (((D 152).1 1) ||| (nI (2 ^ q)))) 74)) rfl (by decide) ⟨Nat.le_refl _, Nat.le_refl _⟩ (Nat.le_of_ble_eq_true rfl) ?_
    show E 0 0 56 [(0, .ref 152), (1, .int 10), (2, .int (nI q)), (3, .int (nI o)), (4, .ref 74)] [.int (y_pg D k o 0), .int (nI q), .ref 154] (y_mk n L (y_si D 152 1 (((D 152).1 1) ||| (nI (2 ^ q)))))
    refine t_iastN (e := q) hE y_A_154 dX6_settleLine_56 (hL 154 (by decide)) (by have h4 := hq (Or.inl rfl); omega) (by decide) ?_
    refine r_aload_n hE dX6_settleLine_57 rfl ?_
    refine t_getr hE f_X6_18 y_R_152_5 dX6_settleLine_58 (hL 152 (by decide)) ?_
    refine r_iload_n hE dX6_settleLine_61 rfl ?_
    refine r_aload hE dX6_settleLine_62 rfl ?_
    refine r_iload_n hE dX6_settleLine_64 rfl ?_
    refine r_iconst (v := 1) hE dX6_settleLine_65 (by decide) ?_
    refine t_invv (r := (some (.int (y_pg D k o 1)))) (S2 := (y_mk n L (y_si (y_si D 152 1 (((D 152).1 1) ||| (nI (2 ^ q)))) 154 q (y_pg D k o 0)))) hE [.int (nI o), .int 1] (k_get (D := y_si (y_si D 152 1 (((D 152).1 1) ||| (nI (2 ^ q)))) 154 q (y_pg D k o 0)) (k := k) (wd := 2) y_T_74 (hL 74 (by decide)) (hL 75 (by decide)) hs hw (by omega) (by decide) (by decide) (r := o) (c := 1) (by omega) (by decide) (by omega)) v_yX7_get m_X6_58 dX6_settleLine_66 rfl (hL 74 (by decide)) (y_l_74 ((y_si (y_si D 152 1 (((D 152).1 1) ||| (nI (2 ^ q)))) 154 q (y_pg D k o 0)) 74)) rfl (by decide) ⟨Nat.le_refl _, Nat.le_refl _⟩ (Nat.le_of_ble_eq_true rfl) ?_
    show E 0 0 69 [(0, .ref 152), (1, .int 10), (2, .int (nI q)), (3, .int (nI o)), (4, .ref 74)] [.int (y_pg D k o 1), .int (nI q), .ref 155] (y_mk n L (y_si (y_si D 152 1 (((D 152).1 1) ||| (nI (2 ^ q)))) 154 q (y_pg D k o 0)))
    refine t_iastN (e := q) hE y_A_155 dX6_settleLine_69 (hL 155 (by decide)) (by have h4 := hq (Or.inl rfl); omega) (by decide) ?_
    refine r_goto (tgt := 126) hE dX6_settleLine_70 (by decide) ?_
    refine r_return hE dX6_settleLine_126 rfl (Nat.zero_le _) (Nat.zero_le _) ?_
    exact ⟨rfl, rfl⟩
  · refine r_tsin (tgt := 121) hE dX6_settleLine_1 (by decide) (by decide) rfl (by decide) ?_
    refine r_aload_n hE dX6_settleLine_121 rfl ?_
    refine r_iload_n hE dX6_settleLine_122 rfl ?_
    refine t_puti hE f_X6_27 y_I_152_0 dX6_settleLine_123 (hL 152 (by decide)) rfl rfl ?_
    refine r_return hE dX6_settleLine_126 rfl (Nat.zero_le _) (Nat.zero_le _) ?_
    exact ⟨rfl, rfl⟩
  · refine r_tsin (tgt := 73) hE dX6_settleLine_1 (by decide) (by decide) rfl (by decide) ?_
    refine r_aload_n hE dX6_settleLine_73 rfl ?_
    refine r_dup hE dX6_settleLine_74 rfl ?_
    refine t_geti hE f_X6_34 y_I_152_2 dX6_settleLine_75 (hL 152 (by decide)) ?_
    refine r_iconst (v := 1) hE dX6_settleLine_78 (by decide) ?_
    refine r_iload_n hE dX6_settleLine_79 rfl ?_
    refine r_shl1N (k := q) hE dX6_settleLine_80 (by have h4 := hq (Or.inr rfl); omega) ?_
    refine r_ior hE dX6_settleLine_81 ?_
    refine t_puti hE f_X6_34 y_I_152_2 dX6_settleLine_82 (hL 152 (by decide)) rfl rfl ?_
    refine r_aload_n hE dX6_settleLine_85 rfl ?_
    refine t_getr hE f_X6_21 y_R_152_6 dX6_settleLine_86 (hL 152 (by decide)) ?_
    refine r_iload_n hE dX6_settleLine_89 rfl ?_
    refine r_iload_n hE dX6_settleLine_90 rfl ?_
    refine t_iastN (e := q) hE y_A_156 dX6_settleLine_91 (hL 156 (by decide)) (by have h4 := hq (Or.inr rfl); omega) (by decide) ?_
    refine r_goto (tgt := 126) hE dX6_settleLine_92 (by decide) ?_
    refine r_return hE dX6_settleLine_126 rfl (Nat.zero_le _) (Nat.zero_le _) ?_
    exact ⟨rfl, rfl⟩
  · refine r_tsin (tgt := 95) hE dX6_settleLine_1 (by decide) (by decide) rfl (by decide) ?_
    refine r_iload_n hE dX6_settleLine_95 rfl ?_
    refine r_istore (ls2 := [(0, .ref 152), (1, .int 13), (2, .int (nI q)), (3, .int (nI o)), (4, .ref 74), (5, .int (nI q))]) hE dX6_settleLine_96 (by decide) rfl ?_
    have h0 := lp q rfl (by omega) (Or.inr rfl)
    rw [y_lit_0, y_sw_self] at h0
    exact h0

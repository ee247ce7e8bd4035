/-! the class makes a RULE and a WAY; the faces rule, way -/
def y_add (D : y_D) (h : Nat) (c : y_c) : y_D := fun j => if j = h then c else D j
theorem y_mk_push {n : Nat} {L : List Nat} {D : y_D} {e : x_C} {c : y_c} (hn : 191 ≤ n) (h : y_lay n c = e) : x_push (y_mk n L D) e = y_mk (n + 1) (L ++ [n]) (y_add D n c) := by
  unfold x_push y_mk y_add
  dsimp only
  rw [x_pi_hi hn]
  congr 2
  funext j
  by_cases q : j = n
  · subst q
    simp [h]
  · simp [q]
theorem y_mk_put {n : Nat} {L : List Nat} {D : y_D} {h : Nat} {e : x_C} {c : y_c} (hc : y_lay h c = e) : x_put (y_mk n L D) h e = y_mk n L (y_add D h c) := by
  unfold x_put y_mk y_add
  congr 2
  funext j
  by_cases q : j = h
  · subst q
    simp [hc]
  · simp [q]
/-- a RULE at n, its row at n + 1 -/
def k_nr (D : y_D) (n : Nat) (g : Nat → Int32) (m : Nat) : y_D := fun j => if j = n then (fun _ => 0, fun _ => 0, fun _ => some (n + 1), 1, 0) else if j = n + 1 then (g, fun _ => 0, fun _ => none, 0, m) else D j
def k_nwc (n : Nat) (a b c : Int32) : y_c := (fun j => if j = 0 then a else if j = 1 then b else c, fun _ => 0, fun _ => some (n + 1), 2, 0)
/-- a WAY at n, its row at n + 1 -/
def k_nw (D : y_D) (n : Nat) (a b c : Int32) (g : Nat → Int32) (m : Nat) : y_D := fun j => if j = n then k_nwc n a b c else if j = n + 1 then (g, fun _ => 0, fun _ => none, 0, m) else D j
theorem k_ruleRead {V : x_E} (hV : y_V V) {n m : Nat} {L : List Nat} {D : y_D} (hL : y_ok L) (hn : 191 ≤ n) (hc : (D 66).1 4 = nI m) (hm : m ≤ 30) : x_Ct V yX2_ruleRead cX2_ruleRead 1 (some (.object "DarkSitting$Rule")) 3 2 31 (fun a0 S0 => a0 = [.ref 66] ∧ S0 = y_mk n L D) (fun _ _ r S2 => r = some (.ref n) ∧ ∃ g : Nat → Int32, (∀ k, k < m → g k = (D 71).1 k) ∧ S2 = y_mk (n + 2) (L ++ [n] ++ [n + 1]) (k_nr D n g m)) := by
  refine x_met (by decide) (fun a0 S0 h => by rw [h.1]; exact Nat.le_of_ble_eq_true rfl) (fun a0 S0 h9 E hE => ?_)
  obtain ⟨rfl, rfl⟩ := h9
  change E 0 0 0 [(0, .ref 66)] [] (y_mk n L D)
  refine r_new (fs := [.null]) hE kX4 (x_gin (List.mem_append_right _ (tb_4 _ (List.mem_of_getElem? (i := 53) rfl))) rfl) (x_gin (List.mem_append_right _ (tb_1 _ (List.mem_of_getElem? (i := 128) rfl))) rfl) (x_gin (List.mem_append_right _ (tb_1 _ (List.mem_of_getElem? (i := 6) rfl))) rfl) (fun j hj => match j, hj with | 0, _ => rfl | k + 1, hj => absurd hj (by omega)) rfl dX2_ruleRead_0 ⟨by decide, by decide⟩ ?_
  rw [show x_pi (y_mk n L D).1 = n from x_pi_hi hn, y_mk_push (e := .inr (4, [.null])) (c := ((fun _ => 0, fun _ => 0, fun _ => none, 1, 0) : y_c)) hn (y_rule_lay (Or.inr (Or.inr hn)) rfl)]
  change E 1 1 3 [(0, .ref 66)] [.ref n] _
  have hL1 : ∀ h, 64 ≤ h ∧ h < 191 → h ∈ L ++ [n] := fun h q => List.mem_append_left _ (hL h q)
  have h66 : y_add D n ((fun _ => 0, fun _ => 0, fun _ => none, 1, 0) : y_c) 66 = D 66 := if_neg (by omega)
  have h71 : y_add D n ((fun _ => 0, fun _ => 0, fun _ => none, 1, 0) : y_c) 71 = D 71 := if_neg (by omega)
  refine r_dup hE dX2_ruleRead_3 rfl ?_
  refine r_aload_n hE dX2_ruleRead_4 rfl ?_
  refine t_getr hE f_X2_24 y_R_66_3 dX2_ruleRead_5 (hL1 66 (by decide)) ?_
  refine r_aload_n hE dX2_ruleRead_8 rfl ?_
  refine t_geti hE f_X2_58 y_I_66_4 dX2_ruleRead_9 (hL1 66 (by decide)) ?_
  refine r_top (y := nI m) (by rw [h66]; exact hc) ?_
  refine r_invs (st := [.ref n, .ref n]) hE [.ref 71, .int (nI m)] (k_copyOf (h := 71) (n := 30) (m := m) (f := (D 71).1) hV (hL1 71 (by decide)) (by show y_lay 71 (y_add D n ((fun _ => 0, fun _ => 0, fun _ => none, 1, 0) : y_c) 71) = _; rw [h71]; exact y_A_71 _) (by show 71 ≠ x_pi (n + 1); rw [x_pi_hi (by omega)]; omega) hm (by decide)) s_yJ7_copyOf_59c91 m_X2_61 dX2_ruleRead_12 rfl (by decide) ⟨by decide, by decide⟩ (Nat.le_of_ble_eq_true rfl) ⟨rfl, rfl⟩ (fun r S2 h => ?_)
  obtain ⟨rfl, g, hg, rfl⟩ := h
  rw [show x_pi (y_mk (n + 1) (L ++ [n]) (y_add D n ((fun _ => 0, fun _ => 0, fun _ => none, 1, 0) : y_c))).1 = n + 1 from x_pi_hi (show 191 ≤ n + 1 by omega), y_mk_push (e := .inl (0, m, .inl g)) (c := ((g, fun _ => 0, fun _ => none, 0, m) : y_c)) (by omega) (y_row_lay (Or.inr (Or.inr (by omega))) rfl)]
  change E 2 31 15 [(0, .ref 66)] [.ref (n + 1), .ref n, .ref n] _
  have hne : n ≠ n + 1 := by omega
  refine r_invi (st := [.ref n]) hE [.ref (n + 1)] (z_cRule (h := n) (q := n + 1) (List.mem_append_left _ (List.mem_append_right _ List.mem_cons_self)) (by show y_lay n (if n = n + 1 then _ else if n = n then _ else _) = _; rw [if_neg hne, if_pos rfl]; exact y_rule_lay (Or.inr (Or.inr hn)) rfl)) i_yX4_init m_X2_67 dX2_ruleRead_15 rfl (by decide) ⟨by decide, by decide⟩ (Nat.le_of_ble_eq_true rfl) ⟨rfl, rfl⟩ (fun r S2 h => ?_)
  obtain ⟨rfl, rfl⟩ := h
  unfold z_Rule
  rw [y_mk_put (e := .inr (4, [.ref (n + 1)])) (c := ((fun _ => 0, fun _ => 0, fun _ => some (n + 1), 1, 0) : y_c)) (y_rule_lay (Or.inr (Or.inr hn)) rfl)]
  refine r_areturn hE dX2_ruleRead_18 rfl (Or.inl ⟨_, rfl⟩) (by decide) (by decide) ?_
  refine ⟨rfl, g, hg, ?_⟩
  congr 1
  funext j
  unfold y_add k_nr
  by_cases q : j = n
  · simp only [if_pos q]
  · by_cases q2 : j = n + 1
    · simp only [if_neg q, if_pos q2]
    · simp only [if_neg q, if_neg q2]
theorem k_wayRead {V : x_E} (hV : y_V V) {n m : Nat} {L : List Nat} {D : y_D} (hL : y_ok L) (hn : 191 ≤ n) (hc : (D 66).1 9 = nI m) (hm : m ≤ 800) : x_Ct V yX2_wayRead cX2_wayRead 1 (some (.object "DarkSitting$Way")) 3 2 804 (fun a0 S0 => a0 = [.ref 66] ∧ S0 = y_mk n L D) (fun _ _ r S2 => r = some (.ref n) ∧ ∃ g : Nat → Int32, (∀ k, k < m → g k = (D 72).1 k) ∧ S2 = y_mk (n + 2) (L ++ [n] ++ [n + 1]) (k_nw D n ((D 66).1 5) ((D 66).1 6) ((D 66).1 7) g m)) := by
  refine x_met (by decide) (fun a0 S0 h => by rw [h.1]; exact Nat.le_of_ble_eq_true rfl) (fun a0 S0 h9 E hE => ?_)
  obtain ⟨rfl, rfl⟩ := h9
  change E 0 0 0 [(0, .ref 66)] [] (y_mk n L D)
  refine r_new (fs := [.int 0, .int 0, .int 0, .null]) hE kX9 (x_gin (List.mem_append_right _ (tb_4 _ (List.mem_of_getElem? (i := 84) rfl))) rfl) (x_gin (List.mem_append_right _ (tb_1 _ (List.mem_of_getElem? (i := 138) rfl))) rfl) (x_gin (List.mem_append_right _ (tb_1 _ (List.mem_of_getElem? (i := 7) rfl))) rfl) (fun j hj => match j, hj with | 0, _ => rfl | 1, _ => rfl | 2, _ => rfl | 3, _ => rfl | k + 4, hj => absurd hj (by omega)) rfl dX2_wayRead_0 ⟨by decide, by decide⟩ ?_
  rw [show x_pi (y_mk n L D).1 = n from x_pi_hi hn, y_mk_push (e := .inr (8, [.int 0, .int 0, .int 0, .null])) (c := ((fun _ => 0, fun _ => 0, fun _ => none, 2, 0) : y_c)) hn (y_way_lay (Or.inr (Or.inr hn)) rfl)]
  change E 1 4 3 [(0, .ref 66)] [.ref n] _
  have hL1 : ∀ h, 64 ≤ h ∧ h < 191 → h ∈ L ++ [n] := fun h q => List.mem_append_left _ (hL h q)
  have h66 : y_add D n ((fun _ => 0, fun _ => 0, fun _ => none, 2, 0) : y_c) 66 = D 66 := if_neg (by omega)
  have h72 : y_add D n ((fun _ => 0, fun _ => 0, fun _ => none, 2, 0) : y_c) 72 = D 72 := if_neg (by omega)
  refine r_dup hE dX2_wayRead_3 rfl ?_
  refine r_aload_n hE dX2_wayRead_4 rfl ?_
  refine t_geti hE f_X2_72 y_I_66_5 dX2_wayRead_5 (hL1 66 (by decide)) ?_
  refine r_top (y := (D 66).1 5) (by rw [h66]) ?_
  refine r_aload_n hE dX2_wayRead_8 rfl ?_
  refine t_geti hE f_X2_75 y_I_66_6 dX2_wayRead_9 (hL1 66 (by decide)) ?_
  refine r_top (y := (D 66).1 6) (by rw [h66]) ?_
  refine r_aload_n hE dX2_wayRead_12 rfl ?_
  refine t_geti hE f_X2_78 y_I_66_7 dX2_wayRead_13 (hL1 66 (by decide)) ?_
  refine r_top (y := (D 66).1 7) (by rw [h66]) ?_
  refine r_aload_n hE dX2_wayRead_16 rfl ?_
  refine t_getr hE f_X2_28 y_R_66_8 dX2_wayRead_17 (hL1 66 (by decide)) ?_
  refine r_aload_n hE dX2_wayRead_20 rfl ?_
  refine t_geti hE f_X2_81 y_I_66_9 dX2_wayRead_21 (hL1 66 (by decide)) ?_
  refine r_top (y := nI m) (by rw [h66]; exact hc) ?_
  refine r_invs (st := [.int ((D 66).1 7), .int ((D 66).1 6), .int ((D 66).1 5), .ref n, .ref n]) hE [.ref 72, .int (nI m)] (k_copyOf (h := 72) (n := 800) (m := m) (f := (D 72).1) hV (hL1 72 (by decide)) (by show y_lay 72 (y_add D n ((fun _ => 0, fun _ => 0, fun _ => none, 2, 0) : y_c) 72) = _; rw [h72]; exact y_A_72 _) (by show 72 ≠ x_pi (n + 1); rw [x_pi_hi (by omega)]; omega) hm (by decide)) s_yJ7_copyOf_59c91 m_X2_61 dX2_wayRead_24 rfl (by decide) ⟨by decide, by decide⟩ (Nat.le_of_ble_eq_true rfl) ⟨rfl, rfl⟩ (fun r S2 h => ?_)
  obtain ⟨rfl, g, hg, rfl⟩ := h
  rw [show x_pi (y_mk (n + 1) (L ++ [n]) (y_add D n ((fun _ => 0, fun _ => 0, fun _ => none, 2, 0) : y_c))).1 = n + 1 from x_pi_hi (show 191 ≤ n + 1 by omega), y_mk_push (e := .inl (0, m, .inl g)) (c := ((g, fun _ => 0, fun _ => none, 0, m) : y_c)) (by omega) (y_row_lay (Or.inr (Or.inr (by omega))) rfl)]
  change E 2 804 27 [(0, .ref 66)] [.ref (n + 1), .int ((D 66).1 7), .int ((D 66).1 6), .int ((D 66).1 5), .ref n, .ref n] _
  have hne : n ≠ n + 1 := by omega
  refine r_invi (st := [.ref n]) hE [.int ((D 66).1 5), .int ((D 66).1 6), .int ((D 66).1 7), .ref (n + 1)] (z_cWay (h := n) (q := n + 1) (List.mem_append_left _ (List.mem_append_right _ List.mem_cons_self)) (by show y_lay n (if n = n + 1 then _ else if n = n then _ else _) = _; rw [if_neg hne, if_pos rfl]; exact y_way_lay (Or.inr (Or.inr hn)) rfl)) i_yX9_init m_X2_84 dX2_wayRead_27 rfl (by decide) ⟨by decide, by decide⟩ (Nat.le_of_ble_eq_true rfl) ⟨rfl, rfl⟩ (fun r S2 h => ?_)
  obtain ⟨rfl, rfl⟩ := h
  have e9 : z_Way (y_mk (n + 1 + 1) (L ++ [n] ++ [n + 1]) (y_add (y_add D n ((fun _ => 0, fun _ => 0, fun _ => none, 2, 0) : y_c)) (n + 1) ((g, fun _ => 0, fun _ => none, 0, m) : y_c))) n (n + 1) ((D 66).1 5) ((D 66).1 6) ((D 66).1 7) = y_mk (n + 2) (L ++ [n] ++ [n + 1]) (k_nw D n ((D 66).1 5) ((D 66).1 6) ((D 66).1 7) g m) := by
    unfold z_Way
    have hh : ∀ (S : x_S) (a b : x_C), x_put (x_put S n a) n b = x_put S n b := fun S a b => by
      unfold x_put
      congr 2
      funext j
      by_cases q : j = n <;> simp [q]
    rw [hh, hh, hh, y_mk_put (e := .inr (8, [.int ((D 66).1 5), .int ((D 66).1 6), .int ((D 66).1 7), .ref (n + 1)])) (c := k_nwc n ((D 66).1 5) ((D 66).1 6) ((D 66).1 7)) (y_way_lay (Or.inr (Or.inr hn)) rfl)]
    congr 1
    funext j
    unfold y_add k_nw
    by_cases q : j = n
    · simp only [if_pos q]
    · by_cases q2 : j = n + 1
      · simp only [if_neg q, if_pos q2]
      · simp only [if_neg q, if_neg q2]
  rw [e9]
  refine r_areturn hE dX2_wayRead_30 rfl (Or.inl ⟨_, rfl⟩) (by decide) (by decide) ?_
  exact ⟨rfl, g, hg, rfl⟩
theorem f_rule {V : x_E} (hV : y_V V) (hF : y_fm V) {n e k : Nat} {L : List Nat} {D : y_D} (hL : y_ok L) (hn : 191 ≤ n) (he1 : (D 64).1 1 = nI e) (he : e ≤ 400) (hk : (D 73).1 2 = nI k) (hk4 : k ≤ 4) : x_Cx V yX10_rule cX10_rule 2 (some .int) 22 4 43 (fun a0 S0 => a0 = [.ref 64] ∧ S0 = y_mk n L D) (fun _ _ r S' => ∃ (nx2 : Nat) (wr2 : Int32) (lc2 : Nat) (LN2 : Nat → Int32) (g : Nat → Int32), k_rls (k_D1 D e 68).1 (k_D1 D e 69).1 (k_D1 D e 70).1 (k_D1 D e 71).1 = (true, nx2, wr2, lc2, LN2) ∧ lc2 ≤ 30 ∧ k < 4 ∧ r = some (.int (nI k)) ∧ (∀ j, j < lc2 → g j = LN2 j) ∧ S' = y_mk (n + 2) (L ++ [n] ++ [n + 1]) (y_si (y_sq (k_nr (y_si (k_Q (k_D1 D e) nx2 wr2 lc2 0 1 0 0 LN2 (k_D1 D e 72).1) 64 1 0) n g lc2) 76 k n) 73 2 (nI (k + 1)))) (fun _ _ E9 S' => ∃ (ok : Bool) (nx2 : Nat) (wr2 : Int32) (lc2 : Nat) (LN2 : Nat → Int32) (n2 : Nat), k_rls (k_D1 D e 68).1 (k_D1 D e 69).1 (k_D1 D e 70).1 (k_D1 D e 71).1 = (ok, nx2, wr2, lc2, LN2) ∧ n ≤ n2 ∧ S' = y_mk n2 L (y_si (k_Q (k_D1 D e) nx2 wr2 lc2 0 1 0 0 LN2 (k_D1 D e 72).1) 64 1 0) ∧ ((ok = false ∧ E9 = y_IAE) ∨ (ok = true ∧ k = 4 ∧ E9 = y_UOE))) := by
  refine x_cx (by decide) hV.1 (fun a0 S0 h => by rw [h.1]; exact Nat.le_of_ble_eq_true rfl) (fun a0 S0 h E EX hX => ?_)
  obtain ⟨rfl, rfl⟩ := h
  have hE := hX.x
  change E 0 0 0 [(0, .ref 64)] [] (y_mk n L D)
  refine r_aload_n hE dX10_rule_0 rfl ?_
  refine t_getr hE f_X10_16 y_R_64_2 dX10_rule_1 (hL 64 (by decide)) ?_
  refine r_aload_n hE dX10_rule_4 rfl ?_
  refine t_getr hE f_X10_9 y_R_64_0 dX10_rule_5 (hL 64 (by decide)) ?_
  refine r_aload_n hE dX10_rule_8 rfl ?_
  refine t_geti hE f_X10_57 y_I_64_1 dX10_rule_9 (hL 64 (by decide)) ?_
  refine r_top (y := (nI e)) he1 ?_
  refine r_iconst (v := 1) hE dX10_rule_12 (by decide) ?_
  refine t_invvRi hE [.ref 65, .int (nI e), .int 1] (k_readLines_1 (e := e) hV hF hL he) v_yX2_readLines m_X10_93 dX10_rule_13 rfl (hL 66 (by decide)) (y_l_66 (D 66)) rfl (by decide) ⟨by decide, by decide⟩ (Nat.le_of_ble_eq_true rfl) (fun v9 D9 q9 => ?_)
  obtain ⟨ok, nx2, wr2, lc2, LN2, e9, rfl, rfl, hlc⟩ := q9
  show E 0 0 16 [(0, .ref 64)] [.int (y_b (ok = true))] (y_mk n L (k_Q (k_D1 D e) nx2 wr2 lc2 0 1 0 0 LN2 (k_D1 D e 72).1))
  refine r_istore_n (ls2 := [(0, .ref 64), (1, .int (y_b (ok = true)))]) hE dX10_rule_16 (by decide) rfl ?_
  refine r_aload_n hE dX10_rule_17 rfl ?_
  refine r_iconst (v := 0) hE dX10_rule_18 (by decide) ?_
  refine t_puti hE f_X10_57 y_I_64_1 dX10_rule_19 (hL 64 (by decide)) rfl rfl ?_
  refine r_iload_n hE dX10_rule_22 rfl ?_
  refine t_demand hX hV [.int (y_b (ok = true))] dX10_rule_23 m_X10_69 rfl (by decide) ⟨by decide, by decide⟩ (Nat.le_of_ble_eq_true rfl) (fun c23 => ?_) (fun c23 n2 hn2 => r_out hX ⟨ok, nx2, wr2, lc2, LN2, n2, e9, hn2, rfl, Or.inl ⟨Bool.eq_false_iff.mpr c23, rfl⟩⟩ (by decide) (by decide))
  show E 1 6 26 [(0, .ref 64), (1, .int (y_b (ok = true)))] [] (y_mk n L (y_si (k_Q (k_D1 D e) nx2 wr2 lc2 0 1 0 0 LN2 (k_D1 D e 72).1) 64 1 0))
  refine r_aload_n hE dX10_rule_26 rfl ?_
  refine t_getr hE f_X10_23 y_R_64_3 dX10_rule_27 (hL 64 (by decide)) ?_
  refine t_geti hE f_X10_97 y_I_73_2 dX10_rule_30 (hL 73 (by decide)) ?_
  refine r_top (y := (nI k)) (show _ = nI k from hk) ?_
  refine r_iconst (v := 4) hE dX10_rule_33 (by decide) ?_
  refine r_icmp_geN (a := k) (b := 4) (tgt := 41) hE dX10_rule_34 (by decide) (by omega) (by decide) (fun c34 => ?_) (fun c34 => ?_)
  · refine r_iconst (v := 0) hE dX10_rule_41 (by decide) ?_
    refine t_demandRoom (p := False) hX hV [.int 0] dX10_rule_42 m_X10_83 rfl (by decide) ⟨by decide, by decide⟩ (Nat.le_of_ble_eq_true rfl) (fun c42 => c42.elim) (fun c42 n2 hn2 => r_out hX ⟨ok, nx2, wr2, lc2, LN2, n2, e9, hn2, rfl, Or.inr ⟨c23, by omega, rfl⟩⟩ (by decide) (by decide))
  · refine r_iconst (v := 1) hE dX10_rule_37 (by decide) ?_
    refine r_goto (tgt := 42) hE dX10_rule_38 (by decide) ?_
    refine t_demandRoom (p := True) hX hV [.int 1] dX10_rule_42 m_X10_83 rfl (by decide) ⟨by decide, by decide⟩ (Nat.le_of_ble_eq_true rfl) (fun c42 => ?_) (fun c42 _ _ => absurd trivial c42)
    show E 2 12 45 [(0, .ref 64), (1, .int (y_b (ok = true)))] [] (y_mk n L (y_si (k_Q (k_D1 D e) nx2 wr2 lc2 0 1 0 0 LN2 (k_D1 D e 72).1) 64 1 0))
    refine r_aload_n hE dX10_rule_45 rfl ?_
    refine t_getr hE f_X10_23 y_R_64_3 dX10_rule_46 (hL 64 (by decide)) ?_
    refine r_aload_n hE dX10_rule_49 rfl ?_
    refine t_getr hE f_X10_16 y_R_64_2 dX10_rule_50 (hL 64 (by decide)) ?_
    have hL2 : y_ok (L ++ [n] ++ [n + 1]) := fun h q => List.mem_append_left _ (List.mem_append_left _ (hL h q))
    have hkk : k < 4 := by omega
    refine r_invv (st := [.ref 73]) hE [] (k_ruleRead (n := n) (L := L) (D := y_si (k_Q (k_D1 D e) nx2 wr2 lc2 0 1 0 0 LN2 (k_D1 D e 72).1) 64 1 0) (m := lc2) hV hL hn rfl (hlc c23)) v_yX2_ruleRead m_X10_100 dX10_rule_53 rfl (hL 66 (by decide)) (y_l_66 _) rfl (by decide) ⟨by decide, by decide⟩ (Nat.le_of_ble_eq_true rfl) ⟨rfl, rfl⟩ (fun r S2 h => ?_)
    obtain ⟨rfl, g, hg, rfl⟩ := h
    show E 4 43 56 [(0, .ref 64), (1, .int (y_b (ok = true)))] [.ref n, .ref 73] (y_mk (n + 2) (L ++ [n] ++ [n + 1]) (k_nr (y_si (k_Q (k_D1 D e) nx2 wr2 lc2 0 1 0 0 LN2 (k_D1 D e 72).1) 64 1 0) n g lc2))
    have e73 : (k_nr (y_si (k_Q (k_D1 D e) nx2 wr2 lc2 0 1 0 0 LN2 (k_D1 D e 72).1) 64 1 0) n g lc2) 73 = D 73 := by
      show (if 73 = n then _ else if 73 = n + 1 then _ else _) = _
      rw [if_neg (by omega), if_neg (by omega)]
      rfl
    have en : ((k_nr (y_si (k_Q (k_D1 D e) nx2 wr2 lc2 0 1 0 0 LN2 (k_D1 D e 72).1) 64 1 0) n g lc2) n).2.2.2.1 = 1 := by
      show (if n = n then _ else _ : y_c).2.2.2.1 = 1
      rw [if_pos rfl] <;> rfl
    refine t_invv (r := some (.int (nI k))) (S2 := y_mk (n + 2) (L ++ [n] ++ [n + 1]) (y_si (y_sq (k_nr (y_si (k_Q (k_D1 D e) nx2 wr2 lc2 0 1 0 0 LN2 (k_D1 D e 72).1) 64 1 0) n g lc2) 76 k n) 73 2 (nI (k + 1)))) hE [.ref n] (k_addRule (k := k) (r := n) hL2 (by rw [e73]; exact hk) hkk (List.mem_append_left _ (List.mem_append_right _ List.mem_cons_self)) (Or.inr (Or.inr hn)) en) v_yX0_addRule m_X10_104 dX10_rule_56 rfl (hL2 73 (by decide)) (y_l_73 _) rfl (by decide) ⟨by decide, by decide⟩ (Nat.le_of_ble_eq_true rfl) ?_
    refine r_ireturn hE dX10_rule_59 rfl rfl (by decide) (by decide) ?_
    exact ⟨nx2, wr2, lc2, LN2, g, by rw [e9, c23], (hlc c23), hkk, rfl, hg, rfl⟩
theorem f_way {V : x_E} (hV : y_V V) (hF : y_fm V) {n e k : Nat} {L : List Nat} {D : y_D} (hL : y_ok L) (hn : 191 ≤ n) (he1 : (D 64).1 1 = nI e) (he : e ≤ 400) (hk : (D 73).1 4 = nI k) (hk4 : k ≤ 6) : x_Cx V yX10_way cX10_way 2 (some .int) 22 4 816 (fun a0 S0 => a0 = [.ref 64] ∧ S0 = y_mk n L D) (fun _ _ r S' => ∃ (nx2 : Nat) (wr2 fr2 tk2 rc2 : Int32) (sc2 : Nat) (ST2 : Nat → Int32) (g : Nat → Int32), k_wls (k_D1 D e 68).1 (k_D1 D e 69).1 (k_D1 D e 70).1 (k_D1 D e 72).1 = (true, nx2, wr2, fr2, tk2, rc2, sc2, ST2) ∧ sc2 ≤ 800 ∧ k < 6 ∧ r = some (.int (nI k)) ∧ (∀ j, j < sc2 → g j = ST2 j) ∧ S' = y_mk (n + 2) (L ++ [n] ++ [n + 1]) (y_si (y_sq (k_nw (y_si (k_Q (k_D1 D e) nx2 wr2 0 fr2 tk2 rc2 sc2 (k_D1 D e 71).1 ST2) 64 1 0) n fr2 tk2 rc2 g sc2) 77 k n) 73 4 (nI (k + 1)))) (fun _ _ E9 S' => ∃ (ok : Bool) (nx2 : Nat) (wr2 fr2 tk2 rc2 : Int32) (sc2 : Nat) (ST2 : Nat → Int32) (n2 : Nat), k_wls (k_D1 D e 68).1 (k_D1 D e 69).1 (k_D1 D e 70).1 (k_D1 D e 72).1 = (ok, nx2, wr2, fr2, tk2, rc2, sc2, ST2) ∧ n ≤ n2 ∧ S' = y_mk n2 L (y_si (k_Q (k_D1 D e) nx2 wr2 0 fr2 tk2 rc2 sc2 (k_D1 D e 71).1 ST2) 64 1 0) ∧ ((ok = false ∧ E9 = y_IAE) ∨ (ok = true ∧ k = 6 ∧ E9 = y_UOE))) := by
  refine x_cx (by decide) hV.1 (fun a0 S0 h => by rw [h.1]; exact Nat.le_of_ble_eq_true rfl) (fun a0 S0 h E EX hX => ?_)
  obtain ⟨rfl, rfl⟩ := h
  have hE := hX.x
  change E 0 0 0 [(0, .ref 64)] [] (y_mk n L D)
  refine r_aload_n hE dX10_way_0 rfl ?_
  refine t_getr hE f_X10_16 y_R_64_2 dX10_way_1 (hL 64 (by decide)) ?_
  refine r_aload_n hE dX10_way_4 rfl ?_
  refine t_getr hE f_X10_9 y_R_64_0 dX10_way_5 (hL 64 (by decide)) ?_
  refine r_aload_n hE dX10_way_8 rfl ?_
  refine t_geti hE f_X10_57 y_I_64_1 dX10_way_9 (hL 64 (by decide)) ?_
  refine r_top (y := (nI e)) he1 ?_
  refine r_iconst (v := 0) hE dX10_way_12 (by decide) ?_
  refine t_invvRi hE [.ref 65, .int (nI e), .int 0] (k_readLines_0 (e := e) hV hF hL he) v_yX2_readLines m_X10_93 dX10_way_13 rfl (hL 66 (by decide)) (y_l_66 (D 66)) rfl (by decide) ⟨by decide, by decide⟩ (Nat.le_of_ble_eq_true rfl) (fun v9 D9 q9 => ?_)
  obtain ⟨ok, nx2, wr2, fr2, tk2, rc2, sc2, ST2, e9, rfl, rfl, hlc⟩ := q9
  show E 0 0 16 [(0, .ref 64)] [.int (y_b (ok = true))] (y_mk n L (k_Q (k_D1 D e) nx2 wr2 0 fr2 tk2 rc2 sc2 (k_D1 D e 71).1 ST2))
  refine r_istore_n (ls2 := [(0, .ref 64), (1, .int (y_b (ok = true)))]) hE dX10_way_16 (by decide) rfl ?_
  refine r_aload_n hE dX10_way_17 rfl ?_
  refine r_iconst (v := 0) hE dX10_way_18 (by decide) ?_
  refine t_puti hE f_X10_57 y_I_64_1 dX10_way_19 (hL 64 (by decide)) rfl rfl ?_
  refine r_iload_n hE dX10_way_22 rfl ?_
  refine t_demand hX hV [.int (y_b (ok = true))] dX10_way_23 m_X10_69 rfl (by decide) ⟨by decide, by decide⟩ (Nat.le_of_ble_eq_true rfl) (fun c23 => ?_) (fun c23 n2 hn2 => r_out hX ⟨ok, nx2, wr2, fr2, tk2, rc2, sc2, ST2, n2, e9, hn2, rfl, Or.inl ⟨Bool.eq_false_iff.mpr c23, rfl⟩⟩ (by decide) (by decide))
  show E 1 6 26 [(0, .ref 64), (1, .int (y_b (ok = true)))] [] (y_mk n L (y_si (k_Q (k_D1 D e) nx2 wr2 0 fr2 tk2 rc2 sc2 (k_D1 D e 71).1 ST2) 64 1 0))
  refine r_aload_n hE dX10_way_26 rfl ?_
  refine t_getr hE f_X10_23 y_R_64_3 dX10_way_27 (hL 64 (by decide)) ?_
  refine t_geti hE f_X10_108 y_I_73_4 dX10_way_30 (hL 73 (by decide)) ?_
  refine r_top (y := (nI k)) (show _ = nI k from hk) ?_
  refine r_bipush (v := 6) hE dX10_way_33 (by decide) ?_
  refine r_icmp_geN (a := k) (b := 6) (tgt := 42) hE dX10_way_35 (by decide) (by omega) (by decide) (fun c35 => ?_) (fun c35 => ?_)
  · refine r_iconst (v := 0) hE dX10_way_42 (by decide) ?_
    refine t_demandRoom (p := False) hX hV [.int 0] dX10_way_43 m_X10_83 rfl (by decide) ⟨by decide, by decide⟩ (Nat.le_of_ble_eq_true rfl) (fun c43 => c43.elim) (fun c43 n2 hn2 => r_out hX ⟨ok, nx2, wr2, fr2, tk2, rc2, sc2, ST2, n2, e9, hn2, rfl, Or.inr ⟨c23, by omega, rfl⟩⟩ (by decide) (by decide))
  · refine r_iconst (v := 1) hE dX10_way_38 (by decide) ?_
    refine r_goto (tgt := 43) hE dX10_way_39 (by decide) ?_
    refine t_demandRoom (p := True) hX hV [.int 1] dX10_way_43 m_X10_83 rfl (by decide) ⟨by decide, by decide⟩ (Nat.le_of_ble_eq_true rfl) (fun c43 => ?_) (fun c43 _ _ => absurd trivial c43)
    show E 2 12 46 [(0, .ref 64), (1, .int (y_b (ok = true)))] [] (y_mk n L (y_si (k_Q (k_D1 D e) nx2 wr2 0 fr2 tk2 rc2 sc2 (k_D1 D e 71).1 ST2) 64 1 0))
    refine r_aload_n hE dX10_way_46 rfl ?_
    refine t_getr hE f_X10_23 y_R_64_3 dX10_way_47 (hL 64 (by decide)) ?_
    refine r_aload_n hE dX10_way_50 rfl ?_
    refine t_getr hE f_X10_16 y_R_64_2 dX10_way_51 (hL 64 (by decide)) ?_
    have hL2 : y_ok (L ++ [n] ++ [n + 1]) := fun h q => List.mem_append_left _ (List.mem_append_left _ (hL h q))
    have hkk : k < 6 := by omega
    refine r_invv (st := [.ref 73]) hE [] (k_wayRead (n := n) (L := L) (D := y_si (k_Q (k_D1 D e) nx2 wr2 0 fr2 tk2 rc2 sc2 (k_D1 D e 71).1 ST2) 64 1 0) (m := sc2) hV hL hn rfl hlc) v_yX2_wayRead m_X10_111 dX10_way_54 rfl (hL 66 (by decide)) (y_l_66 _) rfl (by decide) ⟨by decide, by decide⟩ (Nat.le_of_ble_eq_true rfl) ⟨rfl, rfl⟩ (fun r S2 h => ?_)
    obtain ⟨rfl, g, hg, rfl⟩ := h
    show E 4 816 57 [(0, .ref 64), (1, .int (y_b (ok = true)))] [.ref n, .ref 73] (y_mk (n + 2) (L ++ [n] ++ [n + 1]) (k_nw (y_si (k_Q (k_D1 D e) nx2 wr2 0 fr2 tk2 rc2 sc2 (k_D1 D e 71).1 ST2) 64 1 0) n fr2 tk2 rc2 g sc2))
    have e73 : (k_nw (y_si (k_Q (k_D1 D e) nx2 wr2 0 fr2 tk2 rc2 sc2 (k_D1 D e 71).1 ST2) 64 1 0) n fr2 tk2 rc2 g sc2) 73 = D 73 := by
      show (if 73 = n then _ else if 73 = n + 1 then _ else _) = _
      rw [if_neg (by omega), if_neg (by omega)]
      rfl
    have en : ((k_nw (y_si (k_Q (k_D1 D e) nx2 wr2 0 fr2 tk2 rc2 sc2 (k_D1 D e 71).1 ST2) 64 1 0) n fr2 tk2 rc2 g sc2) n).2.2.2.1 = 2 := by
      show (if n = n then _ else _ : y_c).2.2.2.1 = 2
      rw [if_pos rfl] <;> rfl
    refine t_invv (r := some (.int (nI k))) (S2 := y_mk (n + 2) (L ++ [n] ++ [n + 1]) (y_si (y_sq (k_nw (y_si (k_Q (k_D1 D e) nx2 wr2 0 fr2 tk2 rc2 sc2 (k_D1 D e 71).1 ST2) 64 1 0) n fr2 tk2 rc2 g sc2) 77 k n) 73 4 (nI (k + 1)))) hE [.ref n] (k_addWay (k := k) (r := n) hL2 (by rw [e73]; exact hk) hkk (List.mem_append_left _ (List.mem_append_right _ List.mem_cons_self)) (Or.inr (Or.inr hn)) en) v_yX0_addWay m_X10_115 dX10_way_57 rfl (hL2 73 (by decide)) (y_l_73 _) rfl (by decide) ⟨by decide, by decide⟩ (Nat.le_of_ble_eq_true rfl) ?_
    refine r_ireturn hE dX10_way_60 rfl rfl (by decide) (by decide) ?_
    exact ⟨nx2, wr2, fr2, tk2, rc2, sc2, ST2, g, by rw [e9, c23], hlc, hkk, rfl, hg, rfl⟩

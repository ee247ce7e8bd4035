/-! the class's reader: a whole text -/
theorem k_sc_b {T : Nat → Int32} {e : Nat} : ∀ (f p : Nat) (q : k_T), p ≤ e → (k_sc T e f p q).1 ≤ q.1 + (e - p) := by
  intro f
  induction f with
  | zero => intro p q _; exact Nat.le_add_right _ _
  | succ f ih =>
    intro p q hp
    rw [k_sc_e (by omega), Nat.add_sub_cancel]
    split
    · rename_i h
      have g1 : p + 1 ≤ l_to T e 97 122 (p + 1) := l_to_ge
      have g2 : l_to T e 97 122 (p + 1) ≤ e := l_to_le (by omega)
      have g3 : p + 1 ≤ l_to T e 48 57 (p + 1) := l_to_ge
      have g4 : l_to T e 48 57 (p + 1) ≤ e := l_to_le (by omega)
      split
      · have h1 := ih (l_to T e 97 122 (p + 1)) (k_pt (nI (k_word T p (l_to T e 97 122 (p + 1)))) (nI p) 0 q) g2
        have h2 : (k_pt (nI (k_word T p (l_to T e 97 122 (p + 1)))) (nI p) 0 q).1 = q.1 + 1 := rfl
        omega
      · split
        · have h1 := ih (l_to T e 48 57 (p + 1)) (k_pt 2 (nI p) (nI (k_num T p (l_to T e 48 57 (p + 1)))) q) g4
          have h2 : (k_pt 2 (nI p) (nI (k_num T p (l_to T e 48 57 (p + 1)))) q).1 = q.1 + 1 := rfl
          omega
        · split
          · have h1 := ih (p + 1) q (by omega)
            omega
          · have h1 := ih (p + 1) (k_pt (k_sign (T p)) (nI p) 0 q) (by omega)
            have h2 : (k_pt (k_sign (T p)) (nI p) 0 q).1 = q.1 + 1 := rfl
            omega
    · omega
/-- where the END stands -/
def k_m (D : y_D) (e : Nat) : Nat := (k_sc (D 65).1 e 401 0 (0, (D 68).1, (D 69).1, (D 70).1)).1
/-- the state behind the scanner -/
def k_D1 (D : y_D) (e : Nat) : y_D := k_SKK D (k_scan (D 65).1 e (0, (D 68).1, (D 69).1, (D 70).1))
theorem k_m_le {D : y_D} {e : Nat} (he : e ≤ 400) : k_m D e ≤ 400 := by
  have h := k_sc_b (T := (D 65).1) (e := e) 401 0 (0, (D 68).1, (D 69).1, (D 70).1) (Nat.zero_le _)
  unfold k_m
  omega
theorem k_m_0 {D : y_D} {e : Nat} : (k_D1 D e 68).1 (k_m D e) = 0 := by
  show upd (k_sc (D 65).1 e 401 0 (0, (D 68).1, (D 69).1, (D 70).1)).2.1 (k_sc (D 65).1 e 401 0 (0, (D 68).1, (D 69).1, (D 70).1)).1 0 (k_m D e) = 0
  exact y_upds
def k_rlk (K B C : Nat → Int32) : Nat → k_FL
  | 0 => fun nx _ lc LN => (false, nx, B nx, lc, LN)
  | f + 1 => fun nx wr lc LN => k_then (k_rl K B C nx wr lc LN) (fun nx wr lc LN => if K nx = 0 then (true, nx, wr, lc, LN) else if K nx = 4 then k_rlk K B C f (nx + 1) wr lc LN else (false, nx, B nx, lc, LN))
theorem k_rlk_e {K B C : Nat → Int32} {f nx lc : Nat} {wr : Int32} {LN : Nat → Int32} (hf : 0 < f) : k_rlk K B C f nx wr lc LN = k_then (k_rl K B C nx wr lc LN) (fun nx wr lc LN => if K nx = 0 then (true, nx, wr, lc, LN) else if K nx = 4 then k_rlk K B C (f - 1) (nx + 1) wr lc LN else (false, nx, B nx, lc, LN)) := by
  rcases f with _ | f
  · omega
  · rfl
def k_rls (K B C : Nat → Int32) (LN : Nat → Int32) : Bool × k_U := if K 0 = 0 then (true, 0, -1, 0, LN) else k_rlk K B C 10 0 (-1) 0 LN
def k_Rr (D1 : y_D) (ST : Nat → Int32) (r : Bool × k_U) (v : Int32) (D2 : y_D) : Prop := ∃ (ok : Bool) (nx2 : Nat) (wr2 : Int32) (lc2 : Nat) (LN2 : Nat → Int32), r = (ok, nx2, wr2, lc2, LN2) ∧ v = y_b (ok = true) ∧ D2 = k_Q D1 nx2 wr2 lc2 0 1 0 0 LN2 ST ∧ (ok = true → lc2 ≤ 30)
theorem k_readLines_1 {V : x_E} {n : Nat} {L : List Nat} {D00 : y_D} {e : Nat} (hV : y_V V) (hF : y_fm V) (hL : y_ok L) (he : e ≤ 400) : y_Ri V yX2_readLines cX2_readLines 6 (some .boolean) 20 [.ref 66, .ref 65, .int (nI e), .int 1] n L D00 (fun v D2 => k_Rr (k_D1 D00 e) (k_D1 D00 e 72).1 (k_rls (k_D1 D00 e 68).1 (k_D1 D00 e 69).1 (k_D1 D00 e 70).1 (k_D1 D00 e 71).1) v D2) := by
  refine y_ri (by decide) (Nat.le_of_ble_eq_true rfl) (fun E hE => ?_)
  change E 0 0 0 [(0, .ref 66), (1, .ref 65), (2, .int (nI e)), (3, .int 1)] [] (y_mk n L D00)
  refine r_aload_n hE dX2_readLines_0 rfl ?_
  refine t_getr hE f_X2_12 y_R_66_0 dX2_readLines_1 (hL 66 (by decide)) ?_
  refine r_aload_n hE dX2_readLines_4 rfl ?_
  refine r_iload_n hE dX2_readLines_5 rfl ?_
  refine t_invv (r := none) (S2 := (y_mk n L (k_D1 D00 e))) hE [.ref 65, .int (nI e)] (k_scanT hV hF hL he) v_yX5_scan m_X2_31 dX2_readLines_6 rfl (hL 67 (by decide)) (y_l_67 (D00 67)) rfl (by decide) ⟨Nat.le_refl _, Nat.le_refl _⟩ (Nat.le_of_ble_eq_true rfl) ?_
  have hm := k_m_le (D := D00) he
  have hK := k_m_0 (D := D00) (e := e)
  generalize k_m D00 e = m at hm hK
  generalize hD1 : k_D1 D00 e = D at hK hE ⊢
  show E 0 0 9 [(0, .ref 66), (1, .ref 65), (2, .int (nI e)), (3, .int 1)] [] (y_mk n L D)
  refine r_aload_n hE dX2_readLines_9 rfl ?_
  refine t_invv (r := none) (S2 := (y_mk n L (k_Q D 0 (-1) 0 0 1 0 0 (D 71).1 (D 72).1))) hE [] (k_startAnew hL) v_yX2_startAnew m_X2_35 dX2_readLines_10 rfl (hL 66 (by decide)) (y_l_66 (D 66)) rfl (by decide) ⟨Nat.le_refl _, Nat.le_refl _⟩ (Nat.le_of_ble_eq_true rfl) ?_
  show E 0 0 13 [(0, .ref 66), (1, .ref 65), (2, .int (nI e)), (3, .int 1)] [] (y_mk n L (k_Q D 0 (-1) 0 0 1 0 0 (D 71).1 (D 72).1))
  refine r_aload_n hE dX2_readLines_13 rfl ?_
  refine t_invv (r := (some (.int ((D 68).1 0)))) (S2 := (y_mk n L (k_Q D 0 (-1) 0 0 1 0 0 (D 71).1 (D 72).1))) hE [] (k_token hL (by omega)) v_yX2_token m_X2_38 dX2_readLines_14 rfl (hL 66 (by decide)) (y_l_66 ((k_Q D 0 (-1) 0 0 1 0 0 (D 71).1 (D 72).1) 66)) rfl (by decide) ⟨Nat.le_refl _, Nat.le_refl _⟩ (Nat.le_of_ble_eq_true rfl) ?_
  show E 0 0 17 [(0, .ref 66), (1, .ref 65), (2, .int (nI e)), (3, .int 1)] [.int ((D 68).1 0)] (y_mk n L (k_Q D 0 (-1) 0 0 1 0 0 (D 71).1 (D 72).1))
  refine r_if_ne (tgt := 22) hE dX2_readLines_17 (by decide) (fun c17 => ?_) (fun c17 => ?_)
  · refine r_iconst (v := 0) hE dX2_readLines_22 (by decide) ?_
    refine r_istore (ls2 := [(0, .ref 66), (1, .ref 65), (2, .int (nI e)), (3, .int 1), (4, .int 0)]) hE dX2_readLines_23 (by decide) rfl ?_
    have l1 : ∀ (f i x9 lc : Nat) (w9 : Int32) (N9 : Nat → Int32), f + i = 10 ∧ x9 ≤ m ∧ lc = 3 * i → k_rlk (D 68).1 (D 69).1 (D 70).1 f x9 w9 lc N9 = k_rls (D 68).1 (D 69).1 (D 70).1 (D 71).1 → E 0 0 25 [(0, .ref 66), (1, .ref 65), (2, .int (nI e)), (3, .int 1), (4, .int (nI i))] [] (y_mk n L (k_Q D x9 w9 lc 0 1 0 0 N9 (D 72).1)) := by
      intro f i x9 lc w9 N9
      induction hm9 : (f) using Nat.strongRecOn generalizing f i x9 lc w9 N9 with
      | _ m9 ih =>
        intro hi9 hw
        subst hm9
        refine r_iload hE dX2_readLines_25 rfl ?_
        refine r_bipush (v := 10) hE dX2_readLines_27 (by decide) ?_
        refine r_icmp_geN (a := i) (b := 10) (tgt := 81) hE dX2_readLines_29 (by decide) (by omega) (by decide) (fun c29 => ?_) (fun c29 => ?_)
        · refine r_aload_n hE dX2_readLines_81 rfl ?_
          refine t_invv (r := (some (.int 0))) (S2 := (y_mk n L (k_Q D x9 ((D 69).1 x9) lc 0 1 0 0 N9 (D 72).1))) hE [] (k_refuse hL (by omega)) v_yX2_refuse m_X2_55 dX2_readLines_82 rfl (hL 66 (by decide)) (y_l_66 ((k_Q D x9 w9 lc 0 1 0 0 N9 (D 72).1) 66)) rfl (by decide) ⟨Nat.le_refl _, Nat.le_refl _⟩ (Nat.le_of_ble_eq_true rfl) ?_
          show E 0 0 85 [(0, .ref 66), (1, .ref 65), (2, .int (nI e)), (3, .int 1), (4, .int (nI i))] [.int 0] (y_mk n L (k_Q D x9 ((D 69).1 x9) lc 0 1 0 0 N9 (D 72).1))
          refine r_ireturn hE dX2_readLines_85 rfl (by rfl) (Nat.zero_le _) (Nat.zero_le _) ?_
          have hf0 : f = 0 := by omega
          subst hf0
          refine ⟨_, _, rfl, rfl, false, _, _, _, _, ?_, by decide, rfl, fun q => absurd q (by decide)⟩
          rw [← hw, k_rlk]
        · refine r_iload_n hE dX2_readLines_32 rfl ?_
          refine r_if_eq (tgt := 43) hE dX2_readLines_33 (by decide) (fun c33 => by first | exact absurd c33 (by decide) | exact absurd (by decide) c33) (fun _ => ?_)
          refine r_aload_n hE dX2_readLines_36 rfl ?_
          refine t_invvRi hE [] (k_readRuleLine hL hm hK (by omega) (by omega)) v_yX2_readRuleLine m_X2_42 dX2_readLines_37 rfl (hL 66 (by decide)) (y_l_66 ((k_Q D x9 w9 lc 0 1 0 0 N9 (D 72).1) 66)) rfl (by decide) ⟨Nat.le_refl _, Nat.le_refl _⟩ (Nat.le_of_ble_eq_true rfl) (fun r161 E161 q161 => ?_)
          obtain ⟨ok161, nx161, wr161, lc161, LN161, hf161, rfl, rfl, hy161, hz161, ha161⟩ := q161
          show E 0 0 40 [(0, .ref 66), (1, .ref 65), (2, .int (nI e)), (3, .int 1), (4, .int (nI i))] [.int (y_b (ok161 = true))] (y_mk n L (k_Q D nx161 wr161 lc161 0 1 0 0 LN161 (D 72).1))
          refine r_goto (tgt := 47) hE dX2_readLines_40 (by decide) ?_
          refine r_istore (ls2 := [(0, .ref 66), (1, .ref 65), (2, .int (nI e)), (3, .int 1), (4, .int (nI i)), (5, .int (y_b (ok161 = true)))]) hE dX2_readLines_47 (by decide) rfl ?_
          refine r_iload hE dX2_readLines_49 rfl ?_
          refine r_ifb_ne (tgt := 56) hE dX2_readLines_51 (by decide) (fun c51 => ?_) (fun c51 => ?_)
          · have hk161 : ok161 = true := c51
            subst hk161
            have hc161 := ha161 rfl
            refine r_aload_n hE dX2_readLines_56 rfl ?_
            refine t_invv (r := (some (.int ((D 68).1 nx161)))) (S2 := (y_mk n L (k_Q D nx161 wr161 lc161 0 1 0 0 LN161 (D 72).1))) hE [] (k_token hL (by omega)) v_yX2_token m_X2_38 dX2_readLines_57 rfl (hL 66 (by decide)) (y_l_66 ((k_Q D nx161 wr161 lc161 0 1 0 0 LN161 (D 72).1) 66)) rfl (by decide) ⟨Nat.le_refl _, Nat.le_refl _⟩ (Nat.le_of_ble_eq_true rfl) ?_
            show E 0 0 60 [(0, .ref 66), (1, .ref 65), (2, .int (nI e)), (3, .int 1), (4, .int (nI i)), (5, .int (y_b (true = true)))] [.int ((D 68).1 nx161)] (y_mk n L (k_Q D nx161 wr161 lc161 0 1 0 0 LN161 (D 72).1))
            refine r_if_ne (tgt := 65) hE dX2_readLines_60 (by decide) (fun c60 => ?_) (fun c60 => ?_)
            · refine r_aload_n hE dX2_readLines_65 rfl ?_
              refine r_iconst (v := 4) hE dX2_readLines_66 (by decide) ?_
              by_cases hps : (D 68).1 nx161 = 4
              · have hzz : nx161 ≠ m := fun q => by
                  have h0 : (D 68).1 nx161 = 0 := by rw [q]; exact hK
                  exact absurd (h0.symm.trans hps) (by decide)
                refine t_invv (r := (some (.int 1))) (S2 := (y_mk n L (k_Q D (nx161 + 1) wr161 lc161 0 1 0 0 LN161 (D 72).1))) hE [.int 4] (k_passT hL (by omega) hps) v_yX2_pass m_X2_51 dX2_readLines_67 rfl (hL 66 (by decide)) (y_l_66 ((k_Q D nx161 wr161 lc161 0 1 0 0 LN161 (D 72).1) 66)) rfl (by decide) ⟨Nat.le_refl _, Nat.le_refl _⟩ (Nat.le_of_ble_eq_true rfl) ?_
                show E 0 0 70 [(0, .ref 66), (1, .ref 65), (2, .int (nI e)), (3, .int 1), (4, .int (nI i)), (5, .int (y_b (true = true)))] [.int 1] (y_mk n L (k_Q D (nx161 + 1) wr161 lc161 0 1 0 0 LN161 (D 72).1))
                refine r_if_ne (tgt := 75) hE dX2_readLines_70 (by decide) (fun _ => ?_) (fun c70 => by first | exact absurd c70 (by decide) | exact absurd (by decide) c70)
                refine r_iincN (a := i) (b := 1) (ls2 := [(0, .ref 66), (1, .ref 65), (2, .int (nI e)), (3, .int 1), (4, .int (nI (i + 1))), (5, .int (y_b (true = true)))]) hE dX2_readLines_75 rfl rfl (by decide) rfl ?_
                refine r_goto (tgt := 25) hE dX2_readLines_78 (by decide) ?_
                refine r_locs hE (ls2 := [(0, .ref 66), (1, .ref 65), (2, .int (nI e)), (3, .int 1), (4, .int (nI (i + 1)))]) (by simp [x_lk]) ?_
                exact ih (f - 1) (by omega) (f - 1) (i + 1) (nx161 + 1) lc161 wr161 LN161 rfl (by omega) (by rw [← hw]; refine Eq.trans ?_ (k_rlk_e (by omega)).symm; rw [hf161, k_then_t, if_neg c60, if_pos hps])
              · refine t_invv (r := (some (.int 0))) (S2 := (y_mk n L (k_Q D nx161 ((D 69).1 nx161) lc161 0 1 0 0 LN161 (D 72).1))) hE [.int 4] (k_passF hL (by omega) hps) v_yX2_pass m_X2_51 dX2_readLines_67 rfl (hL 66 (by decide)) (y_l_66 ((k_Q D nx161 wr161 lc161 0 1 0 0 LN161 (D 72).1) 66)) rfl (by decide) ⟨Nat.le_refl _, Nat.le_refl _⟩ (Nat.le_of_ble_eq_true rfl) ?_
                show E 0 0 70 [(0, .ref 66), (1, .ref 65), (2, .int (nI e)), (3, .int 1), (4, .int (nI i)), (5, .int (y_b (true = true)))] [.int 0] (y_mk n L (k_Q D nx161 ((D 69).1 nx161) lc161 0 1 0 0 LN161 (D 72).1))
                refine r_if_ne (tgt := 75) hE dX2_readLines_70 (by decide) (fun c70 => by first | exact absurd c70 (by decide) | exact absurd (by decide) c70) (fun _ => ?_)
                refine r_iconst (v := 0) hE dX2_readLines_73 (by decide) ?_
                refine r_ireturn hE dX2_readLines_74 rfl (by rfl) (Nat.zero_le _) (Nat.zero_le _) ?_
                refine ⟨_, _, rfl, rfl, false, _, _, _, _, ?_, by decide, rfl, fun q => absurd q (by decide)⟩
                rw [← hw, k_rlk_e (by omega), hf161, k_then_t, if_neg c60, if_neg hps]
            · refine r_iconst (v := 1) hE dX2_readLines_63 (by decide) ?_
              refine r_ireturn hE dX2_readLines_64 rfl (by rfl) (Nat.zero_le _) (Nat.zero_le _) ?_
              refine ⟨_, _, rfl, rfl, true, _, _, _, _, ?_, by decide, rfl, fun _ => by omega⟩
              rw [← hw, k_rlk_e (by omega), hf161, k_then_t, if_pos c60]
          · refine r_iconst (v := 0) hE dX2_readLines_54 (by decide) ?_
            refine r_ireturn hE dX2_readLines_55 rfl (by rfl) (Nat.zero_le _) (Nat.zero_le _) ?_
            have hk161 : ok161 = false := by revert c51; cases ok161 <;> simp
            subst hk161
            refine ⟨_, _, rfl, rfl, false, _, _, _, _, ?_, by decide, rfl, fun q => absurd q (by decide)⟩
            rw [← hw, k_rlk_e (by omega), hf161, k_then_f]
    exact l1 10 0 0 0 (-1) _ ⟨rfl, Nat.zero_le _, rfl⟩ (by rw [k_rls, if_neg c17])
  · refine r_iconst (v := 1) hE dX2_readLines_20 (by decide) ?_
    refine r_ireturn hE dX2_readLines_21 rfl (by rfl) (Nat.zero_le _) (Nat.zero_le _) ?_
    refine ⟨_, _, rfl, rfl, true, _, _, _, _, ?_, by decide, rfl, fun _ => by omega⟩
    rw [k_rls, if_pos c17]

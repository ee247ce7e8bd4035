/-! the class's reader: a whole WAY -/
def k_thenW (r : Bool × k_UW) (f : k_FW) : Bool × k_UW := if r.1 = true then f r.2.1 r.2.2.1 r.2.2.2.1 r.2.2.2.2.1 r.2.2.2.2.2.1 r.2.2.2.2.2.2.1 r.2.2.2.2.2.2.2 else r
theorem k_thenW_t {f : k_FW} {nx sc : Nat} {wr fr tk rc : Int32} {ST : Nat → Int32} : k_thenW (true, nx, wr, fr, tk, rc, sc, ST) f = f nx wr fr tk rc sc ST := rfl
theorem k_thenW_f {f : k_FW} {q : k_UW} : k_thenW (false, q) f = (false, q) := rfl
def k_wlk (K B C : Nat → Int32) : Nat → k_FW
  | 0 => fun nx _ fr tk rc sc ST => (false, nx, B nx, fr, tk, rc, sc, ST)
  | f + 1 => fun nx wr fr tk rc sc ST => k_thenW (k_wln K B C nx wr fr tk rc sc ST) (fun nx wr fr tk rc sc ST => if K nx = 0 then (true, nx, wr, fr, tk, rc, sc, ST) else if K nx = 4 then k_wlk K B C f (nx + 1) wr fr tk rc sc ST else (false, nx, B nx, fr, tk, rc, sc, ST))
theorem k_wlk_e {K B C : Nat → Int32} {f nx sc : Nat} {wr fr tk rc : Int32} {ST : Nat → Int32} (hf : 0 < f) : k_wlk K B C f nx wr fr tk rc sc ST = k_thenW (k_wln K B C nx wr fr tk rc sc ST) (fun nx wr fr tk rc sc ST => if K nx = 0 then (true, nx, wr, fr, tk, rc, sc, ST) else if K nx = 4 then k_wlk K B C (f - 1) (nx + 1) wr fr tk rc sc ST else (false, nx, B nx, fr, tk, rc, sc, ST)) := by
  rcases f with _ | f
  · omega
  · rfl
def k_wls (K B C : Nat → Int32) (ST : Nat → Int32) : Bool × k_UW := if K 0 = 0 then (true, 0, -1, 0, 1, 0, 0, ST) else k_wlk K B C 10 0 (-1) 0 1 0 0 ST
def k_Rv (D1 : y_D) (LN : Nat → Int32) (r : Bool × k_UW) (v : Int32) (D2 : y_D) : Prop := ∃ (ok : Bool) (nx2 : Nat) (wr2 fr2 tk2 rc2 : Int32) (sc2 : Nat) (ST2 : Nat → Int32), r = (ok, nx2, wr2, fr2, tk2, rc2, sc2, ST2) ∧ v = y_b (ok = true) ∧ D2 = k_Q D1 nx2 wr2 0 fr2 tk2 rc2 sc2 LN ST2 ∧ sc2 ≤ 800
theorem k_readLines_0 {V : x_E} {n : Nat} {L : List Nat} {D00 : y_D} {e : Nat} (hV : y_V V) (hF : y_fm V) (hL : y_ok L) (he : e ≤ 400) : y_Ri V yX2_readLines cX2_readLines 6 (some .boolean) 20 [.ref 66, .ref 65, .int (nI e), .int 0] n L D00 (fun v D2 => k_Rv (k_D1 D00 e) (k_D1 D00 e 71).1 (k_wls (k_D1 D00 e 68).1 (k_D1 D00 e 69).1 (k_D1 D00 e 70).1 (k_D1 D00 e 72).1) v D2) := by
  refine y_ri (by decide) (Nat.le_of_ble_eq_true rfl) (fun E hE => ?_)
  change E 0 0 0 [(0, .ref 66), (1, .ref 65), (2, .int (nI e)), (3, .int 0)] [] (y_mk n L D00)
  refine r_aload_n hE dX2_readLines_0 rfl ?_
  refine t_getr hE f_X2_12 y_R_66_0 dX2_readLines_1 (hL 66 (by decide)) ?_
  refine r_aload_n hE dX2_readLines_4 rfl ?_
  refine r_iload_n hE dX2_readLines_5 rfl ?_
  refine t_invv (r := none) (S2 := (y_mk n L (k_D1 D00 e))) hE [.ref 65, .int (nI e)] (k_scanT hV hF hL he) v_yX5_scan m_X2_31 dX2_readLines_6 rfl (hL 67 (by decide)) (y_l_67 (D00 67)) rfl (by decide) ⟨Nat.le_refl _, Nat.le_refl _⟩ (Nat.le_of_ble_eq_true rfl) ?_
  have hm := k_m_le (D := D00) he
  have hK := k_m_0 (D := D00) (e := e)
  generalize k_m D00 e = m at hm hK
  generalize hD1 : k_D1 D00 e = D at hK hE ⊢
  show E 0 0 9 [(0, .ref 66), (1, .ref 65), (2, .int (nI e)), (3, .int 0)] [] (y_mk n L D)
  refine r_aload_n hE dX2_readLines_9 rfl ?_
  refine t_invv (r := none) (S2 := (y_mk n L (k_Q D 0 (-1) 0 0 1 0 0 (D 71).1 (D 72).1))) hE [] (k_startAnew hL) v_yX2_startAnew m_X2_35 dX2_readLines_10 rfl (hL 66 (by decide)) (y_l_66 (D 66)) rfl (by decide) ⟨Nat.le_refl _, Nat.le_refl _⟩ (Nat.le_of_ble_eq_true rfl) ?_
  show E 0 0 13 [(0, .ref 66), (1, .ref 65), (2, .int (nI e)), (3, .int 0)] [] (y_mk n L (k_Q D 0 (-1) 0 0 1 0 0 (D 71).1 (D 72).1))
  refine r_aload_n hE dX2_readLines_13 rfl ?_
  refine t_invv (r := (some (.int ((D 68).1 0)))) (S2 := (y_mk n L (k_Q D 0 (-1) 0 0 1 0 0 (D 71).1 (D 72).1))) hE [] (k_token hL (by omega)) v_yX2_token m_X2_38 dX2_readLines_14 rfl (hL 66 (by decide)) (y_l_66 ((k_Q D 0 (-1) 0 0 1 0 0 (D 71).1 (D 72).1) 66)) rfl (by decide) ⟨Nat.le_refl _, Nat.le_refl _⟩ (Nat.le_of_ble_eq_true rfl) ?_
  show E 0 0 17 [(0, .ref 66), (1, .ref 65), (2, .int (nI e)), (3, .int 0)] [.int ((D 68).1 0)] (y_mk n L (k_Q D 0 (-1) 0 0 1 0 0 (D 71).1 (D 72).1))
  refine r_if_ne (tgt := 22) hE dX2_readLines_17 (by decide) (fun c17 => ?_) (fun c17 => ?_)
  · refine r_iconst (v := 0) hE dX2_readLines_22 (by decide) ?_
    refine r_istore (ls2 := [(0, .ref 66), (1, .ref 65), (2, .int (nI e)), (3, .int 0), (4, .int 0)]) hE dX2_readLines_23 (by decide) rfl ?_
    have l1 : ∀ (f i x9 s9 : Nat) (w9 fr tk rc : Int32) (S9 : Nat → Int32), f + i = 10 ∧ x9 ≤ m ∧ s9 ≤ 2 * x9 → k_wlk (D 68).1 (D 69).1 (D 70).1 f x9 w9 fr tk rc s9 S9 = k_wls (D 68).1 (D 69).1 (D 70).1 (D 72).1 → E 0 0 25 [(0, .ref 66), (1, .ref 65), (2, .int (nI e)), (3, .int 0), (4, .int (nI i))] [] (y_mk n L (k_Q D x9 w9 0 fr tk rc s9 (D 71).1 S9)) := by
      intro f i x9 s9 w9 fr tk rc S9
      induction hm9 : (f) using Nat.strongRecOn generalizing f i x9 s9 w9 fr tk rc S9 with
      | _ m9 ih =>
        intro hi9 hw
        subst hm9
        refine r_iload hE dX2_readLines_25 rfl ?_
        refine r_bipush (v := 10) hE dX2_readLines_27 (by decide) ?_
        refine r_icmp_geN (a := i) (b := 10) (tgt := 81) hE dX2_readLines_29 (by decide) (by omega) (by decide) (fun c29 => ?_) (fun c29 => ?_)
        · refine r_aload_n hE dX2_readLines_81 rfl ?_
          refine t_invv (r := (some (.int 0))) (S2 := (y_mk n L (k_Q D x9 ((D 69).1 x9) 0 fr tk rc s9 (D 71).1 S9))) hE [] (k_refuse hL (by omega)) v_yX2_refuse m_X2_55 dX2_readLines_82 rfl (hL 66 (by decide)) (y_l_66 ((k_Q D x9 w9 0 fr tk rc s9 (D 71).1 S9) 66)) rfl (by decide) ⟨Nat.le_refl _, Nat.le_refl _⟩ (Nat.le_of_ble_eq_true rfl) ?_
          show E 0 0 85 [(0, .ref 66), (1, .ref 65), (2, .int (nI e)), (3, .int 0), (4, .int (nI i))] [.int 0] (y_mk n L (k_Q D x9 ((D 69).1 x9) 0 fr tk rc s9 (D 71).1 S9))
          refine r_ireturn hE dX2_readLines_85 rfl (by rfl) (Nat.zero_le _) (Nat.zero_le _) ?_
          have hf0 : f = 0 := by omega
          subst hf0
          refine ⟨_, _, rfl, rfl, false, _, _, _, _, _, _, _, ?_, by decide, rfl, by omega⟩
          rw [← hw, k_wlk]
        · refine r_iload_n hE dX2_readLines_32 rfl ?_
          refine r_if_eq (tgt := 43) hE dX2_readLines_33 (by decide) (fun _ => ?_) (fun c33 => by first | exact absurd c33 (by decide) | exact absurd (by decide) c33)
          refine r_aload_n hE dX2_readLines_43 rfl ?_
          refine t_invvRi hE [] (k_readWayLine hL hm hK (by omega) (by omega)) v_yX2_readWayLine m_X2_46 dX2_readLines_44 rfl (hL 66 (by decide)) (y_l_66 ((k_Q D x9 w9 0 fr tk rc s9 (D 71).1 S9) 66)) rfl (by decide) ⟨Nat.le_refl _, Nat.le_refl _⟩ (Nat.le_of_ble_eq_true rfl) (fun r181 E181 q181 => ?_)
          obtain ⟨ok181, nx181, wr181, fr181, tk181, rc181, sc181, ST181, hf181, rfl, rfl, hy181, hz181, ha181⟩ := q181
          show E 0 0 47 [(0, .ref 66), (1, .ref 65), (2, .int (nI e)), (3, .int 0), (4, .int (nI i))] [.int (y_b (ok181 = true))] (y_mk n L (k_Q D nx181 wr181 0 fr181 tk181 rc181 sc181 (D 71).1 ST181))
          refine r_istore (ls2 := [(0, .ref 66), (1, .ref 65), (2, .int (nI e)), (3, .int 0), (4, .int (nI i)), (5, .int (y_b (ok181 = true)))]) hE dX2_readLines_47 (by decide) rfl ?_
          refine r_iload hE dX2_readLines_49 rfl ?_
          refine r_ifb_ne (tgt := 56) hE dX2_readLines_51 (by decide) (fun c51 => ?_) (fun c51 => ?_)
          · have hk181 : ok181 = true := c51
            subst hk181
            refine r_aload_n hE dX2_readLines_56 rfl ?_
            refine t_invv (r := (some (.int ((D 68).1 nx181)))) (S2 := (y_mk n L (k_Q D nx181 wr181 0 fr181 tk181 rc181 sc181 (D 71).1 ST181))) hE [] (k_token hL (by omega)) v_yX2_token m_X2_38 dX2_readLines_57 rfl (hL 66 (by decide)) (y_l_66 ((k_Q D nx181 wr181 0 fr181 tk181 rc181 sc181 (D 71).1 ST181) 66)) rfl (by decide) ⟨Nat.le_refl _, Nat.le_refl _⟩ (Nat.le_of_ble_eq_true rfl) ?_
            show E 0 0 60 [(0, .ref 66), (1, .ref 65), (2, .int (nI e)), (3, .int 0), (4, .int (nI i)), (5, .int (y_b (true = true)))] [.int ((D 68).1 nx181)] (y_mk n L (k_Q D nx181 wr181 0 fr181 tk181 rc181 sc181 (D 71).1 ST181))
            refine r_if_ne (tgt := 65) hE dX2_readLines_60 (by decide) (fun c60 => ?_) (fun c60 => ?_)
            · refine r_aload_n hE dX2_readLines_65 rfl ?_
              refine r_iconst (v := 4) hE dX2_readLines_66 (by decide) ?_
              by_cases hps : (D 68).1 nx181 = 4
              · have hzz : nx181 ≠ m := fun q => by
                  have h0 : (D 68).1 nx181 = 0 := by rw [q]; exact hK
                  exact absurd (h0.symm.trans hps) (by decide)
                refine t_invv (r := (some (.int 1))) (S2 := (y_mk n L (k_Q D (nx181 + 1) wr181 0 fr181 tk181 rc181 sc181 (D 71).1 ST181))) hE [.int 4] (k_passT hL (by omega) hps) v_yX2_pass m_X2_51 dX2_readLines_67 rfl (hL 66 (by decide)) (y_l_66 ((k_Q D nx181 wr181 0 fr181 tk181 rc181 sc181 (D 71).1 ST181) 66)) rfl (by decide) ⟨Nat.le_refl _, Nat.le_refl _⟩ (Nat.le_of_ble_eq_true rfl) ?_
                show E 0 0 70 [(0, .ref 66), (1, .ref 65), (2, .int (nI e)), (3, .int 0), (4, .int (nI i)), (5, .int (y_b (true = true)))] [.int 1] (y_mk n L (k_Q D (nx181 + 1) wr181 0 fr181 tk181 rc181 sc181 (D 71).1 ST181))
                refine r_if_ne (tgt := 75) hE dX2_readLines_70 (by decide) (fun _ => ?_) (fun c70 => by first | exact absurd c70 (by decide) | exact absurd (by decide) c70)
                refine r_iincN (a := i) (b := 1) (ls2 := [(0, .ref 66), (1, .ref 65), (2, .int (nI e)), (3, .int 0), (4, .int (nI (i + 1))), (5, .int (y_b (true = true)))]) hE dX2_readLines_75 rfl rfl (by decide) rfl ?_
                refine r_goto (tgt := 25) hE dX2_readLines_78 (by decide) ?_
                refine r_locs hE (ls2 := [(0, .ref 66), (1, .ref 65), (2, .int (nI e)), (3, .int 0), (4, .int (nI (i + 1)))]) (by simp [x_lk]) ?_
                exact ih (f - 1) (by omega) (f - 1) (i + 1) (nx181 + 1) sc181 wr181 fr181 tk181 rc181 ST181 rfl (by omega) (by rw [← hw]; refine Eq.trans ?_ (k_wlk_e (by omega)).symm; rw [hf181, k_thenW_t, if_neg c60, if_pos hps])
              · refine t_invv (r := (some (.int 0))) (S2 := (y_mk n L (k_Q D nx181 ((D 69).1 nx181) 0 fr181 tk181 rc181 sc181 (D 71).1 ST181))) hE [.int 4] (k_passF hL (by omega) hps) v_yX2_pass m_X2_51 dX2_readLines_67 rfl (hL 66 (by decide)) (y_l_66 ((k_Q D nx181 wr181 0 fr181 tk181 rc181 sc181 (D 71).1 ST181) 66)) rfl (by decide) ⟨Nat.le_refl _, Nat.le_refl _⟩ (Nat.le_of_ble_eq_true rfl) ?_
                show E 0 0 70 [(0, .ref 66), (1, .ref 65), (2, .int (nI e)), (3, .int 0), (4, .int (nI i)), (5, .int (y_b (true = true)))] [.int 0] (y_mk n L (k_Q D nx181 ((D 69).1 nx181) 0 fr181 tk181 rc181 sc181 (D 71).1 ST181))
                refine r_if_ne (tgt := 75) hE dX2_readLines_70 (by decide) (fun c70 => by first | exact absurd c70 (by decide) | exact absurd (by decide) c70) (fun _ => ?_)
                refine r_iconst (v := 0) hE dX2_readLines_73 (by decide) ?_
                refine r_ireturn hE dX2_readLines_74 rfl (by rfl) (Nat.zero_le _) (Nat.zero_le _) ?_
                refine ⟨_, _, rfl, rfl, false, _, _, _, _, _, _, _, ?_, by decide, rfl, by omega⟩
                rw [← hw, k_wlk_e (by omega), hf181, k_thenW_t, if_neg c60, if_neg hps]
            · refine r_iconst (v := 1) hE dX2_readLines_63 (by decide) ?_
              refine r_ireturn hE dX2_readLines_64 rfl (by rfl) (Nat.zero_le _) (Nat.zero_le _) ?_
              refine ⟨_, _, rfl, rfl, true, _, _, _, _, _, _, _, ?_, by decide, rfl, by omega⟩
              rw [← hw, k_wlk_e (by omega), hf181, k_thenW_t, if_pos c60]
          · refine r_iconst (v := 0) hE dX2_readLines_54 (by decide) ?_
            refine r_ireturn hE dX2_readLines_55 rfl (by rfl) (Nat.zero_le _) (Nat.zero_le _) ?_
            have hk181 : ok181 = false := by revert c51; cases ok181 <;> simp
            subst hk181
            refine ⟨_, _, rfl, rfl, false, _, _, _, _, _, _, _, ?_, by decide, rfl, by omega⟩
            rw [← hw, k_wlk_e (by omega), hf181, k_thenW_f]
    exact l1 10 0 0 0 (-1) 0 1 0 _ ⟨rfl, Nat.zero_le _, Nat.zero_le _⟩ (by rw [k_wls, if_neg c17])
  · refine r_iconst (v := 1) hE dX2_readLines_20 (by decide) ?_
    refine r_ireturn hE dX2_readLines_21 rfl (by rfl) (Nat.zero_le _) (Nat.zero_le _) ?_
    refine ⟨_, _, rfl, rfl, true, _, _, _, _, _, _, _, ?_, by decide, rfl, by omega⟩
    rw [k_wls, if_pos c17]

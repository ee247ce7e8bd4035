/-! the class's reader: conditions -/
def k_Ct (V : x_E) (n : Nat) (L : List Nat) (D : y_D) (m lc : Nat) (fr tk rc : Int32) (LN : Nat → Int32) (y : MethodName) (cc : ByteArray) (nL d g : Nat) (F : k_F) : Prop := ∀ (nx : Nat) (wr : Int32) (sc : Nat) (ST : Nat → Int32), nx ≤ m → sc ≤ 2 * nx → y_Ri V y cc nL (some .boolean) d [.ref 66, .int (nI g)] n L (k_Q D nx wr lc fr tk rc sc LN ST) (k_Rd D m lc fr tk rc LN F nx wr sc ST)
def k_fin (ow : Bool) : k_F := fun nx wr sc ST => if ow = true then (true, nx, wr, sc + 1, upd ST sc (20 * 1024 + 0)) else (true, nx, wr, sc, ST)
def k_cdk (K : Nat → Int32) (A : k_F) : Nat → Bool → k_F
  | 0, ow => k_fin ow
  | f + 1, ow => fun nx wr sc ST => if K nx = 20 then k_then (if ow = true then A (nx + 1) wr (sc + 1) (upd ST sc (20 * 1024 + 0)) else A (nx + 1) wr sc ST) (k_cdk K A f true)
    else if K nx = 21 then k_then (A (nx + 1) wr sc ST) (fun nx wr sc ST => k_cdk K A f ow nx wr (sc + 1) (upd ST sc (21 * 1024 + 0)))
    else k_fin ow nx wr sc ST
theorem k_cdk_e {K : Nat → Int32} {A : k_F} {f nx sc : Nat} {ow : Bool} {wr : Int32} {ST : Nat → Int32} (hf : 0 < f) : k_cdk K A f ow nx wr sc ST = if K nx = 20 then k_then (if ow = true then A (nx + 1) wr (sc + 1) (upd ST sc (20 * 1024 + 0)) else A (nx + 1) wr sc ST) (k_cdk K A (f - 1) true)
    else if K nx = 21 then k_then (A (nx + 1) wr sc ST) (fun nx wr sc ST => k_cdk K A (f - 1) ow nx wr (sc + 1) (upd ST sc (21 * 1024 + 0)))
    else k_fin ow nx wr sc ST := by
  rcases f with _ | f
  · omega
  · rfl
def k_cd (K : Nat → Int32) (A : k_F) : k_F := fun nx wr sc ST => k_then (A nx wr sc ST) (k_cdk K A 401 false)
theorem k_own {ow : Bool} : ow = true ∨ ow = false := by cases ow <;> simp
theorem k_readCondition {V : x_E} {n : Nat} {L : List Nat} {D : y_D} {m lc : Nat} {fr tk rc : Int32} {LN : Nat → Int32} (hL : y_ok L) (hm : m ≤ 400) (hK : (D 68).1 m = 0) {dA g : Nat} {A : k_F} (h8 : 2 ≤ dA) (hA : k_Ct V n L D m lc fr tk rc LN yX2_readAtom cX2_readAtom 3 dA g A) : k_Ct V n L D m lc fr tk rc LN yX2_readCondition cX2_readCondition 6 (dA + 1) g (k_cd (D 68).1 A) := by
  intro nx wr sc ST hx hs
  refine y_ri (by decide) (Nat.le_of_ble_eq_true rfl) (fun E hE => ?_)
  change E 0 0 0 [(0, .ref 66), (1, .int (nI g))] [] (y_mk n L (k_Q D nx wr lc fr tk rc sc LN ST))
  have l1 : ∀ (f i x9 s9 : Nat) (ow : Bool) (w9 : Int32) (T9 : Nat → Int32), f + i = 401 ∧ i ≤ x9 ∧ 1 ≤ f → k_bd m nx sc x9 s9 → (ow = true → s9 + 1 + 2 * nx ≤ sc + 2 * x9) → k_cdk (D 68).1 A f ow x9 w9 s9 T9 = k_cd (D 68).1 A nx wr sc ST → E 0 0 11 [(0, .ref 66), (1, .int (nI g)), (2, .int 1), (3, .int (y_b (ow = true))), (4, .int (nI i))] [] (y_mk n L (k_Q D x9 w9 lc fr tk rc s9 LN T9)) := by
    intro f i x9 s9 ow w9 T9
    induction hm9 : (f) using Nat.strongRecOn generalizing f i x9 s9 ow w9 T9 with
    | _ m9 ih =>
      intro hi9 hb9 hb8 hw
      subst hm9
      have f1 := hb9.all
      refine r_iload hE dX2_readCondition_11 rfl ?_
      refine r_sipush (v := 400) hE dX2_readCondition_13 (by decide) ?_
      refine r_icmp_geN (a := i) (b := 400) (tgt := 126) hE dX2_readCondition_16 (by decide) (by omega) (by decide) (fun c16 => ?_) (fun c16 => ?_)
      · have hxm : x9 = m := by omega
        have hk0 : (D 68).1 x9 = 0 := by rw [hxm]; exact hK
        refine r_iload_n hE dX2_readCondition_126 rfl ?_
        refine r_if_eq (tgt := 148) hE dX2_readCondition_127 (by decide) (fun c127 => by first | exact absurd c127 (by decide) | exact absurd (by decide) c127) (fun _ => ?_)
        refine r_iload_n hE dX2_readCondition_130 rfl ?_
        refine r_ifb_eq (tgt := 144) hE dX2_readCondition_131 (by decide) (fun c131 => ?_) (fun c131 => ?_)
        · refine r_iconst (v := 1) hE dX2_readCondition_144 (by decide) ?_
          refine r_goto (tgt := 149) hE dX2_readCondition_145 (by decide) ?_
          refine r_ireturn hE dX2_readCondition_149 rfl (by rfl) (Nat.zero_le _) (Nat.zero_le _) ?_
          refine ⟨_, _, rfl, rfl, true, _, _, _, _, ?_, by decide, rfl, ?_⟩
          · rw [← hw, k_cdk_e (by omega), if_neg (by rw [hk0]; decide), if_neg (by rw [hk0]; decide), k_fin, if_neg c131]
          · unfold k_bd
            omega
        · have ho := hb8 c131
          refine r_aload_n hE dX2_readCondition_134 rfl ?_
          refine r_bipush (v := 20) hE dX2_readCondition_135 (by decide) ?_
          refine r_iconst (v := 0) hE dX2_readCondition_137 (by decide) ?_
          refine t_invv (r := (some (.int 1))) (S2 := (y_mk n L (k_Q D x9 w9 lc fr tk rc (s9 + 1) LN (upd T9 s9 (20 * 1024 + 0))))) hE [.int 20, .int 0] (k_keepT hL (by first | decide | exact hne) (by omega)) v_yX2_keepStep m_X2_114 dX2_readCondition_138 rfl (hL 66 (by decide)) (y_l_66 ((k_Q D x9 w9 lc fr tk rc s9 LN T9) 66)) rfl (by omega) ⟨Nat.le_refl _, Nat.le_refl _⟩ (Nat.le_of_ble_eq_true rfl) ?_
          show E 0 0 141 [(0, .ref 66), (1, .int (nI g)), (2, .int 1), (3, .int (y_b (ow = true))), (4, .int (nI i))] [.int 1] (y_mk n L (k_Q D x9 w9 lc fr tk rc (s9 + 1) LN (upd T9 s9 (20 * 1024 + 0))))
          refine r_if_eq (tgt := 148) hE dX2_readCondition_141 (by decide) (fun c141 => by first | exact absurd c141 (by decide) | exact absurd (by decide) c141) (fun _ => ?_)
          refine r_iconst (v := 1) hE dX2_readCondition_144 (by decide) ?_
          refine r_goto (tgt := 149) hE dX2_readCondition_145 (by decide) ?_
          refine r_ireturn hE dX2_readCondition_149 rfl (by rfl) (Nat.zero_le _) (Nat.zero_le _) ?_
          have ho := hb8 c131
          refine ⟨_, _, rfl, rfl, true, _, _, _, _, ?_, by decide, rfl, ?_⟩
          · rw [← hw, k_cdk_e (by omega), if_neg (by rw [hk0]; decide), if_neg (by rw [hk0]; decide), k_fin, if_pos c131]
          · unfold k_bd
            omega
      · refine r_iload_n hE dX2_readCondition_19 rfl ?_
        refine r_if_eq (tgt := 126) hE dX2_readCondition_20 (by decide) (fun c20 => by first | exact absurd c20 (by decide) | exact absurd (by decide) c20) (fun _ => ?_)
        refine r_aload_n hE dX2_readCondition_23 rfl ?_
        refine t_invv (r := (some (.int ((D 68).1 x9)))) (S2 := (y_mk n L (k_Q D x9 w9 lc fr tk rc s9 LN T9))) hE [] (k_token hL (by omega)) v_yX2_token m_X2_38 dX2_readCondition_24 rfl (hL 66 (by decide)) (y_l_66 ((k_Q D x9 w9 lc fr tk rc s9 LN T9) 66)) rfl (by omega) ⟨Nat.le_refl _, Nat.le_refl _⟩ (Nat.le_of_ble_eq_true rfl) ?_
        show E 0 0 27 [(0, .ref 66), (1, .int (nI g)), (2, .int 1), (3, .int (y_b (ow = true))), (4, .int (nI i))] [.int ((D 68).1 x9)] (y_mk n L (k_Q D x9 w9 lc fr tk rc s9 LN T9))
        refine r_istore (ls2 := [(0, .ref 66), (1, .int (nI g)), (2, .int 1), (3, .int (y_b (ow = true))), (4, .int (nI i)), (5, .int ((D 68).1 x9))]) hE dX2_readCondition_27 (by decide) rfl ?_
        refine r_iload hE dX2_readCondition_29 rfl ?_
        refine r_bipush (v := 21) hE dX2_readCondition_31 (by decide) ?_
        refine r_icmp_eq (tgt := 46) hE dX2_readCondition_33 (by decide) (fun c33 => ?_) (fun c33 => ?_)
        · have hz9 : x9 ≠ m := fun q => by
            have h0 : (D 68).1 x9 = 0 := by rw [q]; exact hK
            first | exact absurd (h0.symm.trans c33) (by decide) | exact absurd (h0.symm.trans c40) (by decide)
          refine r_aload_n hE dX2_readCondition_46 rfl ?_
          refine r_dup hE dX2_readCondition_47 rfl ?_
          refine t_geti hE f_X2_87 y_I_66_1 dX2_readCondition_48 (hL 66 (by decide)) ?_
          refine r_top (y := (nI x9)) rfl ?_
          refine r_iconst (v := 1) hE dX2_readCondition_51 (by decide) ?_
          refine r_iaddN (a := x9) (b := 1) hE dX2_readCondition_52 ?_
          refine t_puti hE f_X2_87 y_I_66_1 dX2_readCondition_53 (hL 66 (by decide)) rfl rfl ?_
          rw [k_Q_1]
          refine r_iload hE dX2_readCondition_56 rfl ?_
          refine r_bipush (v := 20) hE dX2_readCondition_58 (by decide) ?_
          refine r_icmp_ne (tgt := 96) hE dX2_readCondition_60 (by decide) (fun c60 => ?_) (fun c60 => ?_)
          · have h21 : (D 68).1 x9 = 21 := by first | exact c33 | exact absurd c40 c60
            refine r_aload_n hE dX2_readCondition_96 rfl ?_
            refine r_iload_n hE dX2_readCondition_97 rfl ?_
            refine t_invvRi hE [.int (nI g)] (hA _ _ _ _ (by omega) (by omega)) v_yX2_readAtom m_X2_118 dX2_readCondition_98 rfl (hL 66 (by decide)) (y_l_66 ((k_Q D (x9 + 1) w9 lc fr tk rc s9 LN T9) 66)) rfl (by omega) ⟨Nat.le_refl _, Nat.le_refl _⟩ (Nat.le_of_ble_eq_true rfl) (fun r61 E61 q61 => ?_)
            obtain ⟨ok61, nx61, wr61, sc61, ST61, hf61, rfl, rfl, hb61⟩ := q61
            have hz61 := hb61.all
            show E 0 0 101 [(0, .ref 66), (1, .int (nI g)), (2, .int 1), (3, .int (y_b (ow = true))), (4, .int (nI i)), (5, .int ((D 68).1 x9))] [.int (y_b (ok61 = true))] (y_mk n L (k_Q D nx61 wr61 lc fr tk rc sc61 LN ST61))
            refine r_ifb_eq (tgt := 118) hE dX2_readCondition_101 (by decide) (fun c101 => ?_) (fun c101 => ?_)
            · have hk61 : ok61 = false := by revert c101; cases ok61 <;> simp
              subst hk61
              refine r_iconst (v := 0) hE dX2_readCondition_118 (by decide) ?_
              refine r_istore_n (ls2 := [(0, .ref 66), (1, .int (nI g)), (2, .int 0), (3, .int (y_b (ow = true))), (4, .int (nI i)), (5, .int ((D 68).1 x9))]) hE dX2_readCondition_119 (by decide) rfl ?_
              refine r_iincN (a := i) (b := 1) (ls2 := [(0, .ref 66), (1, .int (nI g)), (2, .int 0), (3, .int (y_b (ow = true))), (4, .int (nI (i + 1))), (5, .int ((D 68).1 x9))]) hE dX2_readCondition_120 rfl rfl (by decide) rfl ?_
              refine r_goto (tgt := 11) hE dX2_readCondition_123 (by decide) ?_
              refine r_iload hE dX2_readCondition_11 rfl ?_
              refine r_sipush (v := 400) hE dX2_readCondition_13 (by decide) ?_
              refine r_icmp_geN (a := i + 1) (b := 400) (tgt := 126) hE dX2_readCondition_16 (by decide) (by omega) (by decide) (fun c16 => ?_) (fun c16 => ?_)
              · refine r_iload_n hE dX2_readCondition_126 rfl ?_
                refine r_if_eq (tgt := 148) hE dX2_readCondition_127 (by decide) (fun _ => ?_) (fun c127 => by first | exact absurd c127 (by decide) | exact absurd (by decide) c127)
                refine r_iconst (v := 0) hE dX2_readCondition_148 (by decide) ?_
                refine r_ireturn hE dX2_readCondition_149 rfl (by rfl) (Nat.zero_le _) (Nat.zero_le _) ?_
                refine ⟨_, _, rfl, rfl, false, _, _, _, _, ?_, by decide, rfl, ?_⟩
                · rw [← hw, k_cdk_e (by omega), if_neg c60, if_pos h21, hf61, k_then_f]
                · unfold k_bd
                  omega
              · refine r_iload_n hE dX2_readCondition_19 rfl ?_
                refine r_if_eq (tgt := 126) hE dX2_readCondition_20 (by decide) (fun _ => ?_) (fun c20 => by first | exact absurd c20 (by decide) | exact absurd (by decide) c20)
                refine r_iload_n hE dX2_readCondition_126 rfl ?_
                refine r_if_eq (tgt := 148) hE dX2_readCondition_127 (by decide) (fun _ => ?_) (fun c127 => by first | exact absurd c127 (by decide) | exact absurd (by decide) c127)
                refine r_iconst (v := 0) hE dX2_readCondition_148 (by decide) ?_
                refine r_ireturn hE dX2_readCondition_149 rfl (by rfl) (Nat.zero_le _) (Nat.zero_le _) ?_
                refine ⟨_, _, rfl, rfl, false, _, _, _, _, ?_, by decide, rfl, ?_⟩
                · rw [← hw, k_cdk_e (by omega), if_neg c60, if_pos h21, hf61, k_then_f]
                · unfold k_bd
                  omega
            · have hk61 : ok61 = true := c101
              subst hk61
              refine r_aload_n hE dX2_readCondition_104 rfl ?_
              refine r_bipush (v := 21) hE dX2_readCondition_105 (by decide) ?_
              refine r_iconst (v := 0) hE dX2_readCondition_107 (by decide) ?_
              refine t_invv (r := (some (.int 1))) (S2 := (y_mk n L (k_Q D nx61 wr61 lc fr tk rc (sc61 + 1) LN (upd ST61 sc61 (21 * 1024 + 0))))) hE [.int 21, .int 0] (k_keepT hL (by first | decide | exact hne) (by omega)) v_yX2_keepStep m_X2_114 dX2_readCondition_108 rfl (hL 66 (by decide)) (y_l_66 ((k_Q D nx61 wr61 lc fr tk rc sc61 LN ST61) 66)) rfl (by omega) ⟨Nat.le_refl _, Nat.le_refl _⟩ (Nat.le_of_ble_eq_true rfl) ?_
              show E 0 0 111 [(0, .ref 66), (1, .int (nI g)), (2, .int 1), (3, .int (y_b (ow = true))), (4, .int (nI i)), (5, .int ((D 68).1 x9))] [.int 1] (y_mk n L (k_Q D nx61 wr61 lc fr tk rc (sc61 + 1) LN (upd ST61 sc61 (21 * 1024 + 0))))
              refine r_if_eq (tgt := 118) hE dX2_readCondition_111 (by decide) (fun c111 => by first | exact absurd c111 (by decide) | exact absurd (by decide) c111) (fun _ => ?_)
              refine r_iconst (v := 1) hE dX2_readCondition_114 (by decide) ?_
              refine r_goto (tgt := 119) hE dX2_readCondition_115 (by decide) ?_
              refine r_istore_n (ls2 := [(0, .ref 66), (1, .int (nI g)), (2, .int 1), (3, .int (y_b (ow = true))), (4, .int (nI i)), (5, .int ((D 68).1 x9))]) hE dX2_readCondition_119 (by decide) rfl ?_
              refine r_iincN (a := i) (b := 1) (ls2 := [(0, .ref 66), (1, .int (nI g)), (2, .int 1), (3, .int (y_b (ow = true))), (4, .int (nI (i + 1))), (5, .int ((D 68).1 x9))]) hE dX2_readCondition_120 rfl rfl (by decide) rfl ?_
              refine r_goto (tgt := 11) hE dX2_readCondition_123 (by decide) ?_
              refine r_locs hE (ls2 := [(0, .ref 66), (1, .int (nI g)), (2, .int 1), (3, .int (y_b (ow = true))), (4, .int (nI (i + 1)))]) (by simp [x_lk, y_b]) ?_
              exact ih (f - 1) (by omega) (f - 1) (i + 1) nx61 (sc61 + 1) ow wr61 (upd ST61 sc61 (21 * 1024 + 0)) rfl (by omega) (by unfold k_bd; omega) (fun _ => by first | omega | (have ho9 := hb8 (by assumption); omega)) (by rw [← hw]; refine Eq.trans ?_ (k_cdk_e (by omega)).symm; rw [if_neg c60, if_pos h21, hf61, k_then_t])
          · refine r_iload_n hE dX2_readCondition_63 rfl ?_
            refine r_ifb_eq (tgt := 77) hE dX2_readCondition_64 (by decide) (fun c64 => ?_) (fun c64 => ?_)
            · refine r_aload_n hE dX2_readCondition_77 rfl ?_
              refine r_iload_n hE dX2_readCondition_78 rfl ?_
              refine t_invvRi hE [.int (nI g)] (hA _ _ _ _ (by omega) (by omega)) v_yX2_readAtom m_X2_118 dX2_readCondition_79 rfl (hL 66 (by decide)) (y_l_66 ((k_Q D (x9 + 1) w9 lc fr tk rc s9 LN T9) 66)) rfl (by omega) ⟨Nat.le_refl _, Nat.le_refl _⟩ (Nat.le_of_ble_eq_true rfl) (fun r62 E62 q62 => ?_)
              obtain ⟨ok62, nx62, wr62, sc62, ST62, hf62, rfl, rfl, hb62⟩ := q62
              have hz62 := hb62.all
              show E 0 0 82 [(0, .ref 66), (1, .int (nI g)), (2, .int 1), (3, .int (y_b (ow = true))), (4, .int (nI i)), (5, .int ((D 68).1 x9))] [.int (y_b (ok62 = true))] (y_mk n L (k_Q D nx62 wr62 lc fr tk rc sc62 LN ST62))
              refine r_ifb_eq (tgt := 89) hE dX2_readCondition_82 (by decide) (fun c82 => ?_) (fun c82 => ?_)
              · have hk62 : ok62 = false := by revert c82; cases ok62 <;> simp
                subst hk62
                refine r_iconst (v := 0) hE dX2_readCondition_89 (by decide) ?_
                refine r_istore_n (ls2 := [(0, .ref 66), (1, .int (nI g)), (2, .int 0), (3, .int (y_b (ow = true))), (4, .int (nI i)), (5, .int ((D 68).1 x9))]) hE dX2_readCondition_90 (by decide) rfl ?_
                refine r_iconst (v := 1) hE dX2_readCondition_91 (by decide) ?_
                refine r_istore_n (ls2 := [(0, .ref 66), (1, .int (nI g)), (2, .int 0), (3, .int 1), (4, .int (nI i)), (5, .int ((D 68).1 x9))]) hE dX2_readCondition_92 (by decide) rfl ?_
                refine r_goto (tgt := 120) hE dX2_readCondition_93 (by decide) ?_
                refine r_iincN (a := i) (b := 1) (ls2 := [(0, .ref 66), (1, .int (nI g)), (2, .int 0), (3, .int 1), (4, .int (nI (i + 1))), (5, .int ((D 68).1 x9))]) hE dX2_readCondition_120 rfl rfl (by decide) rfl ?_
                refine r_goto (tgt := 11) hE dX2_readCondition_123 (by decide) ?_
                refine r_iload hE dX2_readCondition_11 rfl ?_
                refine r_sipush (v := 400) hE dX2_readCondition_13 (by decide) ?_
                refine r_icmp_geN (a := i + 1) (b := 400) (tgt := 126) hE dX2_readCondition_16 (by decide) (by omega) (by decide) (fun c16 => ?_) (fun c16 => ?_)
                · refine r_iload_n hE dX2_readCondition_126 rfl ?_
                  refine r_if_eq (tgt := 148) hE dX2_readCondition_127 (by decide) (fun _ => ?_) (fun c127 => by first | exact absurd c127 (by decide) | exact absurd (by decide) c127)
                  refine r_iconst (v := 0) hE dX2_readCondition_148 (by decide) ?_
                  refine r_ireturn hE dX2_readCondition_149 rfl (by rfl) (Nat.zero_le _) (Nat.zero_le _) ?_
                  refine ⟨_, _, rfl, rfl, false, _, _, _, _, ?_, by decide, rfl, ?_⟩
                  · rw [← hw, k_cdk_e (by omega), if_pos c60, if_neg c64, hf62, k_then_f]
                  · unfold k_bd
                    omega
                · refine r_iload_n hE dX2_readCondition_19 rfl ?_
                  refine r_if_eq (tgt := 126) hE dX2_readCondition_20 (by decide) (fun _ => ?_) (fun c20 => by first | exact absurd c20 (by decide) | exact absurd (by decide) c20)
                  refine r_iload_n hE dX2_readCondition_126 rfl ?_
                  refine r_if_eq (tgt := 148) hE dX2_readCondition_127 (by decide) (fun _ => ?_) (fun c127 => by first | exact absurd c127 (by decide) | exact absurd (by decide) c127)
                  refine r_iconst (v := 0) hE dX2_readCondition_148 (by decide) ?_
                  refine r_ireturn hE dX2_readCondition_149 rfl (by rfl) (Nat.zero_le _) (Nat.zero_le _) ?_
                  refine ⟨_, _, rfl, rfl, false, _, _, _, _, ?_, by decide, rfl, ?_⟩
                  · rw [← hw, k_cdk_e (by omega), if_pos c60, if_neg c64, hf62, k_then_f]
                  · unfold k_bd
                    omega
              · have hk62 : ok62 = true := c82
                subst hk62
                refine r_iconst (v := 1) hE dX2_readCondition_85 (by decide) ?_
                refine r_goto (tgt := 90) hE dX2_readCondition_86 (by decide) ?_
                refine r_istore_n (ls2 := [(0, .ref 66), (1, .int (nI g)), (2, .int 1), (3, .int (y_b (ow = true))), (4, .int (nI i)), (5, .int ((D 68).1 x9))]) hE dX2_readCondition_90 (by decide) rfl ?_
                refine r_iconst (v := 1) hE dX2_readCondition_91 (by decide) ?_
                refine r_istore_n (ls2 := [(0, .ref 66), (1, .int (nI g)), (2, .int 1), (3, .int 1), (4, .int (nI i)), (5, .int ((D 68).1 x9))]) hE dX2_readCondition_92 (by decide) rfl ?_
                refine r_goto (tgt := 120) hE dX2_readCondition_93 (by decide) ?_
                refine r_iincN (a := i) (b := 1) (ls2 := [(0, .ref 66), (1, .int (nI g)), (2, .int 1), (3, .int 1), (4, .int (nI (i + 1))), (5, .int ((D 68).1 x9))]) hE dX2_readCondition_120 rfl rfl (by decide) rfl ?_
                refine r_goto (tgt := 11) hE dX2_readCondition_123 (by decide) ?_
                refine r_locs hE (ls2 := [(0, .ref 66), (1, .int (nI g)), (2, .int 1), (3, .int (y_b (true = true))), (4, .int (nI (i + 1)))]) (by simp [x_lk, y_b]) ?_
                exact ih (f - 1) (by omega) (f - 1) (i + 1) nx62 sc62 true wr62 ST62 rfl (by omega) (by unfold k_bd; omega) (fun _ => by first | omega | (have ho9 := hb8 (by assumption); omega)) (by rw [← hw]; refine Eq.trans ?_ (k_cdk_e (by omega)).symm; rw [if_pos c60, if_neg c64, hf62, k_then_t])
            · have ho := hb8 c64
              refine r_aload_n hE dX2_readCondition_67 rfl ?_
              refine r_bipush (v := 20) hE dX2_readCondition_68 (by decide) ?_
              refine r_iconst (v := 0) hE dX2_readCondition_70 (by decide) ?_
              refine t_invv (r := (some (.int 1))) (S2 := (y_mk n L (k_Q D (x9 + 1) w9 lc fr tk rc (s9 + 1) LN (upd T9 s9 (20 * 1024 + 0))))) hE [.int 20, .int 0] (k_keepT hL (by first | decide | exact hne) (by omega)) v_yX2_keepStep m_X2_114 dX2_readCondition_71 rfl (hL 66 (by decide)) (y_l_66 ((k_Q D (x9 + 1) w9 lc fr tk rc s9 LN T9) 66)) rfl (by omega) ⟨Nat.le_refl _, Nat.le_refl _⟩ (Nat.le_of_ble_eq_true rfl) ?_
              show E 0 0 74 [(0, .ref 66), (1, .int (nI g)), (2, .int 1), (3, .int (y_b (ow = true))), (4, .int (nI i)), (5, .int ((D 68).1 x9))] [.int 1] (y_mk n L (k_Q D (x9 + 1) w9 lc fr tk rc (s9 + 1) LN (upd T9 s9 (20 * 1024 + 0))))
              refine r_if_eq (tgt := 89) hE dX2_readCondition_74 (by decide) (fun c74 => by first | exact absurd c74 (by decide) | exact absurd (by decide) c74) (fun _ => ?_)
              refine r_aload_n hE dX2_readCondition_77 rfl ?_
              refine r_iload_n hE dX2_readCondition_78 rfl ?_
              refine t_invvRi hE [.int (nI g)] (hA _ _ _ _ (by omega) (by omega)) v_yX2_readAtom m_X2_118 dX2_readCondition_79 rfl (hL 66 (by decide)) (y_l_66 ((k_Q D (x9 + 1) w9 lc fr tk rc (s9 + 1) LN (upd T9 s9 (20 * 1024 + 0))) 66)) rfl (by omega) ⟨Nat.le_refl _, Nat.le_refl _⟩ (Nat.le_of_ble_eq_true rfl) (fun r63 E63 q63 => ?_)
              obtain ⟨ok63, nx63, wr63, sc63, ST63, hf63, rfl, rfl, hb63⟩ := q63
              have hz63 := hb63.all
              show E 0 0 82 [(0, .ref 66), (1, .int (nI g)), (2, .int 1), (3, .int (y_b (ow = true))), (4, .int (nI i)), (5, .int ((D 68).1 x9))] [.int (y_b (ok63 = true))] (y_mk n L (k_Q D nx63 wr63 lc fr tk rc sc63 LN ST63))
              refine r_ifb_eq (tgt := 89) hE dX2_readCondition_82 (by decide) (fun c82 => ?_) (fun c82 => ?_)
              · have hk63 : ok63 = false := by revert c82; cases ok63 <;> simp
                subst hk63
                refine r_iconst (v := 0) hE dX2_readCondition_89 (by decide) ?_
                refine r_istore_n (ls2 := [(0, .ref 66), (1, .int (nI g)), (2, .int 0), (3, .int (y_b (ow = true))), (4, .int (nI i)), (5, .int ((D 68).1 x9))]) hE dX2_readCondition_90 (by decide) rfl ?_
                refine r_iconst (v := 1) hE dX2_readCondition_91 (by decide) ?_
                refine r_istore_n (ls2 := [(0, .ref 66), (1, .int (nI g)), (2, .int 0), (3, .int 1), (4, .int (nI i)), (5, .int ((D 68).1 x9))]) hE dX2_readCondition_92 (by decide) rfl ?_
                refine r_goto (tgt := 120) hE dX2_readCondition_93 (by decide) ?_
                refine r_iincN (a := i) (b := 1) (ls2 := [(0, .ref 66), (1, .int (nI g)), (2, .int 0), (3, .int 1), (4, .int (nI (i + 1))), (5, .int ((D 68).1 x9))]) hE dX2_readCondition_120 rfl rfl (by decide) rfl ?_
                refine r_goto (tgt := 11) hE dX2_readCondition_123 (by decide) ?_
                refine r_iload hE dX2_readCondition_11 rfl ?_
                refine r_sipush (v := 400) hE dX2_readCondition_13 (by decide) ?_
                refine r_icmp_geN (a := i + 1) (b := 400) (tgt := 126) hE dX2_readCondition_16 (by decide) (by omega) (by decide) (fun c16 => ?_) (fun c16 => ?_)
                · refine r_iload_n hE dX2_readCondition_126 rfl ?_
                  refine r_if_eq (tgt := 148) hE dX2_readCondition_127 (by decide) (fun _ => ?_) (fun c127 => by first | exact absurd c127 (by decide) | exact absurd (by decide) c127)
                  refine r_iconst (v := 0) hE dX2_readCondition_148 (by decide) ?_
                  refine r_ireturn hE dX2_readCondition_149 rfl (by rfl) (Nat.zero_le _) (Nat.zero_le _) ?_
                  refine ⟨_, _, rfl, rfl, false, _, _, _, _, ?_, by decide, rfl, ?_⟩
                  · rw [← hw, k_cdk_e (by omega), if_pos c60, if_pos c64, hf63, k_then_f]
                  · unfold k_bd
                    omega
                · refine r_iload_n hE dX2_readCondition_19 rfl ?_
                  refine r_if_eq (tgt := 126) hE dX2_readCondition_20 (by decide) (fun _ => ?_) (fun c20 => by first | exact absurd c20 (by decide) | exact absurd (by decide) c20)
                  refine r_iload_n hE dX2_readCondition_126 rfl ?_
                  refine r_if_eq (tgt := 148) hE dX2_readCondition_127 (by decide) (fun _ => ?_) (fun c127 => by first | exact absurd c127 (by decide) | exact absurd (by decide) c127)
                  refine r_iconst (v := 0) hE dX2_readCondition_148 (by decide) ?_
                  refine r_ireturn hE dX2_readCondition_149 rfl (by rfl) (Nat.zero_le _) (Nat.zero_le _) ?_
                  refine ⟨_, _, rfl, rfl, false, _, _, _, _, ?_, by decide, rfl, ?_⟩
                  · rw [← hw, k_cdk_e (by omega), if_pos c60, if_pos c64, hf63, k_then_f]
                  · unfold k_bd
                    omega
              · have hk63 : ok63 = true := c82
                subst hk63
                refine r_iconst (v := 1) hE dX2_readCondition_85 (by decide) ?_
                refine r_goto (tgt := 90) hE dX2_readCondition_86 (by decide) ?_
                refine r_istore_n (ls2 := [(0, .ref 66), (1, .int (nI g)), (2, .int 1), (3, .int (y_b (ow = true))), (4, .int (nI i)), (5, .int ((D 68).1 x9))]) hE dX2_readCondition_90 (by decide) rfl ?_
                refine r_iconst (v := 1) hE dX2_readCondition_91 (by decide) ?_
                refine r_istore_n (ls2 := [(0, .ref 66), (1, .int (nI g)), (2, .int 1), (3, .int 1), (4, .int (nI i)), (5, .int ((D 68).1 x9))]) hE dX2_readCondition_92 (by decide) rfl ?_
                refine r_goto (tgt := 120) hE dX2_readCondition_93 (by decide) ?_
                refine r_iincN (a := i) (b := 1) (ls2 := [(0, .ref 66), (1, .int (nI g)), (2, .int 1), (3, .int 1), (4, .int (nI (i + 1))), (5, .int ((D 68).1 x9))]) hE dX2_readCondition_120 rfl rfl (by decide) rfl ?_
                refine r_goto (tgt := 11) hE dX2_readCondition_123 (by decide) ?_
                refine r_locs hE (ls2 := [(0, .ref 66), (1, .int (nI g)), (2, .int 1), (3, .int (y_b (true = true))), (4, .int (nI (i + 1)))]) (by simp [x_lk, y_b]) ?_
                exact ih (f - 1) (by omega) (f - 1) (i + 1) nx63 sc63 true wr63 ST63 rfl (by omega) (by unfold k_bd; omega) (fun _ => by first | omega | (have ho9 := hb8 (by assumption); omega)) (by rw [← hw]; refine Eq.trans ?_ (k_cdk_e (by omega)).symm; rw [if_pos c60, if_pos c64, hf63, k_then_t])
        · refine r_iload hE dX2_readCondition_36 rfl ?_
          refine r_bipush (v := 20) hE dX2_readCondition_38 (by decide) ?_
          refine r_icmp_eq (tgt := 46) hE dX2_readCondition_40 (by decide) (fun c40 => ?_) (fun c40 => ?_)
          · have hz9 : x9 ≠ m := fun q => by
              have h0 : (D 68).1 x9 = 0 := by rw [q]; exact hK
              first | exact absurd (h0.symm.trans c33) (by decide) | exact absurd (h0.symm.trans c40) (by decide)
            refine r_aload_n hE dX2_readCondition_46 rfl ?_
            refine r_dup hE dX2_readCondition_47 rfl ?_
            refine t_geti hE f_X2_87 y_I_66_1 dX2_readCondition_48 (hL 66 (by decide)) ?_
            refine r_top (y := (nI x9)) rfl ?_
            refine r_iconst (v := 1) hE dX2_readCondition_51 (by decide) ?_
            refine r_iaddN (a := x9) (b := 1) hE dX2_readCondition_52 ?_
            refine t_puti hE f_X2_87 y_I_66_1 dX2_readCondition_53 (hL 66 (by decide)) rfl rfl ?_
            rw [k_Q_1]
            refine r_iload hE dX2_readCondition_56 rfl ?_
            refine r_bipush (v := 20) hE dX2_readCondition_58 (by decide) ?_
            refine r_icmp_ne (tgt := 96) hE dX2_readCondition_60 (by decide) (fun c60 => ?_) (fun c60 => ?_)
            · have h21 : (D 68).1 x9 = 21 := by first | exact c33 | exact absurd c40 c60
              refine r_aload_n hE dX2_readCondition_96 rfl ?_
              refine r_iload_n hE dX2_readCondition_97 rfl ?_
              refine t_invvRi hE [.int (nI g)] (hA _ _ _ _ (by omega) (by omega)) v_yX2_readAtom m_X2_118 dX2_readCondition_98 rfl (hL 66 (by decide)) (y_l_66 ((k_Q D (x9 + 1) w9 lc fr tk rc s9 LN T9) 66)) rfl (by omega) ⟨Nat.le_refl _, Nat.le_refl _⟩ (Nat.le_of_ble_eq_true rfl) (fun r64 E64 q64 => ?_)
              obtain ⟨ok64, nx64, wr64, sc64, ST64, hf64, rfl, rfl, hb64⟩ := q64
              have hz64 := hb64.all
              show E 0 0 101 [(0, .ref 66), (1, .int (nI g)), (2, .int 1), (3, .int (y_b (ow = true))), (4, .int (nI i)), (5, .int ((D 68).1 x9))] [.int (y_b (ok64 = true))] (y_mk n L (k_Q D nx64 wr64 lc fr tk rc sc64 LN ST64))
              refine r_ifb_eq (tgt := 118) hE dX2_readCondition_101 (by decide) (fun c101 => ?_) (fun c101 => ?_)
              · have hk64 : ok64 = false := by revert c101; cases ok64 <;> simp
                subst hk64
                refine r_iconst (v := 0) hE dX2_readCondition_118 (by decide) ?_
                refine r_istore_n (ls2 := [(0, .ref 66), (1, .int (nI g)), (2, .int 0), (3, .int (y_b (ow = true))), (4, .int (nI i)), (5, .int ((D 68).1 x9))]) hE dX2_readCondition_119 (by decide) rfl ?_
                refine r_iincN (a := i) (b := 1) (ls2 := [(0, .ref 66), (1, .int (nI g)), (2, .int 0), (3, .int (y_b (ow = true))), (4, .int (nI (i + 1))), (5, .int ((D 68).1 x9))]) hE dX2_readCondition_120 rfl rfl (by decide) rfl ?_
                refine r_goto (tgt := 11) hE dX2_readCondition_123 (by decide) ?_
                refine r_iload hE dX2_readCondition_11 rfl ?_
                refine r_sipush (v := 400) hE dX2_readCondition_13 (by decide) ?_
                refine r_icmp_geN (a := i + 1) (b := 400) (tgt := 126) hE dX2_readCondition_16 (by decide) (by omega) (by decide) (fun c16 => ?_) (fun c16 => ?_)
                · refine r_iload_n hE dX2_readCondition_126 rfl ?_
                  refine r_if_eq (tgt := 148) hE dX2_readCondition_127 (by decide) (fun _ => ?_) (fun c127 => by first | exact absurd c127 (by decide) | exact absurd (by decide) c127)
                  refine r_iconst (v := 0) hE dX2_readCondition_148 (by decide) ?_
                  refine r_ireturn hE dX2_readCondition_149 rfl (by rfl) (Nat.zero_le _) (Nat.zero_le _) ?_
                  refine ⟨_, _, rfl, rfl, false, _, _, _, _, ?_, by decide, rfl, ?_⟩
                  · rw [← hw, k_cdk_e (by omega), if_neg c60, if_pos h21, hf64, k_then_f]
                  · unfold k_bd
                    omega
                · refine r_iload_n hE dX2_readCondition_19 rfl ?_
                  refine r_if_eq (tgt := 126) hE dX2_readCondition_20 (by decide) (fun _ => ?_) (fun c20 => by first | exact absurd c20 (by decide) | exact absurd (by decide) c20)
                  refine r_iload_n hE dX2_readCondition_126 rfl ?_
                  refine r_if_eq (tgt := 148) hE dX2_readCondition_127 (by decide) (fun _ => ?_) (fun c127 => by first | exact absurd c127 (by decide) | exact absurd (by decide) c127)
                  refine r_iconst (v := 0) hE dX2_readCondition_148 (by decide) ?_
                  refine r_ireturn hE dX2_readCondition_149 rfl (by rfl) (Nat.zero_le _) (Nat.zero_le _) ?_
                  refine ⟨_, _, rfl, rfl, false, _, _, _, _, ?_, by decide, rfl, ?_⟩
                  · rw [← hw, k_cdk_e (by omega), if_neg c60, if_pos h21, hf64, k_then_f]
                  · unfold k_bd
                    omega
              · have hk64 : ok64 = true := c101
                subst hk64
                refine r_aload_n hE dX2_readCondition_104 rfl ?_
                refine r_bipush (v := 21) hE dX2_readCondition_105 (by decide) ?_
                refine r_iconst (v := 0) hE dX2_readCondition_107 (by decide) ?_
                refine t_invv (r := (some (.int 1))) (S2 := (y_mk n L (k_Q D nx64 wr64 lc fr tk rc (sc64 + 1) LN (upd ST64 sc64 (21 * 1024 + 0))))) hE [.int 21, .int 0] (k_keepT hL (by first | decide | exact hne) (by omega)) v_yX2_keepStep m_X2_114 dX2_readCondition_108 rfl (hL 66 (by decide)) (y_l_66 ((k_Q D nx64 wr64 lc fr tk rc sc64 LN ST64) 66)) rfl (by omega) ⟨Nat.le_refl _, Nat.le_refl _⟩ (Nat.le_of_ble_eq_true rfl) ?_
                show E 0 0 111 [(0, .ref 66), (1, .int (nI g)), (2, .int 1), (3, .int (y_b (ow = true))), (4, .int (nI i)), (5, .int ((D 68).1 x9))] [.int 1] (y_mk n L (k_Q D nx64 wr64 lc fr tk rc (sc64 + 1) LN (upd ST64 sc64 (21 * 1024 + 0))))
                refine r_if_eq (tgt := 118) hE dX2_readCondition_111 (by decide) (fun c111 => by first | exact absurd c111 (by decide) | exact absurd (by decide) c111) (fun _ => ?_)
                refine r_iconst (v := 1) hE dX2_readCondition_114 (by decide) ?_
                refine r_goto (tgt := 119) hE dX2_readCondition_115 (by decide) ?_
                refine r_istore_n (ls2 := [(0, .ref 66), (1, .int (nI g)), (2, .int 1), (3, .int (y_b (ow = true))), (4, .int (nI i)), (5, .int ((D 68).1 x9))]) hE dX2_readCondition_119 (by decide) rfl ?_
                refine r_iincN (a := i) (b := 1) (ls2 := [(0, .ref 66), (1, .int (nI g)), (2, .int 1), (3, .int (y_b (ow = true))), (4, .int (nI (i + 1))), (5, .int ((D 68).1 x9))]) hE dX2_readCondition_120 rfl rfl (by decide) rfl ?_
                refine r_goto (tgt := 11) hE dX2_readCondition_123 (by decide) ?_
                refine r_locs hE (ls2 := [(0, .ref 66), (1, .int (nI g)), (2, .int 1), (3, .int (y_b (ow = true))), (4, .int (nI (i + 1)))]) (by simp [x_lk, y_b]) ?_
                exact ih (f - 1) (by omega) (f - 1) (i + 1) nx64 (sc64 + 1) ow wr64 (upd ST64 sc64 (21 * 1024 + 0)) rfl (by omega) (by unfold k_bd; omega) (fun _ => by first | omega | (have ho9 := hb8 (by assumption); omega)) (by rw [← hw]; refine Eq.trans ?_ (k_cdk_e (by omega)).symm; rw [if_neg c60, if_pos h21, hf64, k_then_t])
            · refine r_iload_n hE dX2_readCondition_63 rfl ?_
              refine r_ifb_eq (tgt := 77) hE dX2_readCondition_64 (by decide) (fun c64 => ?_) (fun c64 => ?_)
              · refine r_aload_n hE dX2_readCondition_77 rfl ?_
                refine r_iload_n hE dX2_readCondition_78 rfl ?_
                refine t_invvRi hE [.int (nI g)] (hA _ _ _ _ (by omega) (by omega)) v_yX2_readAtom m_X2_118 dX2_readCondition_79 rfl (hL 66 (by decide)) (y_l_66 ((k_Q D (x9 + 1) w9 lc fr tk rc s9 LN T9) 66)) rfl (by omega) ⟨Nat.le_refl _, Nat.le_refl _⟩ (Nat.le_of_ble_eq_true rfl) (fun r65 E65 q65 => ?_)
                obtain ⟨ok65, nx65, wr65, sc65, ST65, hf65, rfl, rfl, hb65⟩ := q65
                have hz65 := hb65.all
                show E 0 0 82 [(0, .ref 66), (1, .int (nI g)), (2, .int 1), (3, .int (y_b (ow = true))), (4, .int (nI i)), (5, .int ((D 68).1 x9))] [.int (y_b (ok65 = true))] (y_mk n L (k_Q D nx65 wr65 lc fr tk rc sc65 LN ST65))
                refine r_ifb_eq (tgt := 89) hE dX2_readCondition_82 (by decide) (fun c82 => ?_) (fun c82 => ?_)
                · have hk65 : ok65 = false := by revert c82; cases ok65 <;> simp
                  subst hk65
                  refine r_iconst (v := 0) hE dX2_readCondition_89 (by decide) ?_
                  refine r_istore_n (ls2 := [(0, .ref 66), (1, .int (nI g)), (2, .int 0), (3, .int (y_b (ow = true))), (4, .int (nI i)), (5, .int ((D 68).1 x9))]) hE dX2_readCondition_90 (by decide) rfl ?_
                  refine r_iconst (v := 1) hE dX2_readCondition_91 (by decide) ?_
                  refine r_istore_n (ls2 := [(0, .ref 66), (1, .int (nI g)), (2, .int 0), (3, .int 1), (4, .int (nI i)), (5, .int ((D 68).1 x9))]) hE dX2_readCondition_92 (by decide) rfl ?_
                  refine r_goto (tgt := 120) hE dX2_readCondition_93 (by decide) ?_
                  refine r_iincN (a := i) (b := 1) (ls2 := [(0, .ref 66), (1, .int (nI g)), (2, .int 0), (3, .int 1), (4, .int (nI (i + 1))), (5, .int ((D 68).1 x9))]) hE dX2_readCondition_120 rfl rfl (by decide) rfl ?_
                  refine r_goto (tgt := 11) hE dX2_readCondition_123 (by decide) ?_
                  refine r_iload hE dX2_readCondition_11 rfl ?_
                  refine r_sipush (v := 400) hE dX2_readCondition_13 (by decide) ?_
                  refine r_icmp_geN (a := i + 1) (b := 400) (tgt := 126) hE dX2_readCondition_16 (by decide) (by omega) (by decide) (fun c16 => ?_) (fun c16 => ?_)
                  · refine r_iload_n hE dX2_readCondition_126 rfl ?_
                    refine r_if_eq (tgt := 148) hE dX2_readCondition_127 (by decide) (fun _ => ?_) (fun c127 => by first | exact absurd c127 (by decide) | exact absurd (by decide) c127)
                    refine r_iconst (v := 0) hE dX2_readCondition_148 (by decide) ?_
                    refine r_ireturn hE dX2_readCondition_149 rfl (by rfl) (Nat.zero_le _) (Nat.zero_le _) ?_
                    refine ⟨_, _, rfl, rfl, false, _, _, _, _, ?_, by decide, rfl, ?_⟩
                    · rw [← hw, k_cdk_e (by omega), if_pos c60, if_neg c64, hf65, k_then_f]
                    · unfold k_bd
                      omega
                  · refine r_iload_n hE dX2_readCondition_19 rfl ?_
                    refine r_if_eq (tgt := 126) hE dX2_readCondition_20 (by decide) (fun _ => ?_) (fun c20 => by first | exact absurd c20 (by decide) | exact absurd (by decide) c20)
                    refine r_iload_n hE dX2_readCondition_126 rfl ?_
                    refine r_if_eq (tgt := 148) hE dX2_readCondition_127 (by decide) (fun _ => ?_) (fun c127 => by first | exact absurd c127 (by decide) | exact absurd (by decide) c127)
                    refine r_iconst (v := 0) hE dX2_readCondition_148 (by decide) ?_
                    refine r_ireturn hE dX2_readCondition_149 rfl (by rfl) (Nat.zero_le _) (Nat.zero_le _) ?_
                    refine ⟨_, _, rfl, rfl, false, _, _, _, _, ?_, by decide, rfl, ?_⟩
                    · rw [← hw, k_cdk_e (by omega), if_pos c60, if_neg c64, hf65, k_then_f]
                    · unfold k_bd
                      omega
                · have hk65 : ok65 = true := c82
                  subst hk65
                  refine r_iconst (v := 1) hE dX2_readCondition_85 (by decide) ?_
                  refine r_goto (tgt := 90) hE dX2_readCondition_86 (by decide) ?_
                  refine r_istore_n (ls2 := [(0, .ref 66), (1, .int (nI g)), (2, .int 1), (3, .int (y_b (ow = true))), (4, .int (nI i)), (5, .int ((D 68).1 x9))]) hE dX2_readCondition_90 (by decide) rfl ?_
                  refine r_iconst (v := 1) hE dX2_readCondition_91 (by decide) ?_
                  refine r_istore_n (ls2 := [(0, .ref 66), (1, .int (nI g)), (2, .int 1), (3, .int 1), (4, .int (nI i)), (5, .int ((D 68).1 x9))]) hE dX2_readCondition_92 (by decide) rfl ?_
                  refine r_goto (tgt := 120) hE dX2_readCondition_93 (by decide) ?_
                  refine r_iincN (a := i) (b := 1) (ls2 := [(0, .ref 66), (1, .int (nI g)), (2, .int 1), (3, .int 1), (4, .int (nI (i + 1))), (5, .int ((D 68).1 x9))]) hE dX2_readCondition_120 rfl rfl (by decide) rfl ?_
                  refine r_goto (tgt := 11) hE dX2_readCondition_123 (by decide) ?_
                  refine r_locs hE (ls2 := [(0, .ref 66), (1, .int (nI g)), (2, .int 1), (3, .int (y_b (true = true))), (4, .int (nI (i + 1)))]) (by simp [x_lk, y_b]) ?_
                  exact ih (f - 1) (by omega) (f - 1) (i + 1) nx65 sc65 true wr65 ST65 rfl (by omega) (by unfold k_bd; omega) (fun _ => by first | omega | (have ho9 := hb8 (by assumption); omega)) (by rw [← hw]; refine Eq.trans ?_ (k_cdk_e (by omega)).symm; rw [if_pos c60, if_neg c64, hf65, k_then_t])
              · have ho := hb8 c64
                refine r_aload_n hE dX2_readCondition_67 rfl ?_
                refine r_bipush (v := 20) hE dX2_readCondition_68 (by decide) ?_
                refine r_iconst (v := 0) hE dX2_readCondition_70 (by decide) ?_
                refine t_invv (r := (some (.int 1))) (S2 := (y_mk n L (k_Q D (x9 + 1) w9 lc fr tk rc (s9 + 1) LN (upd T9 s9 (20 * 1024 + 0))))) hE [.int 20, .int 0] (k_keepT hL (by first | decide | exact hne) (by omega)) v_yX2_keepStep m_X2_114 dX2_readCondition_71 rfl (hL 66 (by decide)) (y_l_66 ((k_Q D (x9 + 1) w9 lc fr tk rc s9 LN T9) 66)) rfl (by omega) ⟨Nat.le_refl _, Nat.le_refl _⟩ (Nat.le_of_ble_eq_true rfl) ?_
                show E 0 0 74 [(0, .ref 66), (1, .int (nI g)), (2, .int 1), (3, .int (y_b (ow = true))), (4, .int (nI i)), (5, .int ((D 68).1 x9))] [.int 1] (y_mk n L (k_Q D (x9 + 1) w9 lc fr tk rc (s9 + 1) LN (upd T9 s9 (20 * 1024 + 0))))
                refine r_if_eq (tgt := 89) hE dX2_readCondition_74 (by decide) (fun c74 => by first | exact absurd c74 (by decide) | exact absurd (by decide) c74) (fun _ => ?_)
                refine r_aload_n hE dX2_readCondition_77 rfl ?_
                refine r_iload_n hE dX2_readCondition_78 rfl ?_
                refine t_invvRi hE [.int (nI g)] (hA _ _ _ _ (by omega) (by omega)) v_yX2_readAtom m_X2_118 dX2_readCondition_79 rfl (hL 66 (by decide)) (y_l_66 ((k_Q D (x9 + 1) w9 lc fr tk rc (s9 + 1) LN (upd T9 s9 (20 * 1024 + 0))) 66)) rfl (by omega) ⟨Nat.le_refl _, Nat.le_refl _⟩ (Nat.le_of_ble_eq_true rfl) (fun r66 E66 q66 => ?_)
                obtain ⟨ok66, nx66, wr66, sc66, ST66, hf66, rfl, rfl, hb66⟩ := q66
                have hz66 := hb66.all
                show E 0 0 82 [(0, .ref 66), (1, .int (nI g)), (2, .int 1), (3, .int (y_b (ow = true))), (4, .int (nI i)), (5, .int ((D 68).1 x9))] [.int (y_b (ok66 = true))] (y_mk n L (k_Q D nx66 wr66 lc fr tk rc sc66 LN ST66))
                refine r_ifb_eq (tgt := 89) hE dX2_readCondition_82 (by decide) (fun c82 => ?_) (fun c82 => ?_)
                · have hk66 : ok66 = false := by revert c82; cases ok66 <;> simp
                  subst hk66
                  refine r_iconst (v := 0) hE dX2_readCondition_89 (by decide) ?_
                  refine r_istore_n (ls2 := [(0, .ref 66), (1, .int (nI g)), (2, .int 0), (3, .int (y_b (ow = true))), (4, .int (nI i)), (5, .int ((D 68).1 x9))]) hE dX2_readCondition_90 (by decide) rfl ?_
                  refine r_iconst (v := 1) hE dX2_readCondition_91 (by decide) ?_
                  refine r_istore_n (ls2 := [(0, .ref 66), (1, .int (nI g)), (2, .int 0), (3, .int 1), (4, .int (nI i)), (5, .int ((D 68).1 x9))]) hE dX2_readCondition_92 (by decide) rfl ?_
                  refine r_goto (tgt := 120) hE dX2_readCondition_93 (by decide) ?_
                  refine r_iincN (a := i) (b := 1) (ls2 := [(0, .ref 66), (1, .int (nI g)), (2, .int 0), (3, .int 1), (4, .int (nI (i + 1))), (5, .int ((D 68).1 x9))]) hE dX2_readCondition_120 rfl rfl (by decide) rfl ?_
                  refine r_goto (tgt := 11) hE dX2_readCondition_123 (by decide) ?_
                  refine r_iload hE dX2_readCondition_11 rfl ?_
                  refine r_sipush (v := 400) hE dX2_readCondition_13 (by decide) ?_
                  refine r_icmp_geN (a := i + 1) (b := 400) (tgt := 126) hE dX2_readCondition_16 (by decide) (by omega) (by decide) (fun c16 => ?_) (fun c16 => ?_)
                  · refine r_iload_n hE dX2_readCondition_126 rfl ?_
                    refine r_if_eq (tgt := 148) hE dX2_readCondition_127 (by decide) (fun _ => ?_) (fun c127 => by first | exact absurd c127 (by decide) | exact absurd (by decide) c127)
                    refine r_iconst (v := 0) hE dX2_readCondition_148 (by decide) ?_
                    refine r_ireturn hE dX2_readCondition_149 rfl (by rfl) (Nat.zero_le _) (Nat.zero_le _) ?_
                    refine ⟨_, _, rfl, rfl, false, _, _, _, _, ?_, by decide, rfl, ?_⟩
                    · rw [← hw, k_cdk_e (by omega), if_pos c60, if_pos c64, hf66, k_then_f]
                    · unfold k_bd
                      omega
                  · refine r_iload_n hE dX2_readCondition_19 rfl ?_
                    refine r_if_eq (tgt := 126) hE dX2_readCondition_20 (by decide) (fun _ => ?_) (fun c20 => by first | exact absurd c20 (by decide) | exact absurd (by decide) c20)
                    refine r_iload_n hE dX2_readCondition_126 rfl ?_
                    refine r_if_eq (tgt := 148) hE dX2_readCondition_127 (by decide) (fun _ => ?_) (fun c127 => by first | exact absurd c127 (by decide) | exact absurd (by decide) c127)
                    refine r_iconst (v := 0) hE dX2_readCondition_148 (by decide) ?_
                    refine r_ireturn hE dX2_readCondition_149 rfl (by rfl) (Nat.zero_le _) (Nat.zero_le _) ?_
                    refine ⟨_, _, rfl, rfl, false, _, _, _, _, ?_, by decide, rfl, ?_⟩
                    · rw [← hw, k_cdk_e (by omega), if_pos c60, if_pos c64, hf66, k_then_f]
                    · unfold k_bd
                      omega
                · have hk66 : ok66 = true := c82
                  subst hk66
                  refine r_iconst (v := 1) hE dX2_readCondition_85 (by decide) ?_
                  refine r_goto (tgt := 90) hE dX2_readCondition_86 (by decide) ?_
                  refine r_istore_n (ls2 := [(0, .ref 66), (1, .int (nI g)), (2, .int 1), (3, .int (y_b (ow = true))), (4, .int (nI i)), (5, .int ((D 68).1 x9))]) hE dX2_readCondition_90 (by decide) rfl ?_
                  refine r_iconst (v := 1) hE dX2_readCondition_91 (by decide) ?_
                  refine r_istore_n (ls2 := [(0, .ref 66), (1, .int (nI g)), (2, .int 1), (3, .int 1), (4, .int (nI i)), (5, .int ((D 68).1 x9))]) hE dX2_readCondition_92 (by decide) rfl ?_
                  refine r_goto (tgt := 120) hE dX2_readCondition_93 (by decide) ?_
                  refine r_iincN (a := i) (b := 1) (ls2 := [(0, .ref 66), (1, .int (nI g)), (2, .int 1), (3, .int 1), (4, .int (nI (i + 1))), (5, .int ((D 68).1 x9))]) hE dX2_readCondition_120 rfl rfl (by decide) rfl ?_
                  refine r_goto (tgt := 11) hE dX2_readCondition_123 (by decide) ?_
                  refine r_locs hE (ls2 := [(0, .ref 66), (1, .int (nI g)), (2, .int 1), (3, .int (y_b (true = true))), (4, .int (nI (i + 1)))]) (by simp [x_lk, y_b]) ?_
                  exact ih (f - 1) (by omega) (f - 1) (i + 1) nx66 sc66 true wr66 ST66 rfl (by omega) (by unfold k_bd; omega) (fun _ => by first | omega | (have ho9 := hb8 (by assumption); omega)) (by rw [← hw]; refine Eq.trans ?_ (k_cdk_e (by omega)).symm; rw [if_pos c60, if_pos c64, hf66, k_then_t])
          · refine r_goto (tgt := 126) hE dX2_readCondition_43 (by decide) ?_
            refine r_iload_n hE dX2_readCondition_126 rfl ?_
            refine r_if_eq (tgt := 148) hE dX2_readCondition_127 (by decide) (fun c127 => by first | exact absurd c127 (by decide) | exact absurd (by decide) c127) (fun _ => ?_)
            refine r_iload_n hE dX2_readCondition_130 rfl ?_
            refine r_ifb_eq (tgt := 144) hE dX2_readCondition_131 (by decide) (fun c131 => ?_) (fun c131 => ?_)
            · refine r_iconst (v := 1) hE dX2_readCondition_144 (by decide) ?_
              refine r_goto (tgt := 149) hE dX2_readCondition_145 (by decide) ?_
              refine r_ireturn hE dX2_readCondition_149 rfl (by rfl) (Nat.zero_le _) (Nat.zero_le _) ?_
              refine ⟨_, _, rfl, rfl, true, _, _, _, _, ?_, by decide, rfl, ?_⟩
              · rw [← hw, k_cdk_e (by omega), if_neg c40, if_neg c33, k_fin, if_neg c131]
              · unfold k_bd
                omega
            · have ho := hb8 c131
              refine r_aload_n hE dX2_readCondition_134 rfl ?_
              refine r_bipush (v := 20) hE dX2_readCondition_135 (by decide) ?_
              refine r_iconst (v := 0) hE dX2_readCondition_137 (by decide) ?_
              refine t_invv (r := (some (.int 1))) (S2 := (y_mk n L (k_Q D x9 w9 lc fr tk rc (s9 + 1) LN (upd T9 s9 (20 * 1024 + 0))))) hE [.int 20, .int 0] (k_keepT hL (by first | decide | exact hne) (by omega)) v_yX2_keepStep m_X2_114 dX2_readCondition_138 rfl (hL 66 (by decide)) (y_l_66 ((k_Q D x9 w9 lc fr tk rc s9 LN T9) 66)) rfl (by omega) ⟨Nat.le_refl _, Nat.le_refl _⟩ (Nat.le_of_ble_eq_true rfl) ?_
              show E 0 0 141 [(0, .ref 66), (1, .int (nI g)), (2, .int 1), (3, .int (y_b (ow = true))), (4, .int (nI i)), (5, .int ((D 68).1 x9))] [.int 1] (y_mk n L (k_Q D x9 w9 lc fr tk rc (s9 + 1) LN (upd T9 s9 (20 * 1024 + 0))))
              refine r_if_eq (tgt := 148) hE dX2_readCondition_141 (by decide) (fun c141 => by first | exact absurd c141 (by decide) | exact absurd (by decide) c141) (fun _ => ?_)
              refine r_iconst (v := 1) hE dX2_readCondition_144 (by decide) ?_
              refine r_goto (tgt := 149) hE dX2_readCondition_145 (by decide) ?_
              refine r_ireturn hE dX2_readCondition_149 rfl (by rfl) (Nat.zero_le _) (Nat.zero_le _) ?_
              have ho := hb8 c131
              refine ⟨_, _, rfl, rfl, true, _, _, _, _, ?_, by decide, rfl, ?_⟩
              · rw [← hw, k_cdk_e (by omega), if_neg c40, if_neg c33, k_fin, if_pos c131]
              · unfold k_bd
                omega
  refine r_aload_n hE dX2_readCondition_0 rfl ?_
  refine r_iload_n hE dX2_readCondition_1 rfl ?_
  refine t_invvRi hE [.int (nI g)] (hA _ _ _ _ (by omega) (by omega)) v_yX2_readAtom m_X2_118 dX2_readCondition_2 rfl (hL 66 (by decide)) (y_l_66 ((k_Q D nx wr lc fr tk rc sc LN ST) 66)) rfl (by omega) ⟨Nat.le_refl _, Nat.le_refl _⟩ (Nat.le_of_ble_eq_true rfl) (fun r67 E67 q67 => ?_)
  obtain ⟨ok67, nx67, wr67, sc67, ST67, hf67, rfl, rfl, hb67⟩ := q67
  have hz67 := hb67.all
  show E 0 0 5 [(0, .ref 66), (1, .int (nI g))] [.int (y_b (ok67 = true))] (y_mk n L (k_Q D nx67 wr67 lc fr tk rc sc67 LN ST67))
  by_cases hk67 : ok67 = true
  · refine r_top (y := 1) (y_b_t hk67) ?_
    subst hk67
    refine r_istore_n (ls2 := [(0, .ref 66), (1, .int (nI g)), (2, .int 1)]) hE dX2_readCondition_5 (by decide) rfl ?_
    refine r_iconst (v := 0) hE dX2_readCondition_6 (by decide) ?_
    refine r_istore_n (ls2 := [(0, .ref 66), (1, .int (nI g)), (2, .int 1), (3, .int 0)]) hE dX2_readCondition_7 (by decide) rfl ?_
    refine r_iconst (v := 0) hE dX2_readCondition_8 (by decide) ?_
    refine r_istore (ls2 := [(0, .ref 66), (1, .int (nI g)), (2, .int 1), (3, .int 0), (4, .int 0)]) hE dX2_readCondition_9 (by decide) rfl ?_
    refine r_locs hE (ls2 := [(0, .ref 66), (1, .int (nI g)), (2, .int 1), (3, .int (y_b (false = true))), (4, .int (nI 0))]) (by simp [x_lk, y_b, n_lit]) ?_
    exact l1 401 0 _ _ false _ _ (by omega) hb67 (fun q => absurd q (by decide)) (by rw [k_cd, hf67, k_then_t])
  · refine r_top (y := 0) (y_b_f hk67) ?_
    have hk9 : ok67 = false := by revert hk67; cases ok67 <;> simp
    subst hk9
    refine r_istore_n (ls2 := [(0, .ref 66), (1, .int (nI g)), (2, .int 0)]) hE dX2_readCondition_5 (by decide) rfl ?_
    refine r_iconst (v := 0) hE dX2_readCondition_6 (by decide) ?_
    refine r_istore_n (ls2 := [(0, .ref 66), (1, .int (nI g)), (2, .int 0), (3, .int 0)]) hE dX2_readCondition_7 (by decide) rfl ?_
    refine r_iconst (v := 0) hE dX2_readCondition_8 (by decide) ?_
    refine r_istore (ls2 := [(0, .ref 66), (1, .int (nI g)), (2, .int 0), (3, .int 0), (4, .int 0)]) hE dX2_readCondition_9 (by decide) rfl ?_
    refine r_iload hE dX2_readCondition_11 rfl ?_
    refine r_sipush (v := 400) hE dX2_readCondition_13 (by decide) ?_
    refine r_icmp_ge (tgt := 126) hE dX2_readCondition_16 (by decide) (fun c16 => by first | exact absurd c16 (by decide) | exact absurd (by decide) c16) (fun _ => ?_)
    refine r_iload_n hE dX2_readCondition_19 rfl ?_
    refine r_if_eq (tgt := 126) hE dX2_readCondition_20 (by decide) (fun _ => ?_) (fun c20 => by first | exact absurd c20 (by decide) | exact absurd (by decide) c20)
    refine r_iload_n hE dX2_readCondition_126 rfl ?_
    refine r_if_eq (tgt := 148) hE dX2_readCondition_127 (by decide) (fun _ => ?_) (fun c127 => by first | exact absurd c127 (by decide) | exact absurd (by decide) c127)
    refine r_iconst (v := 0) hE dX2_readCondition_148 (by decide) ?_
    refine r_ireturn hE dX2_readCondition_149 rfl (by rfl) (Nat.zero_le _) (Nat.zero_le _) ?_
    refine ⟨_, _, rfl, rfl, false, _, _, _, _, ?_, by decide, rfl, hb67⟩
    rw [k_cd, hf67, k_then_f]

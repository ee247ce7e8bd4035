/-! the reference's reader: a whole text -/
def l_fin (k : Nat) (r : Bool × l_S) : Bool × l_S := (r.1, r.2.1, r.2.2.1, r.2.2.2.1, r.2.2.2.2.1, upd r.2.2.2.2.2 (k + 4) (nI r.2.2.2.2.1))
/-- the LINE i -/
def l_line (T : Nat → Int32) (e : Nat) (G : Nat → l_F) (i : Nat) : l_F := fun p _ g s W =>
  if i = 10 then (false, l_le T e p, l_bl T e p, g, s, W)
  else l_fin (237 + 851 * 10 + 1 + 5 * i) (G (237 + 851 * 10 + 1 + 5 * i) (l_le T e p) (l_bl T e p) g s (upd (upd (upd W (237 + 851 * 10 + 1 + 5 * i + 1) 0) (237 + 851 * 10 + 1 + 5 * i + 2) 0) (237 + 851 * 10 + 1 + 5 * i + 3) (nI s)))
theorem l_line10 {T : Nat → Int32} {e p b g s : Nat} {G : Nat → l_F} {W : Nat → Int32} : l_line T e G 10 p b g s W = (false, l_le T e p, l_bl T e p, g, s, W) := rfl
abbrev l_G : Type := Nat → Nat → Nat → Nat → (Nat → Int32) → Int32 × l_S
def l_allk (T : Nat → Int32) (e : Nat) (G : Nat → l_F) : Nat → Nat → l_G
  | 0, _ => fun p b g s W => (-1, p, b, g, s, W)
  | f + 1, i => fun p b g s W => if (l_line T e G i p b g s W).1 = true then
      (if l_bl T e (l_line T e G i p b g s W).2.1 = e then (nI (i + 1), l_bl T e (l_line T e G i p b g s W).2.1, l_bl T e (l_line T e G i p b g s W).2.1, (l_line T e G i p b g s W).2.2.2)
       else if l_bl T e (l_line T e G i p b g s W).2.1 < e ∧ 59 ≤ T (l_bl T e (l_line T e G i p b g s W).2.1) ∧ T (l_bl T e (l_line T e G i p b g s W).2.1) ≤ 59 then l_allk T e G f (i + 1) (l_bl T e (l_line T e G i p b g s W).2.1 + 1) (l_bl T e (l_line T e G i p b g s W).2.1) (l_line T e G i p b g s W).2.2.2.1 (l_line T e G i p b g s W).2.2.2.2.1 (l_line T e G i p b g s W).2.2.2.2.2
       else (-1, l_bl T e (l_line T e G i p b g s W).2.1, l_bl T e (l_line T e G i p b g s W).2.1, (l_line T e G i p b g s W).2.2.2))
    else (-1, (l_line T e G i p b g s W).2)
theorem l_allk_f {T : Nat → Int32} {e f i p b g s p2 b2 g2 s2 : Nat} {G : Nat → l_F} {W W2 : Nat → Int32} (hf : 0 < f) (h : l_line T e G i p b g s W = (false, p2, b2, g2, s2, W2)) : l_allk T e G f i p b g s W = (-1, p2, b2, g2, s2, W2) := by
  rcases f with _ | f
  · omega
  · unfold l_allk
    rw [h]
    rfl
theorem l_allk_t {T : Nat → Int32} {e f i p b g s p2 b2 g2 s2 : Nat} {G : Nat → l_F} {W W2 : Nat → Int32} (hf : 0 < f) (h : l_line T e G i p b g s W = (true, p2, b2, g2, s2, W2)) : l_allk T e G f i p b g s W = if l_bl T e p2 = e then (nI (i + 1), l_bl T e p2, l_bl T e p2, g2, s2, W2) else if l_bl T e p2 < e ∧ 59 ≤ T (l_bl T e p2) ∧ T (l_bl T e p2) ≤ 59 then l_allk T e G (f - 1) (i + 1) (l_bl T e p2 + 1) (l_bl T e p2) g2 s2 W2 else (-1, l_bl T e p2, l_bl T e p2, g2, s2, W2) := by
  rcases f with _ | f
  · omega
  · conv => lhs; unfold l_allk
    rw [h]
    rfl
def l_all (T : Nat → Int32) (e : Nat) (G : Nat → l_F) : l_G := fun p _ g s W => if l_bl T e p = e then (0, l_bl T e p, l_bl T e p, g, s, W) else l_allk T e G 11 0 (l_bl T e p) (l_bl T e p) g s W
def l_Ra (D : y_D) (e : Nat) (F : l_G) (p b g s : Nat) (W : Nat → Int32) (v : Int32) (D2 : y_D) : Prop := ∃ (p2 b2 g2 s2 : Nat) (W2 : Nat → Int32), F p b g s W = (v, p2, b2, g2, s2, W2) ∧ D2 = m_P D p2 b2 g2 s2 W2 ∧ l_bd e p s p2 s2
theorem c_readLine_1 {V : x_E} {n : Nat} {L : List Nat} {D : y_D} {i : Nat} (hi : i ≤ 10) {e p b g s : Nat} {W : Nat → Int32} (hV : y_V V) (hF : y_fm V) (hL : y_ok L) (hen : (D 169).1 7 = nI e) (he : e ≤ 400) (hp : p ≤ e) (hs : s ≤ p) : y_Ri V yX11_readLine cX11_readLine 5 (some .boolean) 7 [.ref 169, .int (nI i), .int 1] n L (m_P D p b g s W) (l_Rw D e (l_line (D 172).1 e (l_rule (D 172).1 e) i) p b g s W) := by
  refine y_ri (by decide) (Nat.le_of_ble_eq_true rfl) (fun E hE => ?_)
  change E 0 0 0 [(0, .ref 169), (1, .int (nI i)), (2, .int 1)] [] (y_mk n L (m_P D p b g s W))
  have f1 := l_f (T := (D 172).1) hp
  refine r_aload_n hE dX11_readLine_0 rfl ?_
  refine t_invv (r := none) (S2 := (y_mk n L (m_P D (l_le (D 172).1 e p) (l_bl (D 172).1 e p) g s W))) hE [] (c_letters hL hen he (by omega)) v_yX11_letters m_X11_125 dX11_readLine_1 rfl (hL 169 (by decide)) (y_l_169 ((m_P D p b g s W) 169)) rfl (by decide) ⟨Nat.le_refl _, Nat.le_refl _⟩ (Nat.le_of_ble_eq_true rfl) ?_
  show E 0 0 4 [(0, .ref 169), (1, .int (nI i)), (2, .int 1)] [] (y_mk n L (m_P D (l_le (D 172).1 e p) (l_bl (D 172).1 e p) g s W))
  refine r_iload_n hE dX11_readLine_4 rfl ?_
  refine r_bipush (v := 10) hE dX11_readLine_5 (by decide) ?_
  refine r_icmp_neN (a := i) (b := 10) (tgt := 12) hE dX11_readLine_7 (by decide) (by omega) (by decide) (fun c7 => ?_) (fun c7 => ?_)
  · refine r_bipush (v := 10) hE dX11_readLine_12 (by decide) ?_
    refine r_iload_n hE dX11_readLine_14 rfl ?_
    refine t_invs (r := (some (.int (nI (237 + 851 * 10 + 1 + 5 * i))))) (S2 := (y_mk n L (m_P D (l_le (D 172).1 e p) (l_bl (D 172).1 e p) g s W))) hE [.int 10, .int (nI i)] (c_lineAt) s_yX11_lineAt m_X11_136 dX11_readLine_15 rfl (by decide) ⟨Nat.le_refl _, Nat.le_refl _⟩ (Nat.le_of_ble_eq_true rfl) ?_
    show E 0 0 18 [(0, .ref 169), (1, .int (nI i)), (2, .int 1)] [.int (nI (237 + 851 * 10 + 1 + 5 * i))] (y_mk n L (m_P D (l_le (D 172).1 e p) (l_bl (D 172).1 e p) g s W))
    refine r_istore_n (ls2 := [(0, .ref 169), (1, .int (nI i)), (2, .int 1), (3, .int (nI (237 + 851 * 10 + 1 + 5 * i)))]) hE dX11_readLine_18 (by decide) rfl ?_
    refine r_aload_n hE dX11_readLine_19 rfl ?_
    refine t_getr hE f_X11_13 y_R_169_1 dX11_readLine_20 (hL 169 (by decide)) ?_
    refine r_iload_n hE dX11_readLine_23 rfl ?_
    refine r_iconst (v := 1) hE dX11_readLine_24 (by decide) ?_
    refine r_iaddN (a := 237 + 851 * 10 + 1 + 5 * i) (b := 1) hE dX11_readLine_25 ?_
    refine r_iconst (v := 0) hE dX11_readLine_26 (by decide) ?_
    refine t_iastN (e := (237 + 851 * 10 + 1 + 5 * i) + 1) hE y_A_170 dX11_readLine_27 (hL 170 (by decide)) (by omega) (by decide) ?_
    rw [m_P_w]
    refine r_aload_n hE dX11_readLine_28 rfl ?_
    refine t_getr hE f_X11_13 y_R_169_1 dX11_readLine_29 (hL 169 (by decide)) ?_
    refine r_iload_n hE dX11_readLine_32 rfl ?_
    refine r_iconst (v := 2) hE dX11_readLine_33 (by decide) ?_
    refine r_iaddN (a := 237 + 851 * 10 + 1 + 5 * i) (b := 2) hE dX11_readLine_34 ?_
    refine r_iconst (v := 0) hE dX11_readLine_35 (by decide) ?_
    refine t_iastN (e := (237 + 851 * 10 + 1 + 5 * i) + 2) hE y_A_170 dX11_readLine_36 (hL 170 (by decide)) (by omega) (by decide) ?_
    rw [m_P_w]
    refine r_aload_n hE dX11_readLine_37 rfl ?_
    refine t_getr hE f_X11_13 y_R_169_1 dX11_readLine_38 (hL 169 (by decide)) ?_
    refine r_iload_n hE dX11_readLine_41 rfl ?_
    refine r_iconst (v := 3) hE dX11_readLine_42 (by decide) ?_
    refine r_iaddN (a := 237 + 851 * 10 + 1 + 5 * i) (b := 3) hE dX11_readLine_43 ?_
    refine r_aload_n hE dX11_readLine_44 rfl ?_
    refine t_geti hE f_X11_102 y_I_169_12 dX11_readLine_45 (hL 169 (by decide)) ?_
    refine r_top (y := (nI s)) rfl ?_
    refine t_iastN (e := (237 + 851 * 10 + 1 + 5 * i) + 3) hE y_A_170 dX11_readLine_48 (hL 170 (by decide)) (by omega) (by decide) ?_
    rw [m_P_w]
    refine r_iload_n hE dX11_readLine_49 rfl ?_
    refine r_if_eq (tgt := 61) hE dX11_readLine_50 (by decide) (fun c50 => by first | exact absurd c50 (by decide) | exact absurd (by decide) c50) (fun _ => ?_)
    refine r_aload_n hE dX11_readLine_53 rfl ?_
    refine r_iload_n hE dX11_readLine_54 rfl ?_
    refine t_invvRi hE [.int (nI (237 + 851 * 10 + 1 + 5 * i))] (c_readRule hV hF hL hen he (by omega) (by omega) (by omega) (by omega)) v_yX11_readRule m_X11_228 dX11_readLine_55 rfl (hL 169 (by decide)) (y_l_169 ((m_P D (l_le (D 172).1 e p) (l_bl (D 172).1 e p) g s (upd (upd (upd W ((237 + 851 * 10 + 1 + 5 * i) + 1) 0) ((237 + 851 * 10 + 1 + 5 * i) + 2) 0) ((237 + 851 * 10 + 1 + 5 * i) + 3) (nI s))) 169)) rfl (by decide) ⟨Nat.le_refl _, Nat.le_refl _⟩ (Nat.le_of_ble_eq_true rfl) (fun r101 E101 q101 => ?_)
    obtain ⟨ok101, p101, b101, g101, s101, W101, hf101, rfl, rfl, hb101⟩ := q101
    have hz101 := hb101.all
    show E 0 0 58 [(0, .ref 169), (1, .int (nI i)), (2, .int 1), (3, .int (nI (237 + 851 * 10 + 1 + 5 * i)))] [.int (y_b (ok101 = true))] (y_mk n L (m_P D p101 b101 g101 s101 W101))
    refine r_goto (tgt := 66) hE dX11_readLine_58 (by decide) ?_
    refine r_istore (ls2 := [(0, .ref 169), (1, .int (nI i)), (2, .int 1), (3, .int (nI (237 + 851 * 10 + 1 + 5 * i))), (4, .int (y_b (ok101 = true)))]) hE dX11_readLine_66 (by decide) rfl ?_
    refine r_aload_n hE dX11_readLine_68 rfl ?_
    refine t_getr hE f_X11_13 y_R_169_1 dX11_readLine_69 (hL 169 (by decide)) ?_
    refine r_iload_n hE dX11_readLine_72 rfl ?_
    refine r_iconst (v := 4) hE dX11_readLine_73 (by decide) ?_
    refine r_iaddN (a := 237 + 851 * 10 + 1 + 5 * i) (b := 4) hE dX11_readLine_74 ?_
    refine r_aload_n hE dX11_readLine_75 rfl ?_
    refine t_geti hE f_X11_102 y_I_169_12 dX11_readLine_76 (hL 169 (by decide)) ?_
    refine r_top (y := (nI s101)) rfl ?_
    refine t_iastN (e := (237 + 851 * 10 + 1 + 5 * i) + 4) hE y_A_170 dX11_readLine_79 (hL 170 (by decide)) (by omega) (by decide) ?_
    rw [m_P_w]
    refine r_iload hE dX11_readLine_80 rfl ?_
    refine r_ireturn hE dX11_readLine_82 rfl (by exact y_nb _) (Nat.zero_le _) (Nat.zero_le _) ?_
    refine ⟨_, _, rfl, rfl, ok101, _, _, _, _, _, ?_, rfl, rfl, ?_⟩
    · unfold l_line
      rw [if_neg c7, hf101]
      rfl
    · unfold l_bd
      omega
  · refine r_iconst (v := 0) hE dX11_readLine_10 (by decide) ?_
    refine r_ireturn hE dX11_readLine_11 rfl (by first | rfl | exact y_nb _) (Nat.zero_le _) (Nat.zero_le _) ?_
    refine ⟨_, _, rfl, rfl, false, _, _, _, _, _, ?_, by decide, rfl, ?_⟩
    · unfold l_line
      rw [if_pos c7]
    · unfold l_bd
      omega
theorem c_readAll_1 {V : x_E} {n : Nat} {L : List Nat} {D : y_D} {e p b g s : Nat} {W : Nat → Int32} (hV : y_V V) (hF : y_fm V) (hL : y_ok L) (hen : (D 169).1 7 = nI e) (he : e ≤ 400) (hp : p ≤ e) (hs : s ≤ p) : y_Ri V yX11_readAll cX11_readAll 3 (some .int) 8 [.ref 169, .int 1] n L (m_P D p b g s W) (l_Ra D e (l_all (D 172).1 e (l_rule (D 172).1 e)) p b g s W) := by
  refine y_ri (by decide) (Nat.le_of_ble_eq_true rfl) (fun E hE => ?_)
  change E 0 0 0 [(0, .ref 169), (1, .int 1)] [] (y_mk n L (m_P D p b g s W))
  have f0 := l_f (T := (D 172).1) hp
  have l1 : ∀ (f i p9 b9 g9 s9 : Nat) (W9 : Nat → Int32), f + i = 11 ∧ 1 ≤ f → l_bd e p s p9 s9 → l_allk (D 172).1 e (l_rule (D 172).1 e) f i p9 b9 g9 s9 W9 = l_all (D 172).1 e (l_rule (D 172).1 e) p b g s W → E 0 0 19 [(0, .ref 169), (1, .int 1), (2, .int (nI i))] [] (y_mk n L (m_P D p9 b9 g9 s9 W9)) := by
    intro f i p9 b9 g9 s9 W9
    induction hm9 : (f) using Nat.strongRecOn generalizing f i p9 b9 g9 s9 W9 with
    | _ m9 ih =>
      intro hfi hb9 hw
      subst hm9
      have f1 := hb9.all
      refine r_aload_n hE dX11_readAll_19 rfl ?_
      refine r_iload_n hE dX11_readAll_20 rfl ?_
      refine r_iload_n hE dX11_readAll_21 rfl ?_
      refine t_invvRi hE [.int (nI i), .int 1] (c_readLine_1 (by omega) hV hF hL hen he (by omega) (by omega)) v_yX11_readLine m_X11_234 dX11_readAll_22 rfl (hL 169 (by decide)) (y_l_169 ((m_P D p9 b9 g9 s9 W9) 169)) rfl (by decide) ⟨Nat.le_refl _, Nat.le_refl _⟩ (Nat.le_of_ble_eq_true rfl) (fun r102 E102 q102 => ?_)
      obtain ⟨ok102, p102, b102, g102, s102, W102, hf102, rfl, rfl, hb102⟩ := q102
      have hz102 := hb102.all
      show E 0 0 25 [(0, .ref 169), (1, .int 1), (2, .int (nI i))] [.int (y_b (ok102 = true))] (y_mk n L (m_P D p102 b102 g102 s102 W102))
      refine r_ifb_ne (tgt := 30) hE dX11_readAll_25 (by decide) (fun c25 => ?_) (fun c25 => ?_)
      · have hk102 : ok102 = true := c25
        subst hk102
        have hi10 : i ≠ 10 := fun c => by
          subst c
          rw [l_line10] at hf102
          exact Bool.noConfusion (show false = true from congrArg Prod.fst hf102)
        have f3 := l_f (T := (D 172).1) hz102.2.1
        refine r_aload_n hE dX11_readAll_30 rfl ?_
        refine t_invv (r := none) (S2 := (y_mk n L (m_P D (l_bl (D 172).1 e p102) (l_bl (D 172).1 e p102) g102 s102 W102))) hE [] (c_blanks hL hen he (by omega)) v_yX11_blanks m_X11_112 dX11_readAll_31 rfl (hL 169 (by decide)) (y_l_169 ((m_P D p102 b102 g102 s102 W102) 169)) rfl (by decide) ⟨Nat.le_refl _, Nat.le_refl _⟩ (Nat.le_of_ble_eq_true rfl) ?_
        show E 0 0 34 [(0, .ref 169), (1, .int 1), (2, .int (nI i))] [] (y_mk n L (m_P D (l_bl (D 172).1 e p102) (l_bl (D 172).1 e p102) g102 s102 W102))
        refine r_aload_n hE dX11_readAll_34 rfl ?_
        refine t_geti hE f_X11_99 y_I_169_6 dX11_readAll_35 (hL 169 (by decide)) ?_
        refine r_top (y := (nI (l_bl (D 172).1 e p102))) rfl ?_
        refine r_aload_n hE dX11_readAll_38 rfl ?_
        refine t_geti hE f_X11_96 y_I_169_7 dX11_readAll_39 (hL 169 (by decide)) ?_
        refine r_top (y := (nI e)) (show ((D 169).1 7 : Int32) = _ from hen) ?_
        refine r_icmp_neN (a := (l_bl (D 172).1 e p102)) (b := e) (tgt := 49) hE dX11_readAll_42 (by decide) (by omega) (by omega) (fun c42 => ?_) (fun c42 => ?_)
        · refine r_aload_n hE dX11_readAll_49 rfl ?_
          refine r_bipush (v := 59) hE dX11_readAll_50 (by decide) ?_
          refine r_bipush (v := 59) hE dX11_readAll_52 (by decide) ?_
          refine t_invv (r := (some (.int (y_b ((l_bl (D 172).1 e p102) < e ∧ 59 ≤ (D 172).1 (l_bl (D 172).1 e p102) ∧ (D 172).1 (l_bl (D 172).1 e p102) ≤ 59))))) (S2 := (y_mk n L (m_P D (l_bl (D 172).1 e p102) (l_bl (D 172).1 e p102) g102 s102 W102))) hE [.int 59, .int 59] (c_isAt (e := e) (p := (l_bl (D 172).1 e p102)) hL hen he (by omega)) v_yX11_isAt m_X11_105 dX11_readAll_54 rfl (hL 169 (by decide)) (y_l_169 ((m_P D (l_bl (D 172).1 e p102) (l_bl (D 172).1 e p102) g102 s102 W102) 169)) rfl (by decide) ⟨Nat.le_refl _, Nat.le_refl _⟩ (Nat.le_of_ble_eq_true rfl) ?_
          show E 0 0 57 [(0, .ref 169), (1, .int 1), (2, .int (nI i))] [.int (y_b ((l_bl (D 172).1 e p102) < e ∧ 59 ≤ (D 172).1 (l_bl (D 172).1 e p102) ∧ (D 172).1 (l_bl (D 172).1 e p102) ≤ 59))] (y_mk n L (m_P D (l_bl (D 172).1 e p102) (l_bl (D 172).1 e p102) g102 s102 W102))
          refine r_ifb_ne (tgt := 62) hE dX11_readAll_57 (by decide) (fun c57 => ?_) (fun c57 => ?_)
          · have f4 := c57.1
            refine r_aload_n hE dX11_readAll_62 rfl ?_
            refine r_dup hE dX11_readAll_63 rfl ?_
            refine t_geti hE f_X11_99 y_I_169_6 dX11_readAll_64 (hL 169 (by decide)) ?_
            refine r_top (y := (nI (l_bl (D 172).1 e p102))) rfl ?_
            refine r_iconst (v := 1) hE dX11_readAll_67 (by decide) ?_
            refine r_iaddN (a := (l_bl (D 172).1 e p102)) (b := 1) hE dX11_readAll_68 ?_
            refine t_puti hE f_X11_99 y_I_169_6 dX11_readAll_69 (hL 169 (by decide)) rfl rfl ?_
            rw [m_P_6]
            refine r_iincN (a := i) (b := 1) (ls2 := [(0, .ref 169), (1, .int 1), (2, .int (nI (i + 1)))]) hE dX11_readAll_72 rfl rfl (by decide) rfl ?_
            refine r_goto (tgt := 19) hE dX11_readAll_75 (by decide) ?_
            exact ih (f - 1) (by omega) (f - 1) (i + 1) _ _ _ _ _ rfl (by omega) (by unfold l_bd; omega) (by rw [← hw, l_allk_t (by omega) hf102, if_neg c42, if_pos c57])
          · refine r_iconst (v := (-1)) hE dX11_readAll_60 (by decide) ?_
            refine r_ireturn hE dX11_readAll_61 rfl rfl (Nat.zero_le _) (Nat.zero_le _) ?_
            refine ⟨_, _, rfl, rfl, _, _, _, _, _, ?_, rfl, ?_⟩
            · rw [← hw, l_allk_t (by omega) hf102, if_neg c42, if_neg c57]
            · unfold l_bd
              omega
        · refine r_iload_n hE dX11_readAll_45 rfl ?_
          refine r_iconst (v := 1) hE dX11_readAll_46 (by decide) ?_
          refine r_iaddN (a := i) (b := 1) hE dX11_readAll_47 ?_
          refine r_ireturn hE dX11_readAll_48 rfl rfl (Nat.zero_le _) (Nat.zero_le _) ?_
          refine ⟨_, _, rfl, rfl, _, _, _, _, _, ?_, rfl, ?_⟩
          · rw [← hw, l_allk_t (by omega) hf102, if_pos c42]
          · unfold l_bd
            omega
      · refine r_iconst (v := (-1)) hE dX11_readAll_28 (by decide) ?_
        refine r_ireturn hE dX11_readAll_29 rfl rfl (Nat.zero_le _) (Nat.zero_le _) ?_
        have hk102 : ok102 = false := by revert c25; cases ok102 <;> simp
        subst hk102
        refine ⟨_, _, rfl, rfl, _, _, _, _, _, ?_, rfl, ?_⟩
        · rw [← hw, l_allk_f (by omega) hf102]
        · unfold l_bd
          omega
  refine r_aload_n hE dX11_readAll_0 rfl ?_
  refine t_invv (r := none) (S2 := (y_mk n L (m_P D (l_bl (D 172).1 e p) (l_bl (D 172).1 e p) g s W))) hE [] (c_blanks hL hen he (by omega)) v_yX11_blanks m_X11_112 dX11_readAll_1 rfl (hL 169 (by decide)) (y_l_169 ((m_P D p b g s W) 169)) rfl (by decide) ⟨Nat.le_refl _, Nat.le_refl _⟩ (Nat.le_of_ble_eq_true rfl) ?_
  show E 0 0 4 [(0, .ref 169), (1, .int 1)] [] (y_mk n L (m_P D (l_bl (D 172).1 e p) (l_bl (D 172).1 e p) g s W))
  refine r_aload_n hE dX11_readAll_4 rfl ?_
  refine t_geti hE f_X11_99 y_I_169_6 dX11_readAll_5 (hL 169 (by decide)) ?_
  refine r_top (y := (nI (l_bl (D 172).1 e p))) rfl ?_
  refine r_aload_n hE dX11_readAll_8 rfl ?_
  refine t_geti hE f_X11_96 y_I_169_7 dX11_readAll_9 (hL 169 (by decide)) ?_
  refine r_top (y := (nI e)) (show ((D 169).1 7 : Int32) = _ from hen) ?_
  refine r_icmp_neN (a := (l_bl (D 172).1 e p)) (b := e) (tgt := 17) hE dX11_readAll_12 (by decide) (by omega) (by omega) (fun c12 => ?_) (fun c12 => ?_)
  · refine r_iconst (v := 0) hE dX11_readAll_17 (by decide) ?_
    refine r_istore_n (ls2 := [(0, .ref 169), (1, .int 1), (2, .int 0)]) hE dX11_readAll_18 (by decide) rfl ?_
    exact l1 11 0 _ _ _ _ _ ⟨rfl, by omega⟩ (by unfold l_bd; omega) (by unfold l_all; rw [if_neg c12])
  · refine r_iconst (v := 0) hE dX11_readAll_15 (by decide) ?_
    refine r_ireturn hE dX11_readAll_16 rfl rfl (Nat.zero_le _) (Nat.zero_le _) ?_
    refine ⟨_, _, rfl, rfl, _, _, _, _, _, ?_, rfl, ?_⟩
    · unfold l_all
      rw [if_pos c12]
    · unfold l_bd
      omega
theorem c_readLine_0 {V : x_E} {n : Nat} {L : List Nat} {D : y_D} {i : Nat} (hi : i ≤ 10) {e p b g s : Nat} {W : Nat → Int32} (hV : y_V V) (hF : y_fm V) (hL : y_ok L) (hen : (D 169).1 7 = nI e) (he : e ≤ 400) (hp : p ≤ e) (hs : s ≤ p) : y_Ri V yX11_readLine cX11_readLine 5 (some .boolean) 30 [.ref 169, .int (nI i), .int 0] n L (m_P D p b g s W) (l_Rw D e (l_line (D 172).1 e (l_way (D 172).1 e) i) p b g s W) := by
  refine y_ri (by decide) (Nat.le_of_ble_eq_true rfl) (fun E hE => ?_)
  change E 0 0 0 [(0, .ref 169), (1, .int (nI i)), (2, .int 0)] [] (y_mk n L (m_P D p b g s W))
  have f1 := l_f (T := (D 172).1) hp
  refine r_aload_n hE dX11_readLine_0 rfl ?_
  refine t_invv (r := none) (S2 := (y_mk n L (m_P D (l_le (D 172).1 e p) (l_bl (D 172).1 e p) g s W))) hE [] (c_letters hL hen he (by omega)) v_yX11_letters m_X11_125 dX11_readLine_1 rfl (hL 169 (by decide)) (y_l_169 ((m_P D p b g s W) 169)) rfl (by decide) ⟨Nat.le_refl _, Nat.le_refl _⟩ (Nat.le_of_ble_eq_true rfl) ?_
  show E 0 0 4 [(0, .ref 169), (1, .int (nI i)), (2, .int 0)] [] (y_mk n L (m_P D (l_le (D 172).1 e p) (l_bl (D 172).1 e p) g s W))
  refine r_iload_n hE dX11_readLine_4 rfl ?_
  refine r_bipush (v := 10) hE dX11_readLine_5 (by decide) ?_
  refine r_icmp_neN (a := i) (b := 10) (tgt := 12) hE dX11_readLine_7 (by decide) (by omega) (by decide) (fun c7 => ?_) (fun c7 => ?_)
  · refine r_bipush (v := 10) hE dX11_readLine_12 (by decide) ?_
    refine r_iload_n hE dX11_readLine_14 rfl ?_
    refine t_invs (r := (some (.int (nI (237 + 851 * 10 + 1 + 5 * i))))) (S2 := (y_mk n L (m_P D (l_le (D 172).1 e p) (l_bl (D 172).1 e p) g s W))) hE [.int 10, .int (nI i)] (c_lineAt) s_yX11_lineAt m_X11_136 dX11_readLine_15 rfl (by decide) ⟨Nat.le_refl _, Nat.le_refl _⟩ (Nat.le_of_ble_eq_true rfl) ?_
    show E 0 0 18 [(0, .ref 169), (1, .int (nI i)), (2, .int 0)] [.int (nI (237 + 851 * 10 + 1 + 5 * i))] (y_mk n L (m_P D (l_le (D 172).1 e p) (l_bl (D 172).1 e p) g s W))
    refine r_istore_n (ls2 := [(0, .ref 169), (1, .int (nI i)), (2, .int 0), (3, .int (nI (237 + 851 * 10 + 1 + 5 * i)))]) hE dX11_readLine_18 (by decide) rfl ?_
    refine r_aload_n hE dX11_readLine_19 rfl ?_
    refine t_getr hE f_X11_13 y_R_169_1 dX11_readLine_20 (hL 169 (by decide)) ?_
    refine r_iload_n hE dX11_readLine_23 rfl ?_
    refine r_iconst (v := 1) hE dX11_readLine_24 (by decide) ?_
    refine r_iaddN (a := 237 + 851 * 10 + 1 + 5 * i) (b := 1) hE dX11_readLine_25 ?_
    refine r_iconst (v := 0) hE dX11_readLine_26 (by decide) ?_
    refine t_iastN (e := (237 + 851 * 10 + 1 + 5 * i) + 1) hE y_A_170 dX11_readLine_27 (hL 170 (by decide)) (by omega) (by decide) ?_
    rw [m_P_w]
    refine r_aload_n hE dX11_readLine_28 rfl ?_
    refine t_getr hE f_X11_13 y_R_169_1 dX11_readLine_29 (hL 169 (by decide)) ?_
    refine r_iload_n hE dX11_readLine_32 rfl ?_
    refine r_iconst (v := 2) hE dX11_readLine_33 (by decide) ?_
    refine r_iaddN (a := 237 + 851 * 10 + 1 + 5 * i) (b := 2) hE dX11_readLine_34 ?_
    refine r_iconst (v := 0) hE dX11_readLine_35 (by decide) ?_
    refine t_iastN (e := (237 + 851 * 10 + 1 + 5 * i) + 2) hE y_A_170 dX11_readLine_36 (hL 170 (by decide)) (by omega) (by decide) ?_
    rw [m_P_w]
    refine r_aload_n hE dX11_readLine_37 rfl ?_
    refine t_getr hE f_X11_13 y_R_169_1 dX11_readLine_38 (hL 169 (by decide)) ?_
    refine r_iload_n hE dX11_readLine_41 rfl ?_
    refine r_iconst (v := 3) hE dX11_readLine_42 (by decide) ?_
    refine r_iaddN (a := 237 + 851 * 10 + 1 + 5 * i) (b := 3) hE dX11_readLine_43 ?_
    refine r_aload_n hE dX11_readLine_44 rfl ?_
    refine t_geti hE f_X11_102 y_I_169_12 dX11_readLine_45 (hL 169 (by decide)) ?_
    refine r_top (y := (nI s)) rfl ?_
    refine t_iastN (e := (237 + 851 * 10 + 1 + 5 * i) + 3) hE y_A_170 dX11_readLine_48 (hL 170 (by decide)) (by omega) (by decide) ?_
    rw [m_P_w]
    refine r_iload_n hE dX11_readLine_49 rfl ?_
    refine r_if_eq (tgt := 61) hE dX11_readLine_50 (by decide) (fun _ => ?_) (fun c50 => by first | exact absurd c50 (by decide) | exact absurd (by decide) c50)
    refine r_aload_n hE dX11_readLine_61 rfl ?_
    refine r_iload_n hE dX11_readLine_62 rfl ?_
    refine t_invvRi hE [.int (nI (237 + 851 * 10 + 1 + 5 * i))] (c_readWay hV hF hL hen he (by omega) (by omega) (by omega) (by omega)) v_yX11_readWay m_X11_231 dX11_readLine_63 rfl (hL 169 (by decide)) (y_l_169 ((m_P D (l_le (D 172).1 e p) (l_bl (D 172).1 e p) g s (upd (upd (upd W ((237 + 851 * 10 + 1 + 5 * i) + 1) 0) ((237 + 851 * 10 + 1 + 5 * i) + 2) 0) ((237 + 851 * 10 + 1 + 5 * i) + 3) (nI s))) 169)) rfl (by decide) ⟨Nat.le_refl _, Nat.le_refl _⟩ (Nat.le_of_ble_eq_true rfl) (fun r103 E103 q103 => ?_)
    obtain ⟨ok103, p103, b103, g103, s103, W103, hf103, rfl, rfl, hb103⟩ := q103
    have hz103 := hb103.all
    show E 0 0 66 [(0, .ref 169), (1, .int (nI i)), (2, .int 0), (3, .int (nI (237 + 851 * 10 + 1 + 5 * i)))] [.int (y_b (ok103 = true))] (y_mk n L (m_P D p103 b103 g103 s103 W103))
    refine r_istore (ls2 := [(0, .ref 169), (1, .int (nI i)), (2, .int 0), (3, .int (nI (237 + 851 * 10 + 1 + 5 * i))), (4, .int (y_b (ok103 = true)))]) hE dX11_readLine_66 (by decide) rfl ?_
    refine r_aload_n hE dX11_readLine_68 rfl ?_
    refine t_getr hE f_X11_13 y_R_169_1 dX11_readLine_69 (hL 169 (by decide)) ?_
    refine r_iload_n hE dX11_readLine_72 rfl ?_
    refine r_iconst (v := 4) hE dX11_readLine_73 (by decide) ?_
    refine r_iaddN (a := 237 + 851 * 10 + 1 + 5 * i) (b := 4) hE dX11_readLine_74 ?_
    refine r_aload_n hE dX11_readLine_75 rfl ?_
    refine t_geti hE f_X11_102 y_I_169_12 dX11_readLine_76 (hL 169 (by decide)) ?_
    refine r_top (y := (nI s103)) rfl ?_
    refine t_iastN (e := (237 + 851 * 10 + 1 + 5 * i) + 4) hE y_A_170 dX11_readLine_79 (hL 170 (by decide)) (by omega) (by decide) ?_
    rw [m_P_w]
    refine r_iload hE dX11_readLine_80 rfl ?_
    refine r_ireturn hE dX11_readLine_82 rfl (by exact y_nb _) (Nat.zero_le _) (Nat.zero_le _) ?_
    refine ⟨_, _, rfl, rfl, ok103, _, _, _, _, _, ?_, rfl, rfl, ?_⟩
    · unfold l_line
      rw [if_neg c7, hf103]
      rfl
    · unfold l_bd
      omega
  · refine r_iconst (v := 0) hE dX11_readLine_10 (by decide) ?_
    refine r_ireturn hE dX11_readLine_11 rfl (by first | rfl | exact y_nb _) (Nat.zero_le _) (Nat.zero_le _) ?_
    refine ⟨_, _, rfl, rfl, false, _, _, _, _, _, ?_, by decide, rfl, ?_⟩
    · unfold l_line
      rw [if_pos c7]
    · unfold l_bd
      omega
theorem c_readAll_0 {V : x_E} {n : Nat} {L : List Nat} {D : y_D} {e p b g s : Nat} {W : Nat → Int32} (hV : y_V V) (hF : y_fm V) (hL : y_ok L) (hen : (D 169).1 7 = nI e) (he : e ≤ 400) (hp : p ≤ e) (hs : s ≤ p) : y_Ri V yX11_readAll cX11_readAll 3 (some .int) 31 [.ref 169, .int 0] n L (m_P D p b g s W) (l_Ra D e (l_all (D 172).1 e (l_way (D 172).1 e)) p b g s W) := by
  refine y_ri (by decide) (Nat.le_of_ble_eq_true rfl) (fun E hE => ?_)
  change E 0 0 0 [(0, .ref 169), (1, .int 0)] [] (y_mk n L (m_P D p b g s W))
  have f0 := l_f (T := (D 172).1) hp
  have l1 : ∀ (f i p9 b9 g9 s9 : Nat) (W9 : Nat → Int32), f + i = 11 ∧ 1 ≤ f → l_bd e p s p9 s9 → l_allk (D 172).1 e (l_way (D 172).1 e) f i p9 b9 g9 s9 W9 = l_all (D 172).1 e (l_way (D 172).1 e) p b g s W → E 0 0 19 [(0, .ref 169), (1, .int 0), (2, .int (nI i))] [] (y_mk n L (m_P D p9 b9 g9 s9 W9)) := by
    intro f i p9 b9 g9 s9 W9
    induction hm9 : (f) using Nat.strongRecOn generalizing f i p9 b9 g9 s9 W9 with
    | _ m9 ih =>
      intro hfi hb9 hw
      subst hm9
      have f1 := hb9.all
      refine r_aload_n hE dX11_readAll_19 rfl ?_
      refine r_iload_n hE dX11_readAll_20 rfl ?_
      refine r_iload_n hE dX11_readAll_21 rfl ?_
      refine t_invvRi hE [.int (nI i), .int 0] (c_readLine_0 (by omega) hV hF hL hen he (by omega) (by omega)) v_yX11_readLine m_X11_234 dX11_readAll_22 rfl (hL 169 (by decide)) (y_l_169 ((m_P D p9 b9 g9 s9 W9) 169)) rfl (by decide) ⟨Nat.le_refl _, Nat.le_refl _⟩ (Nat.le_of_ble_eq_true rfl) (fun r104 E104 q104 => ?_)
      obtain ⟨ok104, p104, b104, g104, s104, W104, hf104, rfl, rfl, hb104⟩ := q104
      have hz104 := hb104.all
      show E 0 0 25 [(0, .ref 169), (1, .int 0), (2, .int (nI i))] [.int (y_b (ok104 = true))] (y_mk n L (m_P D p104 b104 g104 s104 W104))
      refine r_ifb_ne (tgt := 30) hE dX11_readAll_25 (by decide) (fun c25 => ?_) (fun c25 => ?_)
      · have hk104 : ok104 = true := c25
        subst hk104
        have hi10 : i ≠ 10 := fun c => by
          subst c
          rw [l_line10] at hf104
          exact Bool.noConfusion (show false = true from congrArg Prod.fst hf104)
        have f3 := l_f (T := (D 172).1) hz104.2.1
        refine r_aload_n hE dX11_readAll_30 rfl ?_
        refine t_invv (r := none) (S2 := (y_mk n L (m_P D (l_bl (D 172).1 e p104) (l_bl (D 172).1 e p104) g104 s104 W104))) hE [] (c_blanks hL hen he (by omega)) v_yX11_blanks m_X11_112 dX11_readAll_31 rfl (hL 169 (by decide)) (y_l_169 ((m_P D p104 b104 g104 s104 W104) 169)) rfl (by decide) ⟨Nat.le_refl _, Nat.le_refl _⟩ (Nat.le_of_ble_eq_true rfl) ?_
        show E 0 0 34 [(0, .ref 169), (1, .int 0), (2, .int (nI i))] [] (y_mk n L (m_P D (l_bl (D 172).1 e p104) (l_bl (D 172).1 e p104) g104 s104 W104))
        refine r_aload_n hE dX11_readAll_34 rfl ?_
        refine t_geti hE f_X11_99 y_I_169_6 dX11_readAll_35 (hL 169 (by decide)) ?_
        refine r_top (y := (nI (l_bl (D 172).1 e p104))) rfl ?_
        refine r_aload_n hE dX11_readAll_38 rfl ?_
        refine t_geti hE f_X11_96 y_I_169_7 dX11_readAll_39 (hL 169 (by decide)) ?_
        refine r_top (y := (nI e)) (show ((D 169).1 7 : Int32) = _ from hen) ?_
        refine r_icmp_neN (a := (l_bl (D 172).1 e p104)) (b := e) (tgt := 49) hE dX11_readAll_42 (by decide) (by omega) (by omega) (fun c42 => ?_) (fun c42 => ?_)
        · refine r_aload_n hE dX11_readAll_49 rfl ?_
          refine r_bipush (v := 59) hE dX11_readAll_50 (by decide) ?_
          refine r_bipush (v := 59) hE dX11_readAll_52 (by decide) ?_
          refine t_invv (r := (some (.int (y_b ((l_bl (D 172).1 e p104) < e ∧ 59 ≤ (D 172).1 (l_bl (D 172).1 e p104) ∧ (D 172).1 (l_bl (D 172).1 e p104) ≤ 59))))) (S2 := (y_mk n L (m_P D (l_bl (D 172).1 e p104) (l_bl (D 172).1 e p104) g104 s104 W104))) hE [.int 59, .int 59] (c_isAt (e := e) (p := (l_bl (D 172).1 e p104)) hL hen he (by omega)) v_yX11_isAt m_X11_105 dX11_readAll_54 rfl (hL 169 (by decide)) (y_l_169 ((m_P D (l_bl (D 172).1 e p104) (l_bl (D 172).1 e p104) g104 s104 W104) 169)) rfl (by decide) ⟨Nat.le_refl _, Nat.le_refl _⟩ (Nat.le_of_ble_eq_true rfl) ?_
          show E 0 0 57 [(0, .ref 169), (1, .int 0), (2, .int (nI i))] [.int (y_b ((l_bl (D 172).1 e p104) < e ∧ 59 ≤ (D 172).1 (l_bl (D 172).1 e p104) ∧ (D 172).1 (l_bl (D 172).1 e p104) ≤ 59))] (y_mk n L (m_P D (l_bl (D 172).1 e p104) (l_bl (D 172).1 e p104) g104 s104 W104))
          refine r_ifb_ne (tgt := 62) hE dX11_readAll_57 (by decide) (fun c57 => ?_) (fun c57 => ?_)
          · have f4 := c57.1
            refine r_aload_n hE dX11_readAll_62 rfl ?_
            refine r_dup hE dX11_readAll_63 rfl ?_
            refine t_geti hE f_X11_99 y_I_169_6 dX11_readAll_64 (hL 169 (by decide)) ?_
            refine r_top (y := (nI (l_bl (D 172).1 e p104))) rfl ?_
            refine r_iconst (v := 1) hE dX11_readAll_67 (by decide) ?_
            refine r_iaddN (a := (l_bl (D 172).1 e p104)) (b := 1) hE dX11_readAll_68 ?_
            refine t_puti hE f_X11_99 y_I_169_6 dX11_readAll_69 (hL 169 (by decide)) rfl rfl ?_
            rw [m_P_6]
            refine r_iincN (a := i) (b := 1) (ls2 := [(0, .ref 169), (1, .int 0), (2, .int (nI (i + 1)))]) hE dX11_readAll_72 rfl rfl (by decide) rfl ?_
            refine r_goto (tgt := 19) hE dX11_readAll_75 (by decide) ?_
            exact ih (f - 1) (by omega) (f - 1) (i + 1) _ _ _ _ _ rfl (by omega) (by unfold l_bd; omega) (by rw [← hw, l_allk_t (by omega) hf104, if_neg c42, if_pos c57])
          · refine r_iconst (v := (-1)) hE dX11_readAll_60 (by decide) ?_
            refine r_ireturn hE dX11_readAll_61 rfl rfl (Nat.zero_le _) (Nat.zero_le _) ?_
            refine ⟨_, _, rfl, rfl, _, _, _, _, _, ?_, rfl, ?_⟩
            · rw [← hw, l_allk_t (by omega) hf104, if_neg c42, if_neg c57]
            · unfold l_bd
              omega
        · refine r_iload_n hE dX11_readAll_45 rfl ?_
          refine r_iconst (v := 1) hE dX11_readAll_46 (by decide) ?_
          refine r_iaddN (a := i) (b := 1) hE dX11_readAll_47 ?_
          refine r_ireturn hE dX11_readAll_48 rfl rfl (Nat.zero_le _) (Nat.zero_le _) ?_
          refine ⟨_, _, rfl, rfl, _, _, _, _, _, ?_, rfl, ?_⟩
          · rw [← hw, l_allk_t (by omega) hf104, if_pos c42]
          · unfold l_bd
            omega
      · refine r_iconst (v := (-1)) hE dX11_readAll_28 (by decide) ?_
        refine r_ireturn hE dX11_readAll_29 rfl rfl (Nat.zero_le _) (Nat.zero_le _) ?_
        have hk104 : ok104 = false := by revert c25; cases ok104 <;> simp
        subst hk104
        refine ⟨_, _, rfl, rfl, _, _, _, _, _, ?_, rfl, ?_⟩
        · rw [← hw, l_allk_f (by omega) hf104]
        · unfold l_bd
          omega
  refine r_aload_n hE dX11_readAll_0 rfl ?_
  refine t_invv (r := none) (S2 := (y_mk n L (m_P D (l_bl (D 172).1 e p) (l_bl (D 172).1 e p) g s W))) hE [] (c_blanks hL hen he (by omega)) v_yX11_blanks m_X11_112 dX11_readAll_1 rfl (hL 169 (by decide)) (y_l_169 ((m_P D p b g s W) 169)) rfl (by decide) ⟨Nat.le_refl _, Nat.le_refl _⟩ (Nat.le_of_ble_eq_true rfl) ?_
  show E 0 0 4 [(0, .ref 169), (1, .int 0)] [] (y_mk n L (m_P D (l_bl (D 172).1 e p) (l_bl (D 172).1 e p) g s W))
  refine r_aload_n hE dX11_readAll_4 rfl ?_
  refine t_geti hE f_X11_99 y_I_169_6 dX11_readAll_5 (hL 169 (by decide)) ?_
  refine r_top (y := (nI (l_bl (D 172).1 e p))) rfl ?_
  refine r_aload_n hE dX11_readAll_8 rfl ?_
  refine t_geti hE f_X11_96 y_I_169_7 dX11_readAll_9 (hL 169 (by decide)) ?_
  refine r_top (y := (nI e)) (show ((D 169).1 7 : Int32) = _ from hen) ?_
  refine r_icmp_neN (a := (l_bl (D 172).1 e p)) (b := e) (tgt := 17) hE dX11_readAll_12 (by decide) (by omega) (by omega) (fun c12 => ?_) (fun c12 => ?_)
  · refine r_iconst (v := 0) hE dX11_readAll_17 (by decide) ?_
    refine r_istore_n (ls2 := [(0, .ref 169), (1, .int 0), (2, .int 0)]) hE dX11_readAll_18 (by decide) rfl ?_
    exact l1 11 0 _ _ _ _ _ ⟨rfl, by omega⟩ (by unfold l_bd; omega) (by unfold l_all; rw [if_neg c12])
  · refine r_iconst (v := 0) hE dX11_readAll_15 (by decide) ?_
    refine r_ireturn hE dX11_readAll_16 rfl rfl (Nat.zero_le _) (Nat.zero_le _) ?_
    refine ⟨_, _, rfl, rfl, _, _, _, _, _, ?_, rfl, ?_⟩
    · unfold l_all
      rw [if_pos c12]
    · unfold l_bd
      omega

/-! the reference's reader: LINES -/
/-- what a piece of the reader answers: as F says; the depth aside -/
def l_Rw (D : y_D) (e : Nat) (F : l_F) (p b g s : Nat) (W : Nat → Int32) (v : Int32) (D2 : y_D) : Prop := ∃ (ok : Bool) (p2 b2 g2 s2 : Nat) (W2 : Nat → Int32), F p b g s W = (ok, p2, b2, g2, s2, W2) ∧ v = y_b (ok = true) ∧ D2 = m_P D p2 b2 g2 s2 W2 ∧ l_bd e p s p2 s2
theorem c_tellsP {V : x_E} {n : Nat} {L : List Nat} {D : y_D} {p b g s k : Nat} {W : Nat → Int32} {v : Int32} (hL : y_ok L) (hk : k < 9598) : x_Fn V yX11_tells cX11_tells 3 (some .boolean) 0 [.ref 169, .int (nI k), .int v] (y_mk n L (m_P D p b g s W)) (some (.int (y_b (0 ≤ v)))) (y_mk n L (m_P D p b g s (upd W k v))) := by
  rw [← m_P_w]
  exact c_tells hL hk
theorem l_nv_n {T : Nat → Int32} {e lo hi p : Nat} (hh : hi < 1000) : l_nv T e lo hi p = -1 ∨ ∃ a, l_nv T e lo hi p = nI a ∧ lo ≤ a ∧ a ≤ hi := by
  unfold l_nv
  split
  · exact Or.inl rfl
  · exact Or.inr ⟨_, rfl, by omega, by omega⟩
theorem l_nv_p {T : Nat → Int32} {e lo hi p : Nat} (hh : hi < 1000) (h : 0 ≤ l_nv T e lo hi p) : l_nv T e lo hi p = nI (l_nv T e lo hi p).toNatClampNeg ∧ (l_nv T e lo hi p).toNatClampNeg ≤ hi := by
  rcases l_nv_n (T := T) (e := e) (lo := lo) (p := p) hh with h1 | ⟨a, h1, h2, h3⟩
  · rw [h1] at h; exact absurd h (by decide)
  · rw [h1, nI_clamp (by omega)]; exact ⟨rfl, h3⟩
theorem y_upds {f : Nat → Int32} {i : Nat} {v : Int32} : upd f i v i = v := by unfold upd; rw [if_pos rfl]
/-- a LINE of a RULE at the place k -/
def l_rule (T : Nat → Int32) (e k : Nat) : l_F := fun p b g s W =>
  if l_w T b p 6 then
    (if ¬ 0 ≤ l_nv T e 0 3 p then (false, l_di T e p, l_bl T e p, g, s, upd (upd W k 0) (k + 1) (l_nv T e 0 3 p))
     else if l_w T (l_bl T e (l_di T e p)) (l_le T e (l_di T e p)) 10 then (if 0 ≤ l_nv T e 1 7 (l_le T e (l_di T e p)) then (true, l_di T e (l_le T e (l_di T e p)), l_bl T e (l_le T e (l_di T e p)), g, s, upd (upd (upd W k 0) (k + 1) (l_nv T e 0 3 p)) (k + 2) (l_nv T e 1 7 (l_le T e (l_di T e p)))) else (false, l_di T e (l_le T e (l_di T e p)), l_bl T e (l_le T e (l_di T e p)), g, s, upd (upd (upd W k 0) (k + 1) (l_nv T e 0 3 p)) (k + 2) (l_nv T e 1 7 (l_le T e (l_di T e p)))))
     else (false, l_le T e (l_di T e p), l_bl T e (l_di T e p), g, s, upd (upd W k 0) (k + 1) (l_nv T e 0 3 p)))
  else if l_w T b p 7 then
    (if ¬ 0 ≤ l_nv T e 0 3 p then (false, l_di T e p, l_bl T e p, g, s, upd (upd W k 1) (k + 1) (l_nv T e 0 3 p))
     else (decide (0 ≤ l_nv T e 0 99 (l_di T e p)), l_di T e (l_di T e p), l_bl T e (l_di T e p), g, s, upd (upd (upd W k 1) (k + 1) (l_nv T e 0 3 p)) (k + 2) (l_nv T e 0 99 (l_di T e p))))
  else if l_w T b p 8 then
    (if ¬ 0 ≤ l_nv T e 0 300 p then (false, l_di T e p, l_bl T e p, g, s, upd (upd W k 2) (k + 1) (l_nv T e 0 300 p))
     else if l_w T (l_bl T e (l_di T e p)) (l_le T e (l_di T e p)) 11 then (if 0 ≤ l_nv T e (l_nv T e 0 300 p).toNatClampNeg 300 (l_le T e (l_di T e p)) then (true, l_di T e (l_le T e (l_di T e p)), l_bl T e (l_le T e (l_di T e p)), g, s, upd (upd (upd W k 2) (k + 1) (l_nv T e 0 300 p)) (k + 2) (l_nv T e (l_nv T e 0 300 p).toNatClampNeg 300 (l_le T e (l_di T e p)))) else (false, l_di T e (l_le T e (l_di T e p)), l_bl T e (l_le T e (l_di T e p)), g, s, upd (upd (upd W k 2) (k + 1) (l_nv T e 0 300 p)) (k + 2) (l_nv T e (l_nv T e 0 300 p).toNatClampNeg 300 (l_le T e (l_di T e p)))))
     else (false, l_le T e (l_di T e p), l_bl T e (l_di T e p), g, s, upd (upd W k 2) (k + 1) (l_nv T e 0 300 p)))
  else if l_w T b p 9 then (decide (0 ≤ l_nv T e 1 300 p), l_di T e p, l_bl T e p, g, s, upd (upd W k 3) (k + 1) (l_nv T e 1 300 p))
  else (false, p, b, g, s, upd W k (-1))
/-- a LINE of a WAY at the place k -/
def l_way (T : Nat → Int32) (e k : Nat) : l_F := fun p b g s W =>
  if l_w T b p 12 then (decide (0 ≤ l_nv T e 0 3 p), l_di T e p, l_bl T e p, 0, s, upd (upd W k 0) (k + 1) (l_nv T e 0 3 p))
  else if l_w T b p 13 then (decide (0 ≤ l_nv T e 1 60 p), l_di T e p, l_bl T e p, 0, s, upd (upd W k 1) (k + 1) (l_nv T e 1 60 p))
  else if l_w T b p 14 then (decide (0 ≤ l_nv T e 1 9 p), l_di T e p, l_bl T e p, 0, s, upd (upd W k 2) (k + 1) (l_nv T e 1 9 p))
  else if l_w T b p 15 then l_cond T e (l_at T e 7) p b 0 s (upd W k 3)
  else (false, p, b, g, s, upd W k (-1))
theorem c_readRule {V : x_E} {n : Nat} {L : List Nat} {D : y_D} {e p b g s k : Nat} {W : Nat → Int32} (hV : y_V V) (hF : y_fm V) (hL : y_ok L) (hen : (D 169).1 7 = nI e) (he : e ≤ 400) (hp : p ≤ e) (hs : s ≤ p) (hb : b ≤ p) (hk : k < 9500) : y_Ri V yX11_readRule cX11_readRule 3 (some .boolean) 6 [.ref 169, .int (nI k)] n L (m_P D p b g s W) (l_Rw D e (l_rule (D 172).1 e k) p b g s W) := by
  refine y_ri (by decide) (Nat.le_of_ble_eq_true rfl) (fun E hE => ?_)
  change E 0 0 0 [(0, .ref 169), (1, .int (nI k))] [] (y_mk n L (m_P D p b g s W))
  have f1 := l_f (T := (D 172).1) hp
  have f2 := l_f (T := (D 172).1) f1.2.2.2.2
  have f3 := l_f (T := (D 172).1) f2.2.2.1
  refine r_aload_n hE dX11_readRule_0 rfl ?_
  refine r_ldcS (h := 6) hE (by decide) (sr_205 hV) dX11_readRule_1 ?_
  refine t_invv (r := (some (.int (y_b (l_w (D 172).1 b p 6))))) (S2 := (y_mk n L (m_P D p b g s W))) hE [.ref 6] (c_isWord (i := 6) hV hF (by decide) hL hen he (by omega) (by omega)) v_yX11_isWord m_X11_128 dX11_readRule_3 rfl (hL 169 (by decide)) (y_l_169 ((m_P D p b g s W) 169)) rfl (by decide) ⟨Nat.le_refl _, Nat.le_refl _⟩ (Nat.le_of_ble_eq_true rfl) ?_
  show E 0 0 6 [(0, .ref 169), (1, .int (nI k))] [.int (y_b (l_w (D 172).1 b p 6))] (y_mk n L (m_P D p b g s W))
  refine r_ifb_eq (tgt := 13) hE dX11_readRule_6 (by decide) (fun c6 => ?_) (fun c6 => ?_)
  · refine r_aload_n hE dX11_readRule_13 rfl ?_
    refine r_ldcS (h := 7) hE (by decide) (sr_207 hV) dX11_readRule_14 ?_
    refine t_invv (r := (some (.int (y_b (l_w (D 172).1 b p 7))))) (S2 := (y_mk n L (m_P D p b g s W))) hE [.ref 7] (c_isWord (i := 7) hV hF (by decide) hL hen he (by omega) (by omega)) v_yX11_isWord m_X11_128 dX11_readRule_16 rfl (hL 169 (by decide)) (y_l_169 ((m_P D p b g s W) 169)) rfl (by decide) ⟨Nat.le_refl _, Nat.le_refl _⟩ (Nat.le_of_ble_eq_true rfl) ?_
    show E 0 0 19 [(0, .ref 169), (1, .int (nI k))] [.int (y_b (l_w (D 172).1 b p 7))] (y_mk n L (m_P D p b g s W))
    refine r_ifb_eq (tgt := 26) hE dX11_readRule_19 (by decide) (fun c19 => ?_) (fun c19 => ?_)
    · refine r_aload_n hE dX11_readRule_26 rfl ?_
      refine r_ldcS (h := 8) hE (by decide) (sr_208 hV) dX11_readRule_27 ?_
      refine t_invv (r := (some (.int (y_b (l_w (D 172).1 b p 8))))) (S2 := (y_mk n L (m_P D p b g s W))) hE [.ref 8] (c_isWord (i := 8) hV hF (by decide) hL hen he (by omega) (by omega)) v_yX11_isWord m_X11_128 dX11_readRule_29 rfl (hL 169 (by decide)) (y_l_169 ((m_P D p b g s W) 169)) rfl (by decide) ⟨Nat.le_refl _, Nat.le_refl _⟩ (Nat.le_of_ble_eq_true rfl) ?_
      show E 0 0 32 [(0, .ref 169), (1, .int (nI k))] [.int (y_b (l_w (D 172).1 b p 8))] (y_mk n L (m_P D p b g s W))
      refine r_ifb_eq (tgt := 39) hE dX11_readRule_32 (by decide) (fun c32 => ?_) (fun c32 => ?_)
      · refine r_aload_n hE dX11_readRule_39 rfl ?_
        refine r_ldcS (h := 9) hE (by decide) (sr_209 hV) dX11_readRule_40 ?_
        refine t_invv (r := (some (.int (y_b (l_w (D 172).1 b p 9))))) (S2 := (y_mk n L (m_P D p b g s W))) hE [.ref 9] (c_isWord (i := 9) hV hF (by decide) hL hen he (by omega) (by omega)) v_yX11_isWord m_X11_128 dX11_readRule_42 rfl (hL 169 (by decide)) (y_l_169 ((m_P D p b g s W) 169)) rfl (by decide) ⟨Nat.le_refl _, Nat.le_refl _⟩ (Nat.le_of_ble_eq_true rfl) ?_
        show E 0 0 45 [(0, .ref 169), (1, .int (nI k))] [.int (y_b (l_w (D 172).1 b p 9))] (y_mk n L (m_P D p b g s W))
        refine r_ifb_eq (tgt := 52) hE dX11_readRule_45 (by decide) (fun c45 => ?_) (fun c45 => ?_)
        · refine r_iconst (v := (-1)) hE dX11_readRule_52 (by decide) ?_
          refine r_istore_n (ls2 := [(0, .ref 169), (1, .int (nI k)), (2, .int (-1))]) hE dX11_readRule_53 (by decide) rfl ?_
          refine r_aload_n hE dX11_readRule_54 rfl ?_
          refine t_getr hE f_X11_13 y_R_169_1 dX11_readRule_55 (hL 169 (by decide)) ?_
          refine r_iload_n hE dX11_readRule_58 rfl ?_
          refine r_iload_n hE dX11_readRule_59 rfl ?_
          refine t_iastN (e := k) hE y_A_170 dX11_readRule_60 (hL 170 (by decide)) (by omega) (by decide) ?_
          rw [m_P_w]
          refine r_iload_n hE dX11_readRule_61 rfl ?_
          refine r_if_ge (tgt := 67) hE dX11_readRule_62 (by decide) (fun c62 => by first | exact absurd c62 (by decide) | exact absurd (by decide) c62) (fun _ => ?_)
          refine r_iconst (v := 0) hE dX11_readRule_65 (by decide) ?_
          refine r_ireturn hE dX11_readRule_66 rfl (by first | rfl | exact y_nb _) (Nat.zero_le _) (Nat.zero_le _) ?_
          refine ⟨_, _, rfl, rfl, false, _, _, _, _, _, ?_, by decide, rfl, ?_⟩
          · unfold l_rule
            rw [if_neg c6, if_neg c19, if_neg c32, if_neg c45]
          · unfold l_bd
            omega
        · refine r_iconst (v := 3) hE dX11_readRule_48 (by decide) ?_
          refine r_goto (tgt := 53) hE dX11_readRule_49 (by decide) ?_
          refine r_istore_n (ls2 := [(0, .ref 169), (1, .int (nI k)), (2, .int 3)]) hE dX11_readRule_53 (by decide) rfl ?_
          refine r_aload_n hE dX11_readRule_54 rfl ?_
          refine t_getr hE f_X11_13 y_R_169_1 dX11_readRule_55 (hL 169 (by decide)) ?_
          refine r_iload_n hE dX11_readRule_58 rfl ?_
          refine r_iload_n hE dX11_readRule_59 rfl ?_
          refine t_iastN (e := k) hE y_A_170 dX11_readRule_60 (hL 170 (by decide)) (by omega) (by decide) ?_
          rw [m_P_w]
          refine r_iload_n hE dX11_readRule_61 rfl ?_
          refine r_if_ge (tgt := 67) hE dX11_readRule_62 (by decide) (fun _ => ?_) (fun c62 => by first | exact absurd c62 (by decide) | exact absurd (by decide) c62)
          refine r_iload_n hE dX11_readRule_67 rfl ?_
          refine r_iconst (v := 3) hE dX11_readRule_68 (by decide) ?_
          refine r_icmp_ne (tgt := 88) hE dX11_readRule_69 (by decide) (fun c69 => by first | exact absurd c69 (by decide) | exact absurd (by decide) c69) (fun _ => ?_)
          refine r_aload_n hE dX11_readRule_72 rfl ?_
          refine r_iload_n hE dX11_readRule_73 rfl ?_
          refine r_iconst (v := 1) hE dX11_readRule_74 (by decide) ?_
          refine r_iaddN (a := k) (b := 1) hE dX11_readRule_75 ?_
          refine r_aload_n hE dX11_readRule_76 rfl ?_
          refine r_iconst (v := 1) hE dX11_readRule_77 (by decide) ?_
          refine r_sipush (v := 300) hE dX11_readRule_78 (by decide) ?_
          refine t_invv (r := (some (.int (l_nv (D 172).1 e 1 300 p)))) (S2 := (y_mk n L (m_P D (l_di (D 172).1 e p) (l_bl (D 172).1 e p) g s (upd W k 3)))) hE [.int 1, .int 300] (c_number (lo := 1) (hi := 300) (by first | decide | omega) (by decide) hL hen he (by omega)) v_yX11_number m_X11_140 dX11_readRule_81 rfl (hL 169 (by decide)) (y_l_169 ((m_P D p b g s (upd W k 3)) 169)) rfl (by decide) ⟨Nat.le_refl _, Nat.le_refl _⟩ (Nat.le_of_ble_eq_true rfl) ?_
          show E 0 0 84 [(0, .ref 169), (1, .int (nI k)), (2, .int 3)] [.int (l_nv (D 172).1 e 1 300 p), .int (nI (k + 1)), .ref 169] (y_mk n L (m_P D (l_di (D 172).1 e p) (l_bl (D 172).1 e p) g s (upd W k 3)))
          refine t_invv (r := (some (.int (y_b (0 ≤ (l_nv (D 172).1 e 1 300 p)))))) (S2 := (y_mk n L (m_P D (l_di (D 172).1 e p) (l_bl (D 172).1 e p) g s (upd (upd W k 3) (k + 1) (l_nv (D 172).1 e 1 300 p))))) hE [.int (nI (k + 1)), .int (l_nv (D 172).1 e 1 300 p)] (c_tellsP (k := k + 1) hL (by omega)) v_yX11_tells m_X11_211 dX11_readRule_84 rfl (hL 169 (by decide)) (y_l_169 ((m_P D (l_di (D 172).1 e p) (l_bl (D 172).1 e p) g s (upd W k 3)) 169)) rfl (by decide) ⟨Nat.le_refl _, Nat.le_refl _⟩ (Nat.le_of_ble_eq_true rfl) ?_
          show E 0 0 87 [(0, .ref 169), (1, .int (nI k)), (2, .int 3)] [.int (y_b (0 ≤ (l_nv (D 172).1 e 1 300 p)))] (y_mk n L (m_P D (l_di (D 172).1 e p) (l_bl (D 172).1 e p) g s (upd (upd W k 3) (k + 1) (l_nv (D 172).1 e 1 300 p))))
          refine r_ireturn hE dX11_readRule_87 rfl (by exact y_nb _) (Nat.zero_le _) (Nat.zero_le _) ?_
          refine ⟨_, _, rfl, rfl, _, _, _, _, _, _, ?_, y_b_dec, rfl, ?_⟩
          · unfold l_rule
            rw [if_neg c6, if_neg c19, if_neg c32, if_pos c45]
          · unfold l_bd
            omega
      · refine r_iconst (v := 2) hE dX11_readRule_35 (by decide) ?_
        refine r_goto (tgt := 53) hE dX11_readRule_36 (by decide) ?_
        refine r_istore_n (ls2 := [(0, .ref 169), (1, .int (nI k)), (2, .int 2)]) hE dX11_readRule_53 (by decide) rfl ?_
        refine r_aload_n hE dX11_readRule_54 rfl ?_
        refine t_getr hE f_X11_13 y_R_169_1 dX11_readRule_55 (hL 169 (by decide)) ?_
        refine r_iload_n hE dX11_readRule_58 rfl ?_
        refine r_iload_n hE dX11_readRule_59 rfl ?_
        refine t_iastN (e := k) hE y_A_170 dX11_readRule_60 (hL 170 (by decide)) (by omega) (by decide) ?_
        rw [m_P_w]
        refine r_iload_n hE dX11_readRule_61 rfl ?_
        refine r_if_ge (tgt := 67) hE dX11_readRule_62 (by decide) (fun _ => ?_) (fun c62 => by first | exact absurd c62 (by decide) | exact absurd (by decide) c62)
        refine r_iload_n hE dX11_readRule_67 rfl ?_
        refine r_iconst (v := 3) hE dX11_readRule_68 (by decide) ?_
        refine r_icmp_ne (tgt := 88) hE dX11_readRule_69 (by decide) (fun _ => ?_) (fun c69 => by first | exact absurd c69 (by decide) | exact absurd (by decide) c69)
        refine r_aload_n hE dX11_readRule_88 rfl ?_
        refine r_iload_n hE dX11_readRule_89 rfl ?_
        refine r_iconst (v := 1) hE dX11_readRule_90 (by decide) ?_
        refine r_iaddN (a := k) (b := 1) hE dX11_readRule_91 ?_
        refine r_aload_n hE dX11_readRule_92 rfl ?_
        refine r_iconst (v := 0) hE dX11_readRule_93 (by decide) ?_
        refine r_iload_n hE dX11_readRule_94 rfl ?_
        refine r_iconst (v := 2) hE dX11_readRule_95 (by decide) ?_
        refine r_icmp_ne (tgt := 105) hE dX11_readRule_96 (by decide) (fun c96 => by first | exact absurd c96 (by decide) | exact absurd (by decide) c96) (fun _ => ?_)
        refine r_sipush (v := 300) hE dX11_readRule_99 (by decide) ?_
        refine r_goto (tgt := 106) hE dX11_readRule_102 (by decide) ?_
        refine t_invv (r := (some (.int (l_nv (D 172).1 e 0 300 p)))) (S2 := (y_mk n L (m_P D (l_di (D 172).1 e p) (l_bl (D 172).1 e p) g s (upd W k 2)))) hE [.int 0, .int 300] (c_number (lo := 0) (hi := 300) (by first | decide | omega) (by decide) hL hen he (by omega)) v_yX11_number m_X11_140 dX11_readRule_106 rfl (hL 169 (by decide)) (y_l_169 ((m_P D p b g s (upd W k 2)) 169)) rfl (by decide) ⟨Nat.le_refl _, Nat.le_refl _⟩ (Nat.le_of_ble_eq_true rfl) ?_
        show E 0 0 109 [(0, .ref 169), (1, .int (nI k)), (2, .int 2)] [.int (l_nv (D 172).1 e 0 300 p), .int (nI (k + 1)), .ref 169] (y_mk n L (m_P D (l_di (D 172).1 e p) (l_bl (D 172).1 e p) g s (upd W k 2)))
        refine t_invv (r := (some (.int (y_b (0 ≤ (l_nv (D 172).1 e 0 300 p)))))) (S2 := (y_mk n L (m_P D (l_di (D 172).1 e p) (l_bl (D 172).1 e p) g s (upd (upd W k 2) (k + 1) (l_nv (D 172).1 e 0 300 p))))) hE [.int (nI (k + 1)), .int (l_nv (D 172).1 e 0 300 p)] (c_tellsP (k := k + 1) hL (by omega)) v_yX11_tells m_X11_211 dX11_readRule_109 rfl (hL 169 (by decide)) (y_l_169 ((m_P D (l_di (D 172).1 e p) (l_bl (D 172).1 e p) g s (upd W k 2)) 169)) rfl (by decide) ⟨Nat.le_refl _, Nat.le_refl _⟩ (Nat.le_of_ble_eq_true rfl) ?_
        show E 0 0 112 [(0, .ref 169), (1, .int (nI k)), (2, .int 2)] [.int (y_b (0 ≤ (l_nv (D 172).1 e 0 300 p)))] (y_mk n L (m_P D (l_di (D 172).1 e p) (l_bl (D 172).1 e p) g s (upd (upd W k 2) (k + 1) (l_nv (D 172).1 e 0 300 p))))
        refine r_ifb_ne (tgt := 117) hE dX11_readRule_112 (by decide) (fun c112 => ?_) (fun c112 => ?_)
        · refine r_iload_n hE dX11_readRule_117 rfl ?_
          refine r_iconst (v := 1) hE dX11_readRule_118 (by decide) ?_
          refine r_icmp_ne (tgt := 137) hE dX11_readRule_119 (by decide) (fun _ => ?_) (fun c119 => by first | exact absurd c119 (by decide) | exact absurd (by decide) c119)
          refine r_iload_n hE dX11_readRule_137 rfl ?_
          refine r_if_ne (tgt := 173) hE dX11_readRule_138 (by decide) (fun _ => ?_) (fun c138 => by first | exact absurd c138 (by decide) | exact absurd (by decide) c138)
          refine r_aload_n hE dX11_readRule_173 rfl ?_
          refine r_ldcS (h := 11) hE (by decide) (sr_218 hV) dX11_readRule_174 ?_
          refine t_invv (r := (some (.int (y_b (l_w (D 172).1 (l_bl (D 172).1 e (l_di (D 172).1 e p)) (l_le (D 172).1 e (l_di (D 172).1 e p)) 11))))) (S2 := (y_mk n L (m_P D (l_le (D 172).1 e (l_di (D 172).1 e p)) (l_bl (D 172).1 e (l_di (D 172).1 e p)) g s (upd (upd W k 2) (k + 1) (l_nv (D 172).1 e 0 300 p))))) hE [.ref 11] (c_needsWord (i := 11) hV hF (by decide) hL hen he (by omega)) v_yX11_needsWord m_X11_215 dX11_readRule_176 rfl (hL 169 (by decide)) (y_l_169 ((m_P D (l_di (D 172).1 e p) (l_bl (D 172).1 e p) g s (upd (upd W k 2) (k + 1) (l_nv (D 172).1 e 0 300 p))) 169)) rfl (by decide) ⟨Nat.le_refl _, Nat.le_refl _⟩ (Nat.le_of_ble_eq_true rfl) ?_
          show E 0 0 179 [(0, .ref 169), (1, .int (nI k)), (2, .int 2)] [.int (y_b (l_w (D 172).1 (l_bl (D 172).1 e (l_di (D 172).1 e p)) (l_le (D 172).1 e (l_di (D 172).1 e p)) 11))] (y_mk n L (m_P D (l_le (D 172).1 e (l_di (D 172).1 e p)) (l_bl (D 172).1 e (l_di (D 172).1 e p)) g s (upd (upd W k 2) (k + 1) (l_nv (D 172).1 e 0 300 p))))
          refine r_ifb_eq (tgt := 211) hE dX11_readRule_179 (by decide) (fun c179 => ?_) (fun c179 => ?_)
          · refine r_iconst (v := 0) hE dX11_readRule_211 (by decide) ?_
            refine r_ireturn hE dX11_readRule_212 rfl (by first | rfl | exact y_nb _) (Nat.zero_le _) (Nat.zero_le _) ?_
            refine ⟨_, _, rfl, rfl, false, _, _, _, _, _, ?_, by decide, rfl, ?_⟩
            · unfold l_rule
              rw [if_neg c6, if_neg c19, if_pos c32, if_neg (fun z => z c112), if_neg c179]
            · unfold l_bd
              omega
          · have f4 := (l_nv_p (by decide) c112).2
            refine r_aload_n hE dX11_readRule_182 rfl ?_
            refine r_iload_n hE dX11_readRule_183 rfl ?_
            refine r_iconst (v := 2) hE dX11_readRule_184 (by decide) ?_
            refine r_iaddN (a := k) (b := 2) hE dX11_readRule_185 ?_
            refine r_aload_n hE dX11_readRule_186 rfl ?_
            refine r_aload_n hE dX11_readRule_187 rfl ?_
            refine t_getr hE f_X11_13 y_R_169_1 dX11_readRule_188 (hL 169 (by decide)) ?_
            refine r_iload_n hE dX11_readRule_191 rfl ?_
            refine r_iconst (v := 1) hE dX11_readRule_192 (by decide) ?_
            refine r_iaddN (a := k) (b := 1) hE dX11_readRule_193 ?_
            refine t_ialdN (e := k + 1) hE y_A_170 dX11_readRule_194 (hL 170 (by decide)) (by omega) (by decide) ?_
            refine r_top (y := (nI ((l_nv (D 172).1 e 0 300 p).toNatClampNeg))) (show _ from (y_upds).trans (l_nv_p (by decide) c112).1) ?_
            refine r_sipush (v := 300) hE dX11_readRule_195 (by decide) ?_
            refine t_invv (r := (some (.int (l_nv (D 172).1 e ((l_nv (D 172).1 e 0 300 p).toNatClampNeg) 300 (l_le (D 172).1 e (l_di (D 172).1 e p)))))) (S2 := (y_mk n L (m_P D (l_di (D 172).1 e (l_le (D 172).1 e (l_di (D 172).1 e p))) (l_bl (D 172).1 e (l_le (D 172).1 e (l_di (D 172).1 e p))) g s (upd (upd W k 2) (k + 1) (l_nv (D 172).1 e 0 300 p))))) hE [.int (nI ((l_nv (D 172).1 e 0 300 p).toNatClampNeg)), .int 300] (c_number (lo := (l_nv (D 172).1 e 0 300 p).toNatClampNeg) (hi := 300) (by first | decide | omega) (by decide) hL hen he (by omega)) v_yX11_number m_X11_140 dX11_readRule_198 rfl (hL 169 (by decide)) (y_l_169 ((m_P D (l_le (D 172).1 e (l_di (D 172).1 e p)) (l_bl (D 172).1 e (l_di (D 172).1 e p)) g s (upd (upd W k 2) (k + 1) (l_nv (D 172).1 e 0 300 p))) 169)) rfl (by decide) ⟨Nat.le_refl _, Nat.le_refl _⟩ (Nat.le_of_ble_eq_true rfl) ?_
            show E 0 0 201 [(0, .ref 169), (1, .int (nI k)), (2, .int 2)] [.int (l_nv (D 172).1 e ((l_nv (D 172).1 e 0 300 p).toNatClampNeg) 300 (l_le (D 172).1 e (l_di (D 172).1 e p))), .int (nI (k + 2)), .ref 169] (y_mk n L (m_P D (l_di (D 172).1 e (l_le (D 172).1 e (l_di (D 172).1 e p))) (l_bl (D 172).1 e (l_le (D 172).1 e (l_di (D 172).1 e p))) g s (upd (upd W k 2) (k + 1) (l_nv (D 172).1 e 0 300 p))))
            refine t_invv (r := (some (.int (y_b (0 ≤ (l_nv (D 172).1 e ((l_nv (D 172).1 e 0 300 p).toNatClampNeg) 300 (l_le (D 172).1 e (l_di (D 172).1 e p)))))))) (S2 := (y_mk n L (m_P D (l_di (D 172).1 e (l_le (D 172).1 e (l_di (D 172).1 e p))) (l_bl (D 172).1 e (l_le (D 172).1 e (l_di (D 172).1 e p))) g s (upd (upd (upd W k 2) (k + 1) (l_nv (D 172).1 e 0 300 p)) (k + 2) (l_nv (D 172).1 e ((l_nv (D 172).1 e 0 300 p).toNatClampNeg) 300 (l_le (D 172).1 e (l_di (D 172).1 e p))))))) hE [.int (nI (k + 2)), .int (l_nv (D 172).1 e ((l_nv (D 172).1 e 0 300 p).toNatClampNeg) 300 (l_le (D 172).1 e (l_di (D 172).1 e p)))] (c_tellsP (k := k + 2) hL (by omega)) v_yX11_tells m_X11_211 dX11_readRule_201 rfl (hL 169 (by decide)) (y_l_169 ((m_P D (l_di (D 172).1 e (l_le (D 172).1 e (l_di (D 172).1 e p))) (l_bl (D 172).1 e (l_le (D 172).1 e (l_di (D 172).1 e p))) g s (upd (upd W k 2) (k + 1) (l_nv (D 172).1 e 0 300 p))) 169)) rfl (by decide) ⟨Nat.le_refl _, Nat.le_refl _⟩ (Nat.le_of_ble_eq_true rfl) ?_
            show E 0 0 204 [(0, .ref 169), (1, .int (nI k)), (2, .int 2)] [.int (y_b (0 ≤ (l_nv (D 172).1 e ((l_nv (D 172).1 e 0 300 p).toNatClampNeg) 300 (l_le (D 172).1 e (l_di (D 172).1 e p)))))] (y_mk n L (m_P D (l_di (D 172).1 e (l_le (D 172).1 e (l_di (D 172).1 e p))) (l_bl (D 172).1 e (l_le (D 172).1 e (l_di (D 172).1 e p))) g s (upd (upd (upd W k 2) (k + 1) (l_nv (D 172).1 e 0 300 p)) (k + 2) (l_nv (D 172).1 e ((l_nv (D 172).1 e 0 300 p).toNatClampNeg) 300 (l_le (D 172).1 e (l_di (D 172).1 e p))))))
            refine r_ifb_eq (tgt := 211) hE dX11_readRule_204 (by decide) (fun c204 => ?_) (fun c204 => ?_)
            · refine r_iconst (v := 0) hE dX11_readRule_211 (by decide) ?_
              refine r_ireturn hE dX11_readRule_212 rfl (by first | rfl | exact y_nb _) (Nat.zero_le _) (Nat.zero_le _) ?_
              refine ⟨_, _, rfl, rfl, false, _, _, _, _, _, ?_, by decide, rfl, ?_⟩
              · unfold l_rule
                rw [if_neg c6, if_neg c19, if_pos c32, if_neg (fun z => z c112), if_pos c179, if_neg c204]
              · unfold l_bd
                omega
            · refine r_iconst (v := 1) hE dX11_readRule_207 (by decide) ?_
              refine r_goto (tgt := 212) hE dX11_readRule_208 (by decide) ?_
              refine r_ireturn hE dX11_readRule_212 rfl (by first | rfl | exact y_nb _) (Nat.zero_le _) (Nat.zero_le _) ?_
              refine ⟨_, _, rfl, rfl, true, _, _, _, _, _, ?_, by decide, rfl, ?_⟩
              · unfold l_rule
                rw [if_neg c6, if_neg c19, if_pos c32, if_neg (fun z => z c112), if_pos c179, if_pos c204]
              · unfold l_bd
                omega
        · refine r_iconst (v := 0) hE dX11_readRule_115 (by decide) ?_
          refine r_ireturn hE dX11_readRule_116 rfl (by first | rfl | exact y_nb _) (Nat.zero_le _) (Nat.zero_le _) ?_
          refine ⟨_, _, rfl, rfl, false, _, _, _, _, _, ?_, by decide, rfl, ?_⟩
          · unfold l_rule
            rw [if_neg c6, if_neg c19, if_pos c32, if_pos c112]
          · unfold l_bd
            omega
    · refine r_iconst (v := 1) hE dX11_readRule_22 (by decide) ?_
      refine r_goto (tgt := 53) hE dX11_readRule_23 (by decide) ?_
      refine r_istore_n (ls2 := [(0, .ref 169), (1, .int (nI k)), (2, .int 1)]) hE dX11_readRule_53 (by decide) rfl ?_
      refine r_aload_n hE dX11_readRule_54 rfl ?_
      refine t_getr hE f_X11_13 y_R_169_1 dX11_readRule_55 (hL 169 (by decide)) ?_
      refine r_iload_n hE dX11_readRule_58 rfl ?_
      refine r_iload_n hE dX11_readRule_59 rfl ?_
      refine t_iastN (e := k) hE y_A_170 dX11_readRule_60 (hL 170 (by decide)) (by omega) (by decide) ?_
      rw [m_P_w]
      refine r_iload_n hE dX11_readRule_61 rfl ?_
      refine r_if_ge (tgt := 67) hE dX11_readRule_62 (by decide) (fun _ => ?_) (fun c62 => by first | exact absurd c62 (by decide) | exact absurd (by decide) c62)
      refine r_iload_n hE dX11_readRule_67 rfl ?_
      refine r_iconst (v := 3) hE dX11_readRule_68 (by decide) ?_
      refine r_icmp_ne (tgt := 88) hE dX11_readRule_69 (by decide) (fun _ => ?_) (fun c69 => by first | exact absurd c69 (by decide) | exact absurd (by decide) c69)
      refine r_aload_n hE dX11_readRule_88 rfl ?_
      refine r_iload_n hE dX11_readRule_89 rfl ?_
      refine r_iconst (v := 1) hE dX11_readRule_90 (by decide) ?_
      refine r_iaddN (a := k) (b := 1) hE dX11_readRule_91 ?_
      refine r_aload_n hE dX11_readRule_92 rfl ?_
      refine r_iconst (v := 0) hE dX11_readRule_93 (by decide) ?_
      refine r_iload_n hE dX11_readRule_94 rfl ?_
      refine r_iconst (v := 2) hE dX11_readRule_95 (by decide) ?_
      refine r_icmp_ne (tgt := 105) hE dX11_readRule_96 (by decide) (fun _ => ?_) (fun c96 => by first | exact absurd c96 (by decide) | exact absurd (by decide) c96)
      refine r_iconst (v := 3) hE dX11_readRule_105 (by decide) ?_
      refine t_invv (r := (some (.int (l_nv (D 172).1 e 0 3 p)))) (S2 := (y_mk n L (m_P D (l_di (D 172).1 e p) (l_bl (D 172).1 e p) g s (upd W k 1)))) hE [.int 0, .int 3] (c_number (lo := 0) (hi := 3) (by first | decide | omega) (by decide) hL hen he (by omega)) v_yX11_number m_X11_140 dX11_readRule_106 rfl (hL 169 (by decide)) (y_l_169 ((m_P D p b g s (upd W k 1)) 169)) rfl (by decide) ⟨Nat.le_refl _, Nat.le_refl _⟩ (Nat.le_of_ble_eq_true rfl) ?_
      show E 0 0 109 [(0, .ref 169), (1, .int (nI k)), (2, .int 1)] [.int (l_nv (D 172).1 e 0 3 p), .int (nI (k + 1)), .ref 169] (y_mk n L (m_P D (l_di (D 172).1 e p) (l_bl (D 172).1 e p) g s (upd W k 1)))
      refine t_invv (r := (some (.int (y_b (0 ≤ (l_nv (D 172).1 e 0 3 p)))))) (S2 := (y_mk n L (m_P D (l_di (D 172).1 e p) (l_bl (D 172).1 e p) g s (upd (upd W k 1) (k + 1) (l_nv (D 172).1 e 0 3 p))))) hE [.int (nI (k + 1)), .int (l_nv (D 172).1 e 0 3 p)] (c_tellsP (k := k + 1) hL (by omega)) v_yX11_tells m_X11_211 dX11_readRule_109 rfl (hL 169 (by decide)) (y_l_169 ((m_P D (l_di (D 172).1 e p) (l_bl (D 172).1 e p) g s (upd W k 1)) 169)) rfl (by decide) ⟨Nat.le_refl _, Nat.le_refl _⟩ (Nat.le_of_ble_eq_true rfl) ?_
      show E 0 0 112 [(0, .ref 169), (1, .int (nI k)), (2, .int 1)] [.int (y_b (0 ≤ (l_nv (D 172).1 e 0 3 p)))] (y_mk n L (m_P D (l_di (D 172).1 e p) (l_bl (D 172).1 e p) g s (upd (upd W k 1) (k + 1) (l_nv (D 172).1 e 0 3 p))))
      refine r_ifb_ne (tgt := 117) hE dX11_readRule_112 (by decide) (fun c112 => ?_) (fun c112 => ?_)
      · refine r_iload_n hE dX11_readRule_117 rfl ?_
        refine r_iconst (v := 1) hE dX11_readRule_118 (by decide) ?_
        refine r_icmp_ne (tgt := 137) hE dX11_readRule_119 (by decide) (fun c119 => by first | exact absurd c119 (by decide) | exact absurd (by decide) c119) (fun _ => ?_)
        refine r_aload_n hE dX11_readRule_122 rfl ?_
        refine r_iload_n hE dX11_readRule_123 rfl ?_
        refine r_iconst (v := 2) hE dX11_readRule_124 (by decide) ?_
        refine r_iaddN (a := k) (b := 2) hE dX11_readRule_125 ?_
        refine r_aload_n hE dX11_readRule_126 rfl ?_
        refine r_iconst (v := 0) hE dX11_readRule_127 (by decide) ?_
        refine r_bipush (v := 99) hE dX11_readRule_128 (by decide) ?_
        refine t_invv (r := (some (.int (l_nv (D 172).1 e 0 99 (l_di (D 172).1 e p))))) (S2 := (y_mk n L (m_P D (l_di (D 172).1 e (l_di (D 172).1 e p)) (l_bl (D 172).1 e (l_di (D 172).1 e p)) g s (upd (upd W k 1) (k + 1) (l_nv (D 172).1 e 0 3 p))))) hE [.int 0, .int 99] (c_number (lo := 0) (hi := 99) (by first | decide | omega) (by decide) hL hen he (by omega)) v_yX11_number m_X11_140 dX11_readRule_130 rfl (hL 169 (by decide)) (y_l_169 ((m_P D (l_di (D 172).1 e p) (l_bl (D 172).1 e p) g s (upd (upd W k 1) (k + 1) (l_nv (D 172).1 e 0 3 p))) 169)) rfl (by decide) ⟨Nat.le_refl _, Nat.le_refl _⟩ (Nat.le_of_ble_eq_true rfl) ?_
        show E 0 0 133 [(0, .ref 169), (1, .int (nI k)), (2, .int 1)] [.int (l_nv (D 172).1 e 0 99 (l_di (D 172).1 e p)), .int (nI (k + 2)), .ref 169] (y_mk n L (m_P D (l_di (D 172).1 e (l_di (D 172).1 e p)) (l_bl (D 172).1 e (l_di (D 172).1 e p)) g s (upd (upd W k 1) (k + 1) (l_nv (D 172).1 e 0 3 p))))
        refine t_invv (r := (some (.int (y_b (0 ≤ (l_nv (D 172).1 e 0 99 (l_di (D 172).1 e p))))))) (S2 := (y_mk n L (m_P D (l_di (D 172).1 e (l_di (D 172).1 e p)) (l_bl (D 172).1 e (l_di (D 172).1 e p)) g s (upd (upd (upd W k 1) (k + 1) (l_nv (D 172).1 e 0 3 p)) (k + 2) (l_nv (D 172).1 e 0 99 (l_di (D 172).1 e p)))))) hE [.int (nI (k + 2)), .int (l_nv (D 172).1 e 0 99 (l_di (D 172).1 e p))] (c_tellsP (k := k + 2) hL (by omega)) v_yX11_tells m_X11_211 dX11_readRule_133 rfl (hL 169 (by decide)) (y_l_169 ((m_P D (l_di (D 172).1 e (l_di (D 172).1 e p)) (l_bl (D 172).1 e (l_di (D 172).1 e p)) g s (upd (upd W k 1) (k + 1) (l_nv (D 172).1 e 0 3 p))) 169)) rfl (by decide) ⟨Nat.le_refl _, Nat.le_refl _⟩ (Nat.le_of_ble_eq_true rfl) ?_
        show E 0 0 136 [(0, .ref 169), (1, .int (nI k)), (2, .int 1)] [.int (y_b (0 ≤ (l_nv (D 172).1 e 0 99 (l_di (D 172).1 e p))))] (y_mk n L (m_P D (l_di (D 172).1 e (l_di (D 172).1 e p)) (l_bl (D 172).1 e (l_di (D 172).1 e p)) g s (upd (upd (upd W k 1) (k + 1) (l_nv (D 172).1 e 0 3 p)) (k + 2) (l_nv (D 172).1 e 0 99 (l_di (D 172).1 e p)))))
        refine r_ireturn hE dX11_readRule_136 rfl (by exact y_nb _) (Nat.zero_le _) (Nat.zero_le _) ?_
        refine ⟨_, _, rfl, rfl, _, _, _, _, _, _, ?_, y_b_dec, rfl, ?_⟩
        · unfold l_rule
          rw [if_neg c6, if_pos c19, if_neg (fun z => z c112)]
        · unfold l_bd
          omega
      · refine r_iconst (v := 0) hE dX11_readRule_115 (by decide) ?_
        refine r_ireturn hE dX11_readRule_116 rfl (by first | rfl | exact y_nb _) (Nat.zero_le _) (Nat.zero_le _) ?_
        refine ⟨_, _, rfl, rfl, false, _, _, _, _, _, ?_, by decide, rfl, ?_⟩
        · unfold l_rule
          rw [if_neg c6, if_pos c19, if_pos c112]
        · unfold l_bd
          omega
  · refine r_iconst (v := 0) hE dX11_readRule_9 (by decide) ?_
    refine r_goto (tgt := 53) hE dX11_readRule_10 (by decide) ?_
    refine r_istore_n (ls2 := [(0, .ref 169), (1, .int (nI k)), (2, .int 0)]) hE dX11_readRule_53 (by decide) rfl ?_
    refine r_aload_n hE dX11_readRule_54 rfl ?_
    refine t_getr hE f_X11_13 y_R_169_1 dX11_readRule_55 (hL 169 (by decide)) ?_
    refine r_iload_n hE dX11_readRule_58 rfl ?_
    refine r_iload_n hE dX11_readRule_59 rfl ?_
    refine t_iastN (e := k) hE y_A_170 dX11_readRule_60 (hL 170 (by decide)) (by omega) (by decide) ?_
    rw [m_P_w]
    refine r_iload_n hE dX11_readRule_61 rfl ?_
    refine r_if_ge (tgt := 67) hE dX11_readRule_62 (by decide) (fun _ => ?_) (fun c62 => by first | exact absurd c62 (by decide) | exact absurd (by decide) c62)
    refine r_iload_n hE dX11_readRule_67 rfl ?_
    refine r_iconst (v := 3) hE dX11_readRule_68 (by decide) ?_
    refine r_icmp_ne (tgt := 88) hE dX11_readRule_69 (by decide) (fun _ => ?_) (fun c69 => by first | exact absurd c69 (by decide) | exact absurd (by decide) c69)
    refine r_aload_n hE dX11_readRule_88 rfl ?_
    refine r_iload_n hE dX11_readRule_89 rfl ?_
    refine r_iconst (v := 1) hE dX11_readRule_90 (by decide) ?_
    refine r_iaddN (a := k) (b := 1) hE dX11_readRule_91 ?_
    refine r_aload_n hE dX11_readRule_92 rfl ?_
    refine r_iconst (v := 0) hE dX11_readRule_93 (by decide) ?_
    refine r_iload_n hE dX11_readRule_94 rfl ?_
    refine r_iconst (v := 2) hE dX11_readRule_95 (by decide) ?_
    refine r_icmp_ne (tgt := 105) hE dX11_readRule_96 (by decide) (fun _ => ?_) (fun c96 => by first | exact absurd c96 (by decide) | exact absurd (by decide) c96)
    refine r_iconst (v := 3) hE dX11_readRule_105 (by decide) ?_
    refine t_invv (r := (some (.int (l_nv (D 172).1 e 0 3 p)))) (S2 := (y_mk n L (m_P D (l_di (D 172).1 e p) (l_bl (D 172).1 e p) g s (upd W k 0)))) hE [.int 0, .int 3] (c_number (lo := 0) (hi := 3) (by first | decide | omega) (by decide) hL hen he (by omega)) v_yX11_number m_X11_140 dX11_readRule_106 rfl (hL 169 (by decide)) (y_l_169 ((m_P D p b g s (upd W k 0)) 169)) rfl (by decide) ⟨Nat.le_refl _, Nat.le_refl _⟩ (Nat.le_of_ble_eq_true rfl) ?_
    show E 0 0 109 [(0, .ref 169), (1, .int (nI k)), (2, .int 0)] [.int (l_nv (D 172).1 e 0 3 p), .int (nI (k + 1)), .ref 169] (y_mk n L (m_P D (l_di (D 172).1 e p) (l_bl (D 172).1 e p) g s (upd W k 0)))
    refine t_invv (r := (some (.int (y_b (0 ≤ (l_nv (D 172).1 e 0 3 p)))))) (S2 := (y_mk n L (m_P D (l_di (D 172).1 e p) (l_bl (D 172).1 e p) g s (upd (upd W k 0) (k + 1) (l_nv (D 172).1 e 0 3 p))))) hE [.int (nI (k + 1)), .int (l_nv (D 172).1 e 0 3 p)] (c_tellsP (k := k + 1) hL (by omega)) v_yX11_tells m_X11_211 dX11_readRule_109 rfl (hL 169 (by decide)) (y_l_169 ((m_P D (l_di (D 172).1 e p) (l_bl (D 172).1 e p) g s (upd W k 0)) 169)) rfl (by decide) ⟨Nat.le_refl _, Nat.le_refl _⟩ (Nat.le_of_ble_eq_true rfl) ?_
    show E 0 0 112 [(0, .ref 169), (1, .int (nI k)), (2, .int 0)] [.int (y_b (0 ≤ (l_nv (D 172).1 e 0 3 p)))] (y_mk n L (m_P D (l_di (D 172).1 e p) (l_bl (D 172).1 e p) g s (upd (upd W k 0) (k + 1) (l_nv (D 172).1 e 0 3 p))))
    refine r_ifb_ne (tgt := 117) hE dX11_readRule_112 (by decide) (fun c112 => ?_) (fun c112 => ?_)
    · refine r_iload_n hE dX11_readRule_117 rfl ?_
      refine r_iconst (v := 1) hE dX11_readRule_118 (by decide) ?_
      refine r_icmp_ne (tgt := 137) hE dX11_readRule_119 (by decide) (fun _ => ?_) (fun c119 => by first | exact absurd c119 (by decide) | exact absurd (by decide) c119)
      refine r_iload_n hE dX11_readRule_137 rfl ?_
      refine r_if_ne (tgt := 173) hE dX11_readRule_138 (by decide) (fun c138 => by first | exact absurd c138 (by decide) | exact absurd (by decide) c138) (fun _ => ?_)
      refine r_aload_n hE dX11_readRule_141 rfl ?_
      refine r_ldcS (h := 10) hE (by decide) (sr_214 hV) dX11_readRule_142 ?_
      refine t_invv (r := (some (.int (y_b (l_w (D 172).1 (l_bl (D 172).1 e (l_di (D 172).1 e p)) (l_le (D 172).1 e (l_di (D 172).1 e p)) 10))))) (S2 := (y_mk n L (m_P D (l_le (D 172).1 e (l_di (D 172).1 e p)) (l_bl (D 172).1 e (l_di (D 172).1 e p)) g s (upd (upd W k 0) (k + 1) (l_nv (D 172).1 e 0 3 p))))) hE [.ref 10] (c_needsWord (i := 10) hV hF (by decide) hL hen he (by omega)) v_yX11_needsWord m_X11_215 dX11_readRule_144 rfl (hL 169 (by decide)) (y_l_169 ((m_P D (l_di (D 172).1 e p) (l_bl (D 172).1 e p) g s (upd (upd W k 0) (k + 1) (l_nv (D 172).1 e 0 3 p))) 169)) rfl (by decide) ⟨Nat.le_refl _, Nat.le_refl _⟩ (Nat.le_of_ble_eq_true rfl) ?_
      show E 0 0 147 [(0, .ref 169), (1, .int (nI k)), (2, .int 0)] [.int (y_b (l_w (D 172).1 (l_bl (D 172).1 e (l_di (D 172).1 e p)) (l_le (D 172).1 e (l_di (D 172).1 e p)) 10))] (y_mk n L (m_P D (l_le (D 172).1 e (l_di (D 172).1 e p)) (l_bl (D 172).1 e (l_di (D 172).1 e p)) g s (upd (upd W k 0) (k + 1) (l_nv (D 172).1 e 0 3 p))))
      refine r_ifb_eq (tgt := 171) hE dX11_readRule_147 (by decide) (fun c147 => ?_) (fun c147 => ?_)
      · refine r_iconst (v := 0) hE dX11_readRule_171 (by decide) ?_
        refine r_ireturn hE dX11_readRule_172 rfl (by first | rfl | exact y_nb _) (Nat.zero_le _) (Nat.zero_le _) ?_
        refine ⟨_, _, rfl, rfl, false, _, _, _, _, _, ?_, by decide, rfl, ?_⟩
        · unfold l_rule
          rw [if_pos c6, if_neg (fun z => z c112), if_neg c147]
        · unfold l_bd
          omega
      · refine r_aload_n hE dX11_readRule_150 rfl ?_
        refine r_iload_n hE dX11_readRule_151 rfl ?_
        refine r_iconst (v := 2) hE dX11_readRule_152 (by decide) ?_
        refine r_iaddN (a := k) (b := 2) hE dX11_readRule_153 ?_
        refine r_aload_n hE dX11_readRule_154 rfl ?_
        refine r_iconst (v := 1) hE dX11_readRule_155 (by decide) ?_
        refine r_bipush (v := 7) hE dX11_readRule_156 (by decide) ?_
        refine t_invv (r := (some (.int (l_nv (D 172).1 e 1 7 (l_le (D 172).1 e (l_di (D 172).1 e p)))))) (S2 := (y_mk n L (m_P D (l_di (D 172).1 e (l_le (D 172).1 e (l_di (D 172).1 e p))) (l_bl (D 172).1 e (l_le (D 172).1 e (l_di (D 172).1 e p))) g s (upd (upd W k 0) (k + 1) (l_nv (D 172).1 e 0 3 p))))) hE [.int 1, .int 7] (c_number (lo := 1) (hi := 7) (by first | decide | omega) (by decide) hL hen he (by omega)) v_yX11_number m_X11_140 dX11_readRule_158 rfl (hL 169 (by decide)) (y_l_169 ((m_P D (l_le (D 172).1 e (l_di (D 172).1 e p)) (l_bl (D 172).1 e (l_di (D 172).1 e p)) g s (upd (upd W k 0) (k + 1) (l_nv (D 172).1 e 0 3 p))) 169)) rfl (by decide) ⟨Nat.le_refl _, Nat.le_refl _⟩ (Nat.le_of_ble_eq_true rfl) ?_
        show E 0 0 161 [(0, .ref 169), (1, .int (nI k)), (2, .int 0)] [.int (l_nv (D 172).1 e 1 7 (l_le (D 172).1 e (l_di (D 172).1 e p))), .int (nI (k + 2)), .ref 169] (y_mk n L (m_P D (l_di (D 172).1 e (l_le (D 172).1 e (l_di (D 172).1 e p))) (l_bl (D 172).1 e (l_le (D 172).1 e (l_di (D 172).1 e p))) g s (upd (upd W k 0) (k + 1) (l_nv (D 172).1 e 0 3 p))))
        refine t_invv (r := (some (.int (y_b (0 ≤ (l_nv (D 172).1 e 1 7 (l_le (D 172).1 e (l_di (D 172).1 e p)))))))) (S2 := (y_mk n L (m_P D (l_di (D 172).1 e (l_le (D 172).1 e (l_di (D 172).1 e p))) (l_bl (D 172).1 e (l_le (D 172).1 e (l_di (D 172).1 e p))) g s (upd (upd (upd W k 0) (k + 1) (l_nv (D 172).1 e 0 3 p)) (k + 2) (l_nv (D 172).1 e 1 7 (l_le (D 172).1 e (l_di (D 172).1 e p))))))) hE [.int (nI (k + 2)), .int (l_nv (D 172).1 e 1 7 (l_le (D 172).1 e (l_di (D 172).1 e p)))] (c_tellsP (k := k + 2) hL (by omega)) v_yX11_tells m_X11_211 dX11_readRule_161 rfl (hL 169 (by decide)) (y_l_169 ((m_P D (l_di (D 172).1 e (l_le (D 172).1 e (l_di (D 172).1 e p))) (l_bl (D 172).1 e (l_le (D 172).1 e (l_di (D 172).1 e p))) g s (upd (upd W k 0) (k + 1) (l_nv (D 172).1 e 0 3 p))) 169)) rfl (by decide) ⟨Nat.le_refl _, Nat.le_refl _⟩ (Nat.le_of_ble_eq_true rfl) ?_
        show E 0 0 164 [(0, .ref 169), (1, .int (nI k)), (2, .int 0)] [.int (y_b (0 ≤ (l_nv (D 172).1 e 1 7 (l_le (D 172).1 e (l_di (D 172).1 e p)))))] (y_mk n L (m_P D (l_di (D 172).1 e (l_le (D 172).1 e (l_di (D 172).1 e p))) (l_bl (D 172).1 e (l_le (D 172).1 e (l_di (D 172).1 e p))) g s (upd (upd (upd W k 0) (k + 1) (l_nv (D 172).1 e 0 3 p)) (k + 2) (l_nv (D 172).1 e 1 7 (l_le (D 172).1 e (l_di (D 172).1 e p))))))
        refine r_ifb_eq (tgt := 171) hE dX11_readRule_164 (by decide) (fun c164 => ?_) (fun c164 => ?_)
        · refine r_iconst (v := 0) hE dX11_readRule_171 (by decide) ?_
          refine r_ireturn hE dX11_readRule_172 rfl (by first | rfl | exact y_nb _) (Nat.zero_le _) (Nat.zero_le _) ?_
          refine ⟨_, _, rfl, rfl, false, _, _, _, _, _, ?_, by decide, rfl, ?_⟩
          · unfold l_rule
            rw [if_pos c6, if_neg (fun z => z c112), if_pos c147, if_neg c164]
          · unfold l_bd
            omega
        · refine r_iconst (v := 1) hE dX11_readRule_167 (by decide) ?_
          refine r_goto (tgt := 172) hE dX11_readRule_168 (by decide) ?_
          refine r_ireturn hE dX11_readRule_172 rfl (by first | rfl | exact y_nb _) (Nat.zero_le _) (Nat.zero_le _) ?_
          refine ⟨_, _, rfl, rfl, true, _, _, _, _, _, ?_, by decide, rfl, ?_⟩
          · unfold l_rule
            rw [if_pos c6, if_neg (fun z => z c112), if_pos c147, if_pos c164]
          · unfold l_bd
            omega
    · refine r_iconst (v := 0) hE dX11_readRule_115 (by decide) ?_
      refine r_ireturn hE dX11_readRule_116 rfl (by first | rfl | exact y_nb _) (Nat.zero_le _) (Nat.zero_le _) ?_
      refine ⟨_, _, rfl, rfl, false, _, _, _, _, _, ?_, by decide, rfl, ?_⟩
      · unfold l_rule
        rw [if_pos c6, if_pos c112]
      · unfold l_bd
        omega
theorem c_readWay {V : x_E} {n : Nat} {L : List Nat} {D : y_D} {e p b g s k : Nat} {W : Nat → Int32} (hV : y_V V) (hF : y_fm V) (hL : y_ok L) (hen : (D 169).1 7 = nI e) (he : e ≤ 400) (hp : p ≤ e) (hs : s ≤ p) (hb : b ≤ p) (hk : k < 9500) : y_Ri V yX11_readWay cX11_readWay 3 (some .boolean) 29 [.ref 169, .int (nI k)] n L (m_P D p b g s W) (l_Rw D e (l_way (D 172).1 e k) p b g s W) := by
  refine y_ri (by decide) (Nat.le_of_ble_eq_true rfl) (fun E hE => ?_)
  change E 0 0 0 [(0, .ref 169), (1, .int (nI k))] [] (y_mk n L (m_P D p b g s W))
  have f1 := l_f (T := (D 172).1) hp
  have f2 := l_f (T := (D 172).1) f1.2.2.2.2
  have f3 := l_f (T := (D 172).1) f2.2.2.1
  refine r_aload_n hE dX11_readWay_0 rfl ?_
  refine r_ldcS (h := 12) hE (by decide) (sr_220 hV) dX11_readWay_1 ?_
  refine t_invv (r := (some (.int (y_b (l_w (D 172).1 b p 12))))) (S2 := (y_mk n L (m_P D p b g s W))) hE [.ref 12] (c_isWord (i := 12) hV hF (by decide) hL hen he (by omega) (by omega)) v_yX11_isWord m_X11_128 dX11_readWay_3 rfl (hL 169 (by decide)) (y_l_169 ((m_P D p b g s W) 169)) rfl (by decide) ⟨Nat.le_refl _, Nat.le_refl _⟩ (Nat.le_of_ble_eq_true rfl) ?_
  show E 0 0 6 [(0, .ref 169), (1, .int (nI k))] [.int (y_b (l_w (D 172).1 b p 12))] (y_mk n L (m_P D p b g s W))
  refine r_ifb_eq (tgt := 13) hE dX11_readWay_6 (by decide) (fun c6 => ?_) (fun c6 => ?_)
  · refine r_aload_n hE dX11_readWay_13 rfl ?_
    refine r_ldcS (h := 13) hE (by decide) (sr_222 hV) dX11_readWay_14 ?_
    refine t_invv (r := (some (.int (y_b (l_w (D 172).1 b p 13))))) (S2 := (y_mk n L (m_P D p b g s W))) hE [.ref 13] (c_isWord (i := 13) hV hF (by decide) hL hen he (by omega) (by omega)) v_yX11_isWord m_X11_128 dX11_readWay_16 rfl (hL 169 (by decide)) (y_l_169 ((m_P D p b g s W) 169)) rfl (by decide) ⟨Nat.le_refl _, Nat.le_refl _⟩ (Nat.le_of_ble_eq_true rfl) ?_
    show E 0 0 19 [(0, .ref 169), (1, .int (nI k))] [.int (y_b (l_w (D 172).1 b p 13))] (y_mk n L (m_P D p b g s W))
    refine r_ifb_eq (tgt := 26) hE dX11_readWay_19 (by decide) (fun c19 => ?_) (fun c19 => ?_)
    · refine r_aload_n hE dX11_readWay_26 rfl ?_
      refine r_ldcS (h := 14) hE (by decide) (sr_224 hV) dX11_readWay_27 ?_
      refine t_invv (r := (some (.int (y_b (l_w (D 172).1 b p 14))))) (S2 := (y_mk n L (m_P D p b g s W))) hE [.ref 14] (c_isWord (i := 14) hV hF (by decide) hL hen he (by omega) (by omega)) v_yX11_isWord m_X11_128 dX11_readWay_29 rfl (hL 169 (by decide)) (y_l_169 ((m_P D p b g s W) 169)) rfl (by decide) ⟨Nat.le_refl _, Nat.le_refl _⟩ (Nat.le_of_ble_eq_true rfl) ?_
      show E 0 0 32 [(0, .ref 169), (1, .int (nI k))] [.int (y_b (l_w (D 172).1 b p 14))] (y_mk n L (m_P D p b g s W))
      refine r_ifb_eq (tgt := 39) hE dX11_readWay_32 (by decide) (fun c32 => ?_) (fun c32 => ?_)
      · refine r_aload_n hE dX11_readWay_39 rfl ?_
        refine r_ldcS (h := 15) hE (by decide) (sr_226 hV) dX11_readWay_40 ?_
        refine t_invv (r := (some (.int (y_b (l_w (D 172).1 b p 15))))) (S2 := (y_mk n L (m_P D p b g s W))) hE [.ref 15] (c_isWord (i := 15) hV hF (by decide) hL hen he (by omega) (by omega)) v_yX11_isWord m_X11_128 dX11_readWay_42 rfl (hL 169 (by decide)) (y_l_169 ((m_P D p b g s W) 169)) rfl (by decide) ⟨Nat.le_refl _, Nat.le_refl _⟩ (Nat.le_of_ble_eq_true rfl) ?_
        show E 0 0 45 [(0, .ref 169), (1, .int (nI k))] [.int (y_b (l_w (D 172).1 b p 15))] (y_mk n L (m_P D p b g s W))
        refine r_ifb_eq (tgt := 52) hE dX11_readWay_45 (by decide) (fun c45 => ?_) (fun c45 => ?_)
        · refine r_iconst (v := (-1)) hE dX11_readWay_52 (by decide) ?_
          refine r_istore_n (ls2 := [(0, .ref 169), (1, .int (nI k)), (2, .int (-1))]) hE dX11_readWay_53 (by decide) rfl ?_
          refine r_aload_n hE dX11_readWay_54 rfl ?_
          refine t_getr hE f_X11_13 y_R_169_1 dX11_readWay_55 (hL 169 (by decide)) ?_
          refine r_iload_n hE dX11_readWay_58 rfl ?_
          refine r_iload_n hE dX11_readWay_59 rfl ?_
          refine t_iastN (e := k) hE y_A_170 dX11_readWay_60 (hL 170 (by decide)) (by omega) (by decide) ?_
          rw [m_P_w]
          refine r_iload_n hE dX11_readWay_61 rfl ?_
          refine r_if_ge (tgt := 67) hE dX11_readWay_62 (by decide) (fun c62 => by first | exact absurd c62 (by decide) | exact absurd (by decide) c62) (fun _ => ?_)
          refine r_iconst (v := 0) hE dX11_readWay_65 (by decide) ?_
          refine r_ireturn hE dX11_readWay_66 rfl (by first | rfl | exact y_nb _) (Nat.zero_le _) (Nat.zero_le _) ?_
          refine ⟨_, _, rfl, rfl, false, _, _, _, _, _, ?_, by decide, rfl, ?_⟩
          · unfold l_way
            repeat first | rw [if_pos (by assumption)] | rw [if_neg (by assumption)] | rw [if_neg (fun z => z (by assumption))]
          · unfold l_bd
            omega
        · refine r_iconst (v := 3) hE dX11_readWay_48 (by decide) ?_
          refine r_goto (tgt := 53) hE dX11_readWay_49 (by decide) ?_
          refine r_istore_n (ls2 := [(0, .ref 169), (1, .int (nI k)), (2, .int 3)]) hE dX11_readWay_53 (by decide) rfl ?_
          refine r_aload_n hE dX11_readWay_54 rfl ?_
          refine t_getr hE f_X11_13 y_R_169_1 dX11_readWay_55 (hL 169 (by decide)) ?_
          refine r_iload_n hE dX11_readWay_58 rfl ?_
          refine r_iload_n hE dX11_readWay_59 rfl ?_
          refine t_iastN (e := k) hE y_A_170 dX11_readWay_60 (hL 170 (by decide)) (by omega) (by decide) ?_
          rw [m_P_w]
          refine r_iload_n hE dX11_readWay_61 rfl ?_
          refine r_if_ge (tgt := 67) hE dX11_readWay_62 (by decide) (fun _ => ?_) (fun c62 => by first | exact absurd c62 (by decide) | exact absurd (by decide) c62)
          refine r_aload_n hE dX11_readWay_67 rfl ?_
          refine r_iconst (v := 0) hE dX11_readWay_68 (by decide) ?_
          refine t_puti hE f_X11_178 y_I_169_9 dX11_readWay_69 (hL 169 (by decide)) rfl rfl ?_
          rw [show ((0 : Int32)) = nI 0 from rfl, m_P_9]
          refine r_iload_n hE dX11_readWay_72 rfl ?_
          refine r_iconst (v := 3) hE dX11_readWay_73 (by decide) ?_
          refine r_icmp_ne (tgt := 82) hE dX11_readWay_74 (by decide) (fun c74 => by first | exact absurd c74 (by decide) | exact absurd (by decide) c74) (fun _ => ?_)
          refine r_aload_n hE dX11_readWay_77 rfl ?_
          refine t_invvRi hE [] (c_readCond0 hV hF hL hen he _ _ _ _ (by omega) (by omega)) v_yX11_readCond m_X11_181 dX11_readWay_78 rfl (hL 169 (by decide)) (y_l_169 ((m_P D p b 0 s (upd W k 3)) 169)) rfl (by decide) ⟨Nat.le_refl _, Nat.le_refl _⟩ (Nat.le_of_ble_eq_true rfl) (fun r81 E81 q81 => ?_)
          obtain ⟨ok81, p81, b81, g81, s81, W81, hf81, rfl, rfl, hb81, hg81⟩ := q81
          have hz81 := hb81.all
          show E 0 0 81 [(0, .ref 169), (1, .int (nI k)), (2, .int 3)] [.int (y_b (ok81 = true))] (y_mk n L (m_P D p81 b81 g81 s81 W81))
          refine r_ireturn hE dX11_readWay_81 rfl (by exact y_nb _) (Nat.zero_le _) (Nat.zero_le _) ?_
          refine ⟨_, _, rfl, rfl, ok81, _, _, _, _, _, ?_, rfl, rfl, hb81⟩
          unfold l_way
          repeat first | rw [if_pos (by assumption)] | rw [if_neg (by assumption)] | rw [if_neg (fun z => z (by assumption))]
          exact hf81
      · refine r_iconst (v := 2) hE dX11_readWay_35 (by decide) ?_
        refine r_goto (tgt := 53) hE dX11_readWay_36 (by decide) ?_
        refine r_istore_n (ls2 := [(0, .ref 169), (1, .int (nI k)), (2, .int 2)]) hE dX11_readWay_53 (by decide) rfl ?_
        refine r_aload_n hE dX11_readWay_54 rfl ?_
        refine t_getr hE f_X11_13 y_R_169_1 dX11_readWay_55 (hL 169 (by decide)) ?_
        refine r_iload_n hE dX11_readWay_58 rfl ?_
        refine r_iload_n hE dX11_readWay_59 rfl ?_
        refine t_iastN (e := k) hE y_A_170 dX11_readWay_60 (hL 170 (by decide)) (by omega) (by decide) ?_
        rw [m_P_w]
        refine r_iload_n hE dX11_readWay_61 rfl ?_
        refine r_if_ge (tgt := 67) hE dX11_readWay_62 (by decide) (fun _ => ?_) (fun c62 => by first | exact absurd c62 (by decide) | exact absurd (by decide) c62)
        refine r_aload_n hE dX11_readWay_67 rfl ?_
        refine r_iconst (v := 0) hE dX11_readWay_68 (by decide) ?_
        refine t_puti hE f_X11_178 y_I_169_9 dX11_readWay_69 (hL 169 (by decide)) rfl rfl ?_
        rw [show ((0 : Int32)) = nI 0 from rfl, m_P_9]
        refine r_iload_n hE dX11_readWay_72 rfl ?_
        refine r_iconst (v := 3) hE dX11_readWay_73 (by decide) ?_
        refine r_icmp_ne (tgt := 82) hE dX11_readWay_74 (by decide) (fun _ => ?_) (fun c74 => by first | exact absurd c74 (by decide) | exact absurd (by decide) c74)
        refine r_aload_n hE dX11_readWay_82 rfl ?_
        refine r_iload_n hE dX11_readWay_83 rfl ?_
        refine r_iconst (v := 1) hE dX11_readWay_84 (by decide) ?_
        refine r_iaddN (a := k) (b := 1) hE dX11_readWay_85 ?_
        refine r_aload_n hE dX11_readWay_86 rfl ?_
        refine r_iload_n hE dX11_readWay_87 rfl ?_
        refine r_if_ne (tgt := 95) hE dX11_readWay_88 (by decide) (fun _ => ?_) (fun c88 => by first | exact absurd c88 (by decide) | exact absurd (by decide) c88)
        refine r_iconst (v := 1) hE dX11_readWay_95 (by decide) ?_
        refine r_iload_n hE dX11_readWay_96 rfl ?_
        refine r_if_ne (tgt := 104) hE dX11_readWay_97 (by decide) (fun _ => ?_) (fun c97 => by first | exact absurd c97 (by decide) | exact absurd (by decide) c97)
        refine r_iload_n hE dX11_readWay_104 rfl ?_
        refine r_iconst (v := 1) hE dX11_readWay_105 (by decide) ?_
        refine r_icmp_ne (tgt := 114) hE dX11_readWay_106 (by decide) (fun _ => ?_) (fun c106 => by first | exact absurd c106 (by decide) | exact absurd (by decide) c106)
        refine r_bipush (v := 9) hE dX11_readWay_114 (by decide) ?_
        refine t_invv (r := (some (.int (l_nv (D 172).1 e 1 9 p)))) (S2 := (y_mk n L (m_P D (l_di (D 172).1 e p) (l_bl (D 172).1 e p) 0 s (upd W k 2)))) hE [.int 1, .int 9] (c_number (lo := 1) (hi := 9) (by first | decide | omega) (by decide) hL hen he (by omega)) v_yX11_number m_X11_140 dX11_readWay_116 rfl (hL 169 (by decide)) (y_l_169 ((m_P D p b 0 s (upd W k 2)) 169)) rfl (by decide) ⟨Nat.le_refl _, Nat.le_refl _⟩ (Nat.le_of_ble_eq_true rfl) ?_
        show E 0 0 119 [(0, .ref 169), (1, .int (nI k)), (2, .int 2)] [.int (l_nv (D 172).1 e 1 9 p), .int (nI (k + 1)), .ref 169] (y_mk n L (m_P D (l_di (D 172).1 e p) (l_bl (D 172).1 e p) 0 s (upd W k 2)))
        refine t_invv (r := (some (.int (y_b (0 ≤ (l_nv (D 172).1 e 1 9 p)))))) (S2 := (y_mk n L (m_P D (l_di (D 172).1 e p) (l_bl (D 172).1 e p) 0 s (upd (upd W k 2) (k + 1) (l_nv (D 172).1 e 1 9 p))))) hE [.int (nI (k + 1)), .int (l_nv (D 172).1 e 1 9 p)] (c_tellsP (k := k + 1) hL (by omega)) v_yX11_tells m_X11_211 dX11_readWay_119 rfl (hL 169 (by decide)) (y_l_169 ((m_P D (l_di (D 172).1 e p) (l_bl (D 172).1 e p) 0 s (upd W k 2)) 169)) rfl (by decide) ⟨Nat.le_refl _, Nat.le_refl _⟩ (Nat.le_of_ble_eq_true rfl) ?_
        show E 0 0 122 [(0, .ref 169), (1, .int (nI k)), (2, .int 2)] [.int (y_b (0 ≤ (l_nv (D 172).1 e 1 9 p)))] (y_mk n L (m_P D (l_di (D 172).1 e p) (l_bl (D 172).1 e p) 0 s (upd (upd W k 2) (k + 1) (l_nv (D 172).1 e 1 9 p))))
        refine r_ireturn hE dX11_readWay_122 rfl (by exact y_nb _) (Nat.zero_le _) (Nat.zero_le _) ?_
        refine ⟨_, _, rfl, rfl, _, _, _, _, _, _, ?_, y_b_dec, rfl, ?_⟩
        · unfold l_way
          repeat first | rw [if_pos (by assumption)] | rw [if_neg (by assumption)] | rw [if_neg (fun z => z (by assumption))]
        · unfold l_bd
          omega
    · refine r_iconst (v := 1) hE dX11_readWay_22 (by decide) ?_
      refine r_goto (tgt := 53) hE dX11_readWay_23 (by decide) ?_
      refine r_istore_n (ls2 := [(0, .ref 169), (1, .int (nI k)), (2, .int 1)]) hE dX11_readWay_53 (by decide) rfl ?_
      refine r_aload_n hE dX11_readWay_54 rfl ?_
      refine t_getr hE f_X11_13 y_R_169_1 dX11_readWay_55 (hL 169 (by decide)) ?_
      refine r_iload_n hE dX11_readWay_58 rfl ?_
      refine r_iload_n hE dX11_readWay_59 rfl ?_
      refine t_iastN (e := k) hE y_A_170 dX11_readWay_60 (hL 170 (by decide)) (by omega) (by decide) ?_
      rw [m_P_w]
      refine r_iload_n hE dX11_readWay_61 rfl ?_
      refine r_if_ge (tgt := 67) hE dX11_readWay_62 (by decide) (fun _ => ?_) (fun c62 => by first | exact absurd c62 (by decide) | exact absurd (by decide) c62)
      refine r_aload_n hE dX11_readWay_67 rfl ?_
      refine r_iconst (v := 0) hE dX11_readWay_68 (by decide) ?_
      refine t_puti hE f_X11_178 y_I_169_9 dX11_readWay_69 (hL 169 (by decide)) rfl rfl ?_
      rw [show ((0 : Int32)) = nI 0 from rfl, m_P_9]
      refine r_iload_n hE dX11_readWay_72 rfl ?_
      refine r_iconst (v := 3) hE dX11_readWay_73 (by decide) ?_
      refine r_icmp_ne (tgt := 82) hE dX11_readWay_74 (by decide) (fun _ => ?_) (fun c74 => by first | exact absurd c74 (by decide) | exact absurd (by decide) c74)
      refine r_aload_n hE dX11_readWay_82 rfl ?_
      refine r_iload_n hE dX11_readWay_83 rfl ?_
      refine r_iconst (v := 1) hE dX11_readWay_84 (by decide) ?_
      refine r_iaddN (a := k) (b := 1) hE dX11_readWay_85 ?_
      refine r_aload_n hE dX11_readWay_86 rfl ?_
      refine r_iload_n hE dX11_readWay_87 rfl ?_
      refine r_if_ne (tgt := 95) hE dX11_readWay_88 (by decide) (fun _ => ?_) (fun c88 => by first | exact absurd c88 (by decide) | exact absurd (by decide) c88)
      refine r_iconst (v := 1) hE dX11_readWay_95 (by decide) ?_
      refine r_iload_n hE dX11_readWay_96 rfl ?_
      refine r_if_ne (tgt := 104) hE dX11_readWay_97 (by decide) (fun _ => ?_) (fun c97 => by first | exact absurd c97 (by decide) | exact absurd (by decide) c97)
      refine r_iload_n hE dX11_readWay_104 rfl ?_
      refine r_iconst (v := 1) hE dX11_readWay_105 (by decide) ?_
      refine r_icmp_ne (tgt := 114) hE dX11_readWay_106 (by decide) (fun c106 => by first | exact absurd c106 (by decide) | exact absurd (by decide) c106) (fun _ => ?_)
      refine r_bipush (v := 60) hE dX11_readWay_109 (by decide) ?_
      refine r_goto (tgt := 116) hE dX11_readWay_111 (by decide) ?_
      refine t_invv (r := (some (.int (l_nv (D 172).1 e 1 60 p)))) (S2 := (y_mk n L (m_P D (l_di (D 172).1 e p) (l_bl (D 172).1 e p) 0 s (upd W k 1)))) hE [.int 1, .int 60] (c_number (lo := 1) (hi := 60) (by first | decide | omega) (by decide) hL hen he (by omega)) v_yX11_number m_X11_140 dX11_readWay_116 rfl (hL 169 (by decide)) (y_l_169 ((m_P D p b 0 s (upd W k 1)) 169)) rfl (by decide) ⟨Nat.le_refl _, Nat.le_refl _⟩ (Nat.le_of_ble_eq_true rfl) ?_
      show E 0 0 119 [(0, .ref 169), (1, .int (nI k)), (2, .int 1)] [.int (l_nv (D 172).1 e 1 60 p), .int (nI (k + 1)), .ref 169] (y_mk n L (m_P D (l_di (D 172).1 e p) (l_bl (D 172).1 e p) 0 s (upd W k 1)))
      refine t_invv (r := (some (.int (y_b (0 ≤ (l_nv (D 172).1 e 1 60 p)))))) (S2 := (y_mk n L (m_P D (l_di (D 172).1 e p) (l_bl (D 172).1 e p) 0 s (upd (upd W k 1) (k + 1) (l_nv (D 172).1 e 1 60 p))))) hE [.int (nI (k + 1)), .int (l_nv (D 172).1 e 1 60 p)] (c_tellsP (k := k + 1) hL (by omega)) v_yX11_tells m_X11_211 dX11_readWay_119 rfl (hL 169 (by decide)) (y_l_169 ((m_P D (l_di (D 172).1 e p) (l_bl (D 172).1 e p) 0 s (upd W k 1)) 169)) rfl (by decide) ⟨Nat.le_refl _, Nat.le_refl _⟩ (Nat.le_of_ble_eq_true rfl) ?_
      show E 0 0 122 [(0, .ref 169), (1, .int (nI k)), (2, .int 1)] [.int (y_b (0 ≤ (l_nv (D 172).1 e 1 60 p)))] (y_mk n L (m_P D (l_di (D 172).1 e p) (l_bl (D 172).1 e p) 0 s (upd (upd W k 1) (k + 1) (l_nv (D 172).1 e 1 60 p))))
      refine r_ireturn hE dX11_readWay_122 rfl (by exact y_nb _) (Nat.zero_le _) (Nat.zero_le _) ?_
      refine ⟨_, _, rfl, rfl, _, _, _, _, _, _, ?_, y_b_dec, rfl, ?_⟩
      · unfold l_way
        repeat first | rw [if_pos (by assumption)] | rw [if_neg (by assumption)] | rw [if_neg (fun z => z (by assumption))]
      · unfold l_bd
        omega
  · refine r_iconst (v := 0) hE dX11_readWay_9 (by decide) ?_
    refine r_goto (tgt := 53) hE dX11_readWay_10 (by decide) ?_
    refine r_istore_n (ls2 := [(0, .ref 169), (1, .int (nI k)), (2, .int 0)]) hE dX11_readWay_53 (by decide) rfl ?_
    refine r_aload_n hE dX11_readWay_54 rfl ?_
    refine t_getr hE f_X11_13 y_R_169_1 dX11_readWay_55 (hL 169 (by decide)) ?_
    refine r_iload_n hE dX11_readWay_58 rfl ?_
    refine r_iload_n hE dX11_readWay_59 rfl ?_
    refine t_iastN (e := k) hE y_A_170 dX11_readWay_60 (hL 170 (by decide)) (by omega) (by decide) ?_
    rw [m_P_w]
    refine r_iload_n hE dX11_readWay_61 rfl ?_
    refine r_if_ge (tgt := 67) hE dX11_readWay_62 (by decide) (fun _ => ?_) (fun c62 => by first | exact absurd c62 (by decide) | exact absurd (by decide) c62)
    refine r_aload_n hE dX11_readWay_67 rfl ?_
    refine r_iconst (v := 0) hE dX11_readWay_68 (by decide) ?_
    refine t_puti hE f_X11_178 y_I_169_9 dX11_readWay_69 (hL 169 (by decide)) rfl rfl ?_
    rw [show ((0 : Int32)) = nI 0 from rfl, m_P_9]
    refine r_iload_n hE dX11_readWay_72 rfl ?_
    refine r_iconst (v := 3) hE dX11_readWay_73 (by decide) ?_
    refine r_icmp_ne (tgt := 82) hE dX11_readWay_74 (by decide) (fun _ => ?_) (fun c74 => by first | exact absurd c74 (by decide) | exact absurd (by decide) c74)
    refine r_aload_n hE dX11_readWay_82 rfl ?_
    refine r_iload_n hE dX11_readWay_83 rfl ?_
    refine r_iconst (v := 1) hE dX11_readWay_84 (by decide) ?_
    refine r_iaddN (a := k) (b := 1) hE dX11_readWay_85 ?_
    refine r_aload_n hE dX11_readWay_86 rfl ?_
    refine r_iload_n hE dX11_readWay_87 rfl ?_
    refine r_if_ne (tgt := 95) hE dX11_readWay_88 (by decide) (fun c88 => by first | exact absurd c88 (by decide) | exact absurd (by decide) c88) (fun _ => ?_)
    refine r_iconst (v := 0) hE dX11_readWay_91 (by decide) ?_
    refine r_goto (tgt := 96) hE dX11_readWay_92 (by decide) ?_
    refine r_iload_n hE dX11_readWay_96 rfl ?_
    refine r_if_ne (tgt := 104) hE dX11_readWay_97 (by decide) (fun c97 => by first | exact absurd c97 (by decide) | exact absurd (by decide) c97) (fun _ => ?_)
    refine r_iconst (v := 3) hE dX11_readWay_100 (by decide) ?_
    refine r_goto (tgt := 116) hE dX11_readWay_101 (by decide) ?_
    refine t_invv (r := (some (.int (l_nv (D 172).1 e 0 3 p)))) (S2 := (y_mk n L (m_P D (l_di (D 172).1 e p) (l_bl (D 172).1 e p) 0 s (upd W k 0)))) hE [.int 0, .int 3] (c_number (lo := 0) (hi := 3) (by first | decide | omega) (by decide) hL hen he (by omega)) v_yX11_number m_X11_140 dX11_readWay_116 rfl (hL 169 (by decide)) (y_l_169 ((m_P D p b 0 s (upd W k 0)) 169)) rfl (by decide) ⟨Nat.le_refl _, Nat.le_refl _⟩ (Nat.le_of_ble_eq_true rfl) ?_
    show E 0 0 119 [(0, .ref 169), (1, .int (nI k)), (2, .int 0)] [.int (l_nv (D 172).1 e 0 3 p), .int (nI (k + 1)), .ref 169] (y_mk n L (m_P D (l_di (D 172).1 e p) (l_bl (D 172).1 e p) 0 s (upd W k 0)))
    refine t_invv (r := (some (.int (y_b (0 ≤ (l_nv (D 172).1 e 0 3 p)))))) (S2 := (y_mk n L (m_P D (l_di (D 172).1 e p) (l_bl (D 172).1 e p) 0 s (upd (upd W k 0) (k + 1) (l_nv (D 172).1 e 0 3 p))))) hE [.int (nI (k + 1)), .int (l_nv (D 172).1 e 0 3 p)] (c_tellsP (k := k + 1) hL (by omega)) v_yX11_tells m_X11_211 dX11_readWay_119 rfl (hL 169 (by decide)) (y_l_169 ((m_P D (l_di (D 172).1 e p) (l_bl (D 172).1 e p) 0 s (upd W k 0)) 169)) rfl (by decide) ⟨Nat.le_refl _, Nat.le_refl _⟩ (Nat.le_of_ble_eq_true rfl) ?_
    show E 0 0 122 [(0, .ref 169), (1, .int (nI k)), (2, .int 0)] [.int (y_b (0 ≤ (l_nv (D 172).1 e 0 3 p)))] (y_mk n L (m_P D (l_di (D 172).1 e p) (l_bl (D 172).1 e p) 0 s (upd (upd W k 0) (k + 1) (l_nv (D 172).1 e 0 3 p))))
    refine r_ireturn hE dX11_readWay_122 rfl (by exact y_nb _) (Nat.zero_le _) (Nat.zero_le _) ?_
    refine ⟨_, _, rfl, rfl, _, _, _, _, _, _, ?_, y_b_dec, rfl, ?_⟩
    · unfold l_way
      repeat first | rw [if_pos (by assumption)] | rw [if_neg (by assumption)] | rw [if_neg (fun z => z (by assumption))]
    · unfold l_bd
      omega

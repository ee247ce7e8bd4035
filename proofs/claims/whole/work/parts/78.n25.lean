/-! the reference's rule and way -/
theorem nI_surj (x : Int32) : ∃ a : Nat, x = nI a := ⟨x.toBitVec.toNat, by
  show x = Int32.ofNat _
  apply Int32.toBitVec_inj.mp
  rw [Int32.toBitVec_ofNat']
  simp⟩
/-- the reader begins -/
def m_u (D : y_D) (e : Nat) : y_D := y_si (y_si (y_si (y_si (y_si D 169 0 0) 169 7 (nI e)) 169 5 0) 169 6 0) 169 12 0
theorem m_P_self {D : y_D} {p b g s : Nat} (h6 : (D 169).1 6 = nI p) (h8 : (D 169).1 8 = nI b) (h9 : (D 169).1 9 = nI g) (h12 : (D 169).1 12 = nI s) : D = m_P D p b g s (D 170).1 := by
  funext j
  rw [m_P_eq]
  by_cases c : j = 170
  · subst c; rfl
  · rw [y_sw_ne c]
    by_cases c2 : j = 169
    · subst c2
      unfold y_sw
      rw [if_pos rfl]
      refine Prod.ext ?_ rfl
      funext k
      dsimp only
      unfold upd
      split
      · rename_i h; rw [h]; exact h12
      · split
        · rename_i h; rw [h]; exact h9
        · split
          · rename_i h; rw [h]; exact h8
          · split
            · rename_i h; rw [h]; exact h6
            · rfl
    · rw [y_sw_ne c2]
theorem m_P_10 {D : y_D} {p b g s : Nat} {W : Nat → Int32} {v : Int32} : y_si (m_P D p b g s W) 169 10 v = m_P (y_si D 169 10 v) p b g s W := by
  rw [m_P_169, m_P_eq]
  funext j
  by_cases c : j = 170
  · subst c; rfl
  · rw [y_sw_ne c, y_sw_ne c]
    by_cases c2 : j = 169
    · subst c2
      unfold y_sw
      rw [if_pos rfl, if_pos rfl]
      refine Prod.ext ?_ (by rw [y_si_2])
      show upd (upd (upd (upd (upd (D 169).1 6 (nI p)) 8 (nI b)) 9 (nI g)) 12 (nI s)) 10 v = upd (upd (upd (upd (y_si D 169 10 v 169).1 6 (nI p)) 8 (nI b)) 9 (nI g)) 12 (nI s)
      rw [y_si_s]
      rw [y_updc (i := 12) (j := 10) (by decide), y_updc (i := 9) (j := 10) (by decide), y_updc (i := 8) (j := 10) (by decide), y_updc (i := 6) (j := 10) (by decide)]
    · rw [y_sw_ne c2, y_sw_ne c2, y_si_ne c2]
/-- k cells of the draft at a -/
def y_cpw (W : Nat → Int32) (a k : Nat) : Nat → Int32 := fun j => if a ≤ j ∧ j < a + k then W (8747 + (j - a)) else W j
theorem y_cpw_0 {W : Nat → Int32} {a : Nat} : y_cpw W a 0 = W := by
  funext j
  unfold y_cpw
  rw [if_neg (by omega)]
theorem y_cpw_s {W : Nat → Int32} {a k : Nat} (ha : a + 851 ≤ 8747) (hk : k < 851) : upd (y_cpw W a k) (a + k) (y_cpw W a k (8747 + k)) = y_cpw W a (k + 1) := by
  funext j
  unfold upd y_cpw
  rw [if_neg (show ¬ (a ≤ 8747 + k ∧ 8747 + k < a + k) by omega)]
  by_cases c : j = a + k
  · subst c
    rw [if_pos rfl, if_pos (by omega), show a + k - a = k by omega]
  · rw [if_neg c]
    by_cases c2 : a ≤ j ∧ j < a + k
    · rw [if_pos c2, if_pos (by omega)]
    · rw [if_neg c2, if_neg (by omega)]
/-- what keeps does with the reader's answer r -/
def m_KP (D1 : y_D) (c fr room m : Nat) (r : Int32) (p b g s : Nat) (W : Nat → Int32) (v : Int32) (D2 : y_D) : Prop :=
  (¬ 0 ≤ r ∧ v = 0 ∧ D2 = y_si (m_P (y_si D1 169 10 (nI b)) p b g s W) 169 0 1) ∨
  (0 ≤ r ∧ m = room ∧ v = 0 ∧ D2 = y_si (m_P (y_si D1 169 10 (-1)) p b g s W) 169 0 2) ∨
  (0 ≤ r ∧ m ≠ room ∧ v = nI m ∧ D2 = m_P (y_si D1 169 10 (-1)) p b g s (upd (upd (y_cpw W (237 + 851 * (fr + m)) 851) (237 + 851 * (fr + m)) r) c (nI (m + 1))))
theorem c_uses {V : x_E} {n : Nat} {L : List Nat} {D : y_D} {e : Nat} (hL : y_ok L) (ht : (D 169).1 5 = nI e) : y_Rv V yX11_uses cX11_uses 1 none 0 [.ref 169] n L D (fun D2 => ∃ (D1 : y_D) (b0 g0 : Nat), D1 = m_u D e ∧ D2 = m_P D1 0 b0 g0 0 (D 170).1) := by
  refine y_rv (by decide) (Nat.le_of_ble_eq_true rfl) (fun E hE => ?_)
  change E 0 0 0 [(0, .ref 169)] [] (y_mk n L D)
  refine r_aload_n hE dX11_uses_0 rfl ?_
  refine r_iconst (v := 0) hE dX11_uses_1 (by decide) ?_
  refine t_puti hE f_X11_3 y_I_169_0 dX11_uses_2 (hL 169 (by decide)) rfl rfl ?_
  refine r_aload_n hE dX11_uses_5 rfl ?_
  refine r_aload_n hE dX11_uses_6 rfl ?_
  refine t_geti hE f_X11_93 y_I_169_5 dX11_uses_7 (hL 169 (by decide)) ?_
  refine r_top (y := (nI e)) (show (D 169).1 5 = _ from ht) ?_
  refine t_puti hE f_X11_96 y_I_169_7 dX11_uses_10 (hL 169 (by decide)) rfl rfl ?_
  refine r_aload_n hE dX11_uses_13 rfl ?_
  refine r_iconst (v := 0) hE dX11_uses_14 (by decide) ?_
  refine t_puti hE f_X11_93 y_I_169_5 dX11_uses_15 (hL 169 (by decide)) rfl rfl ?_
  refine r_aload_n hE dX11_uses_18 rfl ?_
  refine r_iconst (v := 0) hE dX11_uses_19 (by decide) ?_
  refine t_puti hE f_X11_99 y_I_169_6 dX11_uses_20 (hL 169 (by decide)) rfl rfl ?_
  refine r_aload_n hE dX11_uses_23 rfl ?_
  refine r_iconst (v := 0) hE dX11_uses_24 (by decide) ?_
  refine t_puti hE f_X11_102 y_I_169_12 dX11_uses_25 (hL 169 (by decide)) rfl rfl ?_
  refine r_return hE dX11_uses_28 rfl (Nat.zero_le _) (Nat.zero_le _) ?_
  obtain ⟨b0, hb0⟩ := nI_surj ((D 169).1 8)
  obtain ⟨g0, hg0⟩ := nI_surj ((D 169).1 9)
  exact ⟨_, rfl, rfl, m_u D e, b0, g0, rfl, m_P_self (D := m_u D e) rfl hb0 hg0 rfl⟩
theorem c_keeps_1 {V : x_E} {n : Nat} {L : List Nat} {D00 : y_D} {e m : Nat} (hV : y_V V) (hF : y_fm V) (hL : y_ok L) (ht : (D00 169).1 5 = nI e) (he : e ≤ 400) (hm : (D00 170).1 1 = nI m) (hmr : m ≤ 4) : y_Ri V yX11_keeps cX11_keeps 8 (some .int) 9 [.ref 169, .int 1, .int (nI 1), .int (nI 0), .int (nI 4)] n L D00 (fun v D2 => ∃ (D1 : y_D) (b0 g0 : Nat) (r : Int32) (p2 b2 g2 s2 : Nat) (W2 : Nat → Int32), D1 = m_u D00 e ∧ l_all (D1 172).1 e (l_rule (D1 172).1 e) 0 b0 g0 0 (D00 170).1 = (r, p2, b2, g2, s2, W2) ∧ l_bd e 0 0 p2 s2 ∧ m_KP D1 1 0 4 m r p2 b2 g2 s2 W2 v D2) := by
  refine y_ri (by decide) (Nat.le_of_ble_eq_true rfl) (fun E hE => ?_)
  change E 0 0 0 [(0, .ref 169), (1, .int 1), (2, .int (nI 1)), (3, .int (nI 0)), (4, .int (nI 4))] [] (y_mk n L D00)
  refine r_aload_n hE dX11_keeps_0 rfl ?_
  refine t_invvRv hE [] (c_uses hL ht) v_yX11_uses m_X11_238 dX11_keeps_1 rfl (hL 169 (by decide)) (y_l_169 (D00 169)) rfl (by decide) ⟨Nat.le_refl _, Nat.le_refl _⟩ (Nat.le_of_ble_eq_true rfl) (fun E1 q1 => ?_)
  obtain ⟨D, b0, g0, hD1, rfl⟩ := q1
  have hen : (D 169).1 7 = nI e := by rw [hD1]; rfl
  show E 0 0 4 [(0, .ref 169), (1, .int 1), (2, .int (nI 1)), (3, .int (nI 0)), (4, .int (nI 4))] [] (y_mk n L (m_P D 0 b0 g0 0 (D00 170).1))
  refine r_aload_n hE dX11_keeps_4 rfl ?_
  refine r_iload_n hE dX11_keeps_5 rfl ?_
  refine t_invvRi hE [.int 1] (c_readAll_1 hV hF hL hen he (Nat.zero_le _) (Nat.zero_le _)) v_yX11_readAll m_X11_241 dX11_keeps_6 rfl (hL 169 (by decide)) (y_l_169 ((m_P D 0 b0 g0 0 (D00 170).1) 169)) rfl (by decide) ⟨Nat.le_refl _, Nat.le_refl _⟩ (Nat.le_of_ble_eq_true rfl) (fun r2 E2 q2 => ?_)
  obtain ⟨p2, b2, g2, s2, W2, hf2, rfl, hb2⟩ := q2
  have hwc : W2 1 = nI m := by
    have h1 := l_all_k (T := (D 172).1) (e := e) (G := (l_rule (D 172).1 e)) (fun k hk => l_rule_k hk) (p := 0) (b := b0) (g := g0) (s := 0) (W := (D00 170).1) (j := 1) (by decide)
    rw [hf2] at h1
    exact h1.trans hm
  show E 0 0 9 [(0, .ref 169), (1, .int 1), (2, .int (nI 1)), (3, .int (nI 0)), (4, .int (nI 4))] [.int r2] (y_mk n L (m_P D p2 b2 g2 s2 W2))
  refine r_istore (ls2 := [(0, .ref 169), (1, .int 1), (2, .int (nI 1)), (3, .int (nI 0)), (4, .int (nI 4)), (5, .int r2)]) hE dX11_keeps_9 (by decide) rfl ?_
  refine r_aload_n hE dX11_keeps_11 rfl ?_
  refine r_iload hE dX11_keeps_12 rfl ?_
  refine r_if_ge (tgt := 24) hE dX11_keeps_14 (by decide) (fun c14 => ?_) (fun c14 => ?_)
  · refine r_iconst (v := (-1)) hE dX11_keeps_24 (by decide) ?_
    refine t_puti hE f_X11_24 y_I_169_10 dX11_keeps_25 (hL 169 (by decide)) rfl rfl ?_
    rw [m_P_10]
    refine r_aload_n hE dX11_keeps_28 rfl ?_
    refine r_iload hE dX11_keeps_29 rfl ?_
    refine r_if_ge (tgt := 38) hE dX11_keeps_31 (by decide) (fun c31 => ?_) (fun c31 => ?_)
    · refine r_iconst (v := 0) hE dX11_keeps_38 (by decide) ?_
      refine r_iconst (v := 1) hE dX11_keeps_39 (by decide) ?_
      refine t_invv (r := (some (.int 0))) (S2 := (y_mk n L (m_P (y_si D 169 10 (-1)) p2 b2 g2 s2 W2))) hE [.int 0, .int 1] (c_throwsF) v_yX11_throwsIf m_X11_85 dX11_keeps_40 rfl (hL 169 (by decide)) (y_l_169 ((m_P (y_si D 169 10 (-1)) p2 b2 g2 s2 W2) 169)) rfl (by decide) ⟨Nat.le_refl _, Nat.le_refl _⟩ (Nat.le_of_ble_eq_true rfl) ?_
      show E 0 0 43 [(0, .ref 169), (1, .int 1), (2, .int (nI 1)), (3, .int (nI 0)), (4, .int (nI 4)), (5, .int r2)] [.int 0] (y_mk n L (m_P (y_si D 169 10 (-1)) p2 b2 g2 s2 W2))
      refine r_if_ne (tgt := 70) hE dX11_keeps_43 (by decide) (fun c43 => by first | exact absurd c43 (by decide) | exact absurd (by decide) c43) (fun _ => ?_)
      refine r_aload_n hE dX11_keeps_46 rfl ?_
      refine r_aload_n hE dX11_keeps_47 rfl ?_
      refine t_getr hE f_X11_13 y_R_169_1 dX11_keeps_48 (hL 169 (by decide)) ?_
      refine r_iload_n hE dX11_keeps_51 rfl ?_
      refine t_ialdN (e := 1) hE y_A_170 dX11_keeps_52 (hL 170 (by decide)) (by omega) (by decide) ?_
      refine r_top (y := (nI m)) (show W2 1 = _ from hwc) ?_
      refine r_iload hE dX11_keeps_53 rfl ?_
      refine r_icmp_neN (a := m) (b := 4) (tgt := 62) hE dX11_keeps_55 (by decide) (by omega) (by decide) (fun c55 => ?_) (fun c55 => ?_)
      · refine r_iconst (v := 0) hE dX11_keeps_62 (by decide) ?_
        refine r_iconst (v := 2) hE dX11_keeps_63 (by decide) ?_
        refine t_invv (r := (some (.int 0))) (S2 := (y_mk n L (m_P (y_si D 169 10 (-1)) p2 b2 g2 s2 W2))) hE [.int 0, .int 2] (c_throwsF) v_yX11_throwsIf m_X11_85 dX11_keeps_64 rfl (hL 169 (by decide)) (y_l_169 ((m_P (y_si D 169 10 (-1)) p2 b2 g2 s2 W2) 169)) rfl (by decide) ⟨Nat.le_refl _, Nat.le_refl _⟩ (Nat.le_of_ble_eq_true rfl) ?_
        show E 0 0 67 [(0, .ref 169), (1, .int 1), (2, .int (nI 1)), (3, .int (nI 0)), (4, .int (nI 4)), (5, .int r2)] [.int 0] (y_mk n L (m_P (y_si D 169 10 (-1)) p2 b2 g2 s2 W2))
        refine r_if_eq (tgt := 72) hE dX11_keeps_67 (by decide) (fun _ => ?_) (fun c67 => by first | exact absurd c67 (by decide) | exact absurd (by decide) c67)
        refine r_iload_n hE dX11_keeps_72 rfl ?_
        refine r_aload_n hE dX11_keeps_73 rfl ?_
        refine t_getr hE f_X11_13 y_R_169_1 dX11_keeps_74 (hL 169 (by decide)) ?_
        refine r_iload_n hE dX11_keeps_77 rfl ?_
        refine t_ialdN (e := 1) hE y_A_170 dX11_keeps_78 (hL 170 (by decide)) (by omega) (by decide) ?_
        refine r_top (y := (nI m)) (show W2 1 = _ from hwc) ?_
        refine r_iaddN (a := 0) (b := m) hE dX11_keeps_79 ?_
        refine r_istore (ls2 := [(0, .ref 169), (1, .int 1), (2, .int (nI 1)), (3, .int (nI 0)), (4, .int (nI 4)), (5, .int r2), (6, .int (nI (0 + m)))]) hE dX11_keeps_80 (by decide) rfl ?_
        refine r_iconst (v := 0) hE dX11_keeps_82 (by decide) ?_
        refine r_istore (ls2 := [(0, .ref 169), (1, .int 1), (2, .int (nI 1)), (3, .int (nI 0)), (4, .int (nI 4)), (5, .int r2), (6, .int (nI (0 + m))), (7, .int 0)]) hE dX11_keeps_83 (by decide) rfl ?_
        have l1 : ∀ (k : Nat), k ≤ 851 → E 0 0 85 [(0, .ref 169), (1, .int 1), (2, .int (nI 1)), (3, .int (nI 0)), (4, .int (nI 4)), (5, .int r2), (6, .int (nI (0 + m))), (7, .int (nI k))] [] (y_mk n L (m_P (y_si D 169 10 (-1)) p2 b2 g2 s2 (y_cpw W2 (237 + 851 * (0 + m)) k))) := by
          intro k
          induction hm9 : (851 - k) using Nat.strongRecOn generalizing k with
          | _ m9 ih =>
            intro hk
            subst hm9
            refine r_iload hE dX11_keeps_85 rfl ?_
            refine r_sipush (v := 851) hE dX11_keeps_87 (by decide) ?_
            refine r_icmp_geN (a := k) (b := 851) (tgt := 125) hE dX11_keeps_90 (by decide) (by omega) (by decide) (fun c90 => ?_) (fun c90 => ?_)
            · have hk2 : k = 851 := by omega
              subst hk2
              refine r_aload_n hE dX11_keeps_125 rfl ?_
              refine t_getr hE f_X11_13 y_R_169_1 dX11_keeps_126 (hL 169 (by decide)) ?_
              refine r_iload hE dX11_keeps_129 rfl ?_
              refine t_invs (r := (some (.int (nI (237 + 851 * (0 + m)))))) (S2 := (y_mk n L (m_P (y_si D 169 10 (-1)) p2 b2 g2 s2 (y_cpw W2 (237 + 851 * (0 + m)) 851)))) hE [.int (nI (0 + m))] (c_textAt) s_yX11_textAt m_X11_132 dX11_keeps_131 rfl (by decide) ⟨Nat.le_refl _, Nat.le_refl _⟩ (Nat.le_of_ble_eq_true rfl) ?_
              show E 0 0 134 [(0, .ref 169), (1, .int 1), (2, .int (nI 1)), (3, .int (nI 0)), (4, .int (nI 4)), (5, .int r2), (6, .int (nI (0 + m))), (7, .int (nI 851))] [.int (nI (237 + 851 * (0 + m))), .ref 170] (y_mk n L (m_P (y_si D 169 10 (-1)) p2 b2 g2 s2 (y_cpw W2 (237 + 851 * (0 + m)) 851)))
              refine r_iload hE dX11_keeps_134 rfl ?_
              refine t_iastN (e := 237 + 851 * (0 + m)) hE y_A_170 dX11_keeps_136 (hL 170 (by decide)) (by omega) (by decide) ?_
              rw [m_P_w]
              refine r_aload_n hE dX11_keeps_137 rfl ?_
              refine t_getr hE f_X11_13 y_R_169_1 dX11_keeps_138 (hL 169 (by decide)) ?_
              refine r_iload_n hE dX11_keeps_141 rfl ?_
              refine r_dup2 hE dX11_keeps_142 rfl rfl ?_
              refine t_ialdN (e := 1) hE y_A_170 dX11_keeps_143 (hL 170 (by decide)) (by omega) (by decide) ?_
              refine r_top (y := (nI m)) (show (upd (y_cpw W2 (237 + 851 * (0 + m)) 851) (237 + 851 * (0 + m)) r2) 1 = nI m from (by rw [l_up_k (by omega), y_cpw, if_neg (by omega)]; exact hwc)) ?_
              refine r_iconst (v := 1) hE dX11_keeps_144 (by decide) ?_
              refine r_iaddN (a := m) (b := 1) hE dX11_keeps_145 ?_
              refine t_iastN (e := 1) hE y_A_170 dX11_keeps_146 (hL 170 (by decide)) (by omega) (by decide) ?_
              rw [m_P_w]
              refine r_aload_n hE dX11_keeps_147 rfl ?_
              refine t_getr hE f_X11_13 y_R_169_1 dX11_keeps_148 (hL 169 (by decide)) ?_
              refine r_iload_n hE dX11_keeps_151 rfl ?_
              refine t_ialdN (e := 1) hE y_A_170 dX11_keeps_152 (hL 170 (by decide)) (by omega) (by decide) ?_
              refine r_top (y := (nI (m + 1))) (show (upd (upd (y_cpw W2 (237 + 851 * (0 + m)) 851) (237 + 851 * (0 + m)) r2) 1 (nI (m + 1))) 1 = nI (m + 1) from y_upds) ?_
              refine r_iconst (v := 1) hE dX11_keeps_153 (by decide) ?_
              refine r_isubN (a := m + 1) (b := 1) hE dX11_keeps_154 (by omega) ?_
              refine r_ireturn hE dX11_keeps_155 rfl rfl (Nat.zero_le _) (Nat.zero_le _) ?_
              exact ⟨_, _, rfl, rfl, D, b0, g0, r2, p2, b2, g2, s2, W2, hD1, hf2, hb2, Or.inr (Or.inr ⟨c14, c55, rfl, rfl⟩)⟩
            · refine r_aload_n hE dX11_keeps_93 rfl ?_
              refine t_getr hE f_X11_13 y_R_169_1 dX11_keeps_94 (hL 169 (by decide)) ?_
              refine r_iload hE dX11_keeps_97 rfl ?_
              refine t_invs (r := (some (.int (nI (237 + 851 * (0 + m)))))) (S2 := (y_mk n L (m_P (y_si D 169 10 (-1)) p2 b2 g2 s2 (y_cpw W2 (237 + 851 * (0 + m)) k)))) hE [.int (nI (0 + m))] (c_textAt) s_yX11_textAt m_X11_132 dX11_keeps_99 rfl (by decide) ⟨Nat.le_refl _, Nat.le_refl _⟩ (Nat.le_of_ble_eq_true rfl) ?_
              show E 0 0 102 [(0, .ref 169), (1, .int 1), (2, .int (nI 1)), (3, .int (nI 0)), (4, .int (nI 4)), (5, .int r2), (6, .int (nI (0 + m))), (7, .int (nI k))] [.int (nI (237 + 851 * (0 + m))), .ref 170] (y_mk n L (m_P (y_si D 169 10 (-1)) p2 b2 g2 s2 (y_cpw W2 (237 + 851 * (0 + m)) k)))
              refine r_iload hE dX11_keeps_102 rfl ?_
              refine r_iaddN (a := 237 + 851 * (0 + m)) (b := k) hE dX11_keeps_104 ?_
              refine r_aload_n hE dX11_keeps_105 rfl ?_
              refine t_getr hE f_X11_13 y_R_169_1 dX11_keeps_106 (hL 169 (by decide)) ?_
              refine r_bipush (v := 10) hE dX11_keeps_109 (by decide) ?_
              refine t_invs (r := (some (.int (nI (237 + 851 * 10))))) (S2 := (y_mk n L (m_P (y_si D 169 10 (-1)) p2 b2 g2 s2 (y_cpw W2 (237 + 851 * (0 + m)) k)))) hE [.int 10] (c_textAt) s_yX11_textAt m_X11_132 dX11_keeps_111 rfl (by decide) ⟨Nat.le_refl _, Nat.le_refl _⟩ (Nat.le_of_ble_eq_true rfl) ?_
              show E 0 0 114 [(0, .ref 169), (1, .int 1), (2, .int (nI 1)), (3, .int (nI 0)), (4, .int (nI 4)), (5, .int r2), (6, .int (nI (0 + m))), (7, .int (nI k))] [.int (nI (237 + 851 * 10)), .ref 170, .int (nI ((237 + 851 * (0 + m)) + k)), .ref 170] (y_mk n L (m_P (y_si D 169 10 (-1)) p2 b2 g2 s2 (y_cpw W2 (237 + 851 * (0 + m)) k)))
              refine r_iload hE dX11_keeps_114 rfl ?_
              refine r_iaddN (a := 237 + 851 * 10) (b := k) hE dX11_keeps_116 ?_
              refine t_ialdN (e := (237 + 851 * 10) + k) hE y_A_170 dX11_keeps_117 (hL 170 (by decide)) (by omega) (by decide) ?_
              refine r_top (y := ((y_cpw W2 (237 + 851 * (0 + m)) k) ((237 + 851 * 10) + k))) rfl ?_
              refine t_iastN (e := (237 + 851 * (0 + m)) + k) hE y_A_170 dX11_keeps_118 (hL 170 (by decide)) (by omega) (by decide) ?_
              rw [m_P_w]
              refine r_iincN (a := k) (b := 1) (ls2 := [(0, .ref 169), (1, .int 1), (2, .int (nI 1)), (3, .int (nI 0)), (4, .int (nI 4)), (5, .int r2), (6, .int (nI (0 + m))), (7, .int (nI (k + 1)))]) hE dX11_keeps_119 rfl rfl (by decide) rfl ?_
              refine r_goto (tgt := 85) hE dX11_keeps_122 (by decide) ?_
              rw [y_cpw_s (by omega) (by omega)]
              exact ih (851 - (k + 1)) (by omega) (k + 1) rfl (by omega)
        have h0 := l1 0 (Nat.zero_le _)
        rw [y_cpw_0] at h0
        exact h0
      · refine r_iconst (v := 1) hE dX11_keeps_58 (by decide) ?_
        refine r_goto (tgt := 63) hE dX11_keeps_59 (by decide) ?_
        refine r_iconst (v := 2) hE dX11_keeps_63 (by decide) ?_
        refine t_invv (r := (some (.int 1))) (S2 := (y_mk n L (y_si (m_P (y_si D 169 10 (-1)) p2 b2 g2 s2 W2) 169 0 2))) hE [.int 1, .int 2] (c_throwsT hL) v_yX11_throwsIf m_X11_85 dX11_keeps_64 rfl (hL 169 (by decide)) (y_l_169 ((m_P (y_si D 169 10 (-1)) p2 b2 g2 s2 W2) 169)) rfl (by decide) ⟨Nat.le_refl _, Nat.le_refl _⟩ (Nat.le_of_ble_eq_true rfl) ?_
        show E 0 0 67 [(0, .ref 169), (1, .int 1), (2, .int (nI 1)), (3, .int (nI 0)), (4, .int (nI 4)), (5, .int r2)] [.int 1] (y_mk n L (y_si (m_P (y_si D 169 10 (-1)) p2 b2 g2 s2 W2) 169 0 2))
        refine r_if_eq (tgt := 72) hE dX11_keeps_67 (by decide) (fun c67 => by first | exact absurd c67 (by decide) | exact absurd (by decide) c67) (fun _ => ?_)
        refine r_iconst (v := 0) hE dX11_keeps_70 (by decide) ?_
        refine r_ireturn hE dX11_keeps_71 rfl rfl (Nat.zero_le _) (Nat.zero_le _) ?_
        exact ⟨_, _, rfl, rfl, D, b0, g0, r2, p2, b2, g2, s2, W2, hD1, hf2, hb2, Or.inr (Or.inl ⟨c14, c55, rfl, rfl⟩)⟩
    · exact absurd c14 c31
  · refine r_aload_n hE dX11_keeps_17 rfl ?_
    refine t_geti hE f_X11_109 y_I_169_8 dX11_keeps_18 (hL 169 (by decide)) ?_
    refine r_top (y := (nI b2)) rfl ?_
    refine r_goto (tgt := 25) hE dX11_keeps_21 (by decide) ?_
    refine t_puti hE f_X11_24 y_I_169_10 dX11_keeps_25 (hL 169 (by decide)) rfl rfl ?_
    rw [m_P_10]
    refine r_aload_n hE dX11_keeps_28 rfl ?_
    refine r_iload hE dX11_keeps_29 rfl ?_
    refine r_if_ge (tgt := 38) hE dX11_keeps_31 (by decide) (fun c31 => ?_) (fun c31 => ?_)
    · exact absurd c31 c14
    · refine r_iconst (v := 1) hE dX11_keeps_34 (by decide) ?_
      refine r_goto (tgt := 39) hE dX11_keeps_35 (by decide) ?_
      refine r_iconst (v := 1) hE dX11_keeps_39 (by decide) ?_
      refine t_invv (r := (some (.int 1))) (S2 := (y_mk n L (y_si (m_P (y_si D 169 10 (nI b2)) p2 b2 g2 s2 W2) 169 0 1))) hE [.int 1, .int 1] (c_throwsT hL) v_yX11_throwsIf m_X11_85 dX11_keeps_40 rfl (hL 169 (by decide)) (y_l_169 ((m_P (y_si D 169 10 (nI b2)) p2 b2 g2 s2 W2) 169)) rfl (by decide) ⟨Nat.le_refl _, Nat.le_refl _⟩ (Nat.le_of_ble_eq_true rfl) ?_
      show E 0 0 43 [(0, .ref 169), (1, .int 1), (2, .int (nI 1)), (3, .int (nI 0)), (4, .int (nI 4)), (5, .int r2)] [.int 1] (y_mk n L (y_si (m_P (y_si D 169 10 (nI b2)) p2 b2 g2 s2 W2) 169 0 1))
      refine r_if_ne (tgt := 70) hE dX11_keeps_43 (by decide) (fun _ => ?_) (fun c43 => by first | exact absurd c43 (by decide) | exact absurd (by decide) c43)
      refine r_iconst (v := 0) hE dX11_keeps_70 (by decide) ?_
      refine r_ireturn hE dX11_keeps_71 rfl rfl (Nat.zero_le _) (Nat.zero_le _) ?_
      exact ⟨_, _, rfl, rfl, D, b0, g0, r2, p2, b2, g2, s2, W2, hD1, hf2, hb2, Or.inl ⟨c14, rfl, rfl⟩⟩
theorem c_rule {V : x_E} {n : Nat} {L : List Nat} {D00 : y_D} {e m : Nat} (hV : y_V V) (hF : y_fm V) (hL : y_ok L) (ht : (D00 169).1 5 = nI e) (he : e ≤ 400) (hm : (D00 170).1 1 = nI m) (hmr : m ≤ 4) : y_Ri V yX11_rule cX11_rule 1 (some .int) 10 [.ref 169] n L D00 (fun v D2 => ∃ (D1 : y_D) (b0 g0 : Nat) (r : Int32) (p2 b2 g2 s2 : Nat) (W2 : Nat → Int32), D1 = m_u D00 e ∧ l_all (D1 172).1 e (l_rule (D1 172).1 e) 0 b0 g0 0 (D00 170).1 = (r, p2, b2, g2, s2, W2) ∧ l_bd e 0 0 p2 s2 ∧ m_KP D1 1 0 4 m r p2 b2 g2 s2 W2 v D2) := by
  refine y_ri (by decide) (Nat.le_of_ble_eq_true rfl) (fun E hE => ?_)
  change E 0 0 0 [(0, .ref 169)] [] (y_mk n L D00)
  refine r_aload_n hE dX11_rule_0 rfl ?_
  refine r_iconst (v := 1) hE dX11_rule_1 (by decide) ?_
  refine r_iconst (v := 1) hE dX11_rule_2 (by decide) ?_
  refine r_iconst (v := 0) hE dX11_rule_3 (by decide) ?_
  refine r_iconst (v := 4) hE dX11_rule_4 (by decide) ?_
  refine t_invvRi hE [.int 1, .int 1, .int 0, .int 4] (c_keeps_1 hV hF hL ht he hm hmr) v_yX11_keeps m_X11_245 dX11_rule_5 rfl (hL 169 (by decide)) (y_l_169 (D00 169)) rfl (by decide) ⟨Nat.le_refl _, Nat.le_refl _⟩ (Nat.le_of_ble_eq_true rfl) (fun r1 E1 q1 => ?_)
  show E 0 0 8 [(0, .ref 169)] [.int r1] (y_mk n L E1)
  refine r_ireturn hE dX11_rule_8 rfl rfl (Nat.zero_le _) (Nat.zero_le _) ?_
  exact ⟨_, _, rfl, rfl, q1⟩
theorem c_keeps_0 {V : x_E} {n : Nat} {L : List Nat} {D00 : y_D} {e m : Nat} (hV : y_V V) (hF : y_fm V) (hL : y_ok L) (ht : (D00 169).1 5 = nI e) (he : e ≤ 400) (hm : (D00 170).1 2 = nI m) (hmr : m ≤ 6) : y_Ri V yX11_keeps cX11_keeps 8 (some .int) 32 [.ref 169, .int 0, .int (nI 2), .int (nI 4), .int (nI 6)] n L D00 (fun v D2 => ∃ (D1 : y_D) (b0 g0 : Nat) (r : Int32) (p2 b2 g2 s2 : Nat) (W2 : Nat → Int32), D1 = m_u D00 e ∧ l_all (D1 172).1 e (l_way (D1 172).1 e) 0 b0 g0 0 (D00 170).1 = (r, p2, b2, g2, s2, W2) ∧ l_bd e 0 0 p2 s2 ∧ m_KP D1 2 4 6 m r p2 b2 g2 s2 W2 v D2) := by
  refine y_ri (by decide) (Nat.le_of_ble_eq_true rfl) (fun E hE => ?_)
  change E 0 0 0 [(0, .ref 169), (1, .int 0), (2, .int (nI 2)), (3, .int (nI 4)), (4, .int (nI 6))] [] (y_mk n L D00)
  refine r_aload_n hE dX11_keeps_0 rfl ?_
  refine t_invvRv hE [] (c_uses hL ht) v_yX11_uses m_X11_238 dX11_keeps_1 rfl (hL 169 (by decide)) (y_l_169 (D00 169)) rfl (by decide) ⟨Nat.le_refl _, Nat.le_refl _⟩ (Nat.le_of_ble_eq_true rfl) (fun E1 q1 => ?_)
  obtain ⟨D, b0, g0, hD1, rfl⟩ := q1
  have hen : (D 169).1 7 = nI e := by rw [hD1]; rfl
  show E 0 0 4 [(0, .ref 169), (1, .int 0), (2, .int (nI 2)), (3, .int (nI 4)), (4, .int (nI 6))] [] (y_mk n L (m_P D 0 b0 g0 0 (D00 170).1))
  refine r_aload_n hE dX11_keeps_4 rfl ?_
  refine r_iload_n hE dX11_keeps_5 rfl ?_
  refine t_invvRi hE [.int 0] (c_readAll_0 hV hF hL hen he (Nat.zero_le _) (Nat.zero_le _)) v_yX11_readAll m_X11_241 dX11_keeps_6 rfl (hL 169 (by decide)) (y_l_169 ((m_P D 0 b0 g0 0 (D00 170).1) 169)) rfl (by decide) ⟨Nat.le_refl _, Nat.le_refl _⟩ (Nat.le_of_ble_eq_true rfl) (fun r2 E2 q2 => ?_)
  obtain ⟨p2, b2, g2, s2, W2, hf2, rfl, hb2⟩ := q2
  have hwc : W2 2 = nI m := by
    have h1 := l_all_k (T := (D 172).1) (e := e) (G := (l_way (D 172).1 e)) (fun k hk => l_way_k hk) (p := 0) (b := b0) (g := g0) (s := 0) (W := (D00 170).1) (j := 2) (by decide)
    rw [hf2] at h1
    exact h1.trans hm
  show E 0 0 9 [(0, .ref 169), (1, .int 0), (2, .int (nI 2)), (3, .int (nI 4)), (4, .int (nI 6))] [.int r2] (y_mk n L (m_P D p2 b2 g2 s2 W2))
  refine r_istore (ls2 := [(0, .ref 169), (1, .int 0), (2, .int (nI 2)), (3, .int (nI 4)), (4, .int (nI 6)), (5, .int r2)]) hE dX11_keeps_9 (by decide) rfl ?_
  refine r_aload_n hE dX11_keeps_11 rfl ?_
  refine r_iload hE dX11_keeps_12 rfl ?_
  refine r_if_ge (tgt := 24) hE dX11_keeps_14 (by decide) (fun c14 => ?_) (fun c14 => ?_)
  · refine r_iconst (v := (-1)) hE dX11_keeps_24 (by decide) ?_
    refine t_puti hE f_X11_24 y_I_169_10 dX11_keeps_25 (hL 169 (by decide)) rfl rfl ?_
    rw [m_P_10]
    refine r_aload_n hE dX11_keeps_28 rfl ?_
    refine r_iload hE dX11_keeps_29 rfl ?_
    refine r_if_ge (tgt := 38) hE dX11_keeps_31 (by decide) (fun c31 => ?_) (fun c31 => ?_)
    · refine r_iconst (v := 0) hE dX11_keeps_38 (by decide) ?_
      refine r_iconst (v := 1) hE dX11_keeps_39 (by decide) ?_
      refine t_invv (r := (some (.int 0))) (S2 := (y_mk n L (m_P (y_si D 169 10 (-1)) p2 b2 g2 s2 W2))) hE [.int 0, .int 1] (c_throwsF) v_yX11_throwsIf m_X11_85 dX11_keeps_40 rfl (hL 169 (by decide)) (y_l_169 ((m_P (y_si D 169 10 (-1)) p2 b2 g2 s2 W2) 169)) rfl (by decide) ⟨Nat.le_refl _, Nat.le_refl _⟩ (Nat.le_of_ble_eq_true rfl) ?_
      show E 0 0 43 [(0, .ref 169), (1, .int 0), (2, .int (nI 2)), (3, .int (nI 4)), (4, .int (nI 6)), (5, .int r2)] [.int 0] (y_mk n L (m_P (y_si D 169 10 (-1)) p2 b2 g2 s2 W2))
      refine r_if_ne (tgt := 70) hE dX11_keeps_43 (by decide) (fun c43 => by first | exact absurd c43 (by decide) | exact absurd (by decide) c43) (fun _ => ?_)
      refine r_aload_n hE dX11_keeps_46 rfl ?_
      refine r_aload_n hE dX11_keeps_47 rfl ?_
      refine t_getr hE f_X11_13 y_R_169_1 dX11_keeps_48 (hL 169 (by decide)) ?_
      refine r_iload_n hE dX11_keeps_51 rfl ?_
      refine t_ialdN (e := 2) hE y_A_170 dX11_keeps_52 (hL 170 (by decide)) (by omega) (by decide) ?_
      refine r_top (y := (nI m)) (show W2 2 = _ from hwc) ?_
      refine r_iload hE dX11_keeps_53 rfl ?_
      refine r_icmp_neN (a := m) (b := 6) (tgt := 62) hE dX11_keeps_55 (by decide) (by omega) (by decide) (fun c55 => ?_) (fun c55 => ?_)
      · refine r_iconst (v := 0) hE dX11_keeps_62 (by decide) ?_
        refine r_iconst (v := 2) hE dX11_keeps_63 (by decide) ?_
        refine t_invv (r := (some (.int 0))) (S2 := (y_mk n L (m_P (y_si D 169 10 (-1)) p2 b2 g2 s2 W2))) hE [.int 0, .int 2] (c_throwsF) v_yX11_throwsIf m_X11_85 dX11_keeps_64 rfl (hL 169 (by decide)) (y_l_169 ((m_P (y_si D 169 10 (-1)) p2 b2 g2 s2 W2) 169)) rfl (by decide) ⟨Nat.le_refl _, Nat.le_refl _⟩ (Nat.le_of_ble_eq_true rfl) ?_
        show E 0 0 67 [(0, .ref 169), (1, .int 0), (2, .int (nI 2)), (3, .int (nI 4)), (4, .int (nI 6)), (5, .int r2)] [.int 0] (y_mk n L (m_P (y_si D 169 10 (-1)) p2 b2 g2 s2 W2))
        refine r_if_eq (tgt := 72) hE dX11_keeps_67 (by decide) (fun _ => ?_) (fun c67 => by first | exact absurd c67 (by decide) | exact absurd (by decide) c67)
        refine r_iload_n hE dX11_keeps_72 rfl ?_
        refine r_aload_n hE dX11_keeps_73 rfl ?_
        refine t_getr hE f_X11_13 y_R_169_1 dX11_keeps_74 (hL 169 (by decide)) ?_
        refine r_iload_n hE dX11_keeps_77 rfl ?_
        refine t_ialdN (e := 2) hE y_A_170 dX11_keeps_78 (hL 170 (by decide)) (by omega) (by decide) ?_
        refine r_top (y := (nI m)) (show W2 2 = _ from hwc) ?_
        refine r_iaddN (a := 4) (b := m) hE dX11_keeps_79 ?_
        refine r_istore (ls2 := [(0, .ref 169), (1, .int 0), (2, .int (nI 2)), (3, .int (nI 4)), (4, .int (nI 6)), (5, .int r2), (6, .int (nI (4 + m)))]) hE dX11_keeps_80 (by decide) rfl ?_
        refine r_iconst (v := 0) hE dX11_keeps_82 (by decide) ?_
        refine r_istore (ls2 := [(0, .ref 169), (1, .int 0), (2, .int (nI 2)), (3, .int (nI 4)), (4, .int (nI 6)), (5, .int r2), (6, .int (nI (4 + m))), (7, .int 0)]) hE dX11_keeps_83 (by decide) rfl ?_
        have l1 : ∀ (k : Nat), k ≤ 851 → E 0 0 85 [(0, .ref 169), (1, .int 0), (2, .int (nI 2)), (3, .int (nI 4)), (4, .int (nI 6)), (5, .int r2), (6, .int (nI (4 + m))), (7, .int (nI k))] [] (y_mk n L (m_P (y_si D 169 10 (-1)) p2 b2 g2 s2 (y_cpw W2 (237 + 851 * (4 + m)) k))) := by
          intro k
          induction hm9 : (851 - k) using Nat.strongRecOn generalizing k with
          | _ m9 ih =>
            intro hk
            subst hm9
            refine r_iload hE dX11_keeps_85 rfl ?_
            refine r_sipush (v := 851) hE dX11_keeps_87 (by decide) ?_
            refine r_icmp_geN (a := k) (b := 851) (tgt := 125) hE dX11_keeps_90 (by decide) (by omega) (by decide) (fun c90 => ?_) (fun c90 => ?_)
            · have hk2 : k = 851 := by omega
              subst hk2
              refine r_aload_n hE dX11_keeps_125 rfl ?_
              refine t_getr hE f_X11_13 y_R_169_1 dX11_keeps_126 (hL 169 (by decide)) ?_
              refine r_iload hE dX11_keeps_129 rfl ?_
              refine t_invs (r := (some (.int (nI (237 + 851 * (4 + m)))))) (S2 := (y_mk n L (m_P (y_si D 169 10 (-1)) p2 b2 g2 s2 (y_cpw W2 (237 + 851 * (4 + m)) 851)))) hE [.int (nI (4 + m))] (c_textAt) s_yX11_textAt m_X11_132 dX11_keeps_131 rfl (by decide) ⟨Nat.le_refl _, Nat.le_refl _⟩ (Nat.le_of_ble_eq_true rfl) ?_
              show E 0 0 134 [(0, .ref 169), (1, .int 0), (2, .int (nI 2)), (3, .int (nI 4)), (4, .int (nI 6)), (5, .int r2), (6, .int (nI (4 + m))), (7, .int (nI 851))] [.int (nI (237 + 851 * (4 + m))), .ref 170] (y_mk n L (m_P (y_si D 169 10 (-1)) p2 b2 g2 s2 (y_cpw W2 (237 + 851 * (4 + m)) 851)))
              refine r_iload hE dX11_keeps_134 rfl ?_
              refine t_iastN (e := 237 + 851 * (4 + m)) hE y_A_170 dX11_keeps_136 (hL 170 (by decide)) (by omega) (by decide) ?_
              rw [m_P_w]
              refine r_aload_n hE dX11_keeps_137 rfl ?_
              refine t_getr hE f_X11_13 y_R_169_1 dX11_keeps_138 (hL 169 (by decide)) ?_
              refine r_iload_n hE dX11_keeps_141 rfl ?_
              refine r_dup2 hE dX11_keeps_142 rfl rfl ?_
              refine t_ialdN (e := 2) hE y_A_170 dX11_keeps_143 (hL 170 (by decide)) (by omega) (by decide) ?_
              refine r_top (y := (nI m)) (show (upd (y_cpw W2 (237 + 851 * (4 + m)) 851) (237 + 851 * (4 + m)) r2) 2 = nI m from (by rw [l_up_k (by omega), y_cpw, if_neg (by omega)]; exact hwc)) ?_
              refine r_iconst (v := 1) hE dX11_keeps_144 (by decide) ?_
              refine r_iaddN (a := m) (b := 1) hE dX11_keeps_145 ?_
              refine t_iastN (e := 2) hE y_A_170 dX11_keeps_146 (hL 170 (by decide)) (by omega) (by decide) ?_
              rw [m_P_w]
              refine r_aload_n hE dX11_keeps_147 rfl ?_
              refine t_getr hE f_X11_13 y_R_169_1 dX11_keeps_148 (hL 169 (by decide)) ?_
              refine r_iload_n hE dX11_keeps_151 rfl ?_
              refine t_ialdN (e := 2) hE y_A_170 dX11_keeps_152 (hL 170 (by decide)) (by omega) (by decide) ?_
              refine r_top (y := (nI (m + 1))) (show (upd (upd (y_cpw W2 (237 + 851 * (4 + m)) 851) (237 + 851 * (4 + m)) r2) 2 (nI (m + 1))) 2 = nI (m + 1) from y_upds) ?_
              refine r_iconst (v := 1) hE dX11_keeps_153 (by decide) ?_
              refine r_isubN (a := m + 1) (b := 1) hE dX11_keeps_154 (by omega) ?_
              refine r_ireturn hE dX11_keeps_155 rfl rfl (Nat.zero_le _) (Nat.zero_le _) ?_
              exact ⟨_, _, rfl, rfl, D, b0, g0, r2, p2, b2, g2, s2, W2, hD1, hf2, hb2, Or.inr (Or.inr ⟨c14, c55, rfl, rfl⟩)⟩
            · refine r_aload_n hE dX11_keeps_93 rfl ?_
              refine t_getr hE f_X11_13 y_R_169_1 dX11_keeps_94 (hL 169 (by decide)) ?_
              refine r_iload hE dX11_keeps_97 rfl ?_
              refine t_invs (r := (some (.int (nI (237 + 851 * (4 + m)))))) (S2 := (y_mk n L (m_P (y_si D 169 10 (-1)) p2 b2 g2 s2 (y_cpw W2 (237 + 851 * (4 + m)) k)))) hE [.int (nI (4 + m))] (c_textAt) s_yX11_textAt m_X11_132 dX11_keeps_99 rfl (by decide) ⟨Nat.le_refl _, Nat.le_refl _⟩ (Nat.le_of_ble_eq_true rfl) ?_
              show E 0 0 102 [(0, .ref 169), (1, .int 0), (2, .int (nI 2)), (3, .int (nI 4)), (4, .int (nI 6)), (5, .int r2), (6, .int (nI (4 + m))), (7, .int (nI k))] [.int (nI (237 + 851 * (4 + m))), .ref 170] (y_mk n L (m_P (y_si D 169 10 (-1)) p2 b2 g2 s2 (y_cpw W2 (237 + 851 * (4 + m)) k)))
              refine r_iload hE dX11_keeps_102 rfl ?_
              refine r_iaddN (a := 237 + 851 * (4 + m)) (b := k) hE dX11_keeps_104 ?_
              refine r_aload_n hE dX11_keeps_105 rfl ?_
              refine t_getr hE f_X11_13 y_R_169_1 dX11_keeps_106 (hL 169 (by decide)) ?_
              refine r_bipush (v := 10) hE dX11_keeps_109 (by decide) ?_
              refine t_invs (r := (some (.int (nI (237 + 851 * 10))))) (S2 := (y_mk n L (m_P (y_si D 169 10 (-1)) p2 b2 g2 s2 (y_cpw W2 (237 + 851 * (4 + m)) k)))) hE [.int 10] (c_textAt) s_yX11_textAt m_X11_132 dX11_keeps_111 rfl (by decide) ⟨Nat.le_refl _, Nat.le_refl _⟩ (Nat.le_of_ble_eq_true rfl) ?_
              show E 0 0 114 [(0, .ref 169), (1, .int 0), (2, .int (nI 2)), (3, .int (nI 4)), (4, .int (nI 6)), (5, .int r2), (6, .int (nI (4 + m))), (7, .int (nI k))] [.int (nI (237 + 851 * 10)), .ref 170, .int (nI ((237 + 851 * (4 + m)) + k)), .ref 170] (y_mk n L (m_P (y_si D 169 10 (-1)) p2 b2 g2 s2 (y_cpw W2 (237 + 851 * (4 + m)) k)))
              refine r_iload hE dX11_keeps_114 rfl ?_
              refine r_iaddN (a := 237 + 851 * 10) (b := k) hE dX11_keeps_116 ?_
              refine t_ialdN (e := (237 + 851 * 10) + k) hE y_A_170 dX11_keeps_117 (hL 170 (by decide)) (by omega) (by decide) ?_
              refine r_top (y := ((y_cpw W2 (237 + 851 * (4 + m)) k) ((237 + 851 * 10) + k))) rfl ?_
              refine t_iastN (e := (237 + 851 * (4 + m)) + k) hE y_A_170 dX11_keeps_118 (hL 170 (by decide)) (by omega) (by decide) ?_
              rw [m_P_w]
              refine r_iincN (a := k) (b := 1) (ls2 := [(0, .ref 169), (1, .int 0), (2, .int (nI 2)), (3, .int (nI 4)), (4, .int (nI 6)), (5, .int r2), (6, .int (nI (4 + m))), (7, .int (nI (k + 1)))]) hE dX11_keeps_119 rfl rfl (by decide) rfl ?_
              refine r_goto (tgt := 85) hE dX11_keeps_122 (by decide) ?_
              rw [y_cpw_s (by omega) (by omega)]
              exact ih (851 - (k + 1)) (by omega) (k + 1) rfl (by omega)
        have h0 := l1 0 (Nat.zero_le _)
        rw [y_cpw_0] at h0
        exact h0
      · refine r_iconst (v := 1) hE dX11_keeps_58 (by decide) ?_
        refine r_goto (tgt := 63) hE dX11_keeps_59 (by decide) ?_
        refine r_iconst (v := 2) hE dX11_keeps_63 (by decide) ?_
        refine t_invv (r := (some (.int 1))) (S2 := (y_mk n L (y_si (m_P (y_si D 169 10 (-1)) p2 b2 g2 s2 W2) 169 0 2))) hE [.int 1, .int 2] (c_throwsT hL) v_yX11_throwsIf m_X11_85 dX11_keeps_64 rfl (hL 169 (by decide)) (y_l_169 ((m_P (y_si D 169 10 (-1)) p2 b2 g2 s2 W2) 169)) rfl (by decide) ⟨Nat.le_refl _, Nat.le_refl _⟩ (Nat.le_of_ble_eq_true rfl) ?_
        show E 0 0 67 [(0, .ref 169), (1, .int 0), (2, .int (nI 2)), (3, .int (nI 4)), (4, .int (nI 6)), (5, .int r2)] [.int 1] (y_mk n L (y_si (m_P (y_si D 169 10 (-1)) p2 b2 g2 s2 W2) 169 0 2))
        refine r_if_eq (tgt := 72) hE dX11_keeps_67 (by decide) (fun c67 => by first | exact absurd c67 (by decide) | exact absurd (by decide) c67) (fun _ => ?_)
        refine r_iconst (v := 0) hE dX11_keeps_70 (by decide) ?_
        refine r_ireturn hE dX11_keeps_71 rfl rfl (Nat.zero_le _) (Nat.zero_le _) ?_
        exact ⟨_, _, rfl, rfl, D, b0, g0, r2, p2, b2, g2, s2, W2, hD1, hf2, hb2, Or.inr (Or.inl ⟨c14, c55, rfl, rfl⟩)⟩
    · exact absurd c14 c31
  · refine r_aload_n hE dX11_keeps_17 rfl ?_
    refine t_geti hE f_X11_109 y_I_169_8 dX11_keeps_18 (hL 169 (by decide)) ?_
    refine r_top (y := (nI b2)) rfl ?_
    refine r_goto (tgt := 25) hE dX11_keeps_21 (by decide) ?_
    refine t_puti hE f_X11_24 y_I_169_10 dX11_keeps_25 (hL 169 (by decide)) rfl rfl ?_
    rw [m_P_10]
    refine r_aload_n hE dX11_keeps_28 rfl ?_
    refine r_iload hE dX11_keeps_29 rfl ?_
    refine r_if_ge (tgt := 38) hE dX11_keeps_31 (by decide) (fun c31 => ?_) (fun c31 => ?_)
    · exact absurd c31 c14
    · refine r_iconst (v := 1) hE dX11_keeps_34 (by decide) ?_
      refine r_goto (tgt := 39) hE dX11_keeps_35 (by decide) ?_
      refine r_iconst (v := 1) hE dX11_keeps_39 (by decide) ?_
      refine t_invv (r := (some (.int 1))) (S2 := (y_mk n L (y_si (m_P (y_si D 169 10 (nI b2)) p2 b2 g2 s2 W2) 169 0 1))) hE [.int 1, .int 1] (c_throwsT hL) v_yX11_throwsIf m_X11_85 dX11_keeps_40 rfl (hL 169 (by decide)) (y_l_169 ((m_P (y_si D 169 10 (nI b2)) p2 b2 g2 s2 W2) 169)) rfl (by decide) ⟨Nat.le_refl _, Nat.le_refl _⟩ (Nat.le_of_ble_eq_true rfl) ?_
      show E 0 0 43 [(0, .ref 169), (1, .int 0), (2, .int (nI 2)), (3, .int (nI 4)), (4, .int (nI 6)), (5, .int r2)] [.int 1] (y_mk n L (y_si (m_P (y_si D 169 10 (nI b2)) p2 b2 g2 s2 W2) 169 0 1))
      refine r_if_ne (tgt := 70) hE dX11_keeps_43 (by decide) (fun _ => ?_) (fun c43 => by first | exact absurd c43 (by decide) | exact absurd (by decide) c43)
      refine r_iconst (v := 0) hE dX11_keeps_70 (by decide) ?_
      refine r_ireturn hE dX11_keeps_71 rfl rfl (Nat.zero_le _) (Nat.zero_le _) ?_
      exact ⟨_, _, rfl, rfl, D, b0, g0, r2, p2, b2, g2, s2, W2, hD1, hf2, hb2, Or.inl ⟨c14, rfl, rfl⟩⟩
theorem c_way {V : x_E} {n : Nat} {L : List Nat} {D00 : y_D} {e m : Nat} (hV : y_V V) (hF : y_fm V) (hL : y_ok L) (ht : (D00 169).1 5 = nI e) (he : e ≤ 400) (hm : (D00 170).1 2 = nI m) (hmr : m ≤ 6) : y_Ri V yX11_way cX11_way 1 (some .int) 33 [.ref 169] n L D00 (fun v D2 => ∃ (D1 : y_D) (b0 g0 : Nat) (r : Int32) (p2 b2 g2 s2 : Nat) (W2 : Nat → Int32), D1 = m_u D00 e ∧ l_all (D1 172).1 e (l_way (D1 172).1 e) 0 b0 g0 0 (D00 170).1 = (r, p2, b2, g2, s2, W2) ∧ l_bd e 0 0 p2 s2 ∧ m_KP D1 2 4 6 m r p2 b2 g2 s2 W2 v D2) := by
  refine y_ri (by decide) (Nat.le_of_ble_eq_true rfl) (fun E hE => ?_)
  change E 0 0 0 [(0, .ref 169)] [] (y_mk n L D00)
  refine r_aload_n hE dX11_way_0 rfl ?_
  refine r_iconst (v := 0) hE dX11_way_1 (by decide) ?_
  refine r_iconst (v := 2) hE dX11_way_2 (by decide) ?_
  refine r_iconst (v := 4) hE dX11_way_3 (by decide) ?_
  refine r_bipush (v := 6) hE dX11_way_4 (by decide) ?_
  refine t_invvRi hE [.int 0, .int 2, .int 4, .int 6] (c_keeps_0 hV hF hL ht he hm hmr) v_yX11_keeps m_X11_245 dX11_way_6 rfl (hL 169 (by decide)) (y_l_169 (D00 169)) rfl (by decide) ⟨Nat.le_refl _, Nat.le_refl _⟩ (Nat.le_of_ble_eq_true rfl) (fun r1 E1 q1 => ?_)
  show E 0 0 9 [(0, .ref 169)] [.int r1] (y_mk n L E1)
  refine r_ireturn hE dX11_way_9 rfl rfl (Nat.zero_le _) (Nat.zero_le _) ?_
  exact ⟨_, _, rfl, rfl, q1⟩

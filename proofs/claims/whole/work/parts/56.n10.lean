/-! the reference: knows, whence, choices, with -/
/-- who can know by the day d, as the rows of W tell -/
abbrev m_kn (W : Nat → Int32) (wo : Int32) (b d p : Nat) : Prop := kn (fun k => q_n W (153 + 3 * k)) (fun k => q_n W (153 + 3 * k + 1)) (fun k => q_n W (153 + 3 * k + 2)) (q_n W 8) (fun k => W (153 + 3 * k) ≠ wo) (fun p => b.testBit p = true) 7 p d
def m_WT (W : Nat → Int32) : Prop := q_ok W 8 20 ∧ q_ok W 11 255 ∧ ∀ k, k < q_n W 8 → q_ok W (153 + 3 * k) 7 ∧ q_ok W (153 + 3 * k + 1) 7 ∧ q_ok W (153 + 3 * k + 2) 365
def m_PM (W : Nat → Int32) (mu : Int32) (b d p : Nat) : Prop := if mu = 0 then b.testBit p = true ∧ m_kn W (-1) (2 ^ p) d 0 else m_kn W (-1) b d 0 ∧ ¬ m_kn W (nI p) b d 0
theorem c_knows {V : x_E} {n : Nat} {L : List Nat} {D : y_D} {p : Int32} (hL : y_ok L) (hT : m_WT (D 170).1) : y_Ri V yX11_knows cX11_knows 2 (some .int) 2 [.ref 169, .int p] n L D (fun v D2 => m_ot D D2 ∧ (((¬ (0 ≤ p ∧ p ≤ 365)) ∧ (D2 169).1 0 = 1) ∨ ∃ d, d ≤ 365 ∧ p = nI d ∧ (D2 169).1 0 = 0 ∧ y_s8 v (fun p => m_kn (D 170).1 (-1) (q_n (D 170).1 11) d p))) := by
  refine y_ri (by decide) (Nat.le_of_ble_eq_true rfl) (fun E hE => ?_)
  change E 0 0 0 [(0, .ref 169), (1, .int p)] [] (y_mk n L D)
  refine r_aload_n hE dX11_knows_0 rfl ?_
  refine r_iconst (v := 0) hE dX11_knows_1 (by decide) ?_
  refine t_puti hE f_X11_3 y_I_169_0 dX11_knows_2 (hL 169 (by decide)) rfl rfl ?_
  refine r_aload_n hE dX11_knows_5 rfl ?_
  refine r_iload_n hE dX11_knows_6 rfl ?_
  refine r_iconst (v := 0) hE dX11_knows_7 (by decide) ?_
  refine r_sipush (v := 365) hE dX11_knows_8 (by decide) ?_
  refine t_invs (r := (some (.int (y_b (0 ≤ p ∧ p ≤ 365))))) (S2 := (y_mk n L (y_si D 169 0 0))) hE [.int p, .int 0, .int 365] (c_in) s_yX11_in m_X11_81 dX11_knows_11 rfl (by decide) ⟨Nat.le_refl _, Nat.le_refl _⟩ (Nat.le_of_ble_eq_true rfl) ?_
  show E 0 0 14 [(0, .ref 169), (1, .int p)] [.int (y_b (0 ≤ p ∧ p ≤ 365)), .ref 169] (y_mk n L (y_si D 169 0 0))
  refine r_ifb_ne (tgt := 21) hE dX11_knows_14 (by decide) (fun c14 => ?_) (fun c14 => ?_)
  · refine r_iconst (v := 0) hE dX11_knows_21 (by decide) ?_
    refine r_iconst (v := 1) hE dX11_knows_22 (by decide) ?_
    refine t_invv (r := (some (.int 0))) (S2 := (y_mk n L (y_si D 169 0 0))) hE [.int 0, .int 1] (c_throwsF) v_yX11_throwsIf m_X11_85 dX11_knows_23 rfl (hL 169 (by decide)) (y_l_169 ((y_si D 169 0 0) 169)) rfl (by decide) ⟨Nat.le_refl _, Nat.le_refl _⟩ (Nat.le_of_ble_eq_true rfl) ?_
    show E 0 0 26 [(0, .ref 169), (1, .int p)] [.int 0] (y_mk n L (y_si D 169 0 0))
    refine r_if_eq (tgt := 33) hE dX11_knows_26 (by decide) (fun _ => ?_) (fun c26 => by first | exact absurd c26 (by decide) | exact absurd (by decide) c26)
    obtain ⟨d, hd, rfl⟩ := y_rng2 (k := 365) (by decide) c14
    refine r_aload_n hE dX11_knows_33 rfl ?_
    refine r_aload_n hE dX11_knows_34 rfl ?_
    refine t_getr hE f_X11_13 y_R_169_1 dX11_knows_35 (hL 169 (by decide)) ?_
    refine r_bipush (v := 11) hE dX11_knows_38 (by decide) ?_
    refine t_ialdN (e := 11) hE y_A_170 dX11_knows_40 (hL 170 (by decide)) (by omega) (by decide) ?_
    refine r_top (y := (nI (q_n (D 170).1 11))) hT.2.1.1 ?_
    refine r_iload_n hE dX11_knows_41 rfl ?_
    refine r_iconst (v := (-1)) hE dX11_knows_42 (by decide) ?_
    refine t_invvRi hE [.int (nI (q_n (D 170).1 11)), .int (nI d), .int (-1)] (c_knowing (D := y_si D 169 0 0) (nt := q_n (D 170).1 8) (b0 := q_n (D 170).1 11) (d := d) (wo := (-1)) hL (hT.1.1) hT.1.2 (hT.2.2) (by have := hT.2.1.2; omega) hd) v_yX11_knowing m_X11_379 dX11_knows_43 rfl (hL 169 (by decide)) (y_l_169 ((y_si D 169 0 0) 169)) rfl (by decide) ⟨Nat.le_refl _, Nat.le_refl _⟩ (Nat.le_of_ble_eq_true rfl) (fun v9 D9 q9 => ?_)
    obtain ⟨q9, hD9⟩ := q9
    rw [hD9]
    show E 0 0 46 [(0, .ref 169), (1, .int (nI d))] [.int v9] (y_mk n L (y_si D 169 0 0))
    refine r_ireturn hE dX11_knows_46 rfl rfl (Nat.zero_le _) (Nat.zero_le _) ?_
    first
    | exact ⟨_, _, rfl, rfl, m_ot_0 m_ot_r, Or.inr ⟨d, hd, rfl, by rw [y_si_1, if_pos rfl], q9⟩⟩
    | exact ⟨_, _, rfl, rfl, m_ot_0 (m_ot_0 m_ot_r), Or.inl ⟨c14, by rw [y_si_1, if_pos rfl]⟩⟩
  · refine r_iconst (v := 1) hE dX11_knows_17 (by decide) ?_
    refine r_goto (tgt := 22) hE dX11_knows_18 (by decide) ?_
    refine r_iconst (v := 1) hE dX11_knows_22 (by decide) ?_
    refine t_invv (r := (some (.int 1))) (S2 := (y_mk n L (y_si (y_si D 169 0 0) 169 0 1))) hE [.int 1, .int 1] (c_throwsT hL) v_yX11_throwsIf m_X11_85 dX11_knows_23 rfl (hL 169 (by decide)) (y_l_169 ((y_si D 169 0 0) 169)) rfl (by decide) ⟨Nat.le_refl _, Nat.le_refl _⟩ (Nat.le_of_ble_eq_true rfl) ?_
    show E 0 0 26 [(0, .ref 169), (1, .int p)] [.int 1] (y_mk n L (y_si (y_si D 169 0 0) 169 0 1))
    refine r_if_eq (tgt := 33) hE dX11_knows_26 (by decide) (fun c26 => by first | exact absurd c26 (by decide) | exact absurd (by decide) c26) (fun _ => ?_)
    refine r_iconst (v := 0) hE dX11_knows_29 (by decide) ?_
    refine r_goto (tgt := 46) hE dX11_knows_30 (by decide) ?_
    refine r_ireturn hE dX11_knows_46 rfl rfl (Nat.zero_le _) (Nat.zero_le _) ?_
    first
    | exact ⟨_, _, rfl, rfl, m_ot_0 m_ot_r, Or.inr ⟨d, hd, rfl, by rw [y_si_1, if_pos rfl], q9⟩⟩
    | exact ⟨_, _, rfl, rfl, m_ot_0 (m_ot_0 m_ot_r), Or.inl ⟨c14, by rw [y_si_1, if_pos rfl]⟩⟩
theorem c_whence {V : x_E} {n : Nat} {L : List Nat} {D : y_D} {p mu : Int32} (hL : y_ok L) (hT : m_WT (D 170).1) : y_Ri V yX11_whence cX11_whence 7 (some .int) 2 [.ref 169, .int p, .int mu] n L D (fun v D2 => m_ot D D2 ∧ (((¬ (0 ≤ p ∧ p ≤ 365)) ∧ (D2 169).1 0 = 1) ∨ ∃ d, d ≤ 365 ∧ p = nI d ∧ (D2 169).1 0 = 0 ∧ y_s8 v (fun q => q < 8 ∧ 1 ≤ q ∧ m_PM (D 170).1 mu (q_n (D 170).1 11) d q))) := by
  refine y_ri (by decide) (Nat.le_of_ble_eq_true rfl) (fun E hE => ?_)
  change E 0 0 0 [(0, .ref 169), (1, .int p), (2, .int mu)] [] (y_mk n L D)
  refine r_aload_n hE dX11_whence_0 rfl ?_
  refine r_iconst (v := 0) hE dX11_whence_1 (by decide) ?_
  refine t_puti hE f_X11_3 y_I_169_0 dX11_whence_2 (hL 169 (by decide)) rfl rfl ?_
  refine r_aload_n hE dX11_whence_5 rfl ?_
  refine r_iload_n hE dX11_whence_6 rfl ?_
  refine r_iconst (v := 0) hE dX11_whence_7 (by decide) ?_
  refine r_sipush (v := 365) hE dX11_whence_8 (by decide) ?_
  refine t_invs (r := (some (.int (y_b (0 ≤ p ∧ p ≤ 365))))) (S2 := (y_mk n L (y_si D 169 0 0))) hE [.int p, .int 0, .int 365] (c_in) s_yX11_in m_X11_81 dX11_whence_11 rfl (by decide) ⟨Nat.le_refl _, Nat.le_refl _⟩ (Nat.le_of_ble_eq_true rfl) ?_
  show E 0 0 14 [(0, .ref 169), (1, .int p), (2, .int mu)] [.int (y_b (0 ≤ p ∧ p ≤ 365)), .ref 169] (y_mk n L (y_si D 169 0 0))
  refine r_ifb_ne (tgt := 21) hE dX11_whence_14 (by decide) (fun c14 => ?_) (fun c14 => ?_)
  · refine r_iconst (v := 0) hE dX11_whence_21 (by decide) ?_
    refine r_iconst (v := 1) hE dX11_whence_22 (by decide) ?_
    refine t_invv (r := (some (.int 0))) (S2 := (y_mk n L (y_si D 169 0 0))) hE [.int 0, .int 1] (c_throwsF) v_yX11_throwsIf m_X11_85 dX11_whence_23 rfl (hL 169 (by decide)) (y_l_169 ((y_si D 169 0 0) 169)) rfl (by decide) ⟨Nat.le_refl _, Nat.le_refl _⟩ (Nat.le_of_ble_eq_true rfl) ?_
    show E 0 0 26 [(0, .ref 169), (1, .int p), (2, .int mu)] [.int 0] (y_mk n L (y_si D 169 0 0))
    refine r_if_eq (tgt := 31) hE dX11_whence_26 (by decide) (fun _ => ?_) (fun c26 => by first | exact absurd c26 (by decide) | exact absurd (by decide) c26)
    obtain ⟨d, hd, rfl⟩ := y_rng2 (k := 365) (by decide) c14
    refine r_iconst (v := 0) hE dX11_whence_31 (by decide) ?_
    refine r_istore_n (ls2 := [(0, .ref 169), (1, .int (nI d)), (2, .int mu), (3, .int 0)]) hE dX11_whence_32 (by decide) rfl ?_
    refine r_aload_n hE dX11_whence_33 rfl ?_
    refine r_aload_n hE dX11_whence_34 rfl ?_
    refine t_getr hE f_X11_13 y_R_169_1 dX11_whence_35 (hL 169 (by decide)) ?_
    refine r_bipush (v := 11) hE dX11_whence_38 (by decide) ?_
    refine t_ialdN (e := 11) hE y_A_170 dX11_whence_40 (hL 170 (by decide)) (by omega) (by decide) ?_
    refine r_top (y := (nI (q_n (D 170).1 11))) hT.2.1.1 ?_
    refine r_iload_n hE dX11_whence_41 rfl ?_
    refine r_iconst (v := (-1)) hE dX11_whence_42 (by decide) ?_
    refine t_invvRi hE [.int (nI (q_n (D 170).1 11)), .int (nI d), .int (-1)] (c_knowing (D := y_si D 169 0 0) (nt := q_n (D 170).1 8) (b0 := q_n (D 170).1 11) (d := d) (wo := (-1)) hL (hT.1.1) hT.1.2 (hT.2.2) (by have := hT.2.1.2; omega) hd) v_yX11_knowing m_X11_379 dX11_whence_43 rfl (hL 169 (by decide)) (y_l_169 ((y_si D 169 0 0) 169)) rfl (by decide) ⟨Nat.le_refl _, Nat.le_refl _⟩ (Nat.le_of_ble_eq_true rfl) (fun v9 D9 q9 => ?_)
    obtain ⟨q9, hD9⟩ := q9
    rw [hD9]
    show E 0 0 46 [(0, .ref 169), (1, .int (nI d)), (2, .int mu), (3, .int 0)] [.int v9] (y_mk n L (y_si D 169 0 0))
    refine r_iconst (v := 1) hE dX11_whence_46 (by decide) ?_
    refine r_iand hE dX11_whence_47 ?_
    refine r_iconst (v := 1) hE dX11_whence_48 (by decide) ?_
    refine r_icmp_ne (tgt := 56) hE dX11_whence_49 (by decide) (fun c49 => ?_) (fun c49 => ?_)
    · refine r_iconst (v := 0) hE dX11_whence_56 (by decide) ?_
      refine r_istore (ls2 := [(0, .ref 169), (1, .int (nI d)), (2, .int mu), (3, .int 0), (4, .int 0)]) hE dX11_whence_57 (by decide) rfl ?_
      refine r_iconst (v := 1) hE dX11_whence_59 (by decide) ?_
      refine r_istore (ls2 := [(0, .ref 169), (1, .int (nI d)), (2, .int mu), (3, .int 0), (4, .int 0), (5, .int 1)]) hE dX11_whence_60 (by decide) rfl ?_
      have hkn : ¬ _ := fun q => c49 ((y_s8_b0 q9).mpr q)
      have l1 : ∀ (p : Nat) (v : Int32), 1 ≤ p → p ≤ 8 → y_s8 v (fun q => q < p ∧ 1 ≤ q ∧ m_PM (D 170).1 mu (q_n (D 170).1 11) d q) → E 0 0 62 [(0, .ref 169), (1, .int (nI d)), (2, .int mu), (3, .int v), (4, .int 0), (5, .int (nI p))] [] (y_mk n L (y_si D 169 0 0)) := by
        intro p v
        induction hm9 : (8 - p) using Nat.strongRecOn generalizing p v with
        | _ m9 ih =>
          intro hp1 hp8 hv
          subst hm9
          refine r_iload hE dX11_whence_62 rfl ?_
          refine r_bipush (v := 8) hE dX11_whence_64 (by decide) ?_
          refine r_icmp_geN (a := p) (b := 8) (tgt := 166) hE dX11_whence_66 (by decide) (by omega) (by decide) (fun c66 => ?_) (fun c66 => ?_)
          · refine r_iload_n hE dX11_whence_166 rfl ?_
            refine r_ireturn hE dX11_whence_167 rfl rfl (Nat.zero_le _) (Nat.zero_le _) ?_
            rw [show p = 8 by omega] at hv
            exact ⟨_, _, rfl, rfl, m_ot_0 m_ot_r, Or.inr ⟨d, hd, rfl, by rw [y_si_1, if_pos rfl], hv⟩⟩
          · refine r_iload_n hE dX11_whence_69 rfl ?_
            refine r_if_eq (tgt := 105) hE dX11_whence_70 (by decide) (fun c70 => ?_) (fun c70 => ?_)
            · refine r_aload_n hE dX11_whence_105 rfl ?_
              refine t_getr hE f_X11_13 y_R_169_1 dX11_whence_106 (hL 169 (by decide)) ?_
              refine r_bipush (v := 11) hE dX11_whence_109 (by decide) ?_
              refine t_ialdN (e := 11) hE y_A_170 dX11_whence_111 (hL 170 (by decide)) (by omega) (by decide) ?_
              refine r_top (y := (nI (q_n (D 170).1 11))) hT.2.1.1 ?_
              refine r_iload hE dX11_whence_112 rfl ?_
              refine r_ishr hE dX11_whence_114 ?_
              refine r_iconst (v := 1) hE dX11_whence_115 (by decide) ?_
              refine r_iand hE dX11_whence_116 ?_
              refine r_iconst (v := 1) hE dX11_whence_117 (by decide) ?_
              refine r_icmp_ne (tgt := 141) hE dX11_whence_118 (by decide) (fun c118 => ?_) (fun c118 => ?_)
              · refine r_iconst (v := 0) hE dX11_whence_141 (by decide) ?_
                refine r_istore (ls2 := [(0, .ref 169), (1, .int (nI d)), (2, .int mu), (3, .int v), (4, .int 0), (5, .int (nI p)), (6, .int 0)]) hE dX11_whence_142 (by decide) rfl ?_
                refine r_iload_n hE dX11_whence_144 rfl ?_
                refine r_iload hE dX11_whence_145 rfl ?_
                refine r_if_eq (tgt := 157) hE dX11_whence_147 (by decide) (fun _ => ?_) (fun c147 => by first | exact absurd c147 (by decide) | exact absurd (by decide) c147)
                refine r_iconst (v := 0) hE dX11_whence_157 (by decide) ?_
                refine r_ior hE dX11_whence_158 ?_
                refine r_istore_n (ls2 := [(0, .ref 169), (1, .int (nI d)), (2, .int mu), (3, .int (v ||| 0)), (4, .int 0), (5, .int (nI p)), (6, .int 0)]) hE dX11_whence_159 (by decide) rfl ?_
                refine r_iincN (a := p) (b := 1) (ls2 := [(0, .ref 169), (1, .int (nI d)), (2, .int mu), (3, .int (v ||| 0)), (4, .int 0), (5, .int (nI (p + 1))), (6, .int 0)]) hE dX11_whence_160 rfl rfl (by decide) rfl ?_
                refine r_goto (tgt := 62) hE dX11_whence_163 (by decide) ?_
                have hP : ¬ m_PM (D 170).1 mu (q_n (D 170).1 11) d p := by
                  unfold m_PM
                  first
                  | (rw [if_neg c70]; exact fun q => q.2 ((y_s8_b0 q8).mp ((y_and1 _).resolve_left c94)))
                  | (rw [if_neg c70]; exact fun q => hkn q.1)
                  | (rw [if_pos c70]; exact fun q => c134 ((y_s8_b0 q8).mpr q.2))
                  | (rw [if_pos c70]; exact fun q => c118 ((y_bit_tb (by omega)).mpr q.1))
                refine r_locs hE (ls2 := [(0, .ref 169), (1, .int (nI d)), (2, .int mu), (3, .int (v ||| 0)), (4, .int 0), (5, .int (nI (p + 1)))]) ?_ (ih (8 - (p + 1)) (by omega) (p + 1) _ rfl (by omega) (by omega) (by rw [Int32.or_zero]; exact y_s8_n (P := fun q => 1 ≤ q ∧ m_PM (D 170).1 mu (q_n (D 170).1 11) d q) hv (fun q => hP q.2)))
                simp [x_lk]
              · refine r_aload_n hE dX11_whence_121 rfl ?_
                refine r_iconst (v := 1) hE dX11_whence_122 (by decide) ?_
                refine r_iload hE dX11_whence_123 rfl ?_
                refine r_shl1N (k := p) hE dX11_whence_125 (by omega) ?_
                refine r_iload_n hE dX11_whence_126 rfl ?_
                refine r_iconst (v := (-1)) hE dX11_whence_127 (by decide) ?_
                refine t_invvRi hE [.int (nI (2 ^ p)), .int (nI d), .int (-1)] (c_knowing (D := y_si D 169 0 0) (nt := q_n (D 170).1 8) (b0 := 2 ^ p) (d := d) (wo := (-1)) hL (hT.1.1) hT.1.2 (hT.2.2) (Nat.pow_lt_pow_right (n := 8) (by decide) (by omega)) hd) v_yX11_knowing m_X11_379 dX11_whence_128 rfl (hL 169 (by decide)) (y_l_169 ((y_si D 169 0 0) 169)) rfl (by decide) ⟨Nat.le_refl _, Nat.le_refl _⟩ (Nat.le_of_ble_eq_true rfl) (fun v8 D8 q8 => ?_)
                obtain ⟨q8, hD8⟩ := q8
                rw [hD8]
                show E 0 0 131 [(0, .ref 169), (1, .int (nI d)), (2, .int mu), (3, .int v), (4, .int 0), (5, .int (nI p))] [.int v8] (y_mk n L (y_si D 169 0 0))
                refine r_iconst (v := 1) hE dX11_whence_131 (by decide) ?_
                refine r_iand hE dX11_whence_132 ?_
                refine r_iconst (v := 1) hE dX11_whence_133 (by decide) ?_
                refine r_icmp_ne (tgt := 141) hE dX11_whence_134 (by decide) (fun c134 => ?_) (fun c134 => ?_)
                · refine r_iconst (v := 0) hE dX11_whence_141 (by decide) ?_
                  refine r_istore (ls2 := [(0, .ref 169), (1, .int (nI d)), (2, .int mu), (3, .int v), (4, .int 0), (5, .int (nI p)), (6, .int 0)]) hE dX11_whence_142 (by decide) rfl ?_
                  refine r_iload_n hE dX11_whence_144 rfl ?_
                  refine r_iload hE dX11_whence_145 rfl ?_
                  refine r_if_eq (tgt := 157) hE dX11_whence_147 (by decide) (fun _ => ?_) (fun c147 => by first | exact absurd c147 (by decide) | exact absurd (by decide) c147)
                  refine r_iconst (v := 0) hE dX11_whence_157 (by decide) ?_
                  refine r_ior hE dX11_whence_158 ?_
                  refine r_istore_n (ls2 := [(0, .ref 169), (1, .int (nI d)), (2, .int mu), (3, .int (v ||| 0)), (4, .int 0), (5, .int (nI p)), (6, .int 0)]) hE dX11_whence_159 (by decide) rfl ?_
                  refine r_iincN (a := p) (b := 1) (ls2 := [(0, .ref 169), (1, .int (nI d)), (2, .int mu), (3, .int (v ||| 0)), (4, .int 0), (5, .int (nI (p + 1))), (6, .int 0)]) hE dX11_whence_160 rfl rfl (by decide) rfl ?_
                  refine r_goto (tgt := 62) hE dX11_whence_163 (by decide) ?_
                  have hP : ¬ m_PM (D 170).1 mu (q_n (D 170).1 11) d p := by
                    unfold m_PM
                    first
                    | (rw [if_neg c70]; exact fun q => q.2 ((y_s8_b0 q8).mp ((y_and1 _).resolve_left c94)))
                    | (rw [if_neg c70]; exact fun q => hkn q.1)
                    | (rw [if_pos c70]; exact fun q => c134 ((y_s8_b0 q8).mpr q.2))
                    | (rw [if_pos c70]; exact fun q => c118 ((y_bit_tb (by omega)).mpr q.1))
                  refine r_locs hE (ls2 := [(0, .ref 169), (1, .int (nI d)), (2, .int mu), (3, .int (v ||| 0)), (4, .int 0), (5, .int (nI (p + 1)))]) ?_ (ih (8 - (p + 1)) (by omega) (p + 1) _ rfl (by omega) (by omega) (by rw [Int32.or_zero]; exact y_s8_n (P := fun q => 1 ≤ q ∧ m_PM (D 170).1 mu (q_n (D 170).1 11) d q) hv (fun q => hP q.2)))
                  simp [x_lk]
                · refine r_iconst (v := 1) hE dX11_whence_137 (by decide) ?_
                  refine r_goto (tgt := 142) hE dX11_whence_138 (by decide) ?_
                  refine r_istore (ls2 := [(0, .ref 169), (1, .int (nI d)), (2, .int mu), (3, .int v), (4, .int 0), (5, .int (nI p)), (6, .int 1)]) hE dX11_whence_142 (by decide) rfl ?_
                  refine r_iload_n hE dX11_whence_144 rfl ?_
                  refine r_iload hE dX11_whence_145 rfl ?_
                  refine r_if_eq (tgt := 157) hE dX11_whence_147 (by decide) (fun c147 => by first | exact absurd c147 (by decide) | exact absurd (by decide) c147) (fun _ => ?_)
                  refine r_iconst (v := 1) hE dX11_whence_150 (by decide) ?_
                  refine r_iload hE dX11_whence_151 rfl ?_
                  refine r_shl1N (k := p) hE dX11_whence_153 (by omega) ?_
                  refine r_goto (tgt := 158) hE dX11_whence_154 (by decide) ?_
                  refine r_ior hE dX11_whence_158 ?_
                  refine r_istore_n (ls2 := [(0, .ref 169), (1, .int (nI d)), (2, .int mu), (3, .int (v ||| (nI (2 ^ p)))), (4, .int 0), (5, .int (nI p)), (6, .int 1)]) hE dX11_whence_159 (by decide) rfl ?_
                  refine r_iincN (a := p) (b := 1) (ls2 := [(0, .ref 169), (1, .int (nI d)), (2, .int mu), (3, .int (v ||| (nI (2 ^ p)))), (4, .int 0), (5, .int (nI (p + 1))), (6, .int 1)]) hE dX11_whence_160 rfl rfl (by decide) rfl ?_
                  refine r_goto (tgt := 62) hE dX11_whence_163 (by decide) ?_
                  have hP : m_PM (D 170).1 mu (q_n (D 170).1 11) d p := by
                    unfold m_PM
                    first
                    | (rw [if_neg c70]; exact ⟨hkn, fun q => by have := (y_s8_b0 q8).mpr q; rw [c94] at this; exact absurd this (by decide)⟩)
                    | (rw [if_pos c70]; exact ⟨(y_bit_tb (by omega)).mp c118, (y_s8_b0 q8).mp c134⟩)
                  refine r_locs hE (ls2 := [(0, .ref 169), (1, .int (nI d)), (2, .int mu), (3, .int (v ||| (nI (2 ^ p)))), (4, .int 0), (5, .int (nI (p + 1)))]) ?_ (ih (8 - (p + 1)) (by omega) (p + 1) _ rfl (by omega) (by omega) (y_s8_y (P := fun q => 1 ≤ q ∧ m_PM (D 170).1 mu (q_n (D 170).1 11) d q) (by omega) hv ⟨hp1, hP⟩))
                  simp [x_lk]
            · refine r_iload hE dX11_whence_73 rfl ?_
              refine r_if_eq (tgt := 101) hE dX11_whence_75 (by decide) (fun _ => ?_) (fun c75 => by first | exact absurd c75 (by decide) | exact absurd (by decide) c75)
              refine r_iconst (v := 0) hE dX11_whence_101 (by decide) ?_
              refine r_goto (tgt := 142) hE dX11_whence_102 (by decide) ?_
              refine r_istore (ls2 := [(0, .ref 169), (1, .int (nI d)), (2, .int mu), (3, .int v), (4, .int 0), (5, .int (nI p)), (6, .int 0)]) hE dX11_whence_142 (by decide) rfl ?_
              refine r_iload_n hE dX11_whence_144 rfl ?_
              refine r_iload hE dX11_whence_145 rfl ?_
              refine r_if_eq (tgt := 157) hE dX11_whence_147 (by decide) (fun _ => ?_) (fun c147 => by first | exact absurd c147 (by decide) | exact absurd (by decide) c147)
              refine r_iconst (v := 0) hE dX11_whence_157 (by decide) ?_
              refine r_ior hE dX11_whence_158 ?_
              refine r_istore_n (ls2 := [(0, .ref 169), (1, .int (nI d)), (2, .int mu), (3, .int (v ||| 0)), (4, .int 0), (5, .int (nI p)), (6, .int 0)]) hE dX11_whence_159 (by decide) rfl ?_
              refine r_iincN (a := p) (b := 1) (ls2 := [(0, .ref 169), (1, .int (nI d)), (2, .int mu), (3, .int (v ||| 0)), (4, .int 0), (5, .int (nI (p + 1))), (6, .int 0)]) hE dX11_whence_160 rfl rfl (by decide) rfl ?_
              refine r_goto (tgt := 62) hE dX11_whence_163 (by decide) ?_
              have hP : ¬ m_PM (D 170).1 mu (q_n (D 170).1 11) d p := by
                unfold m_PM
                first
                | (rw [if_neg c70]; exact fun q => q.2 ((y_s8_b0 q8).mp ((y_and1 _).resolve_left c94)))
                | (rw [if_neg c70]; exact fun q => hkn q.1)
                | (rw [if_pos c70]; exact fun q => c134 ((y_s8_b0 q8).mpr q.2))
                | (rw [if_pos c70]; exact fun q => c118 ((y_bit_tb (by omega)).mpr q.1))
              refine r_locs hE (ls2 := [(0, .ref 169), (1, .int (nI d)), (2, .int mu), (3, .int (v ||| 0)), (4, .int 0), (5, .int (nI (p + 1)))]) ?_ (ih (8 - (p + 1)) (by omega) (p + 1) _ rfl (by omega) (by omega) (by rw [Int32.or_zero]; exact y_s8_n (P := fun q => 1 ≤ q ∧ m_PM (D 170).1 mu (q_n (D 170).1 11) d q) hv (fun q => hP q.2)))
              simp [x_lk]
      exact l1 1 0 (by omega) (by omega) (y_s8_z (fun p hp q => by omega))
    · refine r_iconst (v := 1) hE dX11_whence_52 (by decide) ?_
      refine r_goto (tgt := 57) hE dX11_whence_53 (by decide) ?_
      refine r_istore (ls2 := [(0, .ref 169), (1, .int (nI d)), (2, .int mu), (3, .int 0), (4, .int 1)]) hE dX11_whence_57 (by decide) rfl ?_
      refine r_iconst (v := 1) hE dX11_whence_59 (by decide) ?_
      refine r_istore (ls2 := [(0, .ref 169), (1, .int (nI d)), (2, .int mu), (3, .int 0), (4, .int 1), (5, .int 1)]) hE dX11_whence_60 (by decide) rfl ?_
      have hkn := (y_s8_b0 q9).mp c49
      have l1 : ∀ (p : Nat) (v : Int32), 1 ≤ p → p ≤ 8 → y_s8 v (fun q => q < p ∧ 1 ≤ q ∧ m_PM (D 170).1 mu (q_n (D 170).1 11) d q) → E 0 0 62 [(0, .ref 169), (1, .int (nI d)), (2, .int mu), (3, .int v), (4, .int 1), (5, .int (nI p))] [] (y_mk n L (y_si D 169 0 0)) := by
        intro p v
        induction hm9 : (8 - p) using Nat.strongRecOn generalizing p v with
        | _ m9 ih =>
          intro hp1 hp8 hv
          subst hm9
          refine r_iload hE dX11_whence_62 rfl ?_
          refine r_bipush (v := 8) hE dX11_whence_64 (by decide) ?_
          refine r_icmp_geN (a := p) (b := 8) (tgt := 166) hE dX11_whence_66 (by decide) (by omega) (by decide) (fun c66 => ?_) (fun c66 => ?_)
          · refine r_iload_n hE dX11_whence_166 rfl ?_
            refine r_ireturn hE dX11_whence_167 rfl rfl (Nat.zero_le _) (Nat.zero_le _) ?_
            rw [show p = 8 by omega] at hv
            exact ⟨_, _, rfl, rfl, m_ot_0 m_ot_r, Or.inr ⟨d, hd, rfl, by rw [y_si_1, if_pos rfl], hv⟩⟩
          · refine r_iload_n hE dX11_whence_69 rfl ?_
            refine r_if_eq (tgt := 105) hE dX11_whence_70 (by decide) (fun c70 => ?_) (fun c70 => ?_)
            · refine r_aload_n hE dX11_whence_105 rfl ?_
              refine t_getr hE f_X11_13 y_R_169_1 dX11_whence_106 (hL 169 (by decide)) ?_
              refine r_bipush (v := 11) hE dX11_whence_109 (by decide) ?_
              refine t_ialdN (e := 11) hE y_A_170 dX11_whence_111 (hL 170 (by decide)) (by omega) (by decide) ?_
              refine r_top (y := (nI (q_n (D 170).1 11))) hT.2.1.1 ?_
              refine r_iload hE dX11_whence_112 rfl ?_
              refine r_ishr hE dX11_whence_114 ?_
              refine r_iconst (v := 1) hE dX11_whence_115 (by decide) ?_
              refine r_iand hE dX11_whence_116 ?_
              refine r_iconst (v := 1) hE dX11_whence_117 (by decide) ?_
              refine r_icmp_ne (tgt := 141) hE dX11_whence_118 (by decide) (fun c118 => ?_) (fun c118 => ?_)
              · refine r_iconst (v := 0) hE dX11_whence_141 (by decide) ?_
                refine r_istore (ls2 := [(0, .ref 169), (1, .int (nI d)), (2, .int mu), (3, .int v), (4, .int 1), (5, .int (nI p)), (6, .int 0)]) hE dX11_whence_142 (by decide) rfl ?_
                refine r_iload_n hE dX11_whence_144 rfl ?_
                refine r_iload hE dX11_whence_145 rfl ?_
                refine r_if_eq (tgt := 157) hE dX11_whence_147 (by decide) (fun _ => ?_) (fun c147 => by first | exact absurd c147 (by decide) | exact absurd (by decide) c147)
                refine r_iconst (v := 0) hE dX11_whence_157 (by decide) ?_
                refine r_ior hE dX11_whence_158 ?_
                refine r_istore_n (ls2 := [(0, .ref 169), (1, .int (nI d)), (2, .int mu), (3, .int (v ||| 0)), (4, .int 1), (5, .int (nI p)), (6, .int 0)]) hE dX11_whence_159 (by decide) rfl ?_
                refine r_iincN (a := p) (b := 1) (ls2 := [(0, .ref 169), (1, .int (nI d)), (2, .int mu), (3, .int (v ||| 0)), (4, .int 1), (5, .int (nI (p + 1))), (6, .int 0)]) hE dX11_whence_160 rfl rfl (by decide) rfl ?_
                refine r_goto (tgt := 62) hE dX11_whence_163 (by decide) ?_
                have hP : ¬ m_PM (D 170).1 mu (q_n (D 170).1 11) d p := by
                  unfold m_PM
                  first
                  | (rw [if_neg c70]; exact fun q => q.2 ((y_s8_b0 q8).mp ((y_and1 _).resolve_left c94)))
                  | (rw [if_neg c70]; exact fun q => hkn q.1)
                  | (rw [if_pos c70]; exact fun q => c134 ((y_s8_b0 q8).mpr q.2))
                  | (rw [if_pos c70]; exact fun q => c118 ((y_bit_tb (by omega)).mpr q.1))
                refine r_locs hE (ls2 := [(0, .ref 169), (1, .int (nI d)), (2, .int mu), (3, .int (v ||| 0)), (4, .int 1), (5, .int (nI (p + 1)))]) ?_ (ih (8 - (p + 1)) (by omega) (p + 1) _ rfl (by omega) (by omega) (by rw [Int32.or_zero]; exact y_s8_n (P := fun q => 1 ≤ q ∧ m_PM (D 170).1 mu (q_n (D 170).1 11) d q) hv (fun q => hP q.2)))
                simp [x_lk]
              · refine r_aload_n hE dX11_whence_121 rfl ?_
                refine r_iconst (v := 1) hE dX11_whence_122 (by decide) ?_
                refine r_iload hE dX11_whence_123 rfl ?_
                refine r_shl1N (k := p) hE dX11_whence_125 (by omega) ?_
                refine r_iload_n hE dX11_whence_126 rfl ?_
                refine r_iconst (v := (-1)) hE dX11_whence_127 (by decide) ?_
                refine t_invvRi hE [.int (nI (2 ^ p)), .int (nI d), .int (-1)] (c_knowing (D := y_si D 169 0 0) (nt := q_n (D 170).1 8) (b0 := 2 ^ p) (d := d) (wo := (-1)) hL (hT.1.1) hT.1.2 (hT.2.2) (Nat.pow_lt_pow_right (n := 8) (by decide) (by omega)) hd) v_yX11_knowing m_X11_379 dX11_whence_128 rfl (hL 169 (by decide)) (y_l_169 ((y_si D 169 0 0) 169)) rfl (by decide) ⟨Nat.le_refl _, Nat.le_refl _⟩ (Nat.le_of_ble_eq_true rfl) (fun v8 D8 q8 => ?_)
                obtain ⟨q8, hD8⟩ := q8
                rw [hD8]
                show E 0 0 131 [(0, .ref 169), (1, .int (nI d)), (2, .int mu), (3, .int v), (4, .int 1), (5, .int (nI p))] [.int v8] (y_mk n L (y_si D 169 0 0))
                refine r_iconst (v := 1) hE dX11_whence_131 (by decide) ?_
                refine r_iand hE dX11_whence_132 ?_
                refine r_iconst (v := 1) hE dX11_whence_133 (by decide) ?_
                refine r_icmp_ne (tgt := 141) hE dX11_whence_134 (by decide) (fun c134 => ?_) (fun c134 => ?_)
                · refine r_iconst (v := 0) hE dX11_whence_141 (by decide) ?_
                  refine r_istore (ls2 := [(0, .ref 169), (1, .int (nI d)), (2, .int mu), (3, .int v), (4, .int 1), (5, .int (nI p)), (6, .int 0)]) hE dX11_whence_142 (by decide) rfl ?_
                  refine r_iload_n hE dX11_whence_144 rfl ?_
                  refine r_iload hE dX11_whence_145 rfl ?_
                  refine r_if_eq (tgt := 157) hE dX11_whence_147 (by decide) (fun _ => ?_) (fun c147 => by first | exact absurd c147 (by decide) | exact absurd (by decide) c147)
                  refine r_iconst (v := 0) hE dX11_whence_157 (by decide) ?_
                  refine r_ior hE dX11_whence_158 ?_
                  refine r_istore_n (ls2 := [(0, .ref 169), (1, .int (nI d)), (2, .int mu), (3, .int (v ||| 0)), (4, .int 1), (5, .int (nI p)), (6, .int 0)]) hE dX11_whence_159 (by decide) rfl ?_
                  refine r_iincN (a := p) (b := 1) (ls2 := [(0, .ref 169), (1, .int (nI d)), (2, .int mu), (3, .int (v ||| 0)), (4, .int 1), (5, .int (nI (p + 1))), (6, .int 0)]) hE dX11_whence_160 rfl rfl (by decide) rfl ?_
                  refine r_goto (tgt := 62) hE dX11_whence_163 (by decide) ?_
                  have hP : ¬ m_PM (D 170).1 mu (q_n (D 170).1 11) d p := by
                    unfold m_PM
                    first
                    | (rw [if_neg c70]; exact fun q => q.2 ((y_s8_b0 q8).mp ((y_and1 _).resolve_left c94)))
                    | (rw [if_neg c70]; exact fun q => hkn q.1)
                    | (rw [if_pos c70]; exact fun q => c134 ((y_s8_b0 q8).mpr q.2))
                    | (rw [if_pos c70]; exact fun q => c118 ((y_bit_tb (by omega)).mpr q.1))
                  refine r_locs hE (ls2 := [(0, .ref 169), (1, .int (nI d)), (2, .int mu), (3, .int (v ||| 0)), (4, .int 1), (5, .int (nI (p + 1)))]) ?_ (ih (8 - (p + 1)) (by omega) (p + 1) _ rfl (by omega) (by omega) (by rw [Int32.or_zero]; exact y_s8_n (P := fun q => 1 ≤ q ∧ m_PM (D 170).1 mu (q_n (D 170).1 11) d q) hv (fun q => hP q.2)))
                  simp [x_lk]
                · refine r_iconst (v := 1) hE dX11_whence_137 (by decide) ?_
                  refine r_goto (tgt := 142) hE dX11_whence_138 (by decide) ?_
                  refine r_istore (ls2 := [(0, .ref 169), (1, .int (nI d)), (2, .int mu), (3, .int v), (4, .int 1), (5, .int (nI p)), (6, .int 1)]) hE dX11_whence_142 (by decide) rfl ?_
                  refine r_iload_n hE dX11_whence_144 rfl ?_
                  refine r_iload hE dX11_whence_145 rfl ?_
                  refine r_if_eq (tgt := 157) hE dX11_whence_147 (by decide) (fun c147 => by first | exact absurd c147 (by decide) | exact absurd (by decide) c147) (fun _ => ?_)
                  refine r_iconst (v := 1) hE dX11_whence_150 (by decide) ?_
                  refine r_iload hE dX11_whence_151 rfl ?_
                  refine r_shl1N (k := p) hE dX11_whence_153 (by omega) ?_
                  refine r_goto (tgt := 158) hE dX11_whence_154 (by decide) ?_
                  refine r_ior hE dX11_whence_158 ?_
                  refine r_istore_n (ls2 := [(0, .ref 169), (1, .int (nI d)), (2, .int mu), (3, .int (v ||| (nI (2 ^ p)))), (4, .int 1), (5, .int (nI p)), (6, .int 1)]) hE dX11_whence_159 (by decide) rfl ?_
                  refine r_iincN (a := p) (b := 1) (ls2 := [(0, .ref 169), (1, .int (nI d)), (2, .int mu), (3, .int (v ||| (nI (2 ^ p)))), (4, .int 1), (5, .int (nI (p + 1))), (6, .int 1)]) hE dX11_whence_160 rfl rfl (by decide) rfl ?_
                  refine r_goto (tgt := 62) hE dX11_whence_163 (by decide) ?_
                  have hP : m_PM (D 170).1 mu (q_n (D 170).1 11) d p := by
                    unfold m_PM
                    first
                    | (rw [if_neg c70]; exact ⟨hkn, fun q => by have := (y_s8_b0 q8).mpr q; rw [c94] at this; exact absurd this (by decide)⟩)
                    | (rw [if_pos c70]; exact ⟨(y_bit_tb (by omega)).mp c118, (y_s8_b0 q8).mp c134⟩)
                  refine r_locs hE (ls2 := [(0, .ref 169), (1, .int (nI d)), (2, .int mu), (3, .int (v ||| (nI (2 ^ p)))), (4, .int 1), (5, .int (nI (p + 1)))]) ?_ (ih (8 - (p + 1)) (by omega) (p + 1) _ rfl (by omega) (by omega) (y_s8_y (P := fun q => 1 ≤ q ∧ m_PM (D 170).1 mu (q_n (D 170).1 11) d q) (by omega) hv ⟨hp1, hP⟩))
                  simp [x_lk]
            · refine r_iload hE dX11_whence_73 rfl ?_
              refine r_if_eq (tgt := 101) hE dX11_whence_75 (by decide) (fun c75 => by first | exact absurd c75 (by decide) | exact absurd (by decide) c75) (fun _ => ?_)
              refine r_aload_n hE dX11_whence_78 rfl ?_
              refine r_aload_n hE dX11_whence_79 rfl ?_
              refine t_getr hE f_X11_13 y_R_169_1 dX11_whence_80 (hL 169 (by decide)) ?_
              refine r_bipush (v := 11) hE dX11_whence_83 (by decide) ?_
              refine t_ialdN (e := 11) hE y_A_170 dX11_whence_85 (hL 170 (by decide)) (by omega) (by decide) ?_
              refine r_top (y := (nI (q_n (D 170).1 11))) hT.2.1.1 ?_
              refine r_iload_n hE dX11_whence_86 rfl ?_
              refine r_iload hE dX11_whence_87 rfl ?_
              refine t_invvRi hE [.int (nI (q_n (D 170).1 11)), .int (nI d), .int (nI p)] (c_knowing (D := y_si D 169 0 0) (nt := q_n (D 170).1 8) (b0 := q_n (D 170).1 11) (d := d) (wo := (nI p)) hL (hT.1.1) hT.1.2 (hT.2.2) (by have := hT.2.1.2; omega) hd) v_yX11_knowing m_X11_379 dX11_whence_89 rfl (hL 169 (by decide)) (y_l_169 ((y_si D 169 0 0) 169)) rfl (by decide) ⟨Nat.le_refl _, Nat.le_refl _⟩ (Nat.le_of_ble_eq_true rfl) (fun v8 D8 q8 => ?_)
              obtain ⟨q8, hD8⟩ := q8
              rw [hD8]
              show E 0 0 92 [(0, .ref 169), (1, .int (nI d)), (2, .int mu), (3, .int v), (4, .int 1), (5, .int (nI p))] [.int v8] (y_mk n L (y_si D 169 0 0))
              refine r_iconst (v := 1) hE dX11_whence_92 (by decide) ?_
              refine r_iand hE dX11_whence_93 ?_
              refine r_if_ne (tgt := 101) hE dX11_whence_94 (by decide) (fun c94 => ?_) (fun c94 => ?_)
              · refine r_iconst (v := 0) hE dX11_whence_101 (by decide) ?_
                refine r_goto (tgt := 142) hE dX11_whence_102 (by decide) ?_
                refine r_istore (ls2 := [(0, .ref 169), (1, .int (nI d)), (2, .int mu), (3, .int v), (4, .int 1), (5, .int (nI p)), (6, .int 0)]) hE dX11_whence_142 (by decide) rfl ?_
                refine r_iload_n hE dX11_whence_144 rfl ?_
                refine r_iload hE dX11_whence_145 rfl ?_
                refine r_if_eq (tgt := 157) hE dX11_whence_147 (by decide) (fun _ => ?_) (fun c147 => by first | exact absurd c147 (by decide) | exact absurd (by decide) c147)
                refine r_iconst (v := 0) hE dX11_whence_157 (by decide) ?_
                refine r_ior hE dX11_whence_158 ?_
                refine r_istore_n (ls2 := [(0, .ref 169), (1, .int (nI d)), (2, .int mu), (3, .int (v ||| 0)), (4, .int 1), (5, .int (nI p)), (6, .int 0)]) hE dX11_whence_159 (by decide) rfl ?_
                refine r_iincN (a := p) (b := 1) (ls2 := [(0, .ref 169), (1, .int (nI d)), (2, .int mu), (3, .int (v ||| 0)), (4, .int 1), (5, .int (nI (p + 1))), (6, .int 0)]) hE dX11_whence_160 rfl rfl (by decide) rfl ?_
                refine r_goto (tgt := 62) hE dX11_whence_163 (by decide) ?_
                have hP : ¬ m_PM (D 170).1 mu (q_n (D 170).1 11) d p := by
                  unfold m_PM
                  first
                  | (rw [if_neg c70]; exact fun q => q.2 ((y_s8_b0 q8).mp ((y_and1 _).resolve_left c94)))
                  | (rw [if_neg c70]; exact fun q => hkn q.1)
                  | (rw [if_pos c70]; exact fun q => c134 ((y_s8_b0 q8).mpr q.2))
                  | (rw [if_pos c70]; exact fun q => c118 ((y_bit_tb (by omega)).mpr q.1))
                refine r_locs hE (ls2 := [(0, .ref 169), (1, .int (nI d)), (2, .int mu), (3, .int (v ||| 0)), (4, .int 1), (5, .int (nI (p + 1)))]) ?_ (ih (8 - (p + 1)) (by omega) (p + 1) _ rfl (by omega) (by omega) (by rw [Int32.or_zero]; exact y_s8_n (P := fun q => 1 ≤ q ∧ m_PM (D 170).1 mu (q_n (D 170).1 11) d q) hv (fun q => hP q.2)))
                simp [x_lk]
              · refine r_iconst (v := 1) hE dX11_whence_97 (by decide) ?_
                refine r_goto (tgt := 142) hE dX11_whence_98 (by decide) ?_
                refine r_istore (ls2 := [(0, .ref 169), (1, .int (nI d)), (2, .int mu), (3, .int v), (4, .int 1), (5, .int (nI p)), (6, .int 1)]) hE dX11_whence_142 (by decide) rfl ?_
                refine r_iload_n hE dX11_whence_144 rfl ?_
                refine r_iload hE dX11_whence_145 rfl ?_
                refine r_if_eq (tgt := 157) hE dX11_whence_147 (by decide) (fun c147 => by first | exact absurd c147 (by decide) | exact absurd (by decide) c147) (fun _ => ?_)
                refine r_iconst (v := 1) hE dX11_whence_150 (by decide) ?_
                refine r_iload hE dX11_whence_151 rfl ?_
                refine r_shl1N (k := p) hE dX11_whence_153 (by omega) ?_
                refine r_goto (tgt := 158) hE dX11_whence_154 (by decide) ?_
                refine r_ior hE dX11_whence_158 ?_
                refine r_istore_n (ls2 := [(0, .ref 169), (1, .int (nI d)), (2, .int mu), (3, .int (v ||| (nI (2 ^ p)))), (4, .int 1), (5, .int (nI p)), (6, .int 1)]) hE dX11_whence_159 (by decide) rfl ?_
                refine r_iincN (a := p) (b := 1) (ls2 := [(0, .ref 169), (1, .int (nI d)), (2, .int mu), (3, .int (v ||| (nI (2 ^ p)))), (4, .int 1), (5, .int (nI (p + 1))), (6, .int 1)]) hE dX11_whence_160 rfl rfl (by decide) rfl ?_
                refine r_goto (tgt := 62) hE dX11_whence_163 (by decide) ?_
                have hP : m_PM (D 170).1 mu (q_n (D 170).1 11) d p := by
                  unfold m_PM
                  first
                  | (rw [if_neg c70]; exact ⟨hkn, fun q => by have := (y_s8_b0 q8).mpr q; rw [c94] at this; exact absurd this (by decide)⟩)
                  | (rw [if_pos c70]; exact ⟨(y_bit_tb (by omega)).mp c118, (y_s8_b0 q8).mp c134⟩)
                refine r_locs hE (ls2 := [(0, .ref 169), (1, .int (nI d)), (2, .int mu), (3, .int (v ||| (nI (2 ^ p)))), (4, .int 1), (5, .int (nI (p + 1)))]) ?_ (ih (8 - (p + 1)) (by omega) (p + 1) _ rfl (by omega) (by omega) (y_s8_y (P := fun q => 1 ≤ q ∧ m_PM (D 170).1 mu (q_n (D 170).1 11) d q) (by omega) hv ⟨hp1, hP⟩))
                simp [x_lk]
      exact l1 1 0 (by omega) (by omega) (y_s8_z (fun p hp q => by omega))
  · refine r_iconst (v := 1) hE dX11_whence_17 (by decide) ?_
    refine r_goto (tgt := 22) hE dX11_whence_18 (by decide) ?_
    refine r_iconst (v := 1) hE dX11_whence_22 (by decide) ?_
    refine t_invv (r := (some (.int 1))) (S2 := (y_mk n L (y_si (y_si D 169 0 0) 169 0 1))) hE [.int 1, .int 1] (c_throwsT hL) v_yX11_throwsIf m_X11_85 dX11_whence_23 rfl (hL 169 (by decide)) (y_l_169 ((y_si D 169 0 0) 169)) rfl (by decide) ⟨Nat.le_refl _, Nat.le_refl _⟩ (Nat.le_of_ble_eq_true rfl) ?_
    show E 0 0 26 [(0, .ref 169), (1, .int p), (2, .int mu)] [.int 1] (y_mk n L (y_si (y_si D 169 0 0) 169 0 1))
    refine r_if_eq (tgt := 31) hE dX11_whence_26 (by decide) (fun c26 => by first | exact absurd c26 (by decide) | exact absurd (by decide) c26) (fun _ => ?_)
    refine r_iconst (v := 0) hE dX11_whence_29 (by decide) ?_
    refine r_ireturn hE dX11_whence_30 rfl rfl (Nat.zero_le _) (Nat.zero_le _) ?_
    exact ⟨_, _, rfl, rfl, m_ot_0 (m_ot_0 m_ot_r), Or.inl ⟨c14, by rw [y_si_1, if_pos rfl]⟩⟩
def c_chf (a x : Int32) : Nat → Int32
  | 0 => 1
  | i + 1 => c_chf a x i * (a - x + nI (i + 1)) / nI (i + 1)
def c_cho (a x : Int32) : Int32 := if x < 0 ∨ a < x then 0 else c_chf a x x.toNatClampNeg
theorem c_choices {V : x_E} {n : Nat} {L : List Nat} {D : y_D} {a : Nat} {x : Int32} (ha : a ≤ 1000) : x_Fn V yX11_choices cX11_choices 4 (some .int) 0 [.int (nI a), .int x] (y_mk n L D) (some (.int (c_cho (nI a) x))) (y_mk n L D) := by
  refine x_fn (by decide) (Nat.le_of_ble_eq_true rfl) (fun E hE => ?_)
  change E 0 0 0 [(0, .int (nI a)), (1, .int x)] [] (y_mk n L D)
  refine r_iload_n hE dX11_choices_0 rfl ?_
  refine r_if_lt (tgt := 9) hE dX11_choices_1 (by decide) (fun c1 => ?_) (fun c1 => ?_)
  · refine r_iconst (v := 0) hE dX11_choices_9 (by decide) ?_
    refine r_ireturn hE dX11_choices_10 rfl rfl (Nat.zero_le _) (Nat.zero_le _) ?_
    unfold c_cho
    first | (rw [if_pos (Or.inl c1)]; exact ⟨rfl, rfl⟩) | (rw [if_pos (Or.inr (by rw [← Int32.not_le]; exact c6))]; exact ⟨rfl, rfl⟩)
  · refine r_iload_n hE dX11_choices_4 rfl ?_
    refine r_iload_n hE dX11_choices_5 rfl ?_
    refine r_icmp_le (tgt := 11) hE dX11_choices_6 (by decide) (fun c6 => ?_) (fun c6 => ?_)
    · refine r_iconst (v := 1) hE dX11_choices_11 (by decide) ?_
      refine r_istore_n (ls2 := [(0, .int (nI a)), (1, .int x), (2, .int 1)]) hE dX11_choices_12 (by decide) rfl ?_
      refine r_iconst (v := 1) hE dX11_choices_13 (by decide) ?_
      refine r_istore_n (ls2 := [(0, .int (nI a)), (1, .int x), (2, .int 1), (3, .int 1)]) hE dX11_choices_14 (by decide) rfl ?_
      obtain ⟨m, hm, rfl⟩ := nI_of c1
      have hma : m ≤ a := (nI_leI hm (by omega)).mp c6
      have lp : ∀ (i : Nat), i ≤ m → E 0 0 15 [(0, .int (nI a)), (1, .int (nI m)), (2, .int (c_chf (nI a) (nI m) i)), (3, .int (nI (i + 1)))] [] (y_mk n L D) := by
        intro i
        induction hm9 : (m - i) using Nat.strongRecOn generalizing i with
        | _ m9 ih =>
          intro hi
          subst hm9
          refine r_iload_n hE dX11_choices_15 rfl ?_
          refine r_iload_n hE dX11_choices_16 rfl ?_
          refine r_icmp_gtN (a := i + 1) (b := m) (tgt := 36) hE dX11_choices_17 (by decide) (by omega) (by omega) (fun c17 => ?_) (fun c17 => ?_)
          · refine r_iload_n hE dX11_choices_36 rfl ?_
            refine r_ireturn hE dX11_choices_37 rfl rfl (Nat.zero_le _) (Nat.zero_le _) ?_
            rw [show i = m by omega]
            unfold c_cho
            rw [if_neg (fun q => q.elim (nI_pos (by omega)) (nI_nlt (by omega) (by omega))), nI_clamp (by omega)]
            exact ⟨rfl, rfl⟩
          · refine r_iload_n hE dX11_choices_20 rfl ?_
            refine r_iload_n hE dX11_choices_21 rfl ?_
            refine r_iload_n hE dX11_choices_22 rfl ?_
            refine r_isub hE dX11_choices_23 ?_
            refine r_iload_n hE dX11_choices_24 rfl ?_
            refine r_iadd hE dX11_choices_25 ?_
            refine r_imul hE dX11_choices_26 ?_
            refine r_iload_n hE dX11_choices_27 rfl ?_
            refine r_idiv hE dX11_choices_28 (by exact nI_ne0 (by omega) (by omega)) ?_
            refine r_istore_n (ls2 := [(0, .int (nI a)), (1, .int (nI m)), (2, .int (((c_chf (nI a) (nI m) i) * (((nI a) - (nI m)) + (nI (i + 1)))) / (nI (i + 1)))), (3, .int (nI (i + 1)))]) hE dX11_choices_29 (by decide) rfl ?_
            refine r_iincN (a := i + 1) (b := 1) (ls2 := [(0, .int (nI a)), (1, .int (nI m)), (2, .int (((c_chf (nI a) (nI m) i) * (((nI a) - (nI m)) + (nI (i + 1)))) / (nI (i + 1)))), (3, .int (nI ((i + 1) + 1)))]) hE dX11_choices_30 rfl rfl (by decide) rfl ?_
            refine r_goto (tgt := 15) hE dX11_choices_33 (by decide) ?_
            refine r_locs hE (ls2 := [(0, .int (nI a)), (1, .int (nI m)), (2, .int (c_chf (nI a) (nI m) (i + 1))), (3, .int (nI (i + 1 + 1)))]) ?_ (ih (m - (i + 1)) (by omega) (i + 1) rfl (by omega))
            show ∀ q ∈ _, _
            rw [show c_chf (nI a) (nI m) (i + 1) = c_chf (nI a) (nI m) i * (nI a - nI m + nI (i + 1)) / nI (i + 1) from rfl]
            simp [x_lk]
      refine r_locs hE (ls2 := [(0, .int (nI a)), (1, .int (nI m)), (2, .int (c_chf (nI a) (nI m) 0)), (3, .int (nI (0 + 1)))]) ?_ (lp 0 (by omega))
      show ∀ q ∈ _, _
      rw [show c_chf (nI a) (nI m) 0 = 1 from rfl, show nI (0 + 1) = 1 from rfl]
      simp [x_lk]
    · refine r_iconst (v := 0) hE dX11_choices_9 (by decide) ?_
      refine r_ireturn hE dX11_choices_10 rfl rfl (Nat.zero_le _) (Nat.zero_le _) ?_
      unfold c_cho
      first | (rw [if_pos (Or.inl c1)]; exact ⟨rfl, rfl⟩) | (rw [if_pos (Or.inr (by rw [← Int32.not_le]; exact c6))]; exact ⟨rfl, rfl⟩)
theorem k_choices {V : x_E} {n : Nat} {L : List Nat} {D : y_D} {a : Nat} {x : Int32} (ha : a ≤ 1000) : x_Fn V yX10_choices cX10_choices 4 (some .int) 0 [.int (nI a), .int x] (y_mk n L D) (some (.int (c_cho (nI a) x))) (y_mk n L D) := by
  refine x_fn (by decide) (Nat.le_of_ble_eq_true rfl) (fun E hE => ?_)
  change E 0 0 0 [(0, .int (nI a)), (1, .int x)] [] (y_mk n L D)
  refine r_iload_n hE dX10_choices_0 rfl ?_
  refine r_if_lt (tgt := 9) hE dX10_choices_1 (by decide) (fun c1 => ?_) (fun c1 => ?_)
  · refine r_iconst (v := 0) hE dX10_choices_9 (by decide) ?_
    refine r_ireturn hE dX10_choices_10 rfl rfl (Nat.zero_le _) (Nat.zero_le _) ?_
    unfold c_cho
    first | (rw [if_pos (Or.inl c1)]; exact ⟨rfl, rfl⟩) | (rw [if_pos (Or.inr (by rw [← Int32.not_le]; exact c6))]; exact ⟨rfl, rfl⟩)
  · refine r_iload_n hE dX10_choices_4 rfl ?_
    refine r_iload_n hE dX10_choices_5 rfl ?_
    refine r_icmp_le (tgt := 11) hE dX10_choices_6 (by decide) (fun c6 => ?_) (fun c6 => ?_)
    · refine r_iconst (v := 1) hE dX10_choices_11 (by decide) ?_
      refine r_istore_n (ls2 := [(0, .int (nI a)), (1, .int x), (2, .int 1)]) hE dX10_choices_12 (by decide) rfl ?_
      refine r_iconst (v := 1) hE dX10_choices_13 (by decide) ?_
      refine r_istore_n (ls2 := [(0, .int (nI a)), (1, .int x), (2, .int 1), (3, .int 1)]) hE dX10_choices_14 (by decide) rfl ?_
      obtain ⟨m, hm, rfl⟩ := nI_of c1
      have hma : m ≤ a := (nI_leI hm (by omega)).mp c6
      have lp : ∀ (i : Nat), i ≤ m → E 0 0 15 [(0, .int (nI a)), (1, .int (nI m)), (2, .int (c_chf (nI a) (nI m) i)), (3, .int (nI (i + 1)))] [] (y_mk n L D) := by
        intro i
        induction hm9 : (m - i) using Nat.strongRecOn generalizing i with
        | _ m9 ih =>
          intro hi
          subst hm9
          refine r_iload_n hE dX10_choices_15 rfl ?_
          refine r_iload_n hE dX10_choices_16 rfl ?_
          refine r_icmp_gtN (a := i + 1) (b := m) (tgt := 36) hE dX10_choices_17 (by decide) (by omega) (by omega) (fun c17 => ?_) (fun c17 => ?_)
          · refine r_iload_n hE dX10_choices_36 rfl ?_
            refine r_ireturn hE dX10_choices_37 rfl rfl (Nat.zero_le _) (Nat.zero_le _) ?_
            rw [show i = m by omega]
            unfold c_cho
            rw [if_neg (fun q => q.elim (nI_pos (by omega)) (nI_nlt (by omega) (by omega))), nI_clamp (by omega)]
            exact ⟨rfl, rfl⟩
          · refine r_iload_n hE dX10_choices_20 rfl ?_
            refine r_iload_n hE dX10_choices_21 rfl ?_
            refine r_iload_n hE dX10_choices_22 rfl ?_
            refine r_isub hE dX10_choices_23 ?_
            refine r_iload_n hE dX10_choices_24 rfl ?_
            refine r_iadd hE dX10_choices_25 ?_
            refine r_imul hE dX10_choices_26 ?_
            refine r_iload_n hE dX10_choices_27 rfl ?_
            refine r_idiv hE dX10_choices_28 (by exact nI_ne0 (by omega) (by omega)) ?_
            refine r_istore_n (ls2 := [(0, .int (nI a)), (1, .int (nI m)), (2, .int (((c_chf (nI a) (nI m) i) * (((nI a) - (nI m)) + (nI (i + 1)))) / (nI (i + 1)))), (3, .int (nI (i + 1)))]) hE dX10_choices_29 (by decide) rfl ?_
            refine r_iincN (a := i + 1) (b := 1) (ls2 := [(0, .int (nI a)), (1, .int (nI m)), (2, .int (((c_chf (nI a) (nI m) i) * (((nI a) - (nI m)) + (nI (i + 1)))) / (nI (i + 1)))), (3, .int (nI ((i + 1) + 1)))]) hE dX10_choices_30 rfl rfl (by decide) rfl ?_
            refine r_goto (tgt := 15) hE dX10_choices_33 (by decide) ?_
            refine r_locs hE (ls2 := [(0, .int (nI a)), (1, .int (nI m)), (2, .int (c_chf (nI a) (nI m) (i + 1))), (3, .int (nI (i + 1 + 1)))]) ?_ (ih (m - (i + 1)) (by omega) (i + 1) rfl (by omega))
            show ∀ q ∈ _, _
            rw [show c_chf (nI a) (nI m) (i + 1) = c_chf (nI a) (nI m) i * (nI a - nI m + nI (i + 1)) / nI (i + 1) from rfl]
            simp [x_lk]
      refine r_locs hE (ls2 := [(0, .int (nI a)), (1, .int (nI m)), (2, .int (c_chf (nI a) (nI m) 0)), (3, .int (nI (0 + 1)))]) ?_ (lp 0 (by omega))
      show ∀ q ∈ _, _
      rw [show c_chf (nI a) (nI m) 0 = 1 from rfl, show nI (0 + 1) = 1 from rfl]
      simp [x_lk]
    · refine r_iconst (v := 0) hE dX10_choices_9 (by decide) ?_
      refine r_ireturn hE dX10_choices_10 rfl rfl (Nat.zero_le _) (Nat.zero_le _) ?_
      unfold c_cho
      first | (rw [if_pos (Or.inl c1)]; exact ⟨rfl, rfl⟩) | (rw [if_pos (Or.inr (by rw [← Int32.not_le]; exact c6))]; exact ⟨rfl, rfl⟩)
def c_cn (b : Nat → Bool) : Nat → Nat
  | 0 => 0
  | i + 1 => c_cn b i + (if b i then 1 else 0)
theorem c_cn_le {b : Nat → Bool} : ∀ {i}, c_cn b i ≤ i
  | 0 => Nat.le_refl _
  | i + 1 => by
    unfold c_cn
    have := c_cn_le (b := b) (i := i)
    split <;> omega
theorem c_cn_y {b : Nat → Bool} {i : Nat} (h : b i = true) : c_cn b (i + 1) = c_cn b i + 1 := by
  show c_cn b i + (if b i = true then 1 else 0) = c_cn b i + 1
  rw [if_pos h]
theorem c_cn_n {b : Nat → Bool} {i : Nat} (h : ¬ b i = true) : c_cn b (i + 1) = c_cn b i := by
  show c_cn b i + (if b i = true then 1 else 0) = c_cn b i
  rw [if_neg h]
  rfl
/-- how many choices have at least so many, k0 the first -/
def c_ws (a t n k0 : Nat) : Nat → Int32
  | 0 => 0
  | i + 1 => c_ws a t n k0 i + c_cho (nI a) (nI (k0 + i)) * c_cho (nI (n - a)) (nI t - nI (k0 + i))
/-- what with answers, from who was there and whether something came -/
def c_wth (was some : Nat → Bool) (n c : Nat) : Int32 := if c = 0 then nI (c_cn (fun i => was i && some i) n) else if c = 1 then nI (c_cn was n) else if c = 2 then nI (c_cn some n) else c_ws (c_cn some n) (c_cn was n) n (c_cn (fun i => was i && some i) n) (c_cn some n + 1 - c_cn (fun i => was i && some i) n)
theorem c_cn_and {a b : Nat → Bool} : ∀ {i}, c_cn (fun i => a i && b i) i ≤ c_cn b i
  | 0 => Nat.le_refl _
  | i + 1 => by
    unfold c_cn
    have := c_cn_and (a := a) (b := b) (i := i)
    cases a i <;> cases b i <;> simp <;> omega
theorem c_with {V : x_E} {n : Nat} {L : List Nat} {D : y_D} {x y : Int32} (hL : y_ok L) (hN : q_ok (D 170).1 7 12) : y_Ri V yX11_with cX11_with 9 (some .int) 2 [.ref 169, .int x, .int y] n L D (fun v D2 => m_ot D D2 ∧ (((¬ (0 ≤ x ∧ x ≤ 7)) ∧ (D2 169).1 0 = 1) ∨ (¬ (¬ (0 ≤ x ∧ x ≤ 7)) ∧ ¬ (0 ≤ y ∧ y ≤ 3) ∧ (D2 169).1 0 = 2) ∨ ∃ p c, p ≤ 7 ∧ c ≤ 3 ∧ x = nI p ∧ y = nI c ∧ (D2 169).1 0 = 0 ∧ v = c_wth (fun i => decide (y_bit ((D 170).1 (93 + 5 * i + 1)) p)) (fun i => decide ((D 170).1 (93 + 5 * i + 2) ≠ 0)) (q_n (D 170).1 7) c)) := by
  refine y_ri (by decide) (Nat.le_of_ble_eq_true rfl) (fun E hE => ?_)
  change E 0 0 0 [(0, .ref 169), (1, .int x), (2, .int y)] [] (y_mk n L D)
  refine r_aload_n hE dX11_with_0 rfl ?_
  refine r_iconst (v := 0) hE dX11_with_1 (by decide) ?_
  refine t_puti hE f_X11_3 y_I_169_0 dX11_with_2 (hL 169 (by decide)) rfl rfl ?_
  refine r_aload_n hE dX11_with_5 rfl ?_
  refine r_iload_n hE dX11_with_6 rfl ?_
  refine r_iconst (v := 0) hE dX11_with_7 (by decide) ?_
  refine r_bipush (v := 7) hE dX11_with_8 (by decide) ?_
  refine t_invs (r := (some (.int (y_b (0 ≤ x ∧ x ≤ 7))))) (S2 := (y_mk n L (y_si D 169 0 0))) hE [.int x, .int 0, .int 7] (c_in) s_yX11_in m_X11_81 dX11_with_10 rfl (by decide) ⟨Nat.le_refl _, Nat.le_refl _⟩ (Nat.le_of_ble_eq_true rfl) ?_
  show E 0 0 13 [(0, .ref 169), (1, .int x), (2, .int y)] [.int (y_b (0 ≤ x ∧ x ≤ 7)), .ref 169] (y_mk n L (y_si D 169 0 0))
  refine r_ifb_ne (tgt := 20) hE dX11_with_13 (by decide) (fun c13 => ?_) (fun c13 => ?_)
  · refine r_iconst (v := 0) hE dX11_with_20 (by decide) ?_
    refine r_iconst (v := 1) hE dX11_with_21 (by decide) ?_
    refine t_invv (r := (some (.int 0))) (S2 := (y_mk n L (y_si D 169 0 0))) hE [.int 0, .int 1] (c_throwsF) v_yX11_throwsIf m_X11_85 dX11_with_22 rfl (hL 169 (by decide)) (y_l_169 ((y_si D 169 0 0) 169)) rfl (by decide) ⟨Nat.le_refl _, Nat.le_refl _⟩ (Nat.le_of_ble_eq_true rfl) ?_
    show E 0 0 25 [(0, .ref 169), (1, .int x), (2, .int y)] [.int 0] (y_mk n L (y_si D 169 0 0))
    refine r_if_ne (tgt := 50) hE dX11_with_25 (by decide) (fun c25 => by first | exact absurd c25 (by decide) | exact absurd (by decide) c25) (fun _ => ?_)
    refine r_aload_n hE dX11_with_28 rfl ?_
    refine r_iload_n hE dX11_with_29 rfl ?_
    refine r_iconst (v := 0) hE dX11_with_30 (by decide) ?_
    refine r_iconst (v := 3) hE dX11_with_31 (by decide) ?_
    refine t_invs (r := (some (.int (y_b (0 ≤ y ∧ y ≤ 3))))) (S2 := (y_mk n L (y_si D 169 0 0))) hE [.int y, .int 0, .int 3] (c_in) s_yX11_in m_X11_81 dX11_with_32 rfl (by decide) ⟨Nat.le_refl _, Nat.le_refl _⟩ (Nat.le_of_ble_eq_true rfl) ?_
    show E 0 0 35 [(0, .ref 169), (1, .int x), (2, .int y)] [.int (y_b (0 ≤ y ∧ y ≤ 3)), .ref 169] (y_mk n L (y_si D 169 0 0))
    refine r_ifb_ne (tgt := 42) hE dX11_with_35 (by decide) (fun c35 => ?_) (fun c35 => ?_)
    · refine r_iconst (v := 0) hE dX11_with_42 (by decide) ?_
      refine r_iconst (v := 2) hE dX11_with_43 (by decide) ?_
      refine t_invv (r := (some (.int 0))) (S2 := (y_mk n L (y_si D 169 0 0))) hE [.int 0, .int 2] (c_throwsF) v_yX11_throwsIf m_X11_85 dX11_with_44 rfl (hL 169 (by decide)) (y_l_169 ((y_si D 169 0 0) 169)) rfl (by decide) ⟨Nat.le_refl _, Nat.le_refl _⟩ (Nat.le_of_ble_eq_true rfl) ?_
      show E 0 0 47 [(0, .ref 169), (1, .int x), (2, .int y)] [.int 0] (y_mk n L (y_si D 169 0 0))
      refine r_if_eq (tgt := 52) hE dX11_with_47 (by decide) (fun _ => ?_) (fun c47 => by first | exact absurd c47 (by decide) | exact absurd (by decide) c47)
      obtain ⟨p, hp, rfl⟩ := y_rng2 (k := 7) (by decide) c13
      obtain ⟨c, hc, rfl⟩ := y_rng2 (k := 3) (by decide) c35
      refine r_iconst (v := 0) hE dX11_with_52 (by decide) ?_
      refine r_istore_n (ls2 := [(0, .ref 169), (1, .int (nI p)), (2, .int (nI c)), (3, .int 0)]) hE dX11_with_53 (by decide) rfl ?_
      refine r_iconst (v := 0) hE dX11_with_54 (by decide) ?_
      refine r_istore (ls2 := [(0, .ref 169), (1, .int (nI p)), (2, .int (nI c)), (3, .int 0), (4, .int 0)]) hE dX11_with_55 (by decide) rfl ?_
      refine r_iconst (v := 0) hE dX11_with_57 (by decide) ?_
      refine r_istore (ls2 := [(0, .ref 169), (1, .int (nI p)), (2, .int (nI c)), (3, .int 0), (4, .int 0), (5, .int 0)]) hE dX11_with_58 (by decide) rfl ?_
      refine r_iconst (v := 0) hE dX11_with_60 (by decide) ?_
      refine r_istore (ls2 := [(0, .ref 169), (1, .int (nI p)), (2, .int (nI c)), (3, .int 0), (4, .int 0), (5, .int 0), (6, .int 0)]) hE dX11_with_61 (by decide) rfl ?_
      have hn12 : q_n (D 170).1 7 ≤ 12 := hN.2
      have l1 : ∀ (i b9 w9 s9 : Nat), i ≤ q_n (D 170).1 7 → b9 = c_cn (fun i => (fun i => decide (y_bit ((D 170).1 (93 + 5 * i + 1)) p)) i && (fun i => decide ((D 170).1 (93 + 5 * i + 2) ≠ 0)) i) i → w9 = c_cn (fun i => decide (y_bit ((D 170).1 (93 + 5 * i + 1)) p)) i → s9 = c_cn (fun i => decide ((D 170).1 (93 + 5 * i + 2) ≠ 0)) i → E 0 0 63 [(0, .ref 169), (1, .int (nI p)), (2, .int (nI c)), (3, .int (nI b9)), (4, .int (nI w9)), (5, .int (nI s9)), (6, .int (nI i))] [] (y_mk n L (y_si D 169 0 0)) := by
        intro i b9 w9 s9
        induction hm9 : (q_n (D 170).1 7 - i) using Nat.strongRecOn generalizing i b9 w9 s9 with
        | _ m9 ih =>
          intro hi e1 e2 e3
          subst hm9
          refine r_iload hE dX11_with_63 rfl ?_
          refine r_aload_n hE dX11_with_65 rfl ?_
          refine t_getr hE f_X11_13 y_R_169_1 dX11_with_66 (hL 169 (by decide)) ?_
          refine r_bipush (v := 7) hE dX11_with_69 (by decide) ?_
          refine t_ialdN (e := 7) hE y_A_170 dX11_with_71 (hL 170 (by decide)) (by omega) (by decide) ?_
          refine r_top (y := (nI (q_n (D 170).1 7))) hN.1 ?_
          refine r_icmp_geN (a := i) (b := q_n (D 170).1 7) (tgt := 182) hE dX11_with_72 (by decide) (by omega) (by omega) (fun c72 => ?_) (fun c72 => ?_)
          · refine r_iload_n hE dX11_with_182 rfl ?_
            refine r_iconst (v := 3) hE dX11_with_183 (by decide) ?_
            refine r_icmp_geN (a := c) (b := 3) (tgt := 208) hE dX11_with_184 (by decide) (by omega) (by decide) (fun c184 => ?_) (fun c184 => ?_)
            · refine r_iconst (v := 0) hE dX11_with_208 (by decide) ?_
              refine r_istore (ls2 := [(0, .ref 169), (1, .int (nI p)), (2, .int (nI c)), (3, .int (nI b9)), (4, .int (nI w9)), (5, .int (nI s9)), (6, .int 0)]) hE dX11_with_209 (by decide) rfl ?_
              refine r_iload_n hE dX11_with_211 rfl ?_
              refine r_istore (ls2 := [(0, .ref 169), (1, .int (nI p)), (2, .int (nI c)), (3, .int (nI b9)), (4, .int (nI w9)), (5, .int (nI s9)), (6, .int 0), (7, .int (nI b9))]) hE dX11_with_212 (by decide) rfl ?_
              have hb1 : b9 ≤ s9 := by rw [e1, e3]; exact c_cn_and
              have hs1 : s9 ≤ q_n (D 170).1 7 := by rw [e3, show i = q_n (D 170).1 7 by omega]; exact c_cn_le
              rw [show i = q_n (D 170).1 7 by omega] at e1 e2 e3
              have l2 : ∀ (j : Nat), b9 + j ≤ s9 + 1 → E 0 0 214 [(0, .ref 169), (1, .int (nI p)), (2, .int (nI c)), (3, .int (nI b9)), (4, .int (nI w9)), (5, .int (nI s9)), (6, .int (c_ws s9 w9 (q_n (D 170).1 7) b9 j)), (7, .int (nI (b9 + j)))] [] (y_mk n L (y_si D 169 0 0)) := by
                intro j
                induction hm9 : (s9 + 1 - (b9 + j)) using Nat.strongRecOn generalizing j with
                | _ m9 ih =>
                  intro hj
                  subst hm9
                  refine r_iload hE dX11_with_214 rfl ?_
                  refine r_iload hE dX11_with_216 rfl ?_
                  refine r_icmp_gtN (a := b9 + j) (b := s9) (tgt := 258) hE dX11_with_218 (by decide) (by omega) (by omega) (fun c218 => ?_) (fun c218 => ?_)
                  · refine r_iload hE dX11_with_258 rfl ?_
                    refine r_ireturn hE dX11_with_260 rfl rfl (Nat.zero_le _) (Nat.zero_le _) ?_
                    refine ⟨_, _, rfl, rfl, m_ot_0 m_ot_r, Or.inr (Or.inr ⟨p, c, by omega, by omega, rfl, rfl, by rw [y_si_1, if_pos rfl], ?_⟩)⟩
                    unfold c_wth
                    rw [if_neg (by omega), if_neg (by omega), if_neg (by omega), ← e1, ← e2, ← e3, show s9 + 1 - b9 = j by omega]
                  · refine r_iload hE dX11_with_221 rfl ?_
                    refine r_iload hE dX11_with_223 rfl ?_
                    refine r_iload hE dX11_with_225 rfl ?_
                    refine t_invs (r := (some (.int (c_cho (nI s9) (nI (b9 + j)))))) (S2 := (y_mk n L (y_si D 169 0 0))) hE [.int (nI s9), .int (nI (b9 + j))] (c_choices (a := s9) (by omega)) s_yX11_choices m_X11_376 dX11_with_227 rfl (by decide) ⟨Nat.le_refl _, Nat.le_refl _⟩ (Nat.le_of_ble_eq_true rfl) ?_
                    show E 0 0 230 [(0, .ref 169), (1, .int (nI p)), (2, .int (nI c)), (3, .int (nI b9)), (4, .int (nI w9)), (5, .int (nI s9)), (6, .int (c_ws s9 w9 (q_n (D 170).1 7) b9 j)), (7, .int (nI (b9 + j)))] [.int (c_cho (nI s9) (nI (b9 + j))), .int (c_ws s9 w9 (q_n (D 170).1 7) b9 j)] (y_mk n L (y_si D 169 0 0))
                    refine r_aload_n hE dX11_with_230 rfl ?_
                    refine t_getr hE f_X11_13 y_R_169_1 dX11_with_231 (hL 169 (by decide)) ?_
                    refine r_bipush (v := 7) hE dX11_with_234 (by decide) ?_
                    refine t_ialdN (e := 7) hE y_A_170 dX11_with_236 (hL 170 (by decide)) (by omega) (by decide) ?_
                    refine r_top (y := (nI (q_n (D 170).1 7))) hN.1 ?_
                    refine r_iload hE dX11_with_237 rfl ?_
                    refine r_isubN (a := q_n (D 170).1 7) (b := s9) hE dX11_with_239 (by omega) ?_
                    refine r_iload hE dX11_with_240 rfl ?_
                    refine r_iload hE dX11_with_242 rfl ?_
                    refine r_isub hE dX11_with_244 ?_
                    refine t_invs (r := (some (.int (c_cho (nI ((q_n (D 170).1 7) - s9)) ((nI w9) - (nI (b9 + j))))))) (S2 := (y_mk n L (y_si D 169 0 0))) hE [.int (nI ((q_n (D 170).1 7) - s9)), .int ((nI w9) - (nI (b9 + j)))] (c_choices (a := (q_n (D 170).1 7) - s9) (by omega)) s_yX11_choices m_X11_376 dX11_with_245 rfl (by decide) ⟨Nat.le_refl _, Nat.le_refl _⟩ (Nat.le_of_ble_eq_true rfl) ?_
                    show E 0 0 248 [(0, .ref 169), (1, .int (nI p)), (2, .int (nI c)), (3, .int (nI b9)), (4, .int (nI w9)), (5, .int (nI s9)), (6, .int (c_ws s9 w9 (q_n (D 170).1 7) b9 j)), (7, .int (nI (b9 + j)))] [.int (c_cho (nI ((q_n (D 170).1 7) - s9)) ((nI w9) - (nI (b9 + j)))), .int (c_cho (nI s9) (nI (b9 + j))), .int (c_ws s9 w9 (q_n (D 170).1 7) b9 j)] (y_mk n L (y_si D 169 0 0))
                    refine r_imul hE dX11_with_248 ?_
                    refine r_iadd hE dX11_with_249 ?_
                    refine r_istore (ls2 := [(0, .ref 169), (1, .int (nI p)), (2, .int (nI c)), (3, .int (nI b9)), (4, .int (nI w9)), (5, .int (nI s9)), (6, .int ((c_ws s9 w9 (q_n (D 170).1 7) b9 j) + ((c_cho (nI s9) (nI (b9 + j))) * (c_cho (nI ((q_n (D 170).1 7) - s9)) ((nI w9) - (nI (b9 + j))))))), (7, .int (nI (b9 + j)))]) hE dX11_with_250 (by decide) rfl ?_
                    refine r_iincN (a := b9 + j) (b := 1) (ls2 := [(0, .ref 169), (1, .int (nI p)), (2, .int (nI c)), (3, .int (nI b9)), (4, .int (nI w9)), (5, .int (nI s9)), (6, .int ((c_ws s9 w9 (q_n (D 170).1 7) b9 j) + ((c_cho (nI s9) (nI (b9 + j))) * (c_cho (nI ((q_n (D 170).1 7) - s9)) ((nI w9) - (nI (b9 + j))))))), (7, .int (nI ((b9 + j) + 1)))]) hE dX11_with_252 rfl rfl (by decide) rfl ?_
                    refine r_goto (tgt := 214) hE dX11_with_255 (by decide) ?_
                    refine r_locs hE (ls2 := [(0, .ref 169), (1, .int (nI p)), (2, .int (nI c)), (3, .int (nI b9)), (4, .int (nI w9)), (5, .int (nI s9)), (6, .int (c_ws s9 w9 (q_n (D 170).1 7) b9 (j + 1))), (7, .int (nI (b9 + (j + 1))))]) ?_ (ih (s9 + 1 - (b9 + (j + 1))) (by omega) (j + 1) rfl (by omega))
                    show ∀ q ∈ _, _
                    rw [show c_ws s9 w9 (q_n (D 170).1 7) b9 (j + 1) = c_ws s9 w9 (q_n (D 170).1 7) b9 j + c_cho (nI s9) (nI (b9 + j)) * c_cho (nI (q_n (D 170).1 7 - s9)) (nI w9 - nI (b9 + j)) from rfl]
                    simp [x_lk, Nat.add_assoc]
              refine r_locs hE (ls2 := [(0, .ref 169), (1, .int (nI p)), (2, .int (nI c)), (3, .int (nI b9)), (4, .int (nI w9)), (5, .int (nI s9)), (6, .int (c_ws s9 w9 (q_n (D 170).1 7) b9 0)), (7, .int (nI (b9 + 0)))]) ?_ (l2 0 (by omega))
              show ∀ q ∈ _, _
              rw [show c_ws s9 w9 (q_n (D 170).1 7) b9 0 = 0 from rfl, Nat.add_zero]
              simp [x_lk]
            · refine r_iload_n hE dX11_with_187 rfl ?_
              refine r_if_ne (tgt := 195) hE dX11_with_188 (by decide) (fun c188 => ?_) (fun c188 => ?_)
              · refine r_iload_n hE dX11_with_195 rfl ?_
                refine r_iconst (v := 1) hE dX11_with_196 (by decide) ?_
                refine r_icmp_neN (a := c) (b := 1) (tgt := 205) hE dX11_with_197 (by decide) (by omega) (by decide) (fun c197 => ?_) (fun c197 => ?_)
                · refine r_iload hE dX11_with_205 rfl ?_
                  refine r_ireturn hE dX11_with_207 rfl rfl (Nat.zero_le _) (Nat.zero_le _) ?_
                  refine ⟨_, _, rfl, rfl, m_ot_0 m_ot_r, Or.inr (Or.inr ⟨p, c, by omega, by omega, rfl, rfl, by rw [y_si_1, if_pos rfl], ?_⟩)⟩
                  unfold c_wth
                  rw [show i = q_n (D 170).1 7 by omega] at e1 e2 e3
                  first
                  | (rw [if_pos ((nI_eq (b := 0) (by omega) (by decide)).mp c188), e1])
                  | (rw [if_neg (fun q => c188 (by rw [q]; rfl)), if_pos c197, e2])
                  | (rw [if_neg (fun q => c188 (by rw [q]; rfl)), if_neg c197, if_pos (by have : c ≠ 0 := (fun q => c188 (by rw [q]; rfl)); omega), e3])
                · refine r_iload hE dX11_with_200 rfl ?_
                  refine r_goto (tgt := 207) hE dX11_with_202 (by decide) ?_
                  refine r_ireturn hE dX11_with_207 rfl rfl (Nat.zero_le _) (Nat.zero_le _) ?_
                  refine ⟨_, _, rfl, rfl, m_ot_0 m_ot_r, Or.inr (Or.inr ⟨p, c, by omega, by omega, rfl, rfl, by rw [y_si_1, if_pos rfl], ?_⟩)⟩
                  unfold c_wth
                  rw [show i = q_n (D 170).1 7 by omega] at e1 e2 e3
                  first
                  | (rw [if_pos ((nI_eq (b := 0) (by omega) (by decide)).mp c188), e1])
                  | (rw [if_neg (fun q => c188 (by rw [q]; rfl)), if_pos c197, e2])
                  | (rw [if_neg (fun q => c188 (by rw [q]; rfl)), if_neg c197, if_pos (by have : c ≠ 0 := (fun q => c188 (by rw [q]; rfl)); omega), e3])
              · refine r_iload_n hE dX11_with_191 rfl ?_
                refine r_goto (tgt := 207) hE dX11_with_192 (by decide) ?_
                refine r_ireturn hE dX11_with_207 rfl rfl (Nat.zero_le _) (Nat.zero_le _) ?_
                refine ⟨_, _, rfl, rfl, m_ot_0 m_ot_r, Or.inr (Or.inr ⟨p, c, by omega, by omega, rfl, rfl, by rw [y_si_1, if_pos rfl], ?_⟩)⟩
                unfold c_wth
                rw [show i = q_n (D 170).1 7 by omega] at e1 e2 e3
                first
                | (rw [if_pos ((nI_eq (b := 0) (by omega) (by decide)).mp c188), e1])
                | (rw [if_neg (fun q => c188 (by rw [q]; rfl)), if_pos c197, e2])
                | (rw [if_neg (fun q => c188 (by rw [q]; rfl)), if_neg c197, if_pos (by have : c ≠ 0 := (fun q => c188 (by rw [q]; rfl)); omega), e3])
          · refine r_aload_n hE dX11_with_75 rfl ?_
            refine t_getr hE f_X11_13 y_R_169_1 dX11_with_76 (hL 169 (by decide)) ?_
            refine r_bipush (v := 93) hE dX11_with_79 (by decide) ?_
            refine r_iconst (v := 5) hE dX11_with_81 (by decide) ?_
            refine r_iload hE dX11_with_82 rfl ?_
            refine r_imulN (a := 5) (b := i) hE dX11_with_84 ?_
            refine r_iaddN (a := 93) (b := 5 * i) hE dX11_with_85 ?_
            refine r_iconst (v := 1) hE dX11_with_86 (by decide) ?_
            refine r_iaddN (a := 93 + (5 * i)) (b := 1) hE dX11_with_87 ?_
            refine t_ialdN (e := (93 + (5 * i)) + 1) hE y_A_170 dX11_with_88 (hL 170 (by decide)) (by omega) (by decide) ?_
            refine r_top (y := (D 170).1 ((93 + (5 * i)) + 1)) rfl ?_
            refine r_iload_n hE dX11_with_89 rfl ?_
            refine r_ishr hE dX11_with_90 ?_
            refine r_iconst (v := 1) hE dX11_with_91 (by decide) ?_
            refine r_iand hE dX11_with_92 ?_
            refine r_iconst (v := 1) hE dX11_with_93 (by decide) ?_
            refine r_icmp_ne (tgt := 101) hE dX11_with_94 (by decide) (fun c94 => ?_) (fun c94 => ?_)
            · refine r_iconst (v := 0) hE dX11_with_101 (by decide) ?_
              refine r_istore (ls2 := [(0, .ref 169), (1, .int (nI p)), (2, .int (nI c)), (3, .int (nI b9)), (4, .int (nI w9)), (5, .int (nI s9)), (6, .int (nI i)), (7, .int 0)]) hE dX11_with_102 (by decide) rfl ?_
              refine r_aload_n hE dX11_with_104 rfl ?_
              refine t_getr hE f_X11_13 y_R_169_1 dX11_with_105 (hL 169 (by decide)) ?_
              refine r_bipush (v := 93) hE dX11_with_108 (by decide) ?_
              refine r_iconst (v := 5) hE dX11_with_110 (by decide) ?_
              refine r_iload hE dX11_with_111 rfl ?_
              refine r_imulN (a := 5) (b := i) hE dX11_with_113 ?_
              refine r_iaddN (a := 93) (b := 5 * i) hE dX11_with_114 ?_
              refine r_iconst (v := 2) hE dX11_with_115 (by decide) ?_
              refine r_iaddN (a := 93 + (5 * i)) (b := 2) hE dX11_with_116 ?_
              refine t_ialdN (e := (93 + (5 * i)) + 2) hE y_A_170 dX11_with_117 (hL 170 (by decide)) (by omega) (by decide) ?_
              refine r_top (y := (D 170).1 ((93 + (5 * i)) + 2)) rfl ?_
              refine r_if_eq (tgt := 125) hE dX11_with_118 (by decide) (fun c118 => ?_) (fun c118 => ?_)
              · refine r_iconst (v := 0) hE dX11_with_125 (by decide) ?_
                refine r_istore (ls2 := [(0, .ref 169), (1, .int (nI p)), (2, .int (nI c)), (3, .int (nI b9)), (4, .int (nI w9)), (5, .int (nI s9)), (6, .int (nI i)), (7, .int 0), (8, .int 0)]) hE dX11_with_126 (by decide) rfl ?_
                refine r_iload_n hE dX11_with_128 rfl ?_
                refine r_iload hE dX11_with_129 rfl ?_
                refine r_if_eq (tgt := 143) hE dX11_with_131 (by decide) (fun _ => ?_) (fun c131 => by first | exact absurd c131 (by decide) | exact absurd (by decide) c131)
                refine r_iconst (v := 0) hE dX11_with_143 (by decide) ?_
                refine r_iaddN (a := b9) (b := 0) hE dX11_with_144 ?_
                refine r_istore_n (ls2 := [(0, .ref 169), (1, .int (nI p)), (2, .int (nI c)), (3, .int (nI (b9 + 0))), (4, .int (nI w9)), (5, .int (nI s9)), (6, .int (nI i)), (7, .int 0), (8, .int 0)]) hE dX11_with_145 (by decide) rfl ?_
                refine r_iload hE dX11_with_146 rfl ?_
                refine r_iload hE dX11_with_148 rfl ?_
                refine r_if_eq (tgt := 157) hE dX11_with_150 (by decide) (fun _ => ?_) (fun c150 => by first | exact absurd c150 (by decide) | exact absurd (by decide) c150)
                refine r_iconst (v := 0) hE dX11_with_157 (by decide) ?_
                refine r_iaddN (a := w9) (b := 0) hE dX11_with_158 ?_
                refine r_istore (ls2 := [(0, .ref 169), (1, .int (nI p)), (2, .int (nI c)), (3, .int (nI (b9 + 0))), (4, .int (nI (w9 + 0))), (5, .int (nI s9)), (6, .int (nI i)), (7, .int 0), (8, .int 0)]) hE dX11_with_159 (by decide) rfl ?_
                refine r_iload hE dX11_with_161 rfl ?_
                refine r_iload hE dX11_with_163 rfl ?_
                refine r_if_eq (tgt := 172) hE dX11_with_165 (by decide) (fun _ => ?_) (fun c165 => by first | exact absurd c165 (by decide) | exact absurd (by decide) c165)
                refine r_iconst (v := 0) hE dX11_with_172 (by decide) ?_
                refine r_iaddN (a := s9) (b := 0) hE dX11_with_173 ?_
                refine r_istore (ls2 := [(0, .ref 169), (1, .int (nI p)), (2, .int (nI c)), (3, .int (nI (b9 + 0))), (4, .int (nI (w9 + 0))), (5, .int (nI (s9 + 0))), (6, .int (nI i)), (7, .int 0), (8, .int 0)]) hE dX11_with_174 (by decide) rfl ?_
                refine r_iincN (a := i) (b := 1) (ls2 := [(0, .ref 169), (1, .int (nI p)), (2, .int (nI c)), (3, .int (nI (b9 + 0))), (4, .int (nI (w9 + 0))), (5, .int (nI (s9 + 0))), (6, .int (nI (i + 1))), (7, .int 0), (8, .int 0)]) hE dX11_with_176 rfl rfl (by decide) rfl ?_
                refine r_goto (tgt := 63) hE dX11_with_179 (by decide) ?_
                have hw9 : ¬ (fun i => decide (y_bit ((D 170).1 (93 + 5 * i + 1)) p)) i = true := fun q => c94 (of_decide_eq_true q)
                have hs9 : ¬ (fun i => decide ((D 170).1 (93 + 5 * i + 2) ≠ 0)) i = true := fun q => of_decide_eq_true q c118
                have hb9 : ¬ (fun i => (fun i => decide (y_bit ((D 170).1 (93 + 5 * i + 1)) p)) i && (fun i => decide ((D 170).1 (93 + 5 * i + 2) ≠ 0)) i) i = true := fun q => hw9 (Bool.and_eq_true_iff.mp q).1
                refine r_locs hE (ls2 := [(0, .ref 169), (1, .int (nI p)), (2, .int (nI c)), (3, .int (nI (b9 + 0))), (4, .int (nI (w9 + 0))), (5, .int (nI (s9 + 0))), (6, .int (nI (i + 1)))]) ?_ (ih (q_n (D 170).1 7 - (i + 1)) (by omega) (i + 1) _ _ _ rfl (by omega) (by rw [c_cn_n hb9, ← e1]; rfl) (by rw [c_cn_n hw9, ← e2]; rfl) (by rw [c_cn_n hs9, ← e3]; rfl))
                simp [x_lk]
              · refine r_iconst (v := 1) hE dX11_with_121 (by decide) ?_
                refine r_goto (tgt := 126) hE dX11_with_122 (by decide) ?_
                refine r_istore (ls2 := [(0, .ref 169), (1, .int (nI p)), (2, .int (nI c)), (3, .int (nI b9)), (4, .int (nI w9)), (5, .int (nI s9)), (6, .int (nI i)), (7, .int 0), (8, .int 1)]) hE dX11_with_126 (by decide) rfl ?_
                refine r_iload_n hE dX11_with_128 rfl ?_
                refine r_iload hE dX11_with_129 rfl ?_
                refine r_if_eq (tgt := 143) hE dX11_with_131 (by decide) (fun _ => ?_) (fun c131 => by first | exact absurd c131 (by decide) | exact absurd (by decide) c131)
                refine r_iconst (v := 0) hE dX11_with_143 (by decide) ?_
                refine r_iaddN (a := b9) (b := 0) hE dX11_with_144 ?_
                refine r_istore_n (ls2 := [(0, .ref 169), (1, .int (nI p)), (2, .int (nI c)), (3, .int (nI (b9 + 0))), (4, .int (nI w9)), (5, .int (nI s9)), (6, .int (nI i)), (7, .int 0), (8, .int 1)]) hE dX11_with_145 (by decide) rfl ?_
                refine r_iload hE dX11_with_146 rfl ?_
                refine r_iload hE dX11_with_148 rfl ?_
                refine r_if_eq (tgt := 157) hE dX11_with_150 (by decide) (fun _ => ?_) (fun c150 => by first | exact absurd c150 (by decide) | exact absurd (by decide) c150)
                refine r_iconst (v := 0) hE dX11_with_157 (by decide) ?_
                refine r_iaddN (a := w9) (b := 0) hE dX11_with_158 ?_
                refine r_istore (ls2 := [(0, .ref 169), (1, .int (nI p)), (2, .int (nI c)), (3, .int (nI (b9 + 0))), (4, .int (nI (w9 + 0))), (5, .int (nI s9)), (6, .int (nI i)), (7, .int 0), (8, .int 1)]) hE dX11_with_159 (by decide) rfl ?_
                refine r_iload hE dX11_with_161 rfl ?_
                refine r_iload hE dX11_with_163 rfl ?_
                refine r_if_eq (tgt := 172) hE dX11_with_165 (by decide) (fun c165 => by first | exact absurd c165 (by decide) | exact absurd (by decide) c165) (fun _ => ?_)
                refine r_iconst (v := 1) hE dX11_with_168 (by decide) ?_
                refine r_goto (tgt := 173) hE dX11_with_169 (by decide) ?_
                refine r_iaddN (a := s9) (b := 1) hE dX11_with_173 ?_
                refine r_istore (ls2 := [(0, .ref 169), (1, .int (nI p)), (2, .int (nI c)), (3, .int (nI (b9 + 0))), (4, .int (nI (w9 + 0))), (5, .int (nI (s9 + 1))), (6, .int (nI i)), (7, .int 0), (8, .int 1)]) hE dX11_with_174 (by decide) rfl ?_
                refine r_iincN (a := i) (b := 1) (ls2 := [(0, .ref 169), (1, .int (nI p)), (2, .int (nI c)), (3, .int (nI (b9 + 0))), (4, .int (nI (w9 + 0))), (5, .int (nI (s9 + 1))), (6, .int (nI (i + 1))), (7, .int 0), (8, .int 1)]) hE dX11_with_176 rfl rfl (by decide) rfl ?_
                refine r_goto (tgt := 63) hE dX11_with_179 (by decide) ?_
                have hw9 : ¬ (fun i => decide (y_bit ((D 170).1 (93 + 5 * i + 1)) p)) i = true := fun q => c94 (of_decide_eq_true q)
                have hs9 : (fun i => decide ((D 170).1 (93 + 5 * i + 2) ≠ 0)) i = true := decide_eq_true c118
                have hb9 : ¬ (fun i => (fun i => decide (y_bit ((D 170).1 (93 + 5 * i + 1)) p)) i && (fun i => decide ((D 170).1 (93 + 5 * i + 2) ≠ 0)) i) i = true := fun q => hw9 (Bool.and_eq_true_iff.mp q).1
                refine r_locs hE (ls2 := [(0, .ref 169), (1, .int (nI p)), (2, .int (nI c)), (3, .int (nI (b9 + 0))), (4, .int (nI (w9 + 0))), (5, .int (nI (s9 + 1))), (6, .int (nI (i + 1)))]) ?_ (ih (q_n (D 170).1 7 - (i + 1)) (by omega) (i + 1) _ _ _ rfl (by omega) (by rw [c_cn_n hb9, ← e1]; rfl) (by rw [c_cn_n hw9, ← e2]; rfl) (by rw [c_cn_y hs9, ← e3]))
                simp [x_lk]
            · refine r_iconst (v := 1) hE dX11_with_97 (by decide) ?_
              refine r_goto (tgt := 102) hE dX11_with_98 (by decide) ?_
              refine r_istore (ls2 := [(0, .ref 169), (1, .int (nI p)), (2, .int (nI c)), (3, .int (nI b9)), (4, .int (nI w9)), (5, .int (nI s9)), (6, .int (nI i)), (7, .int 1)]) hE dX11_with_102 (by decide) rfl ?_
              refine r_aload_n hE dX11_with_104 rfl ?_
              refine t_getr hE f_X11_13 y_R_169_1 dX11_with_105 (hL 169 (by decide)) ?_
              refine r_bipush (v := 93) hE dX11_with_108 (by decide) ?_
              refine r_iconst (v := 5) hE dX11_with_110 (by decide) ?_
              refine r_iload hE dX11_with_111 rfl ?_
              refine r_imulN (a := 5) (b := i) hE dX11_with_113 ?_
              refine r_iaddN (a := 93) (b := 5 * i) hE dX11_with_114 ?_
              refine r_iconst (v := 2) hE dX11_with_115 (by decide) ?_
              refine r_iaddN (a := 93 + (5 * i)) (b := 2) hE dX11_with_116 ?_
              refine t_ialdN (e := (93 + (5 * i)) + 2) hE y_A_170 dX11_with_117 (hL 170 (by decide)) (by omega) (by decide) ?_
              refine r_top (y := (D 170).1 ((93 + (5 * i)) + 2)) rfl ?_
              refine r_if_eq (tgt := 125) hE dX11_with_118 (by decide) (fun c118 => ?_) (fun c118 => ?_)
              · refine r_iconst (v := 0) hE dX11_with_125 (by decide) ?_
                refine r_istore (ls2 := [(0, .ref 169), (1, .int (nI p)), (2, .int (nI c)), (3, .int (nI b9)), (4, .int (nI w9)), (5, .int (nI s9)), (6, .int (nI i)), (7, .int 1), (8, .int 0)]) hE dX11_with_126 (by decide) rfl ?_
                refine r_iload_n hE dX11_with_128 rfl ?_
                refine r_iload hE dX11_with_129 rfl ?_
                refine r_if_eq (tgt := 143) hE dX11_with_131 (by decide) (fun c131 => by first | exact absurd c131 (by decide) | exact absurd (by decide) c131) (fun _ => ?_)
                refine r_iload hE dX11_with_134 rfl ?_
                refine r_if_eq (tgt := 143) hE dX11_with_136 (by decide) (fun _ => ?_) (fun c136 => by first | exact absurd c136 (by decide) | exact absurd (by decide) c136)
                refine r_iconst (v := 0) hE dX11_with_143 (by decide) ?_
                refine r_iaddN (a := b9) (b := 0) hE dX11_with_144 ?_
                refine r_istore_n (ls2 := [(0, .ref 169), (1, .int (nI p)), (2, .int (nI c)), (3, .int (nI (b9 + 0))), (4, .int (nI w9)), (5, .int (nI s9)), (6, .int (nI i)), (7, .int 1), (8, .int 0)]) hE dX11_with_145 (by decide) rfl ?_
                refine r_iload hE dX11_with_146 rfl ?_
                refine r_iload hE dX11_with_148 rfl ?_
                refine r_if_eq (tgt := 157) hE dX11_with_150 (by decide) (fun c150 => by first | exact absurd c150 (by decide) | exact absurd (by decide) c150) (fun _ => ?_)
                refine r_iconst (v := 1) hE dX11_with_153 (by decide) ?_
                refine r_goto (tgt := 158) hE dX11_with_154 (by decide) ?_
                refine r_iaddN (a := w9) (b := 1) hE dX11_with_158 ?_
                refine r_istore (ls2 := [(0, .ref 169), (1, .int (nI p)), (2, .int (nI c)), (3, .int (nI (b9 + 0))), (4, .int (nI (w9 + 1))), (5, .int (nI s9)), (6, .int (nI i)), (7, .int 1), (8, .int 0)]) hE dX11_with_159 (by decide) rfl ?_
                refine r_iload hE dX11_with_161 rfl ?_
                refine r_iload hE dX11_with_163 rfl ?_
                refine r_if_eq (tgt := 172) hE dX11_with_165 (by decide) (fun _ => ?_) (fun c165 => by first | exact absurd c165 (by decide) | exact absurd (by decide) c165)
                refine r_iconst (v := 0) hE dX11_with_172 (by decide) ?_
                refine r_iaddN (a := s9) (b := 0) hE dX11_with_173 ?_
                refine r_istore (ls2 := [(0, .ref 169), (1, .int (nI p)), (2, .int (nI c)), (3, .int (nI (b9 + 0))), (4, .int (nI (w9 + 1))), (5, .int (nI (s9 + 0))), (6, .int (nI i)), (7, .int 1), (8, .int 0)]) hE dX11_with_174 (by decide) rfl ?_
                refine r_iincN (a := i) (b := 1) (ls2 := [(0, .ref 169), (1, .int (nI p)), (2, .int (nI c)), (3, .int (nI (b9 + 0))), (4, .int (nI (w9 + 1))), (5, .int (nI (s9 + 0))), (6, .int (nI (i + 1))), (7, .int 1), (8, .int 0)]) hE dX11_with_176 rfl rfl (by decide) rfl ?_
                refine r_goto (tgt := 63) hE dX11_with_179 (by decide) ?_
                have hw9 : (fun i => decide (y_bit ((D 170).1 (93 + 5 * i + 1)) p)) i = true := decide_eq_true c94
                have hs9 : ¬ (fun i => decide ((D 170).1 (93 + 5 * i + 2) ≠ 0)) i = true := fun q => of_decide_eq_true q c118
                have hb9 : ¬ (fun i => (fun i => decide (y_bit ((D 170).1 (93 + 5 * i + 1)) p)) i && (fun i => decide ((D 170).1 (93 + 5 * i + 2) ≠ 0)) i) i = true := fun q => hs9 (Bool.and_eq_true_iff.mp q).2
                refine r_locs hE (ls2 := [(0, .ref 169), (1, .int (nI p)), (2, .int (nI c)), (3, .int (nI (b9 + 0))), (4, .int (nI (w9 + 1))), (5, .int (nI (s9 + 0))), (6, .int (nI (i + 1)))]) ?_ (ih (q_n (D 170).1 7 - (i + 1)) (by omega) (i + 1) _ _ _ rfl (by omega) (by rw [c_cn_n hb9, ← e1]; rfl) (by rw [c_cn_y hw9, ← e2]) (by rw [c_cn_n hs9, ← e3]; rfl))
                simp [x_lk]
              · refine r_iconst (v := 1) hE dX11_with_121 (by decide) ?_
                refine r_goto (tgt := 126) hE dX11_with_122 (by decide) ?_
                refine r_istore (ls2 := [(0, .ref 169), (1, .int (nI p)), (2, .int (nI c)), (3, .int (nI b9)), (4, .int (nI w9)), (5, .int (nI s9)), (6, .int (nI i)), (7, .int 1), (8, .int 1)]) hE dX11_with_126 (by decide) rfl ?_
                refine r_iload_n hE dX11_with_128 rfl ?_
                refine r_iload hE dX11_with_129 rfl ?_
                refine r_if_eq (tgt := 143) hE dX11_with_131 (by decide) (fun c131 => by first | exact absurd c131 (by decide) | exact absurd (by decide) c131) (fun _ => ?_)
                refine r_iload hE dX11_with_134 rfl ?_
                refine r_if_eq (tgt := 143) hE dX11_with_136 (by decide) (fun c136 => by first | exact absurd c136 (by decide) | exact absurd (by decide) c136) (fun _ => ?_)
                refine r_iconst (v := 1) hE dX11_with_139 (by decide) ?_
                refine r_goto (tgt := 144) hE dX11_with_140 (by decide) ?_
                refine r_iaddN (a := b9) (b := 1) hE dX11_with_144 ?_
                refine r_istore_n (ls2 := [(0, .ref 169), (1, .int (nI p)), (2, .int (nI c)), (3, .int (nI (b9 + 1))), (4, .int (nI w9)), (5, .int (nI s9)), (6, .int (nI i)), (7, .int 1), (8, .int 1)]) hE dX11_with_145 (by decide) rfl ?_
                refine r_iload hE dX11_with_146 rfl ?_
                refine r_iload hE dX11_with_148 rfl ?_
                refine r_if_eq (tgt := 157) hE dX11_with_150 (by decide) (fun c150 => by first | exact absurd c150 (by decide) | exact absurd (by decide) c150) (fun _ => ?_)
                refine r_iconst (v := 1) hE dX11_with_153 (by decide) ?_
                refine r_goto (tgt := 158) hE dX11_with_154 (by decide) ?_
                refine r_iaddN (a := w9) (b := 1) hE dX11_with_158 ?_
                refine r_istore (ls2 := [(0, .ref 169), (1, .int (nI p)), (2, .int (nI c)), (3, .int (nI (b9 + 1))), (4, .int (nI (w9 + 1))), (5, .int (nI s9)), (6, .int (nI i)), (7, .int 1), (8, .int 1)]) hE dX11_with_159 (by decide) rfl ?_
                refine r_iload hE dX11_with_161 rfl ?_
                refine r_iload hE dX11_with_163 rfl ?_
                refine r_if_eq (tgt := 172) hE dX11_with_165 (by decide) (fun c165 => by first | exact absurd c165 (by decide) | exact absurd (by decide) c165) (fun _ => ?_)
                refine r_iconst (v := 1) hE dX11_with_168 (by decide) ?_
                refine r_goto (tgt := 173) hE dX11_with_169 (by decide) ?_
                refine r_iaddN (a := s9) (b := 1) hE dX11_with_173 ?_
                refine r_istore (ls2 := [(0, .ref 169), (1, .int (nI p)), (2, .int (nI c)), (3, .int (nI (b9 + 1))), (4, .int (nI (w9 + 1))), (5, .int (nI (s9 + 1))), (6, .int (nI i)), (7, .int 1), (8, .int 1)]) hE dX11_with_174 (by decide) rfl ?_
                refine r_iincN (a := i) (b := 1) (ls2 := [(0, .ref 169), (1, .int (nI p)), (2, .int (nI c)), (3, .int (nI (b9 + 1))), (4, .int (nI (w9 + 1))), (5, .int (nI (s9 + 1))), (6, .int (nI (i + 1))), (7, .int 1), (8, .int 1)]) hE dX11_with_176 rfl rfl (by decide) rfl ?_
                refine r_goto (tgt := 63) hE dX11_with_179 (by decide) ?_
                have hw9 : (fun i => decide (y_bit ((D 170).1 (93 + 5 * i + 1)) p)) i = true := decide_eq_true c94
                have hs9 : (fun i => decide ((D 170).1 (93 + 5 * i + 2) ≠ 0)) i = true := decide_eq_true c118
                have hb9 : (fun i => (fun i => decide (y_bit ((D 170).1 (93 + 5 * i + 1)) p)) i && (fun i => decide ((D 170).1 (93 + 5 * i + 2) ≠ 0)) i) i = true := by show ((fun i => decide (y_bit ((D 170).1 (93 + 5 * i + 1)) p)) i && (fun i => decide ((D 170).1 (93 + 5 * i + 2) ≠ 0)) i) = true; rw [hw9, hs9]; rfl
                refine r_locs hE (ls2 := [(0, .ref 169), (1, .int (nI p)), (2, .int (nI c)), (3, .int (nI (b9 + 1))), (4, .int (nI (w9 + 1))), (5, .int (nI (s9 + 1))), (6, .int (nI (i + 1)))]) ?_ (ih (q_n (D 170).1 7 - (i + 1)) (by omega) (i + 1) _ _ _ rfl (by omega) (by rw [c_cn_y hb9, ← e1]) (by rw [c_cn_y hw9, ← e2]) (by rw [c_cn_y hs9, ← e3]))
                simp [x_lk]
      refine r_locs hE (ls2 := [(0, .ref 169), (1, .int (nI p)), (2, .int (nI c)), (3, .int (nI 0)), (4, .int (nI 0)), (5, .int (nI 0)), (6, .int (nI 0))]) ?_ (l1 0 0 0 0 (by omega) rfl rfl rfl)
      simp [x_lk, nI_0]
    · refine r_iconst (v := 1) hE dX11_with_38 (by decide) ?_
      refine r_goto (tgt := 43) hE dX11_with_39 (by decide) ?_
      refine r_iconst (v := 2) hE dX11_with_43 (by decide) ?_
      refine t_invv (r := (some (.int 1))) (S2 := (y_mk n L (y_si (y_si D 169 0 0) 169 0 2))) hE [.int 1, .int 2] (c_throwsT hL) v_yX11_throwsIf m_X11_85 dX11_with_44 rfl (hL 169 (by decide)) (y_l_169 ((y_si D 169 0 0) 169)) rfl (by decide) ⟨Nat.le_refl _, Nat.le_refl _⟩ (Nat.le_of_ble_eq_true rfl) ?_
      show E 0 0 47 [(0, .ref 169), (1, .int x), (2, .int y)] [.int 1] (y_mk n L (y_si (y_si D 169 0 0) 169 0 2))
      refine r_if_eq (tgt := 52) hE dX11_with_47 (by decide) (fun c47 => by first | exact absurd c47 (by decide) | exact absurd (by decide) c47) (fun _ => ?_)
      refine r_iconst (v := 0) hE dX11_with_50 (by decide) ?_
      refine r_ireturn hE dX11_with_51 rfl rfl (Nat.zero_le _) (Nat.zero_le _) ?_
      first
      | exact ⟨_, _, rfl, rfl, m_ot_0 (m_ot_0 m_ot_r), Or.inl ⟨c13, by rw [y_si_1, if_pos rfl]⟩⟩
      | exact ⟨_, _, rfl, rfl, m_ot_0 (m_ot_0 m_ot_r), Or.inr (Or.inl ⟨fun q => q c13, c35, by rw [y_si_1, if_pos rfl]⟩)⟩
  · refine r_iconst (v := 1) hE dX11_with_16 (by decide) ?_
    refine r_goto (tgt := 21) hE dX11_with_17 (by decide) ?_
    refine r_iconst (v := 1) hE dX11_with_21 (by decide) ?_
    refine t_invv (r := (some (.int 1))) (S2 := (y_mk n L (y_si (y_si D 169 0 0) 169 0 1))) hE [.int 1, .int 1] (c_throwsT hL) v_yX11_throwsIf m_X11_85 dX11_with_22 rfl (hL 169 (by decide)) (y_l_169 ((y_si D 169 0 0) 169)) rfl (by decide) ⟨Nat.le_refl _, Nat.le_refl _⟩ (Nat.le_of_ble_eq_true rfl) ?_
    show E 0 0 25 [(0, .ref 169), (1, .int x), (2, .int y)] [.int 1] (y_mk n L (y_si (y_si D 169 0 0) 169 0 1))
    refine r_if_ne (tgt := 50) hE dX11_with_25 (by decide) (fun _ => ?_) (fun c25 => by first | exact absurd c25 (by decide) | exact absurd (by decide) c25)
    refine r_iconst (v := 0) hE dX11_with_50 (by decide) ?_
    refine r_ireturn hE dX11_with_51 rfl rfl (Nat.zero_le _) (Nat.zero_le _) ?_
    first
    | exact ⟨_, _, rfl, rfl, m_ot_0 (m_ot_0 m_ot_r), Or.inl ⟨c13, by rw [y_si_1, if_pos rfl]⟩⟩
    | exact ⟨_, _, rfl, rfl, m_ot_0 (m_ot_0 m_ot_r), Or.inr (Or.inl ⟨fun q => q c13, c35, by rw [y_si_1, if_pos rfl]⟩)⟩

/-! the reference's reader: readAtom -/
theorem c_readAtomF {V : x_E} {n : Nat} {L : List Nat} {D : y_D} {e : Nat} (hV : y_V V) (hF : y_fm V) (hL : y_ok L) (hen : (D 169).1 7 = nI e) (he : e ≤ 400) {dA g : Nat} {C A : l_F} (h8 : 5 ≤ dA) (hg6 : g ≤ 6) (hC : g ≠ 6 → l_C V n L D e yX11_readCond cX11_readCond 1 (dA + 2) C (g + 1)) (hA : g ≠ 6 → l_C V n L D e yX11_readAtom cX11_readAtom 3 dA A (g + 1)) : l_C V n L D e yX11_readAtom cX11_readAtom 3 (dA + 3) (l_atomF (D 172).1 e C A) g := by
  intro p b s W hp hs
  refine y_ri (by decide) (Nat.le_of_ble_eq_true rfl) (fun E hE => ?_)
  change E 0 0 0 [(0, .ref 169)] [] (y_mk n L (m_P D p b g s W))
  have f1 := l_sg_b (T := (D 172).1) (c := 40) hp
  have fa := l_f (T := (D 172).1) hp
  have fb := l_pa_b (T := (D 172).1) (i := 16) f1.2.1
  have fc := l_f (T := (D 172).1) f1.2.1
  have fd := l_f (T := (D 172).1) fb.2.1
  have fe := l_f (T := (D 172).1) fd.2.2.1
  refine r_aload_n hE dX11_readAtom_0 rfl ?_
  refine r_bipush (v := 40) hE dX11_readAtom_1 (by decide) ?_
  refine t_invv (r := (some (.int (y_b (l_is (D 172).1 e 40 p))))) (S2 := (y_mk n L (m_P D (l_sg (D 172).1 e 40 p) (l_bl (D 172).1 e p) g s W))) hE [.int 40] (c_sign hL hen he (by omega)) v_yX11_sign m_X11_163 dX11_readAtom_3 rfl (hL 169 (by decide)) (y_l_169 ((m_P D p b g s W) 169)) rfl (by omega) ⟨Nat.le_refl _, Nat.le_refl _⟩ (Nat.le_of_ble_eq_true rfl) ?_
  show E 0 0 6 [(0, .ref 169)] [.int (y_b (l_is (D 172).1 e 40 p))] (y_mk n L (m_P D (l_sg (D 172).1 e 40 p) (l_bl (D 172).1 e p) g s W))
  refine r_ifb_eq (tgt := 56) hE dX11_readAtom_6 (by decide) (fun c6 => ?_) (fun c6 => ?_)
  · refine r_aload_n hE dX11_readAtom_56 rfl ?_
    refine r_ldcS (h := 16) hE (by decide) (sr_184 hV) dX11_readAtom_57 ?_
    refine t_invv (r := (some (.int (y_b (l_w (D 172).1 (l_bl (D 172).1 e (l_sg (D 172).1 e 40 p)) (l_le (D 172).1 e (l_sg (D 172).1 e 40 p)) 16))))) (S2 := (y_mk n L (m_P D (l_pa (D 172).1 e 16 (l_sg (D 172).1 e 40 p)) (l_bl (D 172).1 e (l_sg (D 172).1 e 40 p)) g s W))) hE [.ref 16] (c_passes (i := 16) hV hF (by decide) hL hen he (by omega)) v_yX11_passes m_X11_186 dX11_readAtom_59 rfl (hL 169 (by decide)) (y_l_169 ((m_P D (l_sg (D 172).1 e 40 p) (l_bl (D 172).1 e p) g s W) 169)) rfl (by omega) ⟨Nat.le_refl _, Nat.le_refl _⟩ (Nat.le_of_ble_eq_true rfl) ?_
    show E 0 0 62 [(0, .ref 169)] [.int (y_b (l_w (D 172).1 (l_bl (D 172).1 e (l_sg (D 172).1 e 40 p)) (l_le (D 172).1 e (l_sg (D 172).1 e 40 p)) 16))] (y_mk n L (m_P D (l_pa (D 172).1 e 16 (l_sg (D 172).1 e 40 p)) (l_bl (D 172).1 e (l_sg (D 172).1 e 40 p)) g s W))
    refine r_ifb_eq (tgt := 114) hE dX11_readAtom_62 (by decide) (fun c62 => ?_) (fun c62 => ?_)
    · refine r_aload_n hE dX11_readAtom_114 rfl ?_
      refine t_invv (r := none) (S2 := (y_mk n L (m_P D (l_le (D 172).1 e (l_pa (D 172).1 e 16 (l_sg (D 172).1 e 40 p))) (l_bl (D 172).1 e (l_pa (D 172).1 e 16 (l_sg (D 172).1 e 40 p))) g s W))) hE [] (c_letters hL hen he (by omega)) v_yX11_letters m_X11_125 dX11_readAtom_115 rfl (hL 169 (by decide)) (y_l_169 ((m_P D (l_pa (D 172).1 e 16 (l_sg (D 172).1 e 40 p)) (l_bl (D 172).1 e (l_sg (D 172).1 e 40 p)) g s W) 169)) rfl (by omega) ⟨Nat.le_refl _, Nat.le_refl _⟩ (Nat.le_of_ble_eq_true rfl) ?_
      show E 0 0 118 [(0, .ref 169)] [] (y_mk n L (m_P D (l_le (D 172).1 e (l_pa (D 172).1 e 16 (l_sg (D 172).1 e 40 p))) (l_bl (D 172).1 e (l_pa (D 172).1 e 16 (l_sg (D 172).1 e 40 p))) g s W))
      refine r_aload_n hE dX11_readAtom_118 rfl ?_
      refine t_invv (r := (some (.int (l_tag (D 172).1 (l_bl (D 172).1 e (l_pa (D 172).1 e 16 (l_sg (D 172).1 e 40 p))) (l_le (D 172).1 e (l_pa (D 172).1 e 16 (l_sg (D 172).1 e 40 p))))))) (S2 := (y_mk n L (m_P D (l_le (D 172).1 e (l_pa (D 172).1 e 16 (l_sg (D 172).1 e 40 p))) (l_bl (D 172).1 e (l_pa (D 172).1 e 16 (l_sg (D 172).1 e 40 p))) g s W))) hE [] (c_tagAt hV hF hL hen he (by omega) (by omega)) v_yX11_tagAt m_X11_192 dX11_readAtom_119 rfl (hL 169 (by decide)) (y_l_169 ((m_P D (l_le (D 172).1 e (l_pa (D 172).1 e 16 (l_sg (D 172).1 e 40 p))) (l_bl (D 172).1 e (l_pa (D 172).1 e 16 (l_sg (D 172).1 e 40 p))) g s W) 169)) rfl (by omega) ⟨Nat.le_refl _, Nat.le_refl _⟩ (Nat.le_of_ble_eq_true rfl) ?_
      show E 0 0 122 [(0, .ref 169)] [.int (l_tag (D 172).1 (l_bl (D 172).1 e (l_pa (D 172).1 e 16 (l_sg (D 172).1 e 40 p))) (l_le (D 172).1 e (l_pa (D 172).1 e 16 (l_sg (D 172).1 e 40 p))))] (y_mk n L (m_P D (l_le (D 172).1 e (l_pa (D 172).1 e 16 (l_sg (D 172).1 e 40 p))) (l_bl (D 172).1 e (l_pa (D 172).1 e 16 (l_sg (D 172).1 e 40 p))) g s W))
      rcases l_tag_c (T := (D 172).1) (b := l_bl (D 172).1 e (l_pa (D 172).1 e 16 (l_sg (D 172).1 e 40 p))) (p := l_le (D 172).1 e (l_pa (D 172).1 e 16 (l_sg (D 172).1 e 40 p))) with h9 | h9 | h9 | h9 | h9 | h9 | h9
      · have h8 := h9.2.1
        have h7 : (y_bt 17).length = 4 := by decide
        refine r_top (y := 4) h9.1 ?_
        refine r_istore_n (ls2 := [(0, .ref 169), (1, .int 4)]) hE dX11_readAtom_122 (by decide) rfl ?_
        refine r_iload_n hE dX11_readAtom_123 rfl ?_
        refine r_if_lt (tgt := 133) hE dX11_readAtom_124 (by decide) (fun c124 => by first | exact absurd c124 (by decide) | exact absurd (by decide) c124) (fun _ => ?_)
        refine r_aload_n hE dX11_readAtom_127 rfl ?_
        refine r_iload_n hE dX11_readAtom_128 rfl ?_
        refine t_invv (r := (some (.int 1))) (S2 := (y_mk n L (m_P D (l_le (D 172).1 e (l_pa (D 172).1 e 16 (l_sg (D 172).1 e 40 p))) (l_bl (D 172).1 e (l_pa (D 172).1 e 16 (l_sg (D 172).1 e 40 p))) g (s + 1) (l_em W s 4 0)))) hE [.int 4] (c_emitsOf_4 hL (by omega)) v_yX11_emitsOf m_X11_155 dX11_readAtom_129 rfl (hL 169 (by decide)) (y_l_169 ((m_P D (l_le (D 172).1 e (l_pa (D 172).1 e 16 (l_sg (D 172).1 e 40 p))) (l_bl (D 172).1 e (l_pa (D 172).1 e 16 (l_sg (D 172).1 e 40 p))) g s W) 169)) rfl (by omega) ⟨Nat.le_refl _, Nat.le_refl _⟩ (Nat.le_of_ble_eq_true rfl) ?_
        show E 0 0 132 [(0, .ref 169), (1, .int 4)] [.int 1] (y_mk n L (m_P D (l_le (D 172).1 e (l_pa (D 172).1 e 16 (l_sg (D 172).1 e 40 p))) (l_bl (D 172).1 e (l_pa (D 172).1 e 16 (l_sg (D 172).1 e 40 p))) g (s + 1) (l_em W s 4 0)))
        refine r_ireturn hE dX11_readAtom_132 rfl (by rfl) (Nat.zero_le _) (Nat.zero_le _) ?_
        refine ⟨_, _, rfl, rfl, true, _, _, _, _, _, ?_, by decide, rfl, ?_, fun _ => rfl⟩
        · unfold l_atomF
          rw [if_neg c6, if_neg c62, l_tagF]
          rw [if_neg (by rw [h9.1]; decide), if_pos (by rw [h9.1]; decide), h9.1]
        · unfold l_bd
          omega
      · have h8 := h9.2.1
        have h7 : (y_bt 18).length = 6 := by decide
        refine r_top (y := 5) h9.1 ?_
        refine r_istore_n (ls2 := [(0, .ref 169), (1, .int 5)]) hE dX11_readAtom_122 (by decide) rfl ?_
        refine r_iload_n hE dX11_readAtom_123 rfl ?_
        refine r_if_lt (tgt := 133) hE dX11_readAtom_124 (by decide) (fun c124 => by first | exact absurd c124 (by decide) | exact absurd (by decide) c124) (fun _ => ?_)
        refine r_aload_n hE dX11_readAtom_127 rfl ?_
        refine r_iload_n hE dX11_readAtom_128 rfl ?_
        refine t_invv (r := (some (.int 1))) (S2 := (y_mk n L (m_P D (l_le (D 172).1 e (l_pa (D 172).1 e 16 (l_sg (D 172).1 e 40 p))) (l_bl (D 172).1 e (l_pa (D 172).1 e 16 (l_sg (D 172).1 e 40 p))) g (s + 1) (l_em W s 5 0)))) hE [.int 5] (c_emitsOf_5 hL (by omega)) v_yX11_emitsOf m_X11_155 dX11_readAtom_129 rfl (hL 169 (by decide)) (y_l_169 ((m_P D (l_le (D 172).1 e (l_pa (D 172).1 e 16 (l_sg (D 172).1 e 40 p))) (l_bl (D 172).1 e (l_pa (D 172).1 e 16 (l_sg (D 172).1 e 40 p))) g s W) 169)) rfl (by omega) ⟨Nat.le_refl _, Nat.le_refl _⟩ (Nat.le_of_ble_eq_true rfl) ?_
        show E 0 0 132 [(0, .ref 169), (1, .int 5)] [.int 1] (y_mk n L (m_P D (l_le (D 172).1 e (l_pa (D 172).1 e 16 (l_sg (D 172).1 e 40 p))) (l_bl (D 172).1 e (l_pa (D 172).1 e 16 (l_sg (D 172).1 e 40 p))) g (s + 1) (l_em W s 5 0)))
        refine r_ireturn hE dX11_readAtom_132 rfl (by rfl) (Nat.zero_le _) (Nat.zero_le _) ?_
        refine ⟨_, _, rfl, rfl, true, _, _, _, _, _, ?_, by decide, rfl, ?_, fun _ => rfl⟩
        · unfold l_atomF
          rw [if_neg c6, if_neg c62, l_tagF]
          rw [if_neg (by rw [h9.1]; decide), if_pos (by rw [h9.1]; decide), h9.1]
        · unfold l_bd
          omega
      · have h8 := h9.2.1
        have h7 : (y_bt 19).length = 5 := by decide
        refine r_top (y := 6) h9.1 ?_
        refine r_istore_n (ls2 := [(0, .ref 169), (1, .int 6)]) hE dX11_readAtom_122 (by decide) rfl ?_
        refine r_iload_n hE dX11_readAtom_123 rfl ?_
        refine r_if_lt (tgt := 133) hE dX11_readAtom_124 (by decide) (fun c124 => by first | exact absurd c124 (by decide) | exact absurd (by decide) c124) (fun _ => ?_)
        refine r_aload_n hE dX11_readAtom_127 rfl ?_
        refine r_iload_n hE dX11_readAtom_128 rfl ?_
        refine t_invv (r := (some (.int (y_b (¬ (l_nv (D 172).1 e 0 3 (l_le (D 172).1 e (l_pa (D 172).1 e 16 (l_sg (D 172).1 e 40 p)))) < 0))))) (S2 := (y_mk n L (m_P D (l_di (D 172).1 e (l_le (D 172).1 e (l_pa (D 172).1 e 16 (l_sg (D 172).1 e 40 p)))) (l_bl (D 172).1 e (l_le (D 172).1 e (l_pa (D 172).1 e 16 (l_sg (D 172).1 e 40 p)))) g (s + 1) (l_em W s 6 (l_nv (D 172).1 e 0 3 (l_le (D 172).1 e (l_pa (D 172).1 e 16 (l_sg (D 172).1 e 40 p)))))))) hE [.int 6] (c_emitsOf_6 hL hen he (by omega) (by omega)) v_yX11_emitsOf m_X11_155 dX11_readAtom_129 rfl (hL 169 (by decide)) (y_l_169 ((m_P D (l_le (D 172).1 e (l_pa (D 172).1 e 16 (l_sg (D 172).1 e 40 p))) (l_bl (D 172).1 e (l_pa (D 172).1 e 16 (l_sg (D 172).1 e 40 p))) g s W) 169)) rfl (by omega) ⟨Nat.le_refl _, Nat.le_refl _⟩ (Nat.le_of_ble_eq_true rfl) ?_
        show E 0 0 132 [(0, .ref 169), (1, .int 6)] [.int (y_b (¬ (l_nv (D 172).1 e 0 3 (l_le (D 172).1 e (l_pa (D 172).1 e 16 (l_sg (D 172).1 e 40 p)))) < 0))] (y_mk n L (m_P D (l_di (D 172).1 e (l_le (D 172).1 e (l_pa (D 172).1 e 16 (l_sg (D 172).1 e 40 p)))) (l_bl (D 172).1 e (l_le (D 172).1 e (l_pa (D 172).1 e 16 (l_sg (D 172).1 e 40 p)))) g (s + 1) (l_em W s 6 (l_nv (D 172).1 e 0 3 (l_le (D 172).1 e (l_pa (D 172).1 e 16 (l_sg (D 172).1 e 40 p)))))))
        refine r_ireturn hE dX11_readAtom_132 rfl (by exact y_nb _) (Nat.zero_le _) (Nat.zero_le _) ?_
        refine ⟨_, _, rfl, rfl, _, _, _, _, _, _, ?_, y_b_dec, rfl, ?_, fun _ => rfl⟩
        · unfold l_atomF
          rw [if_neg c6, if_neg c62, l_tagF]
          rw [if_neg (by rw [h9.1]; decide), if_neg (by rw [h9.1]; decide), h9.1]
        · unfold l_bd
          omega
      · have h8 := h9.2.1
        have h7 : (y_bt 20).length = 4 := by decide
        refine r_top (y := 7) h9.1 ?_
        refine r_istore_n (ls2 := [(0, .ref 169), (1, .int 7)]) hE dX11_readAtom_122 (by decide) rfl ?_
        refine r_iload_n hE dX11_readAtom_123 rfl ?_
        refine r_if_lt (tgt := 133) hE dX11_readAtom_124 (by decide) (fun c124 => by first | exact absurd c124 (by decide) | exact absurd (by decide) c124) (fun _ => ?_)
        refine r_aload_n hE dX11_readAtom_127 rfl ?_
        refine r_iload_n hE dX11_readAtom_128 rfl ?_
        refine t_invv (r := (some (.int (y_b (¬ (l_nv (D 172).1 e 0 3 (l_le (D 172).1 e (l_pa (D 172).1 e 16 (l_sg (D 172).1 e 40 p)))) < 0))))) (S2 := (y_mk n L (m_P D (l_di (D 172).1 e (l_le (D 172).1 e (l_pa (D 172).1 e 16 (l_sg (D 172).1 e 40 p)))) (l_bl (D 172).1 e (l_le (D 172).1 e (l_pa (D 172).1 e 16 (l_sg (D 172).1 e 40 p)))) g (s + 1) (l_em W s 7 (l_nv (D 172).1 e 0 3 (l_le (D 172).1 e (l_pa (D 172).1 e 16 (l_sg (D 172).1 e 40 p)))))))) hE [.int 7] (c_emitsOf_7 hL hen he (by omega) (by omega)) v_yX11_emitsOf m_X11_155 dX11_readAtom_129 rfl (hL 169 (by decide)) (y_l_169 ((m_P D (l_le (D 172).1 e (l_pa (D 172).1 e 16 (l_sg (D 172).1 e 40 p))) (l_bl (D 172).1 e (l_pa (D 172).1 e 16 (l_sg (D 172).1 e 40 p))) g s W) 169)) rfl (by omega) ⟨Nat.le_refl _, Nat.le_refl _⟩ (Nat.le_of_ble_eq_true rfl) ?_
        show E 0 0 132 [(0, .ref 169), (1, .int 7)] [.int (y_b (¬ (l_nv (D 172).1 e 0 3 (l_le (D 172).1 e (l_pa (D 172).1 e 16 (l_sg (D 172).1 e 40 p)))) < 0))] (y_mk n L (m_P D (l_di (D 172).1 e (l_le (D 172).1 e (l_pa (D 172).1 e 16 (l_sg (D 172).1 e 40 p)))) (l_bl (D 172).1 e (l_le (D 172).1 e (l_pa (D 172).1 e 16 (l_sg (D 172).1 e 40 p)))) g (s + 1) (l_em W s 7 (l_nv (D 172).1 e 0 3 (l_le (D 172).1 e (l_pa (D 172).1 e 16 (l_sg (D 172).1 e 40 p)))))))
        refine r_ireturn hE dX11_readAtom_132 rfl (by exact y_nb _) (Nat.zero_le _) (Nat.zero_le _) ?_
        refine ⟨_, _, rfl, rfl, _, _, _, _, _, _, ?_, y_b_dec, rfl, ?_, fun _ => rfl⟩
        · unfold l_atomF
          rw [if_neg c6, if_neg c62, l_tagF]
          rw [if_neg (by rw [h9.1]; decide), if_neg (by rw [h9.1]; decide), h9.1]
        · unfold l_bd
          omega
      · have h8 := h9.2.1
        have h7 : (y_bt 21).length = 4 := by decide
        refine r_top (y := 8) h9.1 ?_
        refine r_istore_n (ls2 := [(0, .ref 169), (1, .int 8)]) hE dX11_readAtom_122 (by decide) rfl ?_
        refine r_iload_n hE dX11_readAtom_123 rfl ?_
        refine r_if_lt (tgt := 133) hE dX11_readAtom_124 (by decide) (fun c124 => by first | exact absurd c124 (by decide) | exact absurd (by decide) c124) (fun _ => ?_)
        refine r_aload_n hE dX11_readAtom_127 rfl ?_
        refine r_iload_n hE dX11_readAtom_128 rfl ?_
        refine t_invv (r := (some (.int (y_b (¬ (l_nv (D 172).1 e 0 3 (l_le (D 172).1 e (l_pa (D 172).1 e 16 (l_sg (D 172).1 e 40 p)))) < 0))))) (S2 := (y_mk n L (m_P D (l_di (D 172).1 e (l_le (D 172).1 e (l_pa (D 172).1 e 16 (l_sg (D 172).1 e 40 p)))) (l_bl (D 172).1 e (l_le (D 172).1 e (l_pa (D 172).1 e 16 (l_sg (D 172).1 e 40 p)))) g (s + 1) (l_em W s 8 (l_nv (D 172).1 e 0 3 (l_le (D 172).1 e (l_pa (D 172).1 e 16 (l_sg (D 172).1 e 40 p)))))))) hE [.int 8] (c_emitsOf_8 hL hen he (by omega) (by omega)) v_yX11_emitsOf m_X11_155 dX11_readAtom_129 rfl (hL 169 (by decide)) (y_l_169 ((m_P D (l_le (D 172).1 e (l_pa (D 172).1 e 16 (l_sg (D 172).1 e 40 p))) (l_bl (D 172).1 e (l_pa (D 172).1 e 16 (l_sg (D 172).1 e 40 p))) g s W) 169)) rfl (by omega) ⟨Nat.le_refl _, Nat.le_refl _⟩ (Nat.le_of_ble_eq_true rfl) ?_
        show E 0 0 132 [(0, .ref 169), (1, .int 8)] [.int (y_b (¬ (l_nv (D 172).1 e 0 3 (l_le (D 172).1 e (l_pa (D 172).1 e 16 (l_sg (D 172).1 e 40 p)))) < 0))] (y_mk n L (m_P D (l_di (D 172).1 e (l_le (D 172).1 e (l_pa (D 172).1 e 16 (l_sg (D 172).1 e 40 p)))) (l_bl (D 172).1 e (l_le (D 172).1 e (l_pa (D 172).1 e 16 (l_sg (D 172).1 e 40 p)))) g (s + 1) (l_em W s 8 (l_nv (D 172).1 e 0 3 (l_le (D 172).1 e (l_pa (D 172).1 e 16 (l_sg (D 172).1 e 40 p)))))))
        refine r_ireturn hE dX11_readAtom_132 rfl (by exact y_nb _) (Nat.zero_le _) (Nat.zero_le _) ?_
        refine ⟨_, _, rfl, rfl, _, _, _, _, _, _, ?_, y_b_dec, rfl, ?_, fun _ => rfl⟩
        · unfold l_atomF
          rw [if_neg c6, if_neg c62, l_tagF]
          rw [if_neg (by rw [h9.1]; decide), if_neg (by rw [h9.1]; decide), h9.1]
        · unfold l_bd
          omega
      · have h8 := h9.2.1
        have h7 : (y_bt 22).length = 5 := by decide
        refine r_top (y := 9) h9.1 ?_
        refine r_istore_n (ls2 := [(0, .ref 169), (1, .int 9)]) hE dX11_readAtom_122 (by decide) rfl ?_
        refine r_iload_n hE dX11_readAtom_123 rfl ?_
        refine r_if_lt (tgt := 133) hE dX11_readAtom_124 (by decide) (fun c124 => by first | exact absurd c124 (by decide) | exact absurd (by decide) c124) (fun _ => ?_)
        refine r_aload_n hE dX11_readAtom_127 rfl ?_
        refine r_iload_n hE dX11_readAtom_128 rfl ?_
        refine t_invv (r := (some (.int (y_b (¬ (l_nv (D 172).1 e 0 3 (l_le (D 172).1 e (l_pa (D 172).1 e 16 (l_sg (D 172).1 e 40 p)))) < 0))))) (S2 := (y_mk n L (m_P D (l_di (D 172).1 e (l_le (D 172).1 e (l_pa (D 172).1 e 16 (l_sg (D 172).1 e 40 p)))) (l_bl (D 172).1 e (l_le (D 172).1 e (l_pa (D 172).1 e 16 (l_sg (D 172).1 e 40 p)))) g (s + 1) (l_em W s 9 (l_nv (D 172).1 e 0 3 (l_le (D 172).1 e (l_pa (D 172).1 e 16 (l_sg (D 172).1 e 40 p)))))))) hE [.int 9] (c_emitsOf_9 hL hen he (by omega) (by omega)) v_yX11_emitsOf m_X11_155 dX11_readAtom_129 rfl (hL 169 (by decide)) (y_l_169 ((m_P D (l_le (D 172).1 e (l_pa (D 172).1 e 16 (l_sg (D 172).1 e 40 p))) (l_bl (D 172).1 e (l_pa (D 172).1 e 16 (l_sg (D 172).1 e 40 p))) g s W) 169)) rfl (by omega) ⟨Nat.le_refl _, Nat.le_refl _⟩ (Nat.le_of_ble_eq_true rfl) ?_
        show E 0 0 132 [(0, .ref 169), (1, .int 9)] [.int (y_b (¬ (l_nv (D 172).1 e 0 3 (l_le (D 172).1 e (l_pa (D 172).1 e 16 (l_sg (D 172).1 e 40 p)))) < 0))] (y_mk n L (m_P D (l_di (D 172).1 e (l_le (D 172).1 e (l_pa (D 172).1 e 16 (l_sg (D 172).1 e 40 p)))) (l_bl (D 172).1 e (l_le (D 172).1 e (l_pa (D 172).1 e 16 (l_sg (D 172).1 e 40 p)))) g (s + 1) (l_em W s 9 (l_nv (D 172).1 e 0 3 (l_le (D 172).1 e (l_pa (D 172).1 e 16 (l_sg (D 172).1 e 40 p)))))))
        refine r_ireturn hE dX11_readAtom_132 rfl (by exact y_nb _) (Nat.zero_le _) (Nat.zero_le _) ?_
        refine ⟨_, _, rfl, rfl, _, _, _, _, _, _, ?_, y_b_dec, rfl, ?_, fun _ => rfl⟩
        · unfold l_atomF
          rw [if_neg c6, if_neg c62, l_tagF]
          rw [if_neg (by rw [h9.1]; decide), if_neg (by rw [h9.1]; decide), h9.1]
        · unfold l_bd
          omega
      · refine r_top (y := (-1)) h9 ?_
        refine r_istore_n (ls2 := [(0, .ref 169), (1, .int (-1))]) hE dX11_readAtom_122 (by decide) rfl ?_
        refine r_iload_n hE dX11_readAtom_123 rfl ?_
        refine r_if_lt (tgt := 133) hE dX11_readAtom_124 (by decide) (fun _ => ?_) (fun c124 => by first | exact absurd c124 (by decide) | exact absurd (by decide) c124)
        refine r_aload_n hE dX11_readAtom_133 rfl ?_
        refine r_aload_n hE dX11_readAtom_134 rfl ?_
        refine t_geti hE f_X11_109 y_I_169_8 dX11_readAtom_135 (hL 169 (by decide)) ?_
        refine r_top (y := (nI (l_bl (D 172).1 e (l_pa (D 172).1 e 16 (l_sg (D 172).1 e 40 p))))) rfl ?_
        refine t_puti hE f_X11_99 y_I_169_6 dX11_readAtom_138 (hL 169 (by decide)) rfl rfl ?_
        rw [m_P_6]
        refine r_aload_n hE dX11_readAtom_141 rfl ?_
        refine t_invvRi hE [] (c_readSum hV hF hL hen he (by omega) (by omega)) v_yX11_readSum m_X11_195 dX11_readAtom_142 rfl (hL 169 (by decide)) (y_l_169 ((m_P D (l_bl (D 172).1 e (l_pa (D 172).1 e 16 (l_sg (D 172).1 e 40 p))) (l_bl (D 172).1 e (l_pa (D 172).1 e 16 (l_sg (D 172).1 e 40 p))) g s W) 169)) rfl (by omega) ⟨Nat.le_refl _, Nat.le_refl _⟩ (Nat.le_of_ble_eq_true rfl) (fun r61 E61 q61 => ?_)
        obtain ⟨ok61, p61, b61, g61, s61, W61, hf61, rfl, rfl, hb61, hg61⟩ := q61
        have hz61 := hb61.all
        show E 0 0 145 [(0, .ref 169), (1, .int (-1))] [.int (y_b (ok61 = true))] (y_mk n L (m_P D p61 b61 g61 s61 W61))
        refine r_ifb_ne (tgt := 150) hE dX11_readAtom_145 (by decide) (fun c145 => ?_) (fun c145 => ?_)
        · have hk61 : ok61 = true := c145
          subst hk61
          have hh61 := hg61 rfl
          have f7 := l_sg_b (T := (D 172).1) (c := 60) hz61.2.1
          have f8 := l_sg_b (T := (D 172).1) (c := 62) f7.2.1
          have f9 := l_f (T := (D 172).1) hz61.2.1
          refine r_aload_n hE dX11_readAtom_150 rfl ?_
          refine r_bipush (v := 60) hE dX11_readAtom_151 (by decide) ?_
          refine t_invv (r := (some (.int (y_b (l_is (D 172).1 e 60 p61))))) (S2 := (y_mk n L (m_P D (l_sg (D 172).1 e 60 p61) (l_bl (D 172).1 e p61) g61 s61 W61))) hE [.int 60] (c_sign hL hen he (by omega)) v_yX11_sign m_X11_163 dX11_readAtom_153 rfl (hL 169 (by decide)) (y_l_169 ((m_P D p61 b61 g61 s61 W61) 169)) rfl (by omega) ⟨Nat.le_refl _, Nat.le_refl _⟩ (Nat.le_of_ble_eq_true rfl) ?_
          show E 0 0 156 [(0, .ref 169), (1, .int (-1))] [.int (y_b (l_is (D 172).1 e 60 p61))] (y_mk n L (m_P D (l_sg (D 172).1 e 60 p61) (l_bl (D 172).1 e p61) g61 s61 W61))
          refine r_istore_n (ls2 := [(0, .ref 169), (1, .int (-1)), (2, .int (y_b (l_is (D 172).1 e 60 p61)))]) hE dX11_readAtom_156 (by decide) rfl ?_
          refine r_iload_n hE dX11_readAtom_157 rfl ?_
          refine r_ifb_ne (tgt := 170) hE dX11_readAtom_158 (by decide) (fun c158 => ?_) (fun c158 => ?_)
          · have f10 := f7.2.2 c158
            refine r_aload_n hE dX11_readAtom_170 rfl ?_
            refine t_invvRi hE [] (c_readSum hV hF hL hen he (by omega) (by omega)) v_yX11_readSum m_X11_195 dX11_readAtom_171 rfl (hL 169 (by decide)) (y_l_169 ((m_P D (l_sg (D 172).1 e 60 p61) (l_bl (D 172).1 e p61) g61 s61 W61) 169)) rfl (by omega) ⟨Nat.le_refl _, Nat.le_refl _⟩ (Nat.le_of_ble_eq_true rfl) (fun r62 E62 q62 => ?_)
            obtain ⟨ok62, p62, b62, g62, s62, W62, hf62, rfl, rfl, hb62, hg62⟩ := q62
            have hz62 := hb62.all
            show E 0 0 174 [(0, .ref 169), (1, .int (-1)), (2, .int (y_b (l_is (D 172).1 e 60 p61)))] [.int (y_b (ok62 = true))] (y_mk n L (m_P D p62 b62 g62 s62 W62))
            refine r_ifb_ne (tgt := 179) hE dX11_readAtom_174 (by decide) (fun c174 => ?_) (fun c174 => ?_)
            · have hk62 : ok62 = true := c174
              subst hk62
              have hh62 := hg62 rfl
              refine r_aload_n hE dX11_readAtom_179 rfl ?_
              refine r_iload_n hE dX11_readAtom_180 rfl ?_
              refine r_ifb_eq (tgt := 189) hE dX11_readAtom_181 (by decide) (fun c181 => ?_) (fun c181 => ?_)
              · refine r_bipush (v := 13) hE dX11_readAtom_189 (by decide) ?_
                refine r_iconst (v := 0) hE dX11_readAtom_191 (by decide) ?_
                refine t_invv (r := none) (S2 := (y_mk n L (m_P D p62 b62 g62 (s62 + 1) (l_em W62 s62 13 0)))) hE [.int 13, .int 0] (c_emits hL (by omega)) v_yX11_emits m_X11_143 dX11_readAtom_192 rfl (hL 169 (by decide)) (y_l_169 ((m_P D p62 b62 g62 s62 W62) 169)) rfl (by omega) ⟨Nat.le_refl _, Nat.le_refl _⟩ (Nat.le_of_ble_eq_true rfl) ?_
                show E 0 0 195 [(0, .ref 169), (1, .int (-1)), (2, .int (y_b (l_is (D 172).1 e 60 p61)))] [] (y_mk n L (m_P D p62 b62 g62 (s62 + 1) (l_em W62 s62 13 0)))
                refine r_iconst (v := 1) hE dX11_readAtom_195 (by decide) ?_
                refine r_ireturn hE dX11_readAtom_196 rfl (by first | rfl | exact y_nb _) (Nat.zero_le _) (Nat.zero_le _) ?_
                exact absurd c158 c181
              · refine r_bipush (v := 12) hE dX11_readAtom_184 (by decide) ?_
                refine r_goto (tgt := 191) hE dX11_readAtom_186 (by decide) ?_
                refine r_iconst (v := 0) hE dX11_readAtom_191 (by decide) ?_
                refine t_invv (r := none) (S2 := (y_mk n L (m_P D p62 b62 g62 (s62 + 1) (l_em W62 s62 12 0)))) hE [.int 12, .int 0] (c_emits hL (by omega)) v_yX11_emits m_X11_143 dX11_readAtom_192 rfl (hL 169 (by decide)) (y_l_169 ((m_P D p62 b62 g62 s62 W62) 169)) rfl (by omega) ⟨Nat.le_refl _, Nat.le_refl _⟩ (Nat.le_of_ble_eq_true rfl) ?_
                show E 0 0 195 [(0, .ref 169), (1, .int (-1)), (2, .int (y_b (l_is (D 172).1 e 60 p61)))] [] (y_mk n L (m_P D p62 b62 g62 (s62 + 1) (l_em W62 s62 12 0)))
                refine r_iconst (v := 1) hE dX11_readAtom_195 (by decide) ?_
                refine r_ireturn hE dX11_readAtom_196 rfl (by first | rfl | exact y_nb _) (Nat.zero_le _) (Nat.zero_le _) ?_
                refine ⟨_, _, rfl, rfl, true, _, _, _, _, _, ?_, by decide, rfl, ?_, fun _ => by omega⟩
                · unfold l_atomF
                  rw [if_neg c6, if_neg c62, l_tagF]
                  rw [if_pos h9, l_cmp]
                  rw [hf61, l_then_t, if_pos c158, hf62, l_then_t]
                · unfold l_bd
                  omega
            · refine r_iconst (v := 0) hE dX11_readAtom_177 (by decide) ?_
              refine r_ireturn hE dX11_readAtom_178 rfl (by first | rfl | exact y_nb _) (Nat.zero_le _) (Nat.zero_le _) ?_
              have hk62 : ok62 = false := by revert c174; cases ok62 <;> simp
              subst hk62
              refine ⟨_, _, rfl, rfl, false, _, _, _, _, _, ?_, by decide, rfl, ?_, fun c => absurd c (by decide)⟩
              · unfold l_atomF
                rw [if_neg c6, if_neg c62, l_tagF]
                rw [if_pos h9, l_cmp]
                rw [hf61, l_then_t, if_pos c158, hf62, l_then_f]
              · unfold l_bd
                omega
          · refine r_aload_n hE dX11_readAtom_161 rfl ?_
            refine r_bipush (v := 62) hE dX11_readAtom_162 (by decide) ?_
            refine t_invv (r := (some (.int (y_b (l_is (D 172).1 e 62 (l_sg (D 172).1 e 60 p61)))))) (S2 := (y_mk n L (m_P D (l_sg (D 172).1 e 62 (l_sg (D 172).1 e 60 p61)) (l_bl (D 172).1 e (l_sg (D 172).1 e 60 p61)) g61 s61 W61))) hE [.int 62] (c_sign hL hen he (by omega)) v_yX11_sign m_X11_163 dX11_readAtom_164 rfl (hL 169 (by decide)) (y_l_169 ((m_P D (l_sg (D 172).1 e 60 p61) (l_bl (D 172).1 e p61) g61 s61 W61) 169)) rfl (by omega) ⟨Nat.le_refl _, Nat.le_refl _⟩ (Nat.le_of_ble_eq_true rfl) ?_
            show E 0 0 167 [(0, .ref 169), (1, .int (-1)), (2, .int (y_b (l_is (D 172).1 e 60 p61)))] [.int (y_b (l_is (D 172).1 e 62 (l_sg (D 172).1 e 60 p61)))] (y_mk n L (m_P D (l_sg (D 172).1 e 62 (l_sg (D 172).1 e 60 p61)) (l_bl (D 172).1 e (l_sg (D 172).1 e 60 p61)) g61 s61 W61))
            refine r_ifb_eq (tgt := 177) hE dX11_readAtom_167 (by decide) (fun c167 => ?_) (fun c167 => ?_)
            · refine r_iconst (v := 0) hE dX11_readAtom_177 (by decide) ?_
              refine r_ireturn hE dX11_readAtom_178 rfl (by first | rfl | exact y_nb _) (Nat.zero_le _) (Nat.zero_le _) ?_
              refine ⟨_, _, rfl, rfl, false, _, _, _, _, _, ?_, by decide, rfl, ?_, fun c => absurd c (by decide)⟩
              · unfold l_atomF
                rw [if_neg c6, if_neg c62, l_tagF]
                rw [if_pos h9, l_cmp]
                rw [hf61, l_then_t, if_neg c158, if_neg c167]
              · unfold l_bd
                omega
            · have f10 := f8.2.2 c167
              refine r_aload_n hE dX11_readAtom_170 rfl ?_
              refine t_invvRi hE [] (c_readSum hV hF hL hen he (by omega) (by omega)) v_yX11_readSum m_X11_195 dX11_readAtom_171 rfl (hL 169 (by decide)) (y_l_169 ((m_P D (l_sg (D 172).1 e 62 (l_sg (D 172).1 e 60 p61)) (l_bl (D 172).1 e (l_sg (D 172).1 e 60 p61)) g61 s61 W61) 169)) rfl (by omega) ⟨Nat.le_refl _, Nat.le_refl _⟩ (Nat.le_of_ble_eq_true rfl) (fun r63 E63 q63 => ?_)
              obtain ⟨ok63, p63, b63, g63, s63, W63, hf63, rfl, rfl, hb63, hg63⟩ := q63
              have hz63 := hb63.all
              show E 0 0 174 [(0, .ref 169), (1, .int (-1)), (2, .int (y_b (l_is (D 172).1 e 60 p61)))] [.int (y_b (ok63 = true))] (y_mk n L (m_P D p63 b63 g63 s63 W63))
              refine r_ifb_ne (tgt := 179) hE dX11_readAtom_174 (by decide) (fun c174 => ?_) (fun c174 => ?_)
              · have hk63 : ok63 = true := c174
                subst hk63
                have hh63 := hg63 rfl
                refine r_aload_n hE dX11_readAtom_179 rfl ?_
                refine r_iload_n hE dX11_readAtom_180 rfl ?_
                refine r_ifb_eq (tgt := 189) hE dX11_readAtom_181 (by decide) (fun c181 => ?_) (fun c181 => ?_)
                · refine r_bipush (v := 13) hE dX11_readAtom_189 (by decide) ?_
                  refine r_iconst (v := 0) hE dX11_readAtom_191 (by decide) ?_
                  refine t_invv (r := none) (S2 := (y_mk n L (m_P D p63 b63 g63 (s63 + 1) (l_em W63 s63 13 0)))) hE [.int 13, .int 0] (c_emits hL (by omega)) v_yX11_emits m_X11_143 dX11_readAtom_192 rfl (hL 169 (by decide)) (y_l_169 ((m_P D p63 b63 g63 s63 W63) 169)) rfl (by omega) ⟨Nat.le_refl _, Nat.le_refl _⟩ (Nat.le_of_ble_eq_true rfl) ?_
                  show E 0 0 195 [(0, .ref 169), (1, .int (-1)), (2, .int (y_b (l_is (D 172).1 e 60 p61)))] [] (y_mk n L (m_P D p63 b63 g63 (s63 + 1) (l_em W63 s63 13 0)))
                  refine r_iconst (v := 1) hE dX11_readAtom_195 (by decide) ?_
                  refine r_ireturn hE dX11_readAtom_196 rfl (by first | rfl | exact y_nb _) (Nat.zero_le _) (Nat.zero_le _) ?_
                  refine ⟨_, _, rfl, rfl, true, _, _, _, _, _, ?_, by decide, rfl, ?_, fun _ => by omega⟩
                  · unfold l_atomF
                    rw [if_neg c6, if_neg c62, l_tagF]
                    rw [if_pos h9, l_cmp]
                    rw [hf61, l_then_t, if_neg c158, if_pos c167, hf63, l_then_t]
                  · unfold l_bd
                    omega
                · refine r_bipush (v := 12) hE dX11_readAtom_184 (by decide) ?_
                  refine r_goto (tgt := 191) hE dX11_readAtom_186 (by decide) ?_
                  refine r_iconst (v := 0) hE dX11_readAtom_191 (by decide) ?_
                  refine t_invv (r := none) (S2 := (y_mk n L (m_P D p63 b63 g63 (s63 + 1) (l_em W63 s63 12 0)))) hE [.int 12, .int 0] (c_emits hL (by omega)) v_yX11_emits m_X11_143 dX11_readAtom_192 rfl (hL 169 (by decide)) (y_l_169 ((m_P D p63 b63 g63 s63 W63) 169)) rfl (by omega) ⟨Nat.le_refl _, Nat.le_refl _⟩ (Nat.le_of_ble_eq_true rfl) ?_
                  show E 0 0 195 [(0, .ref 169), (1, .int (-1)), (2, .int (y_b (l_is (D 172).1 e 60 p61)))] [] (y_mk n L (m_P D p63 b63 g63 (s63 + 1) (l_em W63 s63 12 0)))
                  refine r_iconst (v := 1) hE dX11_readAtom_195 (by decide) ?_
                  refine r_ireturn hE dX11_readAtom_196 rfl (by first | rfl | exact y_nb _) (Nat.zero_le _) (Nat.zero_le _) ?_
                  exact absurd c181 c158
              · refine r_iconst (v := 0) hE dX11_readAtom_177 (by decide) ?_
                refine r_ireturn hE dX11_readAtom_178 rfl (by first | rfl | exact y_nb _) (Nat.zero_le _) (Nat.zero_le _) ?_
                have hk63 : ok63 = false := by revert c174; cases ok63 <;> simp
                subst hk63
                refine ⟨_, _, rfl, rfl, false, _, _, _, _, _, ?_, by decide, rfl, ?_, fun c => absurd c (by decide)⟩
                · unfold l_atomF
                  rw [if_neg c6, if_neg c62, l_tagF]
                  rw [if_pos h9, l_cmp]
                  rw [hf61, l_then_t, if_neg c158, if_pos c167, hf63, l_then_f]
                · unfold l_bd
                  omega
        · refine r_iconst (v := 0) hE dX11_readAtom_148 (by decide) ?_
          refine r_ireturn hE dX11_readAtom_149 rfl (by first | rfl | exact y_nb _) (Nat.zero_le _) (Nat.zero_le _) ?_
          have hk61 : ok61 = false := by revert c145; cases ok61 <;> simp
          subst hk61
          refine ⟨_, _, rfl, rfl, false, _, _, _, _, _, ?_, by decide, rfl, ?_, fun c => absurd c (by decide)⟩
          · unfold l_atomF
            rw [if_neg c6, if_neg c62, l_tagF]
            rw [if_pos h9, l_cmp]
            rw [hf61, l_then_f]
          · unfold l_bd
            omega
    · refine r_aload_n hE dX11_readAtom_65 rfl ?_
      refine t_geti hE f_X11_178 y_I_169_9 dX11_readAtom_66 (hL 169 (by decide)) ?_
      refine r_top (y := (nI g)) rfl ?_
      refine r_bipush (v := 6) hE dX11_readAtom_69 (by decide) ?_
      refine r_icmp_neN (a := g) (b := 6) (tgt := 76) hE dX11_readAtom_71 (by decide) (by omega) (by decide) (fun c71 => ?_) (fun c71 => ?_)
      · have f5 := fb.2.2 c62 (by decide)
        refine r_aload_n hE dX11_readAtom_76 rfl ?_
        refine r_dup hE dX11_readAtom_77 rfl ?_
        refine t_geti hE f_X11_178 y_I_169_9 dX11_readAtom_78 (hL 169 (by decide)) ?_
        refine r_top (y := (nI g)) rfl ?_
        refine r_iconst (v := 1) hE dX11_readAtom_81 (by decide) ?_
        refine r_iaddN (a := g) (b := 1) hE dX11_readAtom_82 ?_
        refine t_puti hE f_X11_178 y_I_169_9 dX11_readAtom_83 (hL 169 (by decide)) rfl rfl ?_
        rw [m_P_9]
        refine r_aload_n hE dX11_readAtom_86 rfl ?_
        refine t_invvRi hE [] (hA c71 _ _ _ _ (by omega) (by omega)) v_yX11_readAtom m_X11_189 dX11_readAtom_87 rfl (hL 169 (by decide)) (y_l_169 ((m_P D (l_pa (D 172).1 e 16 (l_sg (D 172).1 e 40 p)) (l_bl (D 172).1 e (l_sg (D 172).1 e 40 p)) (g + 1) s W) 169)) rfl (by omega) ⟨Nat.le_refl _, Nat.le_refl _⟩ (Nat.le_of_ble_eq_true rfl) (fun r64 E64 q64 => ?_)
        obtain ⟨ok64, p64, b64, g64, s64, W64, hf64, rfl, rfl, hb64, hg64⟩ := q64
        have hz64 := hb64.all
        show E 0 0 90 [(0, .ref 169)] [.int (y_b (ok64 = true))] (y_mk n L (m_P D p64 b64 g64 s64 W64))
        refine r_ifb_ne (tgt := 95) hE dX11_readAtom_90 (by decide) (fun c90 => ?_) (fun c90 => ?_)
        · have hk64 : ok64 = true := c90
          subst hk64
          have hh64 := hg64 rfl
          refine r_aload_n hE dX11_readAtom_95 rfl ?_
          refine r_dup hE dX11_readAtom_96 rfl ?_
          refine t_geti hE f_X11_178 y_I_169_9 dX11_readAtom_97 (hL 169 (by decide)) ?_
          refine r_top (y := (nI g64)) rfl ?_
          refine r_iconst (v := 1) hE dX11_readAtom_100 (by decide) ?_
          refine r_isubN (a := g64) (b := 1) hE dX11_readAtom_101 (by omega) ?_
          refine t_puti hE f_X11_178 y_I_169_9 dX11_readAtom_102 (hL 169 (by decide)) rfl rfl ?_
          rw [m_P_9]
          refine r_aload_n hE dX11_readAtom_105 rfl ?_
          refine r_bipush (v := 14) hE dX11_readAtom_106 (by decide) ?_
          refine r_iconst (v := 0) hE dX11_readAtom_108 (by decide) ?_
          refine t_invv (r := none) (S2 := (y_mk n L (m_P D p64 b64 (g64 - 1) (s64 + 1) (l_em W64 s64 14 0)))) hE [.int 14, .int 0] (c_emits hL (by omega)) v_yX11_emits m_X11_143 dX11_readAtom_109 rfl (hL 169 (by decide)) (y_l_169 ((m_P D p64 b64 (g64 - 1) s64 W64) 169)) rfl (by omega) ⟨Nat.le_refl _, Nat.le_refl _⟩ (Nat.le_of_ble_eq_true rfl) ?_
          show E 0 0 112 [(0, .ref 169)] [] (y_mk n L (m_P D p64 b64 (g64 - 1) (s64 + 1) (l_em W64 s64 14 0)))
          refine r_iconst (v := 1) hE dX11_readAtom_112 (by decide) ?_
          refine r_ireturn hE dX11_readAtom_113 rfl (by first | rfl | exact y_nb _) (Nat.zero_le _) (Nat.zero_le _) ?_
          refine ⟨_, _, rfl, rfl, true, _, _, _, _, _, ?_, by decide, rfl, ?_, fun _ => by omega⟩
          · unfold l_atomF
            rw [if_neg c6, if_pos c62, if_neg c71, hf64, l_then_t]
          · unfold l_bd
            omega
        · refine r_iconst (v := 0) hE dX11_readAtom_93 (by decide) ?_
          refine r_ireturn hE dX11_readAtom_94 rfl (by first | rfl | exact y_nb _) (Nat.zero_le _) (Nat.zero_le _) ?_
          have hk64 : ok64 = false := by revert c90; cases ok64 <;> simp
          subst hk64
          refine ⟨_, _, rfl, rfl, false, _, _, _, _, _, ?_, by decide, rfl, ?_, fun c => absurd c (by decide)⟩
          · unfold l_atomF
            rw [if_neg c6, if_pos c62, if_neg c71, hf64, l_then_f]
          · unfold l_bd
            omega
      · refine r_iconst (v := 0) hE dX11_readAtom_74 (by decide) ?_
        refine r_ireturn hE dX11_readAtom_75 rfl (by first | rfl | exact y_nb _) (Nat.zero_le _) (Nat.zero_le _) ?_
        refine ⟨_, _, rfl, rfl, false, _, _, _, _, _, ?_, by decide, rfl, ?_, fun c => absurd c (by decide)⟩
        · unfold l_atomF
          rw [if_neg c6, if_pos c62, if_pos c71]
        · unfold l_bd
          omega
  · refine r_aload_n hE dX11_readAtom_9 rfl ?_
    refine t_geti hE f_X11_178 y_I_169_9 dX11_readAtom_10 (hL 169 (by decide)) ?_
    refine r_top (y := (nI g)) rfl ?_
    refine r_bipush (v := 6) hE dX11_readAtom_13 (by decide) ?_
    refine r_icmp_neN (a := g) (b := 6) (tgt := 20) hE dX11_readAtom_15 (by decide) (by omega) (by decide) (fun c15 => ?_) (fun c15 => ?_)
    · have f2 := f1.2.2 c6
      refine r_aload_n hE dX11_readAtom_20 rfl ?_
      refine r_dup hE dX11_readAtom_21 rfl ?_
      refine t_geti hE f_X11_178 y_I_169_9 dX11_readAtom_22 (hL 169 (by decide)) ?_
      refine r_top (y := (nI g)) rfl ?_
      refine r_iconst (v := 1) hE dX11_readAtom_25 (by decide) ?_
      refine r_iaddN (a := g) (b := 1) hE dX11_readAtom_26 ?_
      refine t_puti hE f_X11_178 y_I_169_9 dX11_readAtom_27 (hL 169 (by decide)) rfl rfl ?_
      rw [m_P_9]
      refine r_aload_n hE dX11_readAtom_30 rfl ?_
      refine t_invvRi hE [] (hC c15 _ _ _ _ (by omega) (by omega)) v_yX11_readCond m_X11_181 dX11_readAtom_31 rfl (hL 169 (by decide)) (y_l_169 ((m_P D (l_sg (D 172).1 e 40 p) (l_bl (D 172).1 e p) (g + 1) s W) 169)) rfl (by omega) ⟨Nat.le_refl _, Nat.le_refl _⟩ (Nat.le_of_ble_eq_true rfl) (fun r65 E65 q65 => ?_)
      obtain ⟨ok65, p65, b65, g65, s65, W65, hf65, rfl, rfl, hb65, hg65⟩ := q65
      have hz65 := hb65.all
      show E 0 0 34 [(0, .ref 169)] [.int (y_b (ok65 = true))] (y_mk n L (m_P D p65 b65 g65 s65 W65))
      refine r_ifb_ne (tgt := 39) hE dX11_readAtom_34 (by decide) (fun c34 => ?_) (fun c34 => ?_)
      · have hk65 : ok65 = true := c34
        subst hk65
        have hh65 := hg65 rfl
        refine r_aload_n hE dX11_readAtom_39 rfl ?_
        refine r_dup hE dX11_readAtom_40 rfl ?_
        refine t_geti hE f_X11_178 y_I_169_9 dX11_readAtom_41 (hL 169 (by decide)) ?_
        refine r_top (y := (nI g65)) rfl ?_
        refine r_iconst (v := 1) hE dX11_readAtom_44 (by decide) ?_
        refine r_isubN (a := g65) (b := 1) hE dX11_readAtom_45 (by omega) ?_
        refine t_puti hE f_X11_178 y_I_169_9 dX11_readAtom_46 (hL 169 (by decide)) rfl rfl ?_
        rw [m_P_9]
        have f3 := l_sg_b (T := (D 172).1) (c := 41) hz65.2.1
        have f4 := l_f (T := (D 172).1) hz65.2.1
        refine r_aload_n hE dX11_readAtom_49 rfl ?_
        refine r_bipush (v := 41) hE dX11_readAtom_50 (by decide) ?_
        refine t_invv (r := (some (.int (y_b (l_is (D 172).1 e 41 p65))))) (S2 := (y_mk n L (m_P D (l_sg (D 172).1 e 41 p65) (l_bl (D 172).1 e p65) (g65 - 1) s65 W65))) hE [.int 41] (c_sign hL hen he (by omega)) v_yX11_sign m_X11_163 dX11_readAtom_52 rfl (hL 169 (by decide)) (y_l_169 ((m_P D p65 b65 (g65 - 1) s65 W65) 169)) rfl (by omega) ⟨Nat.le_refl _, Nat.le_refl _⟩ (Nat.le_of_ble_eq_true rfl) ?_
        show E 0 0 55 [(0, .ref 169)] [.int (y_b (l_is (D 172).1 e 41 p65))] (y_mk n L (m_P D (l_sg (D 172).1 e 41 p65) (l_bl (D 172).1 e p65) (g65 - 1) s65 W65))
        refine r_ireturn hE dX11_readAtom_55 rfl (by exact y_nb _) (Nat.zero_le _) (Nat.zero_le _) ?_
        refine ⟨_, _, rfl, rfl, _, _, _, _, _, _, ?_, y_b_dec, rfl, ?_, fun _ => by omega⟩
        · unfold l_atomF
          rw [if_pos c6, if_neg c15, hf65, l_then_t]
        · unfold l_bd
          omega
      · refine r_iconst (v := 0) hE dX11_readAtom_37 (by decide) ?_
        refine r_ireturn hE dX11_readAtom_38 rfl (by first | rfl | exact y_nb _) (Nat.zero_le _) (Nat.zero_le _) ?_
        have hk65 : ok65 = false := by revert c34; cases ok65 <;> simp
        subst hk65
        refine ⟨_, _, rfl, rfl, false, _, _, _, _, _, ?_, by decide, rfl, ?_, fun c => absurd c (by decide)⟩
        · unfold l_atomF
          rw [if_pos c6, if_neg c15, hf65, l_then_f]
        · unfold l_bd
          omega
    · refine r_iconst (v := 0) hE dX11_readAtom_18 (by decide) ?_
      refine r_ireturn hE dX11_readAtom_19 rfl (by first | rfl | exact y_nb _) (Nat.zero_le _) (Nat.zero_le _) ?_
      refine ⟨_, _, rfl, rfl, false, _, _, _, _, _, ?_, by decide, rfl, ?_, fun c => absurd c (by decide)⟩
      · unfold l_atomF
        rw [if_pos c6, if_pos c15]
      · unfold l_bd
        omega
theorem c_readAtom {V : x_E} {n : Nat} {L : List Nat} {D : y_D} {e : Nat} (hV : y_V V) (hF : y_fm V) (hL : y_ok L) (hen : (D 169).1 7 = nI e) (he : e ≤ 400) : ∀ k g : Nat, k + g = 7 → 1 ≤ k → l_C V n L D e yX11_readAtom cX11_readAtom 3 (3 * k + 5) (l_at (D 172).1 e k) g := by
  intro k
  induction k with
  | zero => intro g _ h; omega
  | succ k ih =>
    intro g hg _
    rcases k with _ | k
    · have hq : g = 6 := by omega
      exact c_readAtomF (dA := 5) hV hF hL hen he (by omega) (by omega) (fun c => absurd hq c) (fun c => absurd hq c)
    · have hI := ih (g + 1) (by omega) (by omega)
      rw [show 3 * (k + 1 + 1) + 5 = (3 * (k + 1) + 5) + 3 by omega]
      exact c_readAtomF hV hF hL hen he (by omega) (by omega) (fun _ => c_readCond hV hF hL hen he (by omega) (c_readAllOf hV hF hL hen he (by omega) hI)) (fun _ => hI)
theorem c_readCond0 {V : x_E} {n : Nat} {L : List Nat} {D : y_D} {e : Nat} (hV : y_V V) (hF : y_fm V) (hL : y_ok L) (hen : (D 169).1 7 = nI e) (he : e ≤ 400) : l_C V n L D e yX11_readCond cX11_readCond 1 28 (l_cond (D 172).1 e (l_at (D 172).1 e 7)) 0 := c_readCond hV hF hL hen he (dA := 27) (by omega) (c_readAllOf hV hF hL hen he (dA := 26) (by omega) (c_readAtom hV hF hL hen he 7 0 rfl (by omega)))

/-! the reference: goesBackwards, meets, earliestOf, canBy -/
theorem c_goesBackwards {V : x_E} {n : Nat} {L : List Nat} {D : y_D} {k kw : Nat} {G : Nat → Prop} (hL : y_ok L) (hk : (D 169).1 13 = nI k) (hk3 : k ≤ 300) (hw2 : (D 170).1 2 = nI kw) (hkw : kw ≤ 6) (gd : ∀ m, m < 16 * (k + 1) → y_is ((D 178).1 m) (G m)) (hG0 : ∀ s, s ≤ k → G (16 * s)) : y_Rv V yX11_goesBackwards cX11_goesBackwards 5 none 5 [.ref 169] n L D (fun D2 => y_fx [180] D D2 ∧ ∀ m, m < 16 * (k + 1) → y_is ((D2 180).1 m) (m_BB k G m)) := by
  refine y_rv (by decide) (Nat.le_of_ble_eq_true rfl) (fun E hE => ?_)
  change E 0 0 0 [(0, .ref 169)] [] (y_mk n L D)
  have l1 : ∀ (e : Nat) (D8 : y_D), e ≤ k → y_fx [180] D D8 → (∀ m, 16 * e ≤ m → m < 16 * (k + 1) → y_is ((D8 180).1 m) (m_BB k G m)) → E 0 0 61 [(0, .ref 169), (1, .int (y_dn e))] [] (y_mk n L D8) := by
    intro e
    induction e with
    | zero =>
      intro D8 he fr ar
      change E 0 0 61 [(0, .ref 169), (1, .int (-1))] [] (y_mk n L D8)
      refine r_iload_n hE dX11_goesBackwards_61 rfl ?_
      refine r_if_lt (tgt := 239) hE dX11_goesBackwards_62 (by decide) (fun _ => ?_) (fun c62 => by first | exact absurd c62 (by decide) | exact absurd (by decide) c62)
      refine r_return hE dX11_goesBackwards_239 rfl (Nat.zero_le _) (Nat.zero_le _) ?_
      exact ⟨_, rfl, rfl, fr, fun m hm => ar m (by omega) hm⟩
    | succ s ihs =>
      intro D8 he fr ar
      change E 0 0 61 [(0, .ref 169), (1, .int (nI s))] [] (y_mk n L D8)
      refine r_iload_n hE dX11_goesBackwards_61 rfl ?_
      refine r_if_lt (tgt := 239) hE dX11_goesBackwards_62 (by decide) (fun c62 => absurd c62 (nI_pos (by omega))) (fun _ => ?_)
      refine r_iconst (v := 0) hE dX11_goesBackwards_65 (by decide) ?_
      refine r_istore_n (ls2 := [(0, .ref 169), (1, .int (nI s)), (2, .int 0)]) hE dX11_goesBackwards_66 (by decide) rfl ?_
      have l2 : ∀ (f : Nat) (D8 : y_D), f ≤ 16 → y_fx [180] D D8 → (∀ m, 16 * (s + 1) ≤ m ∨ (16 * s ≤ m ∧ m < 16 * s + f) → m < 16 * (k + 1) → y_is ((D8 180).1 m) (m_BB k G m)) → E 0 0 67 [(0, .ref 169), (1, .int (nI s)), (2, .int (nI f))] [] (y_mk n L D8) := by
        intro f D8
        induction hm9 : (16 - f) using Nat.strongRecOn generalizing f D8 with
        | _ m9 ih =>
          intro hf fr ar
          subst hm9
          refine r_iload_n hE dX11_goesBackwards_67 rfl ?_
          refine r_bipush (v := 16) hE dX11_goesBackwards_68 (by decide) ?_
          refine r_icmp_geN (a := f) (b := 16) (tgt := 233) hE dX11_goesBackwards_70 (by decide) (by omega) (by decide) (fun c70 => ?_) (fun c70 => ?_)
          · refine r_iinc (v := (nI s) + (-1)) (ls2 := [(0, .ref 169), (1, .int ((nI s) + (-1))), (2, .int (nI f))]) hE dX11_goesBackwards_233 rfl rfl (by decide) rfl ?_
            refine r_goto (tgt := 61) hE dX11_goesBackwards_236 (by decide) ?_
            rw [y_dn_s]
            refine r_locs hE (ls2 := [(0, .ref 169), (1, .int (y_dn s))]) ?_ (ihs _ (by omega) fr (fun m hm h3 => ar m (by omega) h3))
            simp [x_lk]
          · refine r_iconst (v := 0) hE dX11_goesBackwards_73 (by decide) ?_
            refine r_istore_n (ls2 := [(0, .ref 169), (1, .int (nI s)), (2, .int (nI f)), (3, .int 0)]) hE dX11_goesBackwards_74 (by decide) rfl ?_
            refine r_iconst (v := 0) hE dX11_goesBackwards_75 (by decide) ?_
            refine r_istore (ls2 := [(0, .ref 169), (1, .int (nI s)), (2, .int (nI f)), (3, .int 0), (4, .int 0)]) hE dX11_goesBackwards_76 (by decide) rfl ?_
            refine r_iload hE dX11_goesBackwards_78 rfl ?_
            refine r_iload_n hE dX11_goesBackwards_80 rfl ?_
            refine r_icmp_gtN (a := 0) (b := f) (tgt := 125) hE dX11_goesBackwards_81 (by decide) (by decide) (by omega) (fun c81 => ?_) (fun c81 => ?_)
            · exact absurd c81 (by omega)
            · refine r_iload_n hE dX11_goesBackwards_84 rfl ?_
              refine r_if_ne (tgt := 125) hE dX11_goesBackwards_85 (by decide) (fun c85 => by first | exact absurd c85 (by decide) | exact absurd (by decide) c85) (fun _ => ?_)
              refine r_iload hE dX11_goesBackwards_88 rfl ?_
              refine r_iload_n hE dX11_goesBackwards_90 rfl ?_
              refine r_iconst (v := (-1)) hE dX11_goesBackwards_91 (by decide) ?_
              refine r_ixor hE dX11_goesBackwards_92 ?_
              refine r_iand hE dX11_goesBackwards_93 ?_
              refine r_if_ne (tgt := 117) hE dX11_goesBackwards_94 (by decide) (fun c94 => ?_) (fun c94 => ?_)
              · first
                | exact absurd (show (0 : Int32) &&& _ = 0 from Int32.zero_and) c94
                | exact absurd (show m_BB k G (16 * (s + 1) + 0) from (by unfold m_BB; by_cases c9 : s + 1 < k; exact Or.inl ⟨by omega, hG0 (s + 1) (by omega)⟩; exact Or.inr (by omega))) ((y_is_0 (ar _ (by omega) (by omega))).mp c110)
              · refine r_aload_n hE dX11_goesBackwards_97 rfl ?_
                refine t_getr hE f_X11_49 y_R_169_20 dX11_goesBackwards_98 (hL 169 (by decide)) ?_
                refine r_iload_n hE dX11_goesBackwards_101 rfl ?_
                refine r_iconst (v := 1) hE dX11_goesBackwards_102 (by decide) ?_
                refine r_iaddN (a := s) (b := 1) hE dX11_goesBackwards_103 ?_
                refine r_iload hE dX11_goesBackwards_104 rfl ?_
                refine t_invs (r := (some (.int (nI (16 * (s + 1) + 0))))) (S2 := (y_mk n L D8)) hE [.int (nI (s + 1)), .int 0] (c_at) s_yX11_at m_X11_299 dX11_goesBackwards_106 rfl (by decide) ⟨Nat.le_refl _, Nat.le_refl _⟩ (Nat.le_of_ble_eq_true rfl) ?_
                show E 0 0 109 [(0, .ref 169), (1, .int (nI s)), (2, .int (nI f)), (3, .int 0), (4, .int 0)] [.int (nI (16 * (s + 1) + 0)), .ref 180] (y_mk n L D8)
                refine t_zaldN (e := 16 * (s + 1) + 0) hE y_A_180 dX11_goesBackwards_109 (hL 180 (by decide)) (by omega) (by decide) ?_
                refine r_if_eq (tgt := 117) hE dX11_goesBackwards_110 (by decide) (fun c110 => ?_) (fun c110 => ?_)
                · first
                  | exact absurd (show (0 : Int32) &&& _ = 0 from Int32.zero_and) c94
                  | exact absurd (show m_BB k G (16 * (s + 1) + 0) from (by unfold m_BB; by_cases c9 : s + 1 < k; exact Or.inl ⟨by omega, hG0 (s + 1) (by omega)⟩; exact Or.inr (by omega))) ((y_is_0 (ar _ (by omega) (by omega))).mp c110)
                · refine r_iconst (v := 1) hE dX11_goesBackwards_113 (by decide) ?_
                  refine r_goto (tgt := 118) hE dX11_goesBackwards_114 (by decide) ?_
                  refine r_istore_n (ls2 := [(0, .ref 169), (1, .int (nI s)), (2, .int (nI f)), (3, .int 1), (4, .int 0)]) hE dX11_goesBackwards_118 (by decide) rfl ?_
                  refine r_iincN (a := 0) (b := 1) (ls2 := [(0, .ref 169), (1, .int (nI s)), (2, .int (nI f)), (3, .int 1), (4, .int (nI (0 + 1)))]) hE dX11_goesBackwards_119 rfl rfl (by decide) rfl ?_
                  refine r_goto (tgt := 78) hE dX11_goesBackwards_122 (by decide) ?_
                  refine r_iload hE dX11_goesBackwards_78 rfl ?_
                  refine r_iload_n hE dX11_goesBackwards_80 rfl ?_
                  refine r_icmp_gtN (a := 0 + 1) (b := f) (tgt := 125) hE dX11_goesBackwards_81 (by decide) (by omega) (by omega) (fun c81 => ?_) (fun c81 => ?_)
                  · refine r_iconst (v := 0) hE dX11_goesBackwards_125 (by decide) ?_
                    refine r_istore (ls2 := [(0, .ref 169), (1, .int (nI s)), (2, .int (nI f)), (3, .int 1), (4, .int 0)]) hE dX11_goesBackwards_126 (by decide) rfl ?_
                    refine r_iload hE dX11_goesBackwards_128 rfl ?_
                    refine r_aload_n hE dX11_goesBackwards_130 rfl ?_
                    refine t_getr hE f_X11_13 y_R_169_1 dX11_goesBackwards_131 (hL 169 (by decide)) ?_
                    refine r_iconst (v := 2) hE dX11_goesBackwards_134 (by decide) ?_
                    refine t_ialdN (e := 2) hE y_A_170 dX11_goesBackwards_135 (hL 170 (by decide)) (by omega) (by decide) ?_
                    refine r_top (y := (nI kw)) (by rw [(fr.1 170 (by decide))]; exact hw2) ?_
                    refine r_icmp_geN (a := 0) (b := kw) (tgt := 195) hE dX11_goesBackwards_136 (by decide) (by decide) (by omega) (fun c136 => ?_) (fun c136 => ?_)
                    · refine r_aload_n hE dX11_goesBackwards_195 rfl ?_
                      refine t_getr hE f_X11_49 y_R_169_20 dX11_goesBackwards_196 (hL 169 (by decide)) ?_
                      refine r_iload_n hE dX11_goesBackwards_199 rfl ?_
                      refine r_iload_n hE dX11_goesBackwards_200 rfl ?_
                      refine t_invs (r := (some (.int (nI (16 * s + f))))) (S2 := (y_mk n L D8)) hE [.int (nI s), .int (nI f)] (c_at) s_yX11_at m_X11_299 dX11_goesBackwards_201 rfl (by decide) ⟨Nat.le_refl _, Nat.le_refl _⟩ (Nat.le_of_ble_eq_true rfl) ?_
                      show E 0 0 204 [(0, .ref 169), (1, .int (nI s)), (2, .int (nI f)), (3, .int 1), (4, .int 0)] [.int (nI (16 * s + f)), .ref 180] (y_mk n L D8)
                      refine r_iload_n hE dX11_goesBackwards_204 rfl ?_
                      refine r_if_eq (tgt := 225) hE dX11_goesBackwards_205 (by decide) (fun c205 => by first | exact absurd c205 (by decide) | exact absurd (by decide) c205) (fun _ => ?_)
                      refine r_aload_n hE dX11_goesBackwards_208 rfl ?_
                      refine t_getr hE f_X11_43 y_R_169_18 dX11_goesBackwards_209 (hL 169 (by decide)) ?_
                      refine r_iload_n hE dX11_goesBackwards_212 rfl ?_
                      refine r_iload_n hE dX11_goesBackwards_213 rfl ?_
                      refine t_invs (r := (some (.int (nI (16 * s + f))))) (S2 := (y_mk n L D8)) hE [.int (nI s), .int (nI f)] (c_at) s_yX11_at m_X11_299 dX11_goesBackwards_214 rfl (by decide) ⟨Nat.le_refl _, Nat.le_refl _⟩ (Nat.le_of_ble_eq_true rfl) ?_
                      show E 0 0 217 [(0, .ref 169), (1, .int (nI s)), (2, .int (nI f)), (3, .int 1), (4, .int 0)] [.int (nI (16 * s + f)), .ref 178, .int (nI (16 * s + f)), .ref 180] (y_mk n L D8)
                      refine t_zaldN (e := 16 * s + f) hE y_A_178 dX11_goesBackwards_217 (hL 178 (by decide)) (by omega) (by decide) ?_
                      refine r_if_eq (tgt := 225) hE dX11_goesBackwards_218 (by decide) (fun c218 => ?_) (fun c218 => ?_)
                      · refine r_iconst (v := 0) hE dX11_goesBackwards_225 (by decide) ?_
                        refine t_zastN (e := 16 * s + f) hE y_A_180 dX11_goesBackwards_226 (hL 180 (by decide)) (by omega) (by decide) ?_
                        refine r_iincN (a := f) (b := 1) (ls2 := [(0, .ref 169), (1, .int (nI s)), (2, .int (nI (f + 1))), (3, .int 1), (4, .int 0)]) hE dX11_goesBackwards_227 rfl rfl (by decide) rfl ?_
                        refine r_goto (tgt := 67) hE dX11_goesBackwards_230 (by decide) ?_
                        refine r_locs hE (ls2 := [(0, .ref 169), (1, .int (nI s)), (2, .int (nI (f + 1)))]) ?_ (ih (16 - (f + 1)) (by omega) (f + 1) _ rfl (by omega) (y_fx_s fr (by decide)) (fun m hm h3 => ?_))
                        · simp [x_lk]
                        · rw [y_si_1]
                          by_cases c : m = 16 * s + f
                          · rw [if_pos c]
                            refine Or.inr ⟨rfl, fun q => ?_⟩
                            rcases q with q | q
                            · rw [c] at q
                              exact (y_is_0 (by rw [(fr.1 178 (by decide))]; exact gd _ (by omega))).mp c218 q.2
                            · omega
                          · rw [if_neg c]
                            exact ar m (by omega) h3
                      · refine r_iconst (v := 1) hE dX11_goesBackwards_221 (by decide) ?_
                        refine r_goto (tgt := 226) hE dX11_goesBackwards_222 (by decide) ?_
                        refine t_zastN (e := 16 * s + f) hE y_A_180 dX11_goesBackwards_226 (hL 180 (by decide)) (by omega) (by decide) ?_
                        refine r_iincN (a := f) (b := 1) (ls2 := [(0, .ref 169), (1, .int (nI s)), (2, .int (nI (f + 1))), (3, .int 1), (4, .int 0)]) hE dX11_goesBackwards_227 rfl rfl (by decide) rfl ?_
                        refine r_goto (tgt := 67) hE dX11_goesBackwards_230 (by decide) ?_
                        refine r_locs hE (ls2 := [(0, .ref 169), (1, .int (nI s)), (2, .int (nI (f + 1)))]) ?_ (ih (16 - (f + 1)) (by omega) (f + 1) _ rfl (by omega) (y_fx_s fr (by decide)) (fun m hm h3 => ?_))
                        · simp [x_lk]
                        · rw [y_si_1]
                          by_cases c : m = 16 * s + f
                          · rw [if_pos c]
                            refine Or.inl ⟨rfl, Or.inl ⟨by omega, by rw [c]; exact Classical.not_not.mp (fun q => c218 ((y_is_0 (by rw [(fr.1 178 (by decide))]; exact gd _ (by omega))).mpr q))⟩⟩
                          · rw [if_neg c]
                            exact ar m (by omega) h3
                    · refine r_iload_n hE dX11_goesBackwards_139 rfl ?_
                      refine r_if_ne (tgt := 195) hE dX11_goesBackwards_140 (by decide) (fun _ => ?_) (fun c140 => by first | exact absurd c140 (by decide) | exact absurd (by decide) c140)
                      refine r_aload_n hE dX11_goesBackwards_195 rfl ?_
                      refine t_getr hE f_X11_49 y_R_169_20 dX11_goesBackwards_196 (hL 169 (by decide)) ?_
                      refine r_iload_n hE dX11_goesBackwards_199 rfl ?_
                      refine r_iload_n hE dX11_goesBackwards_200 rfl ?_
                      refine t_invs (r := (some (.int (nI (16 * s + f))))) (S2 := (y_mk n L D8)) hE [.int (nI s), .int (nI f)] (c_at) s_yX11_at m_X11_299 dX11_goesBackwards_201 rfl (by decide) ⟨Nat.le_refl _, Nat.le_refl _⟩ (Nat.le_of_ble_eq_true rfl) ?_
                      show E 0 0 204 [(0, .ref 169), (1, .int (nI s)), (2, .int (nI f)), (3, .int 1), (4, .int 0)] [.int (nI (16 * s + f)), .ref 180] (y_mk n L D8)
                      refine r_iload_n hE dX11_goesBackwards_204 rfl ?_
                      refine r_if_eq (tgt := 225) hE dX11_goesBackwards_205 (by decide) (fun c205 => by first | exact absurd c205 (by decide) | exact absurd (by decide) c205) (fun _ => ?_)
                      refine r_aload_n hE dX11_goesBackwards_208 rfl ?_
                      refine t_getr hE f_X11_43 y_R_169_18 dX11_goesBackwards_209 (hL 169 (by decide)) ?_
                      refine r_iload_n hE dX11_goesBackwards_212 rfl ?_
                      refine r_iload_n hE dX11_goesBackwards_213 rfl ?_
                      refine t_invs (r := (some (.int (nI (16 * s + f))))) (S2 := (y_mk n L D8)) hE [.int (nI s), .int (nI f)] (c_at) s_yX11_at m_X11_299 dX11_goesBackwards_214 rfl (by decide) ⟨Nat.le_refl _, Nat.le_refl _⟩ (Nat.le_of_ble_eq_true rfl) ?_
                      show E 0 0 217 [(0, .ref 169), (1, .int (nI s)), (2, .int (nI f)), (3, .int 1), (4, .int 0)] [.int (nI (16 * s + f)), .ref 178, .int (nI (16 * s + f)), .ref 180] (y_mk n L D8)
                      refine t_zaldN (e := 16 * s + f) hE y_A_178 dX11_goesBackwards_217 (hL 178 (by decide)) (by omega) (by decide) ?_
                      refine r_if_eq (tgt := 225) hE dX11_goesBackwards_218 (by decide) (fun c218 => ?_) (fun c218 => ?_)
                      · refine r_iconst (v := 0) hE dX11_goesBackwards_225 (by decide) ?_
                        refine t_zastN (e := 16 * s + f) hE y_A_180 dX11_goesBackwards_226 (hL 180 (by decide)) (by omega) (by decide) ?_
                        refine r_iincN (a := f) (b := 1) (ls2 := [(0, .ref 169), (1, .int (nI s)), (2, .int (nI (f + 1))), (3, .int 1), (4, .int 0)]) hE dX11_goesBackwards_227 rfl rfl (by decide) rfl ?_
                        refine r_goto (tgt := 67) hE dX11_goesBackwards_230 (by decide) ?_
                        refine r_locs hE (ls2 := [(0, .ref 169), (1, .int (nI s)), (2, .int (nI (f + 1)))]) ?_ (ih (16 - (f + 1)) (by omega) (f + 1) _ rfl (by omega) (y_fx_s fr (by decide)) (fun m hm h3 => ?_))
                        · simp [x_lk]
                        · rw [y_si_1]
                          by_cases c : m = 16 * s + f
                          · rw [if_pos c]
                            refine Or.inr ⟨rfl, fun q => ?_⟩
                            rcases q with q | q
                            · rw [c] at q
                              exact (y_is_0 (by rw [(fr.1 178 (by decide))]; exact gd _ (by omega))).mp c218 q.2
                            · omega
                          · rw [if_neg c]
                            exact ar m (by omega) h3
                      · refine r_iconst (v := 1) hE dX11_goesBackwards_221 (by decide) ?_
                        refine r_goto (tgt := 226) hE dX11_goesBackwards_222 (by decide) ?_
                        refine t_zastN (e := 16 * s + f) hE y_A_180 dX11_goesBackwards_226 (hL 180 (by decide)) (by omega) (by decide) ?_
                        refine r_iincN (a := f) (b := 1) (ls2 := [(0, .ref 169), (1, .int (nI s)), (2, .int (nI (f + 1))), (3, .int 1), (4, .int 0)]) hE dX11_goesBackwards_227 rfl rfl (by decide) rfl ?_
                        refine r_goto (tgt := 67) hE dX11_goesBackwards_230 (by decide) ?_
                        refine r_locs hE (ls2 := [(0, .ref 169), (1, .int (nI s)), (2, .int (nI (f + 1)))]) ?_ (ih (16 - (f + 1)) (by omega) (f + 1) _ rfl (by omega) (y_fx_s fr (by decide)) (fun m hm h3 => ?_))
                        · simp [x_lk]
                        · rw [y_si_1]
                          by_cases c : m = 16 * s + f
                          · rw [if_pos c]
                            refine Or.inl ⟨rfl, Or.inl ⟨by omega, by rw [c]; exact Classical.not_not.mp (fun q => c218 ((y_is_0 (by rw [(fr.1 178 (by decide))]; exact gd _ (by omega))).mpr q))⟩⟩
                          · rw [if_neg c]
                            exact ar m (by omega) h3
                  · refine r_iload_n hE dX11_goesBackwards_84 rfl ?_
                    refine r_if_ne (tgt := 125) hE dX11_goesBackwards_85 (by decide) (fun _ => ?_) (fun c85 => by first | exact absurd c85 (by decide) | exact absurd (by decide) c85)
                    refine r_iconst (v := 0) hE dX11_goesBackwards_125 (by decide) ?_
                    refine r_istore (ls2 := [(0, .ref 169), (1, .int (nI s)), (2, .int (nI f)), (3, .int 1), (4, .int 0)]) hE dX11_goesBackwards_126 (by decide) rfl ?_
                    refine r_iload hE dX11_goesBackwards_128 rfl ?_
                    refine r_aload_n hE dX11_goesBackwards_130 rfl ?_
                    refine t_getr hE f_X11_13 y_R_169_1 dX11_goesBackwards_131 (hL 169 (by decide)) ?_
                    refine r_iconst (v := 2) hE dX11_goesBackwards_134 (by decide) ?_
                    refine t_ialdN (e := 2) hE y_A_170 dX11_goesBackwards_135 (hL 170 (by decide)) (by omega) (by decide) ?_
                    refine r_top (y := (nI kw)) (by rw [(fr.1 170 (by decide))]; exact hw2) ?_
                    refine r_icmp_geN (a := 0) (b := kw) (tgt := 195) hE dX11_goesBackwards_136 (by decide) (by decide) (by omega) (fun c136 => ?_) (fun c136 => ?_)
                    · refine r_aload_n hE dX11_goesBackwards_195 rfl ?_
                      refine t_getr hE f_X11_49 y_R_169_20 dX11_goesBackwards_196 (hL 169 (by decide)) ?_
                      refine r_iload_n hE dX11_goesBackwards_199 rfl ?_
                      refine r_iload_n hE dX11_goesBackwards_200 rfl ?_
                      refine t_invs (r := (some (.int (nI (16 * s + f))))) (S2 := (y_mk n L D8)) hE [.int (nI s), .int (nI f)] (c_at) s_yX11_at m_X11_299 dX11_goesBackwards_201 rfl (by decide) ⟨Nat.le_refl _, Nat.le_refl _⟩ (Nat.le_of_ble_eq_true rfl) ?_
                      show E 0 0 204 [(0, .ref 169), (1, .int (nI s)), (2, .int (nI f)), (3, .int 1), (4, .int 0)] [.int (nI (16 * s + f)), .ref 180] (y_mk n L D8)
                      refine r_iload_n hE dX11_goesBackwards_204 rfl ?_
                      refine r_if_eq (tgt := 225) hE dX11_goesBackwards_205 (by decide) (fun c205 => by first | exact absurd c205 (by decide) | exact absurd (by decide) c205) (fun _ => ?_)
                      refine r_aload_n hE dX11_goesBackwards_208 rfl ?_
                      refine t_getr hE f_X11_43 y_R_169_18 dX11_goesBackwards_209 (hL 169 (by decide)) ?_
                      refine r_iload_n hE dX11_goesBackwards_212 rfl ?_
                      refine r_iload_n hE dX11_goesBackwards_213 rfl ?_
                      refine t_invs (r := (some (.int (nI (16 * s + f))))) (S2 := (y_mk n L D8)) hE [.int (nI s), .int (nI f)] (c_at) s_yX11_at m_X11_299 dX11_goesBackwards_214 rfl (by decide) ⟨Nat.le_refl _, Nat.le_refl _⟩ (Nat.le_of_ble_eq_true rfl) ?_
                      show E 0 0 217 [(0, .ref 169), (1, .int (nI s)), (2, .int (nI f)), (3, .int 1), (4, .int 0)] [.int (nI (16 * s + f)), .ref 178, .int (nI (16 * s + f)), .ref 180] (y_mk n L D8)
                      refine t_zaldN (e := 16 * s + f) hE y_A_178 dX11_goesBackwards_217 (hL 178 (by decide)) (by omega) (by decide) ?_
                      refine r_if_eq (tgt := 225) hE dX11_goesBackwards_218 (by decide) (fun c218 => ?_) (fun c218 => ?_)
                      · refine r_iconst (v := 0) hE dX11_goesBackwards_225 (by decide) ?_
                        refine t_zastN (e := 16 * s + f) hE y_A_180 dX11_goesBackwards_226 (hL 180 (by decide)) (by omega) (by decide) ?_
                        refine r_iincN (a := f) (b := 1) (ls2 := [(0, .ref 169), (1, .int (nI s)), (2, .int (nI (f + 1))), (3, .int 1), (4, .int 0)]) hE dX11_goesBackwards_227 rfl rfl (by decide) rfl ?_
                        refine r_goto (tgt := 67) hE dX11_goesBackwards_230 (by decide) ?_
                        refine r_locs hE (ls2 := [(0, .ref 169), (1, .int (nI s)), (2, .int (nI (f + 1)))]) ?_ (ih (16 - (f + 1)) (by omega) (f + 1) _ rfl (by omega) (y_fx_s fr (by decide)) (fun m hm h3 => ?_))
                        · simp [x_lk]
                        · rw [y_si_1]
                          by_cases c : m = 16 * s + f
                          · rw [if_pos c]
                            refine Or.inr ⟨rfl, fun q => ?_⟩
                            rcases q with q | q
                            · rw [c] at q
                              exact (y_is_0 (by rw [(fr.1 178 (by decide))]; exact gd _ (by omega))).mp c218 q.2
                            · omega
                          · rw [if_neg c]
                            exact ar m (by omega) h3
                      · refine r_iconst (v := 1) hE dX11_goesBackwards_221 (by decide) ?_
                        refine r_goto (tgt := 226) hE dX11_goesBackwards_222 (by decide) ?_
                        refine t_zastN (e := 16 * s + f) hE y_A_180 dX11_goesBackwards_226 (hL 180 (by decide)) (by omega) (by decide) ?_
                        refine r_iincN (a := f) (b := 1) (ls2 := [(0, .ref 169), (1, .int (nI s)), (2, .int (nI (f + 1))), (3, .int 1), (4, .int 0)]) hE dX11_goesBackwards_227 rfl rfl (by decide) rfl ?_
                        refine r_goto (tgt := 67) hE dX11_goesBackwards_230 (by decide) ?_
                        refine r_locs hE (ls2 := [(0, .ref 169), (1, .int (nI s)), (2, .int (nI (f + 1)))]) ?_ (ih (16 - (f + 1)) (by omega) (f + 1) _ rfl (by omega) (y_fx_s fr (by decide)) (fun m hm h3 => ?_))
                        · simp [x_lk]
                        · rw [y_si_1]
                          by_cases c : m = 16 * s + f
                          · rw [if_pos c]
                            refine Or.inl ⟨rfl, Or.inl ⟨by omega, by rw [c]; exact Classical.not_not.mp (fun q => c218 ((y_is_0 (by rw [(fr.1 178 (by decide))]; exact gd _ (by omega))).mpr q))⟩⟩
                          · rw [if_neg c]
                            exact ar m (by omega) h3
                    · refine r_iload_n hE dX11_goesBackwards_139 rfl ?_
                      refine r_if_ne (tgt := 195) hE dX11_goesBackwards_140 (by decide) (fun _ => ?_) (fun c140 => by first | exact absurd c140 (by decide) | exact absurd (by decide) c140)
                      refine r_aload_n hE dX11_goesBackwards_195 rfl ?_
                      refine t_getr hE f_X11_49 y_R_169_20 dX11_goesBackwards_196 (hL 169 (by decide)) ?_
                      refine r_iload_n hE dX11_goesBackwards_199 rfl ?_
                      refine r_iload_n hE dX11_goesBackwards_200 rfl ?_
                      refine t_invs (r := (some (.int (nI (16 * s + f))))) (S2 := (y_mk n L D8)) hE [.int (nI s), .int (nI f)] (c_at) s_yX11_at m_X11_299 dX11_goesBackwards_201 rfl (by decide) ⟨Nat.le_refl _, Nat.le_refl _⟩ (Nat.le_of_ble_eq_true rfl) ?_
                      show E 0 0 204 [(0, .ref 169), (1, .int (nI s)), (2, .int (nI f)), (3, .int 1), (4, .int 0)] [.int (nI (16 * s + f)), .ref 180] (y_mk n L D8)
                      refine r_iload_n hE dX11_goesBackwards_204 rfl ?_
                      refine r_if_eq (tgt := 225) hE dX11_goesBackwards_205 (by decide) (fun c205 => by first | exact absurd c205 (by decide) | exact absurd (by decide) c205) (fun _ => ?_)
                      refine r_aload_n hE dX11_goesBackwards_208 rfl ?_
                      refine t_getr hE f_X11_43 y_R_169_18 dX11_goesBackwards_209 (hL 169 (by decide)) ?_
                      refine r_iload_n hE dX11_goesBackwards_212 rfl ?_
                      refine r_iload_n hE dX11_goesBackwards_213 rfl ?_
                      refine t_invs (r := (some (.int (nI (16 * s + f))))) (S2 := (y_mk n L D8)) hE [.int (nI s), .int (nI f)] (c_at) s_yX11_at m_X11_299 dX11_goesBackwards_214 rfl (by decide) ⟨Nat.le_refl _, Nat.le_refl _⟩ (Nat.le_of_ble_eq_true rfl) ?_
                      show E 0 0 217 [(0, .ref 169), (1, .int (nI s)), (2, .int (nI f)), (3, .int 1), (4, .int 0)] [.int (nI (16 * s + f)), .ref 178, .int (nI (16 * s + f)), .ref 180] (y_mk n L D8)
                      refine t_zaldN (e := 16 * s + f) hE y_A_178 dX11_goesBackwards_217 (hL 178 (by decide)) (by omega) (by decide) ?_
                      refine r_if_eq (tgt := 225) hE dX11_goesBackwards_218 (by decide) (fun c218 => ?_) (fun c218 => ?_)
                      · refine r_iconst (v := 0) hE dX11_goesBackwards_225 (by decide) ?_
                        refine t_zastN (e := 16 * s + f) hE y_A_180 dX11_goesBackwards_226 (hL 180 (by decide)) (by omega) (by decide) ?_
                        refine r_iincN (a := f) (b := 1) (ls2 := [(0, .ref 169), (1, .int (nI s)), (2, .int (nI (f + 1))), (3, .int 1), (4, .int 0)]) hE dX11_goesBackwards_227 rfl rfl (by decide) rfl ?_
                        refine r_goto (tgt := 67) hE dX11_goesBackwards_230 (by decide) ?_
                        refine r_locs hE (ls2 := [(0, .ref 169), (1, .int (nI s)), (2, .int (nI (f + 1)))]) ?_ (ih (16 - (f + 1)) (by omega) (f + 1) _ rfl (by omega) (y_fx_s fr (by decide)) (fun m hm h3 => ?_))
                        · simp [x_lk]
                        · rw [y_si_1]
                          by_cases c : m = 16 * s + f
                          · rw [if_pos c]
                            refine Or.inr ⟨rfl, fun q => ?_⟩
                            rcases q with q | q
                            · rw [c] at q
                              exact (y_is_0 (by rw [(fr.1 178 (by decide))]; exact gd _ (by omega))).mp c218 q.2
                            · omega
                          · rw [if_neg c]
                            exact ar m (by omega) h3
                      · refine r_iconst (v := 1) hE dX11_goesBackwards_221 (by decide) ?_
                        refine r_goto (tgt := 226) hE dX11_goesBackwards_222 (by decide) ?_
                        refine t_zastN (e := 16 * s + f) hE y_A_180 dX11_goesBackwards_226 (hL 180 (by decide)) (by omega) (by decide) ?_
                        refine r_iincN (a := f) (b := 1) (ls2 := [(0, .ref 169), (1, .int (nI s)), (2, .int (nI (f + 1))), (3, .int 1), (4, .int 0)]) hE dX11_goesBackwards_227 rfl rfl (by decide) rfl ?_
                        refine r_goto (tgt := 67) hE dX11_goesBackwards_230 (by decide) ?_
                        refine r_locs hE (ls2 := [(0, .ref 169), (1, .int (nI s)), (2, .int (nI (f + 1)))]) ?_ (ih (16 - (f + 1)) (by omega) (f + 1) _ rfl (by omega) (y_fx_s fr (by decide)) (fun m hm h3 => ?_))
                        · simp [x_lk]
                        · rw [y_si_1]
                          by_cases c : m = 16 * s + f
                          · rw [if_pos c]
                            refine Or.inl ⟨rfl, Or.inl ⟨by omega, by rw [c]; exact Classical.not_not.mp (fun q => c218 ((y_is_0 (by rw [(fr.1 178 (by decide))]; exact gd _ (by omega))).mpr q))⟩⟩
                          · rw [if_neg c]
                            exact ar m (by omega) h3
      exact l2 0 _ (by omega) fr (fun m hm h3 => ar m (by omega) h3)
  have l0 : ∀ (i : Nat), i ≤ 16 * k + 16 → E 0 0 2 [(0, .ref 169), (1, .int (nI i))] [] (y_mk n L (y_sw D 180 (y_cp (fun _ => 0) (D 180).1 i))) := by
    intro i
    induction hm9 : (16 * k + 16 - i) using Nat.strongRecOn generalizing i with
    | _ m9 ih =>
      intro hi
      subst hm9
      refine r_iload_n hE dX11_goesBackwards_2 rfl ?_
      refine r_aload_n hE dX11_goesBackwards_3 rfl ?_
      refine t_geti hE f_X11_249 y_I_169_13 dX11_goesBackwards_4 (hL 169 (by decide)) ?_
      refine r_top (y := (nI k)) hk ?_
      refine r_bipush (v := 16) hE dX11_goesBackwards_7 (by decide) ?_
      refine t_invs (r := (some (.int (nI (16 * k + 16))))) (S2 := (y_mk n L (y_sw D 180 (y_cp (fun _ => 0) (D 180).1 i)))) hE [.int (nI k), .int 16] (c_at) s_yX11_at m_X11_299 dX11_goesBackwards_9 rfl (by decide) ⟨Nat.le_refl _, Nat.le_refl _⟩ (Nat.le_of_ble_eq_true rfl) ?_
      show E 0 0 12 [(0, .ref 169), (1, .int (nI i))] [.int (nI (16 * k + 16)), .int (nI i)] (y_mk n L (y_sw D 180 (y_cp (fun _ => 0) (D 180).1 i)))
      refine r_icmp_geN (a := i) (b := 16 * k + 16) (tgt := 28) hE dX11_goesBackwards_12 (by decide) (by omega) (by omega) (fun c12 => ?_) (fun c12 => ?_)
      · refine r_aload_n hE dX11_goesBackwards_28 rfl ?_
        refine t_getr hE f_X11_49 y_R_169_20 dX11_goesBackwards_29 (hL 169 (by decide)) ?_
        refine r_aload_n hE dX11_goesBackwards_32 rfl ?_
        refine t_geti hE f_X11_249 y_I_169_13 dX11_goesBackwards_33 (hL 169 (by decide)) ?_
        refine r_top (y := (nI k)) hk ?_
        refine r_iconst (v := 0) hE dX11_goesBackwards_36 (by decide) ?_
        refine t_invs (r := (some (.int (nI (16 * k + 0))))) (S2 := (y_mk n L (y_sw D 180 (y_cp (fun _ => 0) (D 180).1 i)))) hE [.int (nI k), .int 0] (c_at) s_yX11_at m_X11_299 dX11_goesBackwards_37 rfl (by decide) ⟨Nat.le_refl _, Nat.le_refl _⟩ (Nat.le_of_ble_eq_true rfl) ?_
        show E 0 0 40 [(0, .ref 169), (1, .int (nI i))] [.int (nI (16 * k + 0)), .ref 180] (y_mk n L (y_sw D 180 (y_cp (fun _ => 0) (D 180).1 i)))
        refine r_aload_n hE dX11_goesBackwards_40 rfl ?_
        refine t_getr hE f_X11_43 y_R_169_18 dX11_goesBackwards_41 (hL 169 (by decide)) ?_
        refine r_aload_n hE dX11_goesBackwards_44 rfl ?_
        refine t_geti hE f_X11_249 y_I_169_13 dX11_goesBackwards_45 (hL 169 (by decide)) ?_
        refine r_top (y := (nI k)) hk ?_
        refine r_iconst (v := 0) hE dX11_goesBackwards_48 (by decide) ?_
        refine t_invs (r := (some (.int (nI (16 * k + 0))))) (S2 := (y_mk n L (y_sw D 180 (y_cp (fun _ => 0) (D 180).1 i)))) hE [.int (nI k), .int 0] (c_at) s_yX11_at m_X11_299 dX11_goesBackwards_49 rfl (by decide) ⟨Nat.le_refl _, Nat.le_refl _⟩ (Nat.le_of_ble_eq_true rfl) ?_
        show E 0 0 52 [(0, .ref 169), (1, .int (nI i))] [.int (nI (16 * k + 0)), .ref 178, .int (nI (16 * k + 0)), .ref 180] (y_mk n L (y_sw D 180 (y_cp (fun _ => 0) (D 180).1 i)))
        refine t_zaldN (e := 16 * k + 0) hE y_A_178 dX11_goesBackwards_52 (hL 178 (by decide)) (by omega) (by decide) ?_
        refine r_top (y := (D 178).1 (16 * k + 0)) rfl ?_
        refine t_zastN (e := 16 * k + 0) hE y_A_180 dX11_goesBackwards_53 (hL 180 (by decide)) (by omega) (by decide) ?_
        refine r_aload_n hE dX11_goesBackwards_54 rfl ?_
        refine t_geti hE f_X11_249 y_I_169_13 dX11_goesBackwards_55 (hL 169 (by decide)) ?_
        refine r_top (y := (nI k)) (by rw [y_si_ne (by decide), y_sw_ne (by decide)]; exact hk) ?_
        refine r_iconst (v := 1) hE dX11_goesBackwards_58 (by decide) ?_
        refine r_isub hE dX11_goesBackwards_59 ?_
        refine r_top (y := (y_dn k)) (y_dn_k k) ?_
        refine r_istore_n (ls2 := [(0, .ref 169), (1, .int (y_dn k))]) hE dX11_goesBackwards_60 (by decide) rfl ?_
        refine l1 k _ (by omega) (y_fx_s (y_fx_w y_fx_r (by decide)) (by decide)) (fun m hm h3 => ?_)
        rw [y_si_1, y_sw_1]
        have g9 : (D 178).1 (16 * k + 0) = 1 := by
          rcases gd (16 * k + 0) (by omega) with h | h
          · exact h.1
          · exact absurd (hG0 k (by omega)) h.2
        by_cases c : m = 16 * k + 0
        · rw [if_pos c]
          refine Or.inl ⟨?_, Or.inr (by omega)⟩
          rw [g9]
          rfl
        · rw [if_neg c]
          unfold y_cp
          rw [if_pos (by omega)]
          exact Or.inr ⟨rfl, fun q => by rcases q with q | q <;> omega⟩
      · refine r_aload_n hE dX11_goesBackwards_15 rfl ?_
        refine t_getr hE f_X11_49 y_R_169_20 dX11_goesBackwards_16 (hL 169 (by decide)) ?_
        refine r_iload_n hE dX11_goesBackwards_19 rfl ?_
        refine r_iconst (v := 0) hE dX11_goesBackwards_20 (by decide) ?_
        refine t_zastN (e := i) hE y_A_180 dX11_goesBackwards_21 (hL 180 (by decide)) (by omega) (by decide) ?_
        refine r_iincN (a := i) (b := 1) (ls2 := [(0, .ref 169), (1, .int (nI (i + 1)))]) hE dX11_goesBackwards_22 rfl rfl (by decide) rfl ?_
        refine r_goto (tgt := 2) hE dX11_goesBackwards_25 (by decide) ?_
        rw [y_si_sw, y_nb0, y_cp_s (f := fun _ => 0)]
        exact ih (16 * k + 16 - (i + 1)) (by omega) (i + 1) rfl (by omega)
  refine r_iconst (v := 0) hE dX11_goesBackwards_0 (by decide) ?_
  refine r_istore_n (ls2 := [(0, .ref 169), (1, .int 0)]) hE dX11_goesBackwards_1 (by decide) rfl ?_
  have h0 := l0 0 (by omega)
  rw [y_cp_0, y_sw_self] at h0
  exact h0
def m_C (D : y_D) (u hl : Int32) (k : Nat) : Nat → Nat → Nat → Prop := m_CG (D 170).1 u k (m_G0 D) (m_Q D hl)
/-- what can be met with LIMBS free at a second -/
def m_me (D : y_D) (u hl : Int32) (k kw m : Nat) : Prop := m_on (m_C D u hl k) (D 170).1 kw (m_G0 D) k m ∧ m_BB k (m_G0 D) m
def m_M7 (D D2 : y_D) (u : Int32) : Prop := y_fx [169, 177, 178, 179, 180, 181, 182] D D2 ∧ (∀ k, k ≠ 23 → (D2 169).1 k = (D 169).1 k) ∧ (D2 169).1 23 = u
theorem m_M7_s {D D2 : y_D} {u : Int32} {k : Nat} {v : Int32} (a : m_M7 D D2 u) : m_M7 D (y_si D2 181 k v) u := by
  refine ⟨y_fx_s a.1 (by decide), fun j hj => ?_, ?_⟩
  · rw [y_si_ne (by omega)]; exact a.2.1 j hj
  · rw [y_si_ne (by omega)]; exact a.2.2
theorem m_MP_7 {D D2 : y_D} {u : Int32} (a : m_MP D D2 u) : m_M7 D D2 u := ⟨y_fx_m a.1 (by decide), a.2.1, a.2.2⟩
theorem m_M7_f {D D2 D3 : y_D} {u : Int32} {h : Nat} (a : m_M7 D D2 u) (b : y_fx [h] D2 D3) (hh : h = 179 ∨ h = 180) : m_M7 D D3 u := by
  have hn : 169 ∉ [h] := by simp only [List.mem_singleton]; omega
  refine ⟨y_fx_t a.1 (y_fx_m b (by intro j hj; simp only [List.mem_cons, List.not_mem_nil, or_false] at hj ⊢; omega)), fun j hj => ?_, ?_⟩
  · rw [b.1 169 hn]; exact a.2.1 j hj
  · rw [b.1 169 hn]; exact a.2.2
theorem m_G0_fx {D D2 : y_D} (h : D2 174 = D 174) : m_G0 D2 = m_G0 D := by funext m; unfold m_G0; rw [h]
/-- what meets knows when it has gone onwards and backwards -/
def m_S (D D2 : y_D) (u hl : Int32) (k kw : Nat) : Prop := m_M7 D D2 u ∧ (∀ m, m < 16 * (k + 1) → y_is ((D2 178).1 m) (m_G0 D m)) ∧ (∀ w, w < kw → y_bit u w → ∀ f, f < 16 → ∀ s, s ≤ k + 1 → ∃ c, (D2 182).1 ((16 * w + f) * 302 + s) = nI c ∧ m_rl (m_Q D hl w f) k s c) ∧ (∀ m, m < 16 * (k + 1) → y_is ((D2 179).1 m) (m_on (m_C D u hl k) (D 170).1 kw (m_G0 D) k m)) ∧ ∀ m, m < 16 * (k + 1) → y_is ((D2 180).1 m) (m_BB k (m_G0 D) m)
theorem m_S_s {D D2 : y_D} {u hl : Int32} {k kw e : Nat} {v : Int32} (a : m_S D D2 u hl k kw) : m_S D (y_si D2 181 e v) u hl k kw := by
  obtain ⟨h1, h2, h3, h4, h5⟩ := a
  refine ⟨m_M7_s h1, ?_, ?_, ?_, ?_⟩ <;> rw [y_si_ne (by decide)] <;> assumption
theorem c_meets {V : x_E} {n : Nat} {L : List Nat} {D : y_D} {k kw : Nat} {u hl : Int32} (hL : y_ok L) (hk : (D 169).1 13 = nI k) (hk3 : k ≤ 300) (hw2 : (D 170).1 2 = nI kw) (hkw : kw ≤ 6) (hww : ∀ w, w < kw → m_ww (D 170).1 (4 + w)) (hh : ∀ l, l < 4 → m_hd ((D 175).1 l)) : y_Rv V yX11_meets cX11_meets 9 none 7 [.ref 169, .int u, .int hl] n L D (fun D2 => m_M7 D D2 (u &&& (nI (2 ^ kw) - 1)) ∧ ∀ m, m < 16 * (k + 1) → y_is ((D2 181).1 m) (m_me D (u &&& (nI (2 ^ kw) - 1)) hl k kw m)) := by
  refine y_rv (by decide) (Nat.le_of_ble_eq_true rfl) (fun E hE => ?_)
  change E 0 0 0 [(0, .ref 169), (1, .int u), (2, .int hl)] [] (y_mk n L D)
  have l1 : ∀ (s : Nat) (D8 : y_D), s ≤ k → m_S D D8 (u &&& (nI (2 ^ kw) - 1)) hl k kw → (∀ m, m < 16 * (k + 1) → y_is ((D8 181).1 m) (m_me D (u &&& (nI (2 ^ kw) - 1)) hl k kw m)) → E 0 0 78 [(0, .ref 169), (1, .int u), (2, .int hl), (3, .int 1), (4, .int (nI s))] [] (y_mk n L D8) := by
    intro s D8
    induction hm9 : (k - s) using Nat.strongRecOn generalizing s D8 with
    | _ m9 ih =>
      intro hs sg mt
      subst hm9
      refine r_iload hE dX11_meets_78 rfl ?_
      refine r_aload_n hE dX11_meets_80 rfl ?_
      refine t_geti hE f_X11_249 y_I_169_13 dX11_meets_81 (hL 169 (by decide)) ?_
      refine r_top (y := (nI k)) (by rw [sg.1.2.1 13 (by decide)]; exact hk) ?_
      refine r_icmp_geN (a := s) (b := k) (tgt := 231) hE dX11_meets_84 (by decide) (by omega) (by omega) (fun c84 => ?_) (fun c84 => ?_)
      · refine r_return hE dX11_meets_231 rfl (Nat.zero_le _) (Nat.zero_le _) ?_
        exact ⟨_, rfl, rfl, sg.1, mt⟩
      · refine r_iconst (v := 0) hE dX11_meets_87 (by decide) ?_
        refine r_istore (ls2 := [(0, .ref 169), (1, .int u), (2, .int hl), (3, .int 1), (4, .int (nI s)), (5, .int 0)]) hE dX11_meets_88 (by decide) rfl ?_
        have ihs := ih
        have l2 : ∀ (f : Nat) (D8 : y_D), f ≤ 16 → m_S D D8 (u &&& (nI (2 ^ kw) - 1)) hl k kw → (∀ m, m < 16 * (k + 1) → y_is ((D8 181).1 m) (m_me D (u &&& (nI (2 ^ kw) - 1)) hl k kw m)) → E 0 0 90 [(0, .ref 169), (1, .int u), (2, .int hl), (3, .int 1), (4, .int (nI s)), (5, .int (nI f))] [] (y_mk n L D8) := by
          intro f D8
          induction hm9 : (16 - f) using Nat.strongRecOn generalizing f D8 with
          | _ m9 ih =>
            intro hf0 sg mt
            subst hm9
            refine r_iload hE dX11_meets_90 rfl ?_
            refine r_bipush (v := 16) hE dX11_meets_92 (by decide) ?_
            refine r_icmp_geN (a := f) (b := 16) (tgt := 225) hE dX11_meets_94 (by decide) (by omega) (by decide) (fun c94 => ?_) (fun c94 => ?_)
            · refine r_iincN (a := s) (b := 1) (ls2 := [(0, .ref 169), (1, .int u), (2, .int hl), (3, .int 1), (4, .int (nI (s + 1))), (5, .int (nI f))]) hE dX11_meets_225 rfl rfl (by decide) rfl ?_
              refine r_goto (tgt := 78) hE dX11_meets_228 (by decide) ?_
              refine r_locs hE (ls2 := [(0, .ref 169), (1, .int u), (2, .int hl), (3, .int 1), (4, .int (nI (s + 1)))]) ?_ (ihs (k - (s + 1)) (by omega) (s + 1) _ rfl (by omega) sg mt)
              simp [x_lk]
            · refine r_aload_n hE dX11_meets_97 rfl ?_
              refine t_getr hE f_X11_46 y_R_169_19 dX11_meets_98 (hL 169 (by decide)) ?_
              refine r_iload hE dX11_meets_101 rfl ?_
              refine r_iload hE dX11_meets_103 rfl ?_
              refine t_invs (r := (some (.int (nI (16 * s + f))))) (S2 := (y_mk n L D8)) hE [.int (nI s), .int (nI f)] (c_at) s_yX11_at m_X11_299 dX11_meets_105 rfl (by decide) ⟨Nat.le_refl _, Nat.le_refl _⟩ (Nat.le_of_ble_eq_true rfl) ?_
              show E 0 0 108 [(0, .ref 169), (1, .int u), (2, .int hl), (3, .int 1), (4, .int (nI s)), (5, .int (nI f))] [.int (nI (16 * s + f)), .ref 179] (y_mk n L D8)
              refine t_zaldN (e := 16 * s + f) hE y_A_179 dX11_meets_108 (hL 179 (by decide)) (by omega) (by decide) ?_
              refine r_if_ne (tgt := 115) hE dX11_meets_109 (by decide) (fun c109 => ?_) (fun c109 => ?_)
              · refine r_iconst (v := 0) hE dX11_meets_115 (by decide) ?_
                refine r_istore (ls2 := [(0, .ref 169), (1, .int u), (2, .int hl), (3, .int 1), (4, .int (nI s)), (5, .int (nI f)), (6, .int 0)]) hE dX11_meets_116 (by decide) rfl ?_
                have ihf := ih
                have hf : f < 16 := by omega
                have hon : m_on (m_C D (u &&& (nI (2 ^ kw) - 1)) hl k) (D 170).1 kw (m_G0 D) k (16 * s + f) := Classical.not_not.mp (fun q => c109 ((y_is_0 (sg.2.2.2.1 _ (by omega))).mpr q))
                have l3 : ∀ (w : Nat) (D8 : y_D), w ≤ kw → m_S D D8 (u &&& (nI (2 ^ kw) - 1)) hl k kw → (∀ m, m < 16 * (k + 1) → y_is ((D8 181).1 m) (m_me D (u &&& (nI (2 ^ kw) - 1)) hl k kw m)) → E 0 0 118 [(0, .ref 169), (1, .int u), (2, .int hl), (3, .int 1), (4, .int (nI s)), (5, .int (nI f)), (6, .int (nI w))] [] (y_mk n L D8) := by
                  intro w D8
                  induction hm9 : (kw - w) using Nat.strongRecOn generalizing w D8 with
                  | _ m9 ih =>
                    intro hw sg mt
                    subst hm9
                    refine r_iload hE dX11_meets_118 rfl ?_
                    refine r_aload_n hE dX11_meets_120 rfl ?_
                    refine t_getr hE f_X11_13 y_R_169_1 dX11_meets_121 (hL 169 (by decide)) ?_
                    refine r_iconst (v := 2) hE dX11_meets_124 (by decide) ?_
                    refine t_ialdN (e := 2) hE y_A_170 dX11_meets_125 (hL 170 (by decide)) (by omega) (by decide) ?_
                    refine r_top (y := (nI kw)) (by rw [(sg.1.1.1 170 (by decide))]; exact hw2) ?_
                    refine r_icmp_geN (a := w) (b := kw) (tgt := 219) hE dX11_meets_126 (by decide) (by omega) (by omega) (fun c126 => ?_) (fun c126 => ?_)
                    · refine r_iincN (a := f) (b := 1) (ls2 := [(0, .ref 169), (1, .int u), (2, .int hl), (3, .int 1), (4, .int (nI s)), (5, .int (nI (f + 1))), (6, .int (nI w))]) hE dX11_meets_219 rfl rfl (by decide) rfl ?_
                      refine r_goto (tgt := 90) hE dX11_meets_222 (by decide) ?_
                      refine r_locs hE (ls2 := [(0, .ref 169), (1, .int u), (2, .int hl), (3, .int 1), (4, .int (nI s)), (5, .int (nI (f + 1)))]) ?_ (ihf (16 - (f + 1)) (by omega) (f + 1) _ rfl (by omega) sg mt)
                      simp [x_lk]
                    · refine r_aload_n hE dX11_meets_129 rfl ?_
                      refine r_iload hE dX11_meets_130 rfl ?_
                      refine r_iconst (v := 1) hE dX11_meets_132 (by decide) ?_
                      refine r_iconst (v := 1) hE dX11_meets_133 (by decide) ?_
                      refine t_invv (r := (some (.int (nI (m_take (D8 170).1 w))))) (S2 := (y_mk n L D8)) hE [.int (nI w), .int 1, .int 1] (c_lastOf (D := D8) (w := w) (c := 1) (dd := 1) hL (by omega) (by rw [(sg.1.1.1 170 (by decide))]; exact hww _ (by omega)) (by decide)) v_yX11_lastOf m_X11_288 dX11_meets_134 rfl (hL 169 (by decide)) (y_l_169 (D8 169)) rfl (by decide) ⟨Nat.le_refl _, Nat.le_refl _⟩ (Nat.le_of_ble_eq_true rfl) ?_
                      show E 0 0 137 [(0, .ref 169), (1, .int u), (2, .int hl), (3, .int 1), (4, .int (nI s)), (5, .int (nI f)), (6, .int (nI w))] [.int (nI (m_take (D8 170).1 w))] (y_mk n L D8)
                      refine r_top (y := (nI (m_take (D 170).1 w))) (by rw [(sg.1.1.1 170 (by decide))]) ?_
                      refine r_istore (ls2 := [(0, .ref 169), (1, .int u), (2, .int hl), (3, .int 1), (4, .int (nI s)), (5, .int (nI f)), (6, .int (nI w)), (7, .int (nI (m_take (D 170).1 w)))]) hE dX11_meets_137 (by decide) rfl ?_
                      refine r_aload_n hE dX11_meets_139 rfl ?_
                      refine r_iload hE dX11_meets_140 rfl ?_
                      refine r_iload hE dX11_meets_142 rfl ?_
                      refine r_iload hE dX11_meets_144 rfl ?_
                      refine t_invvRi hE [.int (nI w), .int (nI s), .int (nI f)] (c_canGo (D := D8) (k := k) (kw := kw) (u := (u &&& (nI (2 ^ kw) - 1))) (G := m_G0 D) (Q := m_Q D hl) (w := w) (x := s) (f := f) hL (by rw [sg.1.2.1 13 (by decide)]; exact hk) hk3 (by rw [(sg.1.1.1 170 (by decide))]; exact hw2) hkw (by rw [(sg.1.1.1 170 (by decide))]; exact hww) sg.1.2.2 sg.2.1 sg.2.2.1 (by omega) (by omega) (by omega)) v_yX11_canGo m_X11_314 dX11_meets_146 rfl (hL 169 (by decide)) (y_l_169 (D8 169)) rfl (by decide) ⟨Nat.le_refl _, Nat.le_refl _⟩ (Nat.le_of_ble_eq_true rfl) (fun v9 D9 q9 => ?_)
                      obtain ⟨q9, hD9⟩ := q9
                      rw [hD9]
                      rw [(sg.1.1.1 170 (by decide))] at q9
                      show E 0 0 149 [(0, .ref 169), (1, .int u), (2, .int hl), (3, .int 1), (4, .int (nI s)), (5, .int (nI f)), (6, .int (nI w)), (7, .int (nI (m_take (D 170).1 w)))] [.int v9] (y_mk n L D8)
                      refine r_if_eq (tgt := 213) hE dX11_meets_149 (by decide) (fun c149 => ?_) (fun c149 => ?_)
                      · refine r_iincN (a := w) (b := 1) (ls2 := [(0, .ref 169), (1, .int u), (2, .int hl), (3, .int 1), (4, .int (nI s)), (5, .int (nI f)), (6, .int (nI (w + 1))), (7, .int (nI (m_take (D 170).1 w)))]) hE dX11_meets_213 rfl rfl (by decide) rfl ?_
                        refine r_goto (tgt := 118) hE dX11_meets_216 (by decide) ?_
                        refine r_locs hE (ls2 := [(0, .ref 169), (1, .int u), (2, .int hl), (3, .int 1), (4, .int (nI s)), (5, .int (nI f)), (6, .int (nI (w + 1)))]) ?_ (ih (kw - (w + 1)) (by omega) (w + 1) _ rfl (by omega) sg mt)
                        simp [x_lk]
                      · have g3 : m_C D (u &&& (nI (2 ^ kw) - 1)) hl k w s f := Classical.not_not.mp (fun q => c149 ((y_is_0 q9).mpr q))
                        have g4 := g3.2.2.1
                        have hfr : m_frees (D 170).1 w < 16 := m_frees_b (hww w (by omega))
                        have hor : f ||| m_frees (D 170).1 w < 16 := Nat.or_lt_two_pow (n := 4) hf hfr
                        have htk : m_take (D 170).1 w ≤ 60 := m_take_b (hww w (by omega))
                        refine r_aload_n hE dX11_meets_152 rfl ?_
                        refine t_getr hE f_X11_49 y_R_169_20 dX11_meets_153 (hL 169 (by decide)) ?_
                        refine r_iload hE dX11_meets_156 rfl ?_
                        refine r_iload hE dX11_meets_158 rfl ?_
                        refine r_iaddN (a := s) (b := m_take (D 170).1 w) hE dX11_meets_160 ?_
                        refine r_iload hE dX11_meets_161 rfl ?_
                        refine r_aload_n hE dX11_meets_163 rfl ?_
                        refine r_iload hE dX11_meets_164 rfl ?_
                        refine t_invv (r := (some (.int (nI (m_frees (D8 170).1 w))))) (S2 := (y_mk n L D8)) hE [.int (nI w)] (c_freedBy (D := D8) (w := w) hL (by omega) (by rw [(sg.1.1.1 170 (by decide))]; exact hww _ (by omega))) v_yX11_freedBy m_X11_311 dX11_meets_166 rfl (hL 169 (by decide)) (y_l_169 (D8 169)) rfl (by decide) ⟨Nat.le_refl _, Nat.le_refl _⟩ (Nat.le_of_ble_eq_true rfl) ?_
                        show E 0 0 169 [(0, .ref 169), (1, .int u), (2, .int hl), (3, .int 1), (4, .int (nI s)), (5, .int (nI f)), (6, .int (nI w)), (7, .int (nI (m_take (D 170).1 w)))] [.int (nI (m_frees (D8 170).1 w)), .int (nI f), .int (nI (s + (m_take (D 170).1 w))), .ref 180] (y_mk n L D8)
                        refine r_top (y := (nI (m_frees (D 170).1 w))) (by rw [(sg.1.1.1 170 (by decide))]) ?_
                        refine r_ior hE dX11_meets_169 ?_
                        refine r_top (y := (nI (f ||| m_frees (D 170).1 w))) (y_orN _ hf _ hfr) ?_
                        refine t_invs (r := (some (.int (nI (16 * (s + (m_take (D 170).1 w)) + (f ||| m_frees (D 170).1 w)))))) (S2 := (y_mk n L D8)) hE [.int (nI (s + (m_take (D 170).1 w))), .int (nI (f ||| m_frees (D 170).1 w))] (c_at) s_yX11_at m_X11_299 dX11_meets_170 rfl (by decide) ⟨Nat.le_refl _, Nat.le_refl _⟩ (Nat.le_of_ble_eq_true rfl) ?_
                        show E 0 0 173 [(0, .ref 169), (1, .int u), (2, .int hl), (3, .int 1), (4, .int (nI s)), (5, .int (nI f)), (6, .int (nI w)), (7, .int (nI (m_take (D 170).1 w)))] [.int (nI (16 * (s + (m_take (D 170).1 w)) + (f ||| m_frees (D 170).1 w))), .ref 180] (y_mk n L D8)
                        refine t_zaldN (e := 16 * (s + (m_take (D 170).1 w)) + (f ||| m_frees (D 170).1 w)) hE y_A_180 dX11_meets_173 (hL 180 (by decide)) (by omega) (by decide) ?_
                        refine r_if_ne (tgt := 180) hE dX11_meets_174 (by decide) (fun c174 => ?_) (fun c174 => ?_)
                        · refine r_iload hE dX11_meets_180 rfl ?_
                          refine r_istore (ls2 := [(0, .ref 169), (1, .int u), (2, .int hl), (3, .int 1), (4, .int (nI s)), (5, .int (nI f)), (6, .int (nI w)), (7, .int (nI (m_take (D 170).1 w))), (8, .int (nI s))]) hE dX11_meets_182 (by decide) rfl ?_
                          have ihw := ih
                          have l4 : ∀ (x : Nat) (D8 : y_D), s ≤ x ∧ x ≤ s + m_take (D 170).1 w → m_S D D8 (u &&& (nI (2 ^ kw) - 1)) hl k kw → (∀ m, m < 16 * (k + 1) → y_is ((D8 181).1 m) (m_me D (u &&& (nI (2 ^ kw) - 1)) hl k kw m)) → E 0 0 184 [(0, .ref 169), (1, .int u), (2, .int hl), (3, .int 1), (4, .int (nI s)), (5, .int (nI f)), (6, .int (nI w)), (7, .int (nI (m_take (D 170).1 w))), (8, .int (nI x))] [] (y_mk n L D8) := by
                            intro x D8
                            induction hm9 : (s + m_take (D 170).1 w - x) using Nat.strongRecOn generalizing x D8 with
                            | _ m9 ih =>
                              intro hx sg mt
                              subst hm9
                              refine r_iload hE dX11_meets_184 rfl ?_
                              refine r_iload hE dX11_meets_186 rfl ?_
                              refine r_iload hE dX11_meets_188 rfl ?_
                              refine r_iaddN (a := s) (b := m_take (D 170).1 w) hE dX11_meets_190 ?_
                              refine r_icmp_geN (a := x) (b := s + (m_take (D 170).1 w)) (tgt := 213) hE dX11_meets_191 (by decide) (by omega) (by omega) (fun c191 => ?_) (fun c191 => ?_)
                              · refine r_iincN (a := w) (b := 1) (ls2 := [(0, .ref 169), (1, .int u), (2, .int hl), (3, .int 1), (4, .int (nI s)), (5, .int (nI f)), (6, .int (nI (w + 1))), (7, .int (nI (m_take (D 170).1 w))), (8, .int (nI x))]) hE dX11_meets_213 rfl rfl (by decide) rfl ?_
                                refine r_goto (tgt := 118) hE dX11_meets_216 (by decide) ?_
                                refine r_locs hE (ls2 := [(0, .ref 169), (1, .int u), (2, .int hl), (3, .int 1), (4, .int (nI s)), (5, .int (nI f)), (6, .int (nI (w + 1)))]) ?_ (ihw (kw - (w + 1)) (by omega) (w + 1) _ rfl (by omega) sg mt)
                                simp [x_lk]
                              · refine r_aload_n hE dX11_meets_194 rfl ?_
                                refine t_getr hE f_X11_52 y_R_169_21 dX11_meets_195 (hL 169 (by decide)) ?_
                                refine r_iload hE dX11_meets_198 rfl ?_
                                refine r_iload hE dX11_meets_200 rfl ?_
                                refine t_invs (r := (some (.int (nI (16 * x + f))))) (S2 := (y_mk n L D8)) hE [.int (nI x), .int (nI f)] (c_at) s_yX11_at m_X11_299 dX11_meets_202 rfl (by decide) ⟨Nat.le_refl _, Nat.le_refl _⟩ (Nat.le_of_ble_eq_true rfl) ?_
                                show E 0 0 205 [(0, .ref 169), (1, .int u), (2, .int hl), (3, .int 1), (4, .int (nI s)), (5, .int (nI f)), (6, .int (nI w)), (7, .int (nI (m_take (D 170).1 w))), (8, .int (nI x))] [.int (nI (16 * x + f)), .ref 181] (y_mk n L D8)
                                refine r_iconst (v := 1) hE dX11_meets_205 (by decide) ?_
                                refine t_zastN (e := 16 * x + f) hE y_A_181 dX11_meets_206 (hL 181 (by decide)) (by omega) (by decide) ?_
                                refine r_iincN (a := x) (b := 1) (ls2 := [(0, .ref 169), (1, .int u), (2, .int hl), (3, .int 1), (4, .int (nI s)), (5, .int (nI f)), (6, .int (nI w)), (7, .int (nI (m_take (D 170).1 w))), (8, .int (nI (x + 1)))]) hE dX11_meets_207 rfl rfl (by decide) rfl ?_
                                refine r_goto (tgt := 184) hE dX11_meets_210 (by decide) ?_
                                refine ih (s + m_take (D 170).1 w - (x + 1)) (by omega) (x + 1) _ rfl (by omega) (m_S_s sg) (fun m hm => ?_)
                                rw [y_si_s]
                                refine y_is_imp (y_isup1 mt m hm) ⟨fun q => q.elim id (fun q => ?_), Or.inl⟩
                                rw [q]
                                have e9 : x = s + (x - s) := by omega
                                have h9 := m_on_stay (fun w hw => m_take_1 (hww w hw)) hf hon (d := x - s) (by omega) (fun y h1 h2 => (g3.2.2.2.1 y h1 (by omega)).2)
                                rw [← e9] at h9
                                exact ⟨h9, Or.inl ⟨by omega, (g3.2.2.2.1 x (by omega) (by omega)).2⟩⟩
                          exact l4 s _ (by omega) sg mt
                        · refine r_goto (tgt := 213) hE dX11_meets_177 (by decide) ?_
                          refine r_iincN (a := w) (b := 1) (ls2 := [(0, .ref 169), (1, .int u), (2, .int hl), (3, .int 1), (4, .int (nI s)), (5, .int (nI f)), (6, .int (nI (w + 1))), (7, .int (nI (m_take (D 170).1 w)))]) hE dX11_meets_213 rfl rfl (by decide) rfl ?_
                          refine r_goto (tgt := 118) hE dX11_meets_216 (by decide) ?_
                          refine r_locs hE (ls2 := [(0, .ref 169), (1, .int u), (2, .int hl), (3, .int 1), (4, .int (nI s)), (5, .int (nI f)), (6, .int (nI (w + 1)))]) ?_ (ih (kw - (w + 1)) (by omega) (w + 1) _ rfl (by omega) sg mt)
                          simp [x_lk]
                exact l3 0 _ (by omega) sg mt
              · refine r_goto (tgt := 219) hE dX11_meets_112 (by decide) ?_
                refine r_iincN (a := f) (b := 1) (ls2 := [(0, .ref 169), (1, .int u), (2, .int hl), (3, .int 1), (4, .int (nI s)), (5, .int (nI (f + 1)))]) hE dX11_meets_219 rfl rfl (by decide) rfl ?_
                refine r_goto (tgt := 90) hE dX11_meets_222 (by decide) ?_
                refine r_locs hE (ls2 := [(0, .ref 169), (1, .int u), (2, .int hl), (3, .int 1), (4, .int (nI s)), (5, .int (nI (f + 1)))]) ?_ (ih (16 - (f + 1)) (by omega) (f + 1) _ rfl (by omega) sg mt)
                simp [x_lk]
        exact l2 0 _ (by omega) sg mt
  have lA : ∀ (i : Nat) (D8 : y_D), i ≤ 16 * k + 16 → m_S D D8 (u &&& (nI (2 ^ kw) - 1)) hl k kw → (∀ m, m < i → y_is ((D8 181).1 m) (m_me D (u &&& (nI (2 ^ kw) - 1)) hl k kw m)) → E 0 0 19 [(0, .ref 169), (1, .int u), (2, .int hl), (3, .int 1), (4, .int (nI i))] [] (y_mk n L D8) := by
    intro i D8
    induction hm9 : (16 * k + 16 - i) using Nat.strongRecOn generalizing i D8 with
    | _ m9 ih =>
      intro hi sg mt
      subst hm9
      refine r_iload hE dX11_meets_19 rfl ?_
      refine r_aload_n hE dX11_meets_21 rfl ?_
      refine t_geti hE f_X11_249 y_I_169_13 dX11_meets_22 (hL 169 (by decide)) ?_
      refine r_top (y := (nI k)) (by rw [sg.1.2.1 13 (by decide)]; exact hk) ?_
      refine r_bipush (v := 16) hE dX11_meets_25 (by decide) ?_
      refine t_invs (r := (some (.int (nI (16 * k + 16))))) (S2 := (y_mk n L D8)) hE [.int (nI k), .int 16] (c_at) s_yX11_at m_X11_299 dX11_meets_27 rfl (by decide) ⟨Nat.le_refl _, Nat.le_refl _⟩ (Nat.le_of_ble_eq_true rfl) ?_
      show E 0 0 30 [(0, .ref 169), (1, .int u), (2, .int hl), (3, .int 1), (4, .int (nI i))] [.int (nI (16 * k + 16)), .int (nI i)] (y_mk n L D8)
      refine r_icmp_geN (a := i) (b := 16 * k + 16) (tgt := 75) hE dX11_meets_30 (by decide) (by omega) (by omega) (fun c30 => ?_) (fun c30 => ?_)
      · refine r_iconst (v := 0) hE dX11_meets_75 (by decide) ?_
        refine r_istore (ls2 := [(0, .ref 169), (1, .int u), (2, .int hl), (3, .int 1), (4, .int 0)]) hE dX11_meets_76 (by decide) rfl ?_
        exact l1 0 _ (by omega) sg (fun m hm => mt m (by omega))
      · refine r_aload_n hE dX11_meets_33 rfl ?_
        refine t_getr hE f_X11_52 y_R_169_21 dX11_meets_34 (hL 169 (by decide)) ?_
        refine r_iload hE dX11_meets_37 rfl ?_
        refine r_iload_n hE dX11_meets_39 rfl ?_
        refine r_if_eq (tgt := 67) hE dX11_meets_40 (by decide) (fun c40 => by first | exact absurd c40 (by decide) | exact absurd (by decide) c40) (fun _ => ?_)
        refine r_aload_n hE dX11_meets_43 rfl ?_
        refine t_getr hE f_X11_46 y_R_169_19 dX11_meets_44 (hL 169 (by decide)) ?_
        refine r_iload hE dX11_meets_47 rfl ?_
        refine t_zaldN (e := i) hE y_A_179 dX11_meets_49 (hL 179 (by decide)) (by omega) (by decide) ?_
        refine r_if_eq (tgt := 67) hE dX11_meets_50 (by decide) (fun c50 => ?_) (fun c50 => ?_)
        · refine r_iconst (v := 0) hE dX11_meets_67 (by decide) ?_
          refine t_zastN (e := i) hE y_A_181 dX11_meets_68 (hL 181 (by decide)) (by omega) (by decide) ?_
          refine r_iincN (a := i) (b := 1) (ls2 := [(0, .ref 169), (1, .int u), (2, .int hl), (3, .int 1), (4, .int (nI (i + 1)))]) hE dX11_meets_69 rfl rfl (by decide) rfl ?_
          refine r_goto (tgt := 19) hE dX11_meets_72 (by decide) ?_
          refine ih (16 * k + 16 - (i + 1)) (by omega) (i + 1) _ rfl (by omega) (m_S_s sg) (fun m hm => ?_)
          rw [y_si_1]
          by_cases c : m = i
          · rw [if_pos c, c]
            refine Or.inr ⟨rfl, fun q => ?_⟩
            first
            | exact (y_is_0 (sg.2.2.2.2 i (by omega))).mp c60 q.2
            | exact (y_is_0 (sg.2.2.2.1 i (by omega))).mp c50 q.1
          · rw [if_neg c]
            exact mt m (by omega)
        · refine r_aload_n hE dX11_meets_53 rfl ?_
          refine t_getr hE f_X11_49 y_R_169_20 dX11_meets_54 (hL 169 (by decide)) ?_
          refine r_iload hE dX11_meets_57 rfl ?_
          refine t_zaldN (e := i) hE y_A_180 dX11_meets_59 (hL 180 (by decide)) (by omega) (by decide) ?_
          refine r_if_eq (tgt := 67) hE dX11_meets_60 (by decide) (fun c60 => ?_) (fun c60 => ?_)
          · refine r_iconst (v := 0) hE dX11_meets_67 (by decide) ?_
            refine t_zastN (e := i) hE y_A_181 dX11_meets_68 (hL 181 (by decide)) (by omega) (by decide) ?_
            refine r_iincN (a := i) (b := 1) (ls2 := [(0, .ref 169), (1, .int u), (2, .int hl), (3, .int 1), (4, .int (nI (i + 1)))]) hE dX11_meets_69 rfl rfl (by decide) rfl ?_
            refine r_goto (tgt := 19) hE dX11_meets_72 (by decide) ?_
            refine ih (16 * k + 16 - (i + 1)) (by omega) (i + 1) _ rfl (by omega) (m_S_s sg) (fun m hm => ?_)
            rw [y_si_1]
            by_cases c : m = i
            · rw [if_pos c, c]
              refine Or.inr ⟨rfl, fun q => ?_⟩
              first
              | exact (y_is_0 (sg.2.2.2.2 i (by omega))).mp c60 q.2
              | exact (y_is_0 (sg.2.2.2.1 i (by omega))).mp c50 q.1
            · rw [if_neg c]
              exact mt m (by omega)
          · refine r_iconst (v := 1) hE dX11_meets_63 (by decide) ?_
            refine r_goto (tgt := 68) hE dX11_meets_64 (by decide) ?_
            refine t_zastN (e := i) hE y_A_181 dX11_meets_68 (hL 181 (by decide)) (by omega) (by decide) ?_
            refine r_iincN (a := i) (b := 1) (ls2 := [(0, .ref 169), (1, .int u), (2, .int hl), (3, .int 1), (4, .int (nI (i + 1)))]) hE dX11_meets_69 rfl rfl (by decide) rfl ?_
            refine r_goto (tgt := 19) hE dX11_meets_72 (by decide) ?_
            refine ih (16 * k + 16 - (i + 1)) (by omega) (i + 1) _ rfl (by omega) (m_S_s sg) (fun m hm => ?_)
            rw [y_si_1]
            by_cases c : m = i
            · rw [if_pos c, c]
              have g1 := Classical.not_not.mp (fun q => c50 ((y_is_0 (sg.2.2.2.1 i (by omega))).mpr q))
              have g2 := Classical.not_not.mp (fun q => c60 ((y_is_0 (sg.2.2.2.2 i (by omega))).mpr q))
              exact Or.inl ⟨rfl, g1, g2⟩
            · rw [if_neg c]
              exact mt m (by omega)
  refine r_aload_n hE dX11_meets_0 rfl ?_
  refine r_iload_n hE dX11_meets_1 rfl ?_
  refine r_iload_n hE dX11_meets_2 rfl ?_
  refine r_iconst (v := 0) hE dX11_meets_3 (by decide) ?_
  refine t_invvRi hE [.int u, .int hl, .int 0] (c_prepares0 hL hk hk3 hw2 hkw hww hh) v_yX11_prepares m_X11_317 dX11_meets_4 rfl (hL 169 (by decide)) (y_l_169 (D 169)) rfl (by decide) ⟨Nat.le_refl _, Nat.le_refl _⟩ (Nat.le_of_ble_eq_true rfl) (fun v1 D1 q1 => ?_)
  obtain ⟨e1, fr1, gd1, rn1⟩ := q1
  rw [e1]
  show E 0 0 7 [(0, .ref 169), (1, .int u), (2, .int hl)] [.int 1] (y_mk n L D1)
  refine r_istore_n (ls2 := [(0, .ref 169), (1, .int u), (2, .int hl), (3, .int 1)]) hE dX11_meets_7 (by decide) rfl ?_
  refine r_aload_n hE dX11_meets_8 rfl ?_
  refine t_invvRv hE [] (c_goesOnwards (D := D1) (k := k) (kw := kw) (u := (u &&& (nI (2 ^ kw) - 1))) hL (by rw [fr1.2.1 13 (by decide)]; exact hk) hk3 (by rw [fr1.1.1 170 (by decide)]; exact hw2) hkw (by rw [fr1.1.1 170 (by decide)]; exact hww) (fr1.2.2) (G := m_G0 D) (Q := m_Q D hl) gd1 rn1) v_yX11_goesOnwards m_X11_321 dX11_meets_9 rfl (hL 169 (by decide)) (y_l_169 (D1 169)) rfl (by decide) ⟨Nat.le_refl _, Nat.le_refl _⟩ (Nat.le_of_ble_eq_true rfl) (fun D2 q2 => ?_)
  obtain ⟨fr2, on2⟩ := q2
  rw [fr1.1.1 170 (by decide)] at on2
  show E 0 0 12 [(0, .ref 169), (1, .int u), (2, .int hl), (3, .int 1)] [] (y_mk n L D2)
  refine r_aload_n hE dX11_meets_12 rfl ?_
  refine t_invvRv hE [] (c_goesBackwards (D := D2) (k := k) (kw := kw) (G := m_G0 D) hL (by rw [fr2.1 169 (by decide), fr1.2.1 13 (by decide)]; exact hk) hk3 (by rw [fr2.1 170 (by decide), fr1.1.1 170 (by decide)]; exact hw2) hkw (by rw [fr2.1 178 (by decide)]; exact gd1) (fun s _ => Or.inl (by omega))) v_yX11_goesBackwards m_X11_324 dX11_meets_13 rfl (hL 169 (by decide)) (y_l_169 (D2 169)) rfl (by decide) ⟨Nat.le_refl _, Nat.le_refl _⟩ (Nat.le_of_ble_eq_true rfl) (fun D3 q3 => ?_)
  obtain ⟨fr3, bk3⟩ := q3
  have fr := m_M7_f (m_M7_f (m_MP_7 fr1) fr2 (by decide)) fr3 (by decide)
  have sg : m_S D D3 (u &&& (nI (2 ^ kw) - 1)) hl k kw := ⟨fr, by rw [fr3.1 178 (by decide), fr2.1 178 (by decide)]; exact gd1, by rw [fr3.1 182 (by decide), fr2.1 182 (by decide)]; exact rn1, by rw [fr3.1 179 (by decide)]; exact on2, bk3⟩
  clear fr
  show E 0 0 16 [(0, .ref 169), (1, .int u), (2, .int hl), (3, .int 1)] [] (y_mk n L D3)
  refine r_iconst (v := 0) hE dX11_meets_16 (by decide) ?_
  refine r_istore (ls2 := [(0, .ref 169), (1, .int u), (2, .int hl), (3, .int 1), (4, .int 0)]) hE dX11_meets_17 (by decide) rfl ?_
  exact lA 0 _ (by omega) sg (fun m hm => absurd hm (by omega))
/-- the first second at which something of P can be done, none: -1 -/
def m_ea (P : Nat → Nat → Prop) (k : Nat) (v : Int32) : Prop := (v = -1 ∧ ∀ s, s ≤ k → ∀ f, f < 16 → ¬ P s f) ∨ ∃ s, s ≤ k ∧ v = nI s ∧ (∃ f, f < 16 ∧ P s f) ∧ ∀ s2, s2 < s → ∀ f, f < 16 → ¬ P s2 f
theorem c_earliestOf {V : x_E} {n : Nat} {L : List Nat} {D : y_D} {k th rc : Nat} {P : Nat → Prop} (hL : y_ok L) (hk : (D 169).1 13 = nI k) (hk3 : k ≤ 300) (hth : th < 6) (mt : ∀ m, m < 16 * (k + 1) → y_is ((D 181).1 m) (P m)) : y_Ri V yX11_earliestOf cX11_earliestOf 5 (some .int) 2 [.ref 169, .int (nI th), .int (nI rc)] n L D (fun v D2 => m_ea (fun s f => P (16 * s + f) ∧ m_cd (D 170).1 th f rc) k v ∧ D2 = D) := by
  refine y_ri (by decide) (Nat.le_of_ble_eq_true rfl) (fun E hE => ?_)
  change E 0 0 0 [(0, .ref 169), (1, .int (nI th)), (2, .int (nI rc))] [] (y_mk n L D)
  have l1 : ∀ (s : Nat), s ≤ k + 1 → (∀ s2, s2 < s → ∀ f, f < 16 → ¬ (fun s f => P (16 * s + f) ∧ m_cd (D 170).1 th f rc) s2 f) → E 0 0 2 [(0, .ref 169), (1, .int (nI th)), (2, .int (nI rc)), (3, .int (nI s))] [] (y_mk n L D) := by
    intro s
    induction hm9 : (k + 1 - s) using Nat.strongRecOn generalizing s with
    | _ m9 ih =>
      intro hs h0
      subst hm9
      refine r_iload_n hE dX11_earliestOf_2 rfl ?_
      refine r_aload_n hE dX11_earliestOf_3 rfl ?_
      refine t_geti hE f_X11_249 y_I_169_13 dX11_earliestOf_4 (hL 169 (by decide)) ?_
      refine r_top (y := (nI k)) hk ?_
      refine r_icmp_gtN (a := s) (b := k) (tgt := 59) hE dX11_earliestOf_7 (by decide) (by omega) (by omega) (fun c7 => ?_) (fun c7 => ?_)
      · refine r_iconst (v := (-1)) hE dX11_earliestOf_59 (by decide) ?_
        refine r_ireturn hE dX11_earliestOf_60 rfl rfl (Nat.zero_le _) (Nat.zero_le _) ?_
        exact ⟨_, _, rfl, rfl, Or.inl ⟨rfl, fun s2 hs2 => h0 s2 (by omega)⟩, rfl⟩
      · refine r_iconst (v := 0) hE dX11_earliestOf_10 (by decide) ?_
        refine r_istore (ls2 := [(0, .ref 169), (1, .int (nI th)), (2, .int (nI rc)), (3, .int (nI s)), (4, .int 0)]) hE dX11_earliestOf_11 (by decide) rfl ?_
        have ihs := ih
        have l2 : ∀ (f : Nat), f ≤ 16 → (∀ g, g < f → ¬ (fun s f => P (16 * s + f) ∧ m_cd (D 170).1 th f rc) s g) → E 0 0 13 [(0, .ref 169), (1, .int (nI th)), (2, .int (nI rc)), (3, .int (nI s)), (4, .int (nI f))] [] (y_mk n L D) := by
          intro f
          induction hm9 : (16 - f) using Nat.strongRecOn generalizing f with
          | _ m9 ih =>
            intro hf h1
            subst hm9
            refine r_iload hE dX11_earliestOf_13 rfl ?_
            refine r_bipush (v := 16) hE dX11_earliestOf_15 (by decide) ?_
            refine r_icmp_geN (a := f) (b := 16) (tgt := 53) hE dX11_earliestOf_17 (by decide) (by omega) (by decide) (fun c17 => ?_) (fun c17 => ?_)
            · refine r_iincN (a := s) (b := 1) (ls2 := [(0, .ref 169), (1, .int (nI th)), (2, .int (nI rc)), (3, .int (nI (s + 1))), (4, .int (nI f))]) hE dX11_earliestOf_53 rfl rfl (by decide) rfl ?_
              refine r_goto (tgt := 2) hE dX11_earliestOf_56 (by decide) ?_
              refine r_locs hE (ls2 := [(0, .ref 169), (1, .int (nI th)), (2, .int (nI rc)), (3, .int (nI (s + 1)))]) ?_ (ihs (k + 1 - (s + 1)) (by omega) (s + 1) rfl (by omega) (fun s2 hs2 g hg => ?_))
              · simp [x_lk]
              · by_cases c : s2 = s
                · rw [c]; exact h1 g (by omega)
                · exact h0 s2 (by omega) g hg
            · refine r_aload_n hE dX11_earliestOf_20 rfl ?_
              refine t_getr hE f_X11_52 y_R_169_21 dX11_earliestOf_21 (hL 169 (by decide)) ?_
              refine r_iload_n hE dX11_earliestOf_24 rfl ?_
              refine r_iload hE dX11_earliestOf_25 rfl ?_
              refine t_invs (r := (some (.int (nI (16 * s + f))))) (S2 := (y_mk n L D)) hE [.int (nI s), .int (nI f)] (c_at) s_yX11_at m_X11_299 dX11_earliestOf_27 rfl (by decide) ⟨Nat.le_refl _, Nat.le_refl _⟩ (Nat.le_of_ble_eq_true rfl) ?_
              show E 0 0 30 [(0, .ref 169), (1, .int (nI th)), (2, .int (nI rc)), (3, .int (nI s)), (4, .int (nI f))] [.int (nI (16 * s + f)), .ref 181] (y_mk n L D)
              refine t_zaldN (e := 16 * s + f) hE y_A_181 dX11_earliestOf_30 (hL 181 (by decide)) (by omega) (by decide) ?_
              refine r_if_eq (tgt := 47) hE dX11_earliestOf_31 (by decide) (fun c31 => ?_) (fun c31 => ?_)
              · refine r_iincN (a := f) (b := 1) (ls2 := [(0, .ref 169), (1, .int (nI th)), (2, .int (nI rc)), (3, .int (nI s)), (4, .int (nI (f + 1)))]) hE dX11_earliestOf_47 rfl rfl (by decide) rfl ?_
                refine r_goto (tgt := 13) hE dX11_earliestOf_50 (by decide) ?_
                refine ih (16 - (f + 1)) (by omega) (f + 1) rfl (by omega) (fun g hg q => ?_)
                by_cases c : g = f
                · rw [c] at q
                  first
                  | exact (y_is_0 q9).mp c42 q.2
                  | exact (y_is_0 (mt _ (by omega))).mp c31 q.1
                · exact h1 g (by omega) q
              · refine r_aload_n hE dX11_earliestOf_34 rfl ?_
                refine r_iload_n hE dX11_earliestOf_35 rfl ?_
                refine r_iload hE dX11_earliestOf_36 rfl ?_
                refine r_iload_n hE dX11_earliestOf_38 rfl ?_
                refine t_invvRi hE [.int (nI th), .int (nI f), .int (nI rc)] (c_canDo (D := D) (th := th) (f := f) (rc := rc) hL (by omega) (by omega)) v_yX11_canDo m_X11_308 dX11_earliestOf_39 rfl (hL 169 (by decide)) (y_l_169 (D 169)) rfl (by decide) ⟨Nat.le_refl _, Nat.le_refl _⟩ (Nat.le_of_ble_eq_true rfl) (fun v9 D9 q9 => ?_)
                obtain ⟨q9, hD9⟩ := q9
                rw [hD9]
                show E 0 0 42 [(0, .ref 169), (1, .int (nI th)), (2, .int (nI rc)), (3, .int (nI s)), (4, .int (nI f))] [.int v9] (y_mk n L D)
                refine r_if_eq (tgt := 47) hE dX11_earliestOf_42 (by decide) (fun c42 => ?_) (fun c42 => ?_)
                · refine r_iincN (a := f) (b := 1) (ls2 := [(0, .ref 169), (1, .int (nI th)), (2, .int (nI rc)), (3, .int (nI s)), (4, .int (nI (f + 1)))]) hE dX11_earliestOf_47 rfl rfl (by decide) rfl ?_
                  refine r_goto (tgt := 13) hE dX11_earliestOf_50 (by decide) ?_
                  refine ih (16 - (f + 1)) (by omega) (f + 1) rfl (by omega) (fun g hg q => ?_)
                  by_cases c : g = f
                  · rw [c] at q
                    first
                    | exact (y_is_0 q9).mp c42 q.2
                    | exact (y_is_0 (mt _ (by omega))).mp c31 q.1
                  · exact h1 g (by omega) q
                · refine r_iload_n hE dX11_earliestOf_45 rfl ?_
                  refine r_ireturn hE dX11_earliestOf_46 rfl rfl (Nat.zero_le _) (Nat.zero_le _) ?_
                  have g1 := Classical.not_not.mp (fun q => c31 ((y_is_0 (mt _ (by omega))).mpr q))
                  have g2 := Classical.not_not.mp (fun q => c42 ((y_is_0 q9).mpr q))
                  exact ⟨_, _, rfl, rfl, Or.inr ⟨s, by omega, rfl, ⟨f, by omega, g1, g2⟩, h0⟩, rfl⟩
        exact l2 0 (by omega) (fun g hg => absurd hg (by omega))
  refine r_iconst (v := 0) hE dX11_earliestOf_0 (by decide) ?_
  refine r_istore_n (ls2 := [(0, .ref 169), (1, .int (nI th)), (2, .int (nI rc)), (3, .int 0)]) hE dX11_earliestOf_1 (by decide) rfl ?_
  exact l1 0 (by omega) (fun s2 hs2 => absurd hs2 (by omega))
/-- all NOTES can have been done -/
def m_can (D : y_D) (u hl : Int32) (k kw kn : Nat) : Prop := (∀ i, i < kn → q_n (D 170).1 (46 + 2 * i + 1) ≤ k) ∧ m_on (m_CG (D 170).1 u k (fun m => m_G0 D m ∧ m_nt (D 170).1 (m_rc (D 170).1 u kw) kn m) (m_Q D hl)) (D 170).1 kw (fun m => m_G0 D m ∧ m_nt (D 170).1 (m_rc (D 170).1 u kw) kn m) k (16 * k + 0)
theorem c_canBy {V : x_E} {n : Nat} {L : List Nat} {D : y_D} {k kw : Nat} {u hl : Int32} (hL : y_ok L) (hk : (D 169).1 13 = nI k) (hk3 : k ≤ 300) (hw2 : (D 170).1 2 = nI kw) (hkw : kw ≤ 6) (hww : ∀ w, w < kw → m_ww (D 170).1 (4 + w)) (hh : ∀ l, l < 4 → m_hd ((D 175).1 l)) {kn : Nat} (hn : (D 170).1 4 = nI kn) (hkn : kn ≤ 10) (hnt : ∀ j, j < kn → q_ok (D 170).1 (46 + 2 * j) 5 ∧ q_ok (D 170).1 (46 + 2 * j + 1) 300) : y_Ri V yX11_canBy cX11_canBy 3 (some .boolean) 7 [.ref 169, .int u, .int hl] n L D (fun v D2 => y_is v (m_can D (u &&& (nI (2 ^ kw) - 1)) hl k kw kn) ∧ m_M7 D D2 (u &&& (nI (2 ^ kw) - 1))) := by
  refine y_ri (by decide) (Nat.le_of_ble_eq_true rfl) (fun E hE => ?_)
  change E 0 0 0 [(0, .ref 169), (1, .int u), (2, .int hl)] [] (y_mk n L D)
  refine r_aload_n hE dX11_canBy_0 rfl ?_
  refine r_iload_n hE dX11_canBy_1 rfl ?_
  refine r_iload_n hE dX11_canBy_2 rfl ?_
  refine r_iconst (v := 1) hE dX11_canBy_3 (by decide) ?_
  refine t_invvRi hE [.int u, .int hl, .int 1] (c_prepares1 hL hk hk3 hw2 hkw hww hh hn hkn hnt) v_yX11_prepares m_X11_317 dX11_canBy_4 rfl (hL 169 (by decide)) (y_l_169 (D 169)) rfl (by decide) ⟨Nat.le_refl _, Nat.le_refl _⟩ (Nat.le_of_ble_eq_true rfl) (fun v1 D1 q1 => ?_)
  obtain ⟨e1, fr1, gd1, rn1⟩ := q1
  show E 0 0 7 [(0, .ref 169), (1, .int u), (2, .int hl)] [.int v1] (y_mk n L D1)
  refine r_if_ne (tgt := 12) hE dX11_canBy_7 (by decide) (fun c7 => ?_) (fun c7 => ?_)
  · refine r_aload_n hE dX11_canBy_12 rfl ?_
    refine t_invvRv hE [] (c_goesOnwards (D := D1) (k := k) (kw := kw) (u := (u &&& (nI (2 ^ kw) - 1))) hL (by rw [fr1.2.1 13 (by decide)]; exact hk) hk3 (by rw [fr1.1.1 170 (by decide)]; exact hw2) hkw (by rw [fr1.1.1 170 (by decide)]; exact hww) (fr1.2.2) (G := (fun m => m_G0 D m ∧ m_nt (D 170).1 (m_rc (D 170).1 (u &&& (nI (2 ^ kw) - 1)) kw) kn m)) (Q := m_Q D hl) gd1 rn1) v_yX11_goesOnwards m_X11_321 dX11_canBy_13 rfl (hL 169 (by decide)) (y_l_169 (D1 169)) rfl (by decide) ⟨Nat.le_refl _, Nat.le_refl _⟩ (Nat.le_of_ble_eq_true rfl) (fun D2 q2 => ?_)
    obtain ⟨fr2, on2⟩ := q2
    rw [fr1.1.1 170 (by decide)] at on2
    have g1 := Classical.not_not.mp (fun q => c7 ((y_is_0 e1).mpr q))
    show E 0 0 16 [(0, .ref 169), (1, .int u), (2, .int hl)] [] (y_mk n L D2)
    refine r_aload_n hE dX11_canBy_16 rfl ?_
    refine t_getr hE f_X11_46 y_R_169_19 dX11_canBy_17 (hL 169 (by decide)) ?_
    refine r_aload_n hE dX11_canBy_20 rfl ?_
    refine t_geti hE f_X11_249 y_I_169_13 dX11_canBy_21 (hL 169 (by decide)) ?_
    refine r_top (y := (nI k)) (by rw [fr2.1 169 (by decide), fr1.2.1 13 (by decide)]; exact hk) ?_
    refine r_iconst (v := 0) hE dX11_canBy_24 (by decide) ?_
    refine t_invs (r := (some (.int (nI (16 * k + 0))))) (S2 := (y_mk n L D2)) hE [.int (nI k), .int 0] (c_at) s_yX11_at m_X11_299 dX11_canBy_25 rfl (by decide) ⟨Nat.le_refl _, Nat.le_refl _⟩ (Nat.le_of_ble_eq_true rfl) ?_
    show E 0 0 28 [(0, .ref 169), (1, .int u), (2, .int hl)] [.int (nI (16 * k + 0)), .ref 179] (y_mk n L D2)
    refine t_zaldN (e := 16 * k + 0) hE y_A_179 dX11_canBy_28 (hL 179 (by decide)) (by omega) (by decide) ?_
    refine r_ireturn hE dX11_canBy_29 rfl (by exact y_is_nar (on2 _ (by omega))) (Nat.zero_le _) (Nat.zero_le _) ?_
    exact ⟨_, _, rfl, rfl, y_is_imp (on2 _ (by omega)) ⟨fun q => ⟨g1, q⟩, fun q => q.2⟩, m_M7_f (m_MP_7 fr1) fr2 (by decide)⟩
  · refine r_iconst (v := 0) hE dX11_canBy_10 (by decide) ?_
    refine r_ireturn hE dX11_canBy_11 rfl (by decide) (Nat.zero_le _) (Nat.zero_le _) ?_
    exact ⟨_, _, rfl, rfl, Or.inr ⟨rfl, fun q => (y_is_0 e1).mp c7 q.1⟩, m_MP_7 fr1⟩

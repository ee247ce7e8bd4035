/-- the smallest of the fewest -/
def m_few (P : Nat → Prop) (n : Nat) (v : Int32) : Prop := (v = -1 ∧ ∀ s, s < n → ¬ P s) ∨ ∃ b, b < n ∧ v = nI b ∧ P b ∧ ∀ s, s < n → P s → y_pop b < y_pop s ∨ (y_pop b = y_pop s ∧ b ≤ s)
theorem y_pop_b (c : Nat) : y_pop c ≤ 6 := by unfold y_pop; omega
theorem m_few_n {P : Nat → Prop} {i : Nat} {v : Int32} (h : m_few P i v) (hn : ¬ P i) : m_few P (i + 1) v := by
  rcases h with ⟨h1, h2⟩ | ⟨b, h1, h2, h3, h4⟩
  · refine Or.inl ⟨h1, fun s hs q => ?_⟩
    by_cases c : s = i
    · rw [c] at q; exact hn q
    · exact h2 s (by omega) q
  · refine Or.inr ⟨b, by omega, h2, h3, fun s hs q => ?_⟩
    by_cases c : s = i
    · rw [c] at q; exact absurd q hn
    · exact h4 s (by omega) q
theorem m_few_k {P : Nat → Prop} {i b : Nat} (h3 : P b) (h1 : b < i) (h4 : ∀ s, s < i → P s → y_pop b < y_pop s ∨ (y_pop b = y_pop s ∧ b ≤ s)) (hp : y_pop b ≤ y_pop i) : m_few P (i + 1) (nI b) := by
  refine Or.inr ⟨b, by omega, rfl, h3, fun s hs q => ?_⟩
  by_cases c : s = i
  · rw [c]; omega
  · exact h4 s (by omega) q
theorem m_few_y {P : Nat → Prop} {i : Nat} {v : Int32} (h : m_few P i v) (hy : P i) (hp : ∀ b, b < i → v = nI b → y_pop i < y_pop b) (hi : i < 2 ^ 31) : m_few P (i + 1) (nI i) := by
  refine Or.inr ⟨i, by omega, rfl, hy, fun s hs q => ?_⟩
  by_cases c : s = i
  · rw [c]; omega
  · rcases h with ⟨-, h2⟩ | ⟨b, h1, h2, h3, h4⟩
    · exact absurd q (h2 s (by omega))
    · have := hp b h1 h2
      rcases h4 s (by omega) q with h5 | h5 <;> omega
theorem c_fewest {V : x_E} {n : Nat} {L : List Nat} {D : y_D} {p hl : Int32} (hL : y_ok L) (hW : m_W (D 170).1) : y_Ri V yX11_fewest cX11_fewest 5 (some .int) 8 [.ref 169, .int p, .int hl] n L D (fun v D2 => m_ot D D2 ∧ (((¬ (0 ≤ p ∧ p ≤ (D 170).1 1 - 1)) ∧ (D2 169).1 0 = 1) ∨ ∃ t, t < q_n (D 170).1 1 ∧ p = nI t ∧ (D2 169).1 0 = 0 ∧ ∃ DL, m_L (D 170).1 DL t (-1) ∧ m_few (fun i => m_can DL (nI i &&& (nI (2 ^ (q_n (D 170).1 2)) - 1)) hl (m_ls (D 170).1 t (-1)) (q_n (D 170).1 2) (q_n (D 170).1 4)) (2 ^ (q_n (D 170).1 2)) v)) := by
  refine y_ri (by decide) (Nat.le_of_ble_eq_true rfl) (fun E hE => ?_)
  change E 0 0 0 [(0, .ref 169), (1, .int p), (2, .int hl)] [] (y_mk n L D)
  refine r_aload_n hE dX11_fewest_0 rfl ?_
  refine r_iconst (v := 0) hE dX11_fewest_1 (by decide) ?_
  refine t_puti hE f_X11_3 y_I_169_0 dX11_fewest_2 (hL 169 (by decide)) rfl rfl ?_
  refine r_aload_n hE dX11_fewest_5 rfl ?_
  refine r_aload_n hE dX11_fewest_6 rfl ?_
  refine r_iload_n hE dX11_fewest_7 rfl ?_
  refine r_iconst (v := 1) hE dX11_fewest_8 (by decide) ?_
  refine t_invv (r := (some (.int (y_b (¬ (0 ≤ p ∧ p ≤ (D 170).1 1 - 1)))))) (S2 := (y_mk n L (y_si D 169 0 0))) hE [.int p, .int 1] (c_none (c := 1) hL (by decide)) v_yX11_none m_X11_262 dX11_fewest_9 rfl (hL 169 (by decide)) (y_l_169 ((y_si D 169 0 0) 169)) rfl (by decide) ⟨Nat.le_refl _, Nat.le_refl _⟩ (Nat.le_of_ble_eq_true rfl) ?_
  show E 0 0 12 [(0, .ref 169), (1, .int p), (2, .int hl)] [.int (y_b (¬ (0 ≤ p ∧ p ≤ (D 170).1 1 - 1))), .ref 169] (y_mk n L (y_si D 169 0 0))
  refine r_iconst (v := 1) hE dX11_fewest_12 (by decide) ?_
  refine t_invv (r := (some (.int (y_b (¬ (0 ≤ p ∧ p ≤ (D 170).1 1 - 1)))))) (S2 := (y_mk n L (if (¬ (0 ≤ p ∧ p ≤ (D 170).1 1 - 1)) then y_si (y_si D 169 0 0) 169 0 1 else y_si D 169 0 0))) hE [.int (y_b (¬ (0 ≤ p ∧ p ≤ (D 170).1 1 - 1))), .int 1] (c_throwsIf hL) v_yX11_throwsIf m_X11_85 dX11_fewest_13 rfl (hL 169 (by decide)) (y_l_169 ((y_si D 169 0 0) 169)) rfl (by decide) ⟨Nat.le_refl _, Nat.le_refl _⟩ (Nat.le_of_ble_eq_true rfl) ?_
  show E 0 0 16 [(0, .ref 169), (1, .int p), (2, .int hl)] [.int (y_b (¬ (0 ≤ p ∧ p ≤ (D 170).1 1 - 1)))] (y_mk n L (if (¬ (0 ≤ p ∧ p ≤ (D 170).1 1 - 1)) then y_si (y_si D 169 0 0) 169 0 1 else y_si D 169 0 0))
  refine r_ifb_eq (tgt := 21) hE dX11_fewest_16 (by decide) (fun c16 => ?_) (fun c16 => ?_)
  · rw [if_neg c16]
    obtain ⟨t, ht, rfl⟩ := y_rng (k := q_n (D 170).1 1) (by have := hW.2.1.2; omega) (by rw [← hW.2.1.1]; exact Decidable.of_not_not c16)
    refine r_aload_n hE dX11_fewest_21 rfl ?_
    refine r_iload_n hE dX11_fewest_22 rfl ?_
    refine r_iconst (v := (-1)) hE dX11_fewest_23 (by decide) ?_
    refine t_invvRv hE [.int (nI t), .int (-1)] (c_laysOut (D := y_si D 169 0 0) (t := t) (wo := (-1)) hL (by have := hW.2.1.2; omega) (hW.2.2.2.2.2.1 t ht)) v_yX11_laysOut m_X11_265 dX11_fewest_24 rfl (hL 169 (by decide)) (y_l_169 ((y_si D 169 0 0) 169)) rfl (by decide) ⟨Nat.le_refl _, Nat.le_refl _⟩ (Nat.le_of_ble_eq_true rfl) (fun DL ql => ?_)
    have hwr := hW.2.2.2.2.2.1 t ht
    have hml : m_L (D 170).1 DL t (-1) := m_L_lay (D := y_si D 169 0 0) ql
    have hk3 := m_ls_b (wo := (-1)) hwr
    have h170 : DL 170 = D 170 := ql.1 170 (by decide) (by decide) (by decide) (by decide)
    show E 0 0 27 [(0, .ref 169), (1, .int (nI t)), (2, .int hl)] [] (y_mk n L DL)
    refine r_iconst (v := (-1)) hE dX11_fewest_27 (by decide) ?_
    refine r_istore_n (ls2 := [(0, .ref 169), (1, .int (nI t)), (2, .int hl), (3, .int (-1))]) hE dX11_fewest_28 (by decide) rfl ?_
    refine r_iconst (v := 0) hE dX11_fewest_29 (by decide) ?_
    refine r_istore (ls2 := [(0, .ref 169), (1, .int (nI t)), (2, .int hl), (3, .int (-1)), (4, .int 0)]) hE dX11_fewest_30 (by decide) rfl ?_
    have hp6 : 2 ^ (q_n (D 170).1 2) ≤ 2 ^ 6 := Nat.pow_le_pow_right (by decide) hW.2.2.1.2
    have hp7 : (2 : Nat) ^ 6 = 64 := rfl
    have l2 : ∀ (i : Nat) (v : Int32) (D8 : y_D), i ≤ 2 ^ (q_n (D 170).1 2) → m_ot D D8 → (D8 169).1 0 = 0 → ((∀ j, j = 170 ∨ j = 174 ∨ j = 175 ∨ j = 176 → D8 j = DL j) ∧ (D8 169).1 13 = (DL 169).1 13) → m_few (fun i => m_can DL (nI i &&& (nI (2 ^ (q_n (D 170).1 2)) - 1)) hl (m_ls (D 170).1 t (-1)) (q_n (D 170).1 2) (q_n (D 170).1 4)) i v → E 0 0 32 [(0, .ref 169), (1, .int (nI t)), (2, .int hl), (3, .int v), (4, .int (nI i))] [] (y_mk n L D8) := by
      intro i v D8
      induction hm9 : (2 ^ (q_n (D 170).1 2) - i) using Nat.strongRecOn generalizing i v D8 with
      | _ m9 ih =>
        intro hi ot hz f8 hv
        subst hm9
        have hv0 := hv
        rcases hv0 with ⟨rfl, hv9⟩ | ⟨b, h1, rfl, h3, h4⟩
        · have hv0 := hv
          refine r_iload hE dX11_fewest_32 rfl ?_
          refine r_iconst (v := 1) hE dX11_fewest_34 (by decide) ?_
          refine r_aload_n hE dX11_fewest_35 rfl ?_
          refine t_getr hE f_X11_13 y_R_169_1 dX11_fewest_36 (hL 169 (by decide)) ?_
          refine r_iconst (v := 2) hE dX11_fewest_39 (by decide) ?_
          refine t_ialdN (e := 2) hE y_A_170 dX11_fewest_40 (hL 170 (by decide)) (by omega) (by decide) ?_
          refine r_top (y := (nI (q_n (D 170).1 2))) (by rw [ot.1 170 (by decide)]; exact hW.2.2.1.1) ?_
          refine r_shl1N (k := q_n (D 170).1 2) hE dX11_fewest_41 (by have := hW.2.2.1.2; omega) ?_
          refine r_icmp_geN (a := i) (b := 2 ^ (q_n (D 170).1 2)) (tgt := 83) hE dX11_fewest_42 (by decide) (by omega) (by omega) (fun c42 => ?_) (fun c42 => ?_)
          · refine r_iload_n hE dX11_fewest_83 rfl ?_
            refine r_ireturn hE dX11_fewest_84 rfl rfl (Nat.zero_le _) (Nat.zero_le _) ?_
            rw [show i = 2 ^ (q_n (D 170).1 2) by omega] at hv
            exact ⟨_, _, rfl, rfl, ot, Or.inr ⟨t, ht, rfl, hz, DL, hml, hv⟩⟩
          · refine r_iload_n hE dX11_fewest_45 rfl ?_
            refine r_if_lt (tgt := 64) hE dX11_fewest_46 (by decide) (fun _ => ?_) (fun c46 => by first | exact absurd c46 (by decide) | exact absurd (by decide) c46)
            refine r_aload_n hE dX11_fewest_64 rfl ?_
            refine r_iload hE dX11_fewest_65 rfl ?_
            refine r_iload_n hE dX11_fewest_67 rfl ?_
            refine t_invvRi hE [.int (nI i), .int hl] (c_canBy (D := D8) (u := nI i) (hl := hl) hL (by rw [f8.2]; exact hml.2.1) hk3 (by rw [f8.1 170 (by decide), h170]; exact hW.2.2.1.1) hW.2.2.1.2 (by rw [f8.1 170 (by decide), h170]; exact hW.2.2.2.2.2.2.1) (by rw [f8.1 175 (by decide)]; exact m_L_hd hwr hml) (by rw [f8.1 170 (by decide), h170]; exact hW.2.2.2.2.1.1) hW.2.2.2.2.1.2 (by rw [f8.1 170 (by decide), h170]; exact hW.2.2.2.2.2.2.2)) v_yX11_canBy m_X11_327 dX11_fewest_68 rfl (hL 169 (by decide)) (y_l_169 (D8 169)) rfl (by decide) ⟨Nat.le_refl _, Nat.le_refl _⟩ (Nat.le_of_ble_eq_true rfl) (fun v1 D1 q1 => ?_)
            rw [m_can_eq (f8.1 170 (by decide)) (f8.1 174 (by decide)) (f8.1 175 (by decide)) (f8.1 176 (by decide))] at q1
            show E 0 0 71 [(0, .ref 169), (1, .int (nI t)), (2, .int hl), (3, .int (-1)), (4, .int (nI i))] [.int v1] (y_mk n L D1)
            refine r_if_eq (tgt := 77) hE dX11_fewest_71 (by decide) (fun c71 => ?_) (fun c71 => ?_)
            · refine r_iincN (a := i) (b := 1) (ls2 := [(0, .ref 169), (1, .int (nI t)), (2, .int hl), (3, .int (-1)), (4, .int (nI (i + 1)))]) hE dX11_fewest_77 rfl rfl (by decide) rfl ?_
              refine r_goto (tgt := 32) hE dX11_fewest_80 (by decide) ?_
              refine r_locs hE (ls2 := [(0, .ref 169), (1, .int (nI t)), (2, .int hl), (3, .int (-1)), (4, .int (nI (i + 1)))]) ?_ (ih (2 ^ (q_n (D 170).1 2) - (i + 1)) (by omega) (i + 1) _ _ rfl (by omega) (m_ot_t ot (m_ot_7 q1.2)) (by rw [q1.2.2.1 0 (by decide)]; exact hz) ⟨fun j hj => by rw [q1.2.1.1 j (by rcases hj with h | h | h | h <;> subst h <;> decide)]; exact f8.1 j hj, by rw [q1.2.2.1 13 (by decide)]; exact f8.2⟩ (m_few_n hv0 ((y_is_0 q1.1).mp c71)))
              · simp [x_lk]
            · refine r_iload hE dX11_fewest_74 rfl ?_
              refine r_istore_n (ls2 := [(0, .ref 169), (1, .int (nI t)), (2, .int hl), (3, .int (nI i)), (4, .int (nI i))]) hE dX11_fewest_76 (by decide) rfl ?_
              refine r_iincN (a := i) (b := 1) (ls2 := [(0, .ref 169), (1, .int (nI t)), (2, .int hl), (3, .int (nI i)), (4, .int (nI (i + 1)))]) hE dX11_fewest_77 rfl rfl (by decide) rfl ?_
              refine r_goto (tgt := 32) hE dX11_fewest_80 (by decide) ?_
              refine r_locs hE (ls2 := [(0, .ref 169), (1, .int (nI t)), (2, .int hl), (3, .int (nI i)), (4, .int (nI (i + 1)))]) ?_ (ih (2 ^ (q_n (D 170).1 2) - (i + 1)) (by omega) (i + 1) _ _ rfl (by omega) (m_ot_t ot (m_ot_7 q1.2)) (by rw [q1.2.2.1 0 (by decide)]; exact hz) ⟨fun j hj => by rw [q1.2.1.1 j (by rcases hj with h | h | h | h <;> subst h <;> decide)]; exact f8.1 j hj, by rw [q1.2.2.1 13 (by decide)]; exact f8.2⟩ (m_few_y hv0 (Classical.not_not.mp (fun q => c71 ((y_is_0 q1.1).mpr q))) (fun b2 hb2 e => ?_) (by omega)))
              · simp [x_lk]
              · first
                | exact absurd e (fun q => nI_pos (n := b2) (by omega) (by rw [← q]; decide))
                | (rw [nI_eq (by omega) (by omega)] at e; subst e; omega)
        · have hv0 := hv
          refine r_iload hE dX11_fewest_32 rfl ?_
          refine r_iconst (v := 1) hE dX11_fewest_34 (by decide) ?_
          refine r_aload_n hE dX11_fewest_35 rfl ?_
          refine t_getr hE f_X11_13 y_R_169_1 dX11_fewest_36 (hL 169 (by decide)) ?_
          refine r_iconst (v := 2) hE dX11_fewest_39 (by decide) ?_
          refine t_ialdN (e := 2) hE y_A_170 dX11_fewest_40 (hL 170 (by decide)) (by omega) (by decide) ?_
          refine r_top (y := (nI (q_n (D 170).1 2))) (by rw [ot.1 170 (by decide)]; exact hW.2.2.1.1) ?_
          refine r_shl1N (k := q_n (D 170).1 2) hE dX11_fewest_41 (by have := hW.2.2.1.2; omega) ?_
          refine r_icmp_geN (a := i) (b := 2 ^ (q_n (D 170).1 2)) (tgt := 83) hE dX11_fewest_42 (by decide) (by omega) (by omega) (fun c42 => ?_) (fun c42 => ?_)
          · refine r_iload_n hE dX11_fewest_83 rfl ?_
            refine r_ireturn hE dX11_fewest_84 rfl rfl (Nat.zero_le _) (Nat.zero_le _) ?_
            rw [show i = 2 ^ (q_n (D 170).1 2) by omega] at hv
            exact ⟨_, _, rfl, rfl, ot, Or.inr ⟨t, ht, rfl, hz, DL, hml, hv⟩⟩
          · refine r_iload_n hE dX11_fewest_45 rfl ?_
            refine r_if_lt (tgt := 64) hE dX11_fewest_46 (by decide) (fun c46 => absurd c46 (nI_pos (by omega))) (fun _ => ?_)
            have hpb1 := y_pop_b i
            have hpb2 := y_pop_b b
            refine r_iload hE dX11_fewest_49 rfl ?_
            refine t_invs (r := (some (.int (nI (y_pop i))))) (S2 := (y_mk n L D8)) hE [.int (nI i)] (j_bitCount (c := i) (by omega)) s_yJ6_bitCount_0f7a4 m_X11_268 dX11_fewest_51 rfl (by decide) ⟨Nat.le_refl _, Nat.le_refl _⟩ (Nat.le_of_ble_eq_true rfl) ?_
            show E 0 0 54 [(0, .ref 169), (1, .int (nI t)), (2, .int hl), (3, .int (nI b)), (4, .int (nI i))] [.int (nI (y_pop i))] (y_mk n L D8)
            refine r_iload_n hE dX11_fewest_54 rfl ?_
            refine t_invs (r := (some (.int (nI (y_pop b))))) (S2 := (y_mk n L D8)) hE [.int (nI b)] (j_bitCount (c := b) (by omega)) s_yJ6_bitCount_0f7a4 m_X11_268 dX11_fewest_55 rfl (by decide) ⟨Nat.le_refl _, Nat.le_refl _⟩ (Nat.le_of_ble_eq_true rfl) ?_
            show E 0 0 58 [(0, .ref 169), (1, .int (nI t)), (2, .int hl), (3, .int (nI b)), (4, .int (nI i))] [.int (nI (y_pop b)), .int (nI (y_pop i))] (y_mk n L D8)
            refine r_icmp_ltN (a := y_pop i) (b := y_pop b) (tgt := 64) hE dX11_fewest_58 (by decide) (by omega) (by omega) (fun c58 => ?_) (fun c58 => ?_)
            · refine r_aload_n hE dX11_fewest_64 rfl ?_
              refine r_iload hE dX11_fewest_65 rfl ?_
              refine r_iload_n hE dX11_fewest_67 rfl ?_
              refine t_invvRi hE [.int (nI i), .int hl] (c_canBy (D := D8) (u := nI i) (hl := hl) hL (by rw [f8.2]; exact hml.2.1) hk3 (by rw [f8.1 170 (by decide), h170]; exact hW.2.2.1.1) hW.2.2.1.2 (by rw [f8.1 170 (by decide), h170]; exact hW.2.2.2.2.2.2.1) (by rw [f8.1 175 (by decide)]; exact m_L_hd hwr hml) (by rw [f8.1 170 (by decide), h170]; exact hW.2.2.2.2.1.1) hW.2.2.2.2.1.2 (by rw [f8.1 170 (by decide), h170]; exact hW.2.2.2.2.2.2.2)) v_yX11_canBy m_X11_327 dX11_fewest_68 rfl (hL 169 (by decide)) (y_l_169 (D8 169)) rfl (by decide) ⟨Nat.le_refl _, Nat.le_refl _⟩ (Nat.le_of_ble_eq_true rfl) (fun v1 D1 q1 => ?_)
              rw [m_can_eq (f8.1 170 (by decide)) (f8.1 174 (by decide)) (f8.1 175 (by decide)) (f8.1 176 (by decide))] at q1
              show E 0 0 71 [(0, .ref 169), (1, .int (nI t)), (2, .int hl), (3, .int (nI b)), (4, .int (nI i))] [.int v1] (y_mk n L D1)
              refine r_if_eq (tgt := 77) hE dX11_fewest_71 (by decide) (fun c71 => ?_) (fun c71 => ?_)
              · refine r_iincN (a := i) (b := 1) (ls2 := [(0, .ref 169), (1, .int (nI t)), (2, .int hl), (3, .int (nI b)), (4, .int (nI (i + 1)))]) hE dX11_fewest_77 rfl rfl (by decide) rfl ?_
                refine r_goto (tgt := 32) hE dX11_fewest_80 (by decide) ?_
                refine r_locs hE (ls2 := [(0, .ref 169), (1, .int (nI t)), (2, .int hl), (3, .int (nI b)), (4, .int (nI (i + 1)))]) ?_ (ih (2 ^ (q_n (D 170).1 2) - (i + 1)) (by omega) (i + 1) _ _ rfl (by omega) (m_ot_t ot (m_ot_7 q1.2)) (by rw [q1.2.2.1 0 (by decide)]; exact hz) ⟨fun j hj => by rw [q1.2.1.1 j (by rcases hj with h | h | h | h <;> subst h <;> decide)]; exact f8.1 j hj, by rw [q1.2.2.1 13 (by decide)]; exact f8.2⟩ (m_few_n hv0 ((y_is_0 q1.1).mp c71)))
                · simp [x_lk]
              · refine r_iload hE dX11_fewest_74 rfl ?_
                refine r_istore_n (ls2 := [(0, .ref 169), (1, .int (nI t)), (2, .int hl), (3, .int (nI i)), (4, .int (nI i))]) hE dX11_fewest_76 (by decide) rfl ?_
                refine r_iincN (a := i) (b := 1) (ls2 := [(0, .ref 169), (1, .int (nI t)), (2, .int hl), (3, .int (nI i)), (4, .int (nI (i + 1)))]) hE dX11_fewest_77 rfl rfl (by decide) rfl ?_
                refine r_goto (tgt := 32) hE dX11_fewest_80 (by decide) ?_
                refine r_locs hE (ls2 := [(0, .ref 169), (1, .int (nI t)), (2, .int hl), (3, .int (nI i)), (4, .int (nI (i + 1)))]) ?_ (ih (2 ^ (q_n (D 170).1 2) - (i + 1)) (by omega) (i + 1) _ _ rfl (by omega) (m_ot_t ot (m_ot_7 q1.2)) (by rw [q1.2.2.1 0 (by decide)]; exact hz) ⟨fun j hj => by rw [q1.2.1.1 j (by rcases hj with h | h | h | h <;> subst h <;> decide)]; exact f8.1 j hj, by rw [q1.2.2.1 13 (by decide)]; exact f8.2⟩ (m_few_y hv0 (Classical.not_not.mp (fun q => c71 ((y_is_0 q1.1).mpr q))) (fun b2 hb2 e => ?_) (by omega)))
                · simp [x_lk]
                · first
                  | exact absurd e (fun q => nI_pos (n := b2) (by omega) (by rw [← q]; decide))
                  | (rw [nI_eq (by omega) (by omega)] at e; subst e; omega)
            · refine r_goto (tgt := 77) hE dX11_fewest_61 (by decide) ?_
              refine r_iincN (a := i) (b := 1) (ls2 := [(0, .ref 169), (1, .int (nI t)), (2, .int hl), (3, .int (nI b)), (4, .int (nI (i + 1)))]) hE dX11_fewest_77 rfl rfl (by decide) rfl ?_
              refine r_goto (tgt := 32) hE dX11_fewest_80 (by decide) ?_
              refine r_locs hE (ls2 := [(0, .ref 169), (1, .int (nI t)), (2, .int hl), (3, .int (nI b)), (4, .int (nI (i + 1)))]) ?_ (ih (2 ^ (q_n (D 170).1 2) - (i + 1)) (by omega) (i + 1) _ _ rfl (by omega) ot hz f8 (m_few_k h3 h1 h4 (by omega)))
              · simp [x_lk]
    exact l2 0 (-1) _ (Nat.zero_le _) (m_ot_t (m_ot_0 m_ot_r) (m_ot_lay ql)) (by rw [ql.2.1 0 (by decide), y_si_1, if_pos rfl]) ⟨fun j hj => rfl, rfl⟩ (Or.inl ⟨rfl, fun s hs => absurd hs (by omega)⟩)
  · rw [if_pos c16]
    refine r_iconst (v := 0) hE dX11_fewest_19 (by decide) ?_
    refine r_ireturn hE dX11_fewest_20 rfl rfl (Nat.zero_le _) (Nat.zero_le _) ?_
    exact ⟨_, _, rfl, rfl, m_ot_0 (m_ot_0 m_ot_r), Or.inl ⟨c16, by rw [y_si_1, if_pos rfl]⟩⟩
theorem c_needs {V : x_E} {n : Nat} {L : List Nat} {D : y_D} {p q x y hl : Int32} (hL : y_ok L) (hW : m_W (D 170).1) : y_Ri V yX11_needs cX11_needs 6 (some .boolean) 6 [.ref 169, .int p, .int q, .int x, .int y, .int hl] n L D (fun v D2 => m_ot D D2 ∧ (((¬ (0 ≤ p ∧ p ≤ (D 170).1 2 - 1) ∨ ¬ (0 ≤ q ∧ q ≤ (D 170).1 1 - 1)) ∧ (D2 169).1 0 = 1) ∨ (¬ (¬ (0 ≤ p ∧ p ≤ (D 170).1 2 - 1) ∨ ¬ (0 ≤ q ∧ q ≤ (D 170).1 1 - 1)) ∧ ¬ ((0 ≤ x ∧ x ≤ 300) ∧ 0 ≤ y ∧ y ≤ 15) ∧ (D2 169).1 0 = 2) ∨ ∃ w t s f, w < q_n (D 170).1 2 ∧ t < q_n (D 170).1 1 ∧ s ≤ 300 ∧ f < 16 ∧ p = nI w ∧ q = nI t ∧ x = nI s ∧ y = nI f ∧ (D2 169).1 0 = 0 ∧ ∃ DL, m_L (D 170).1 DL t (-1) ∧ y_is v (m_all DL w s f hl))) := by
  refine y_ri (by decide) (Nat.le_of_ble_eq_true rfl) (fun E hE => ?_)
  change E 0 0 0 [(0, .ref 169), (1, .int p), (2, .int q), (3, .int x), (4, .int y), (5, .int hl)] [] (y_mk n L D)
  refine r_aload_n hE dX11_needs_0 rfl ?_
  refine r_iconst (v := 0) hE dX11_needs_1 (by decide) ?_
  refine t_puti hE f_X11_3 y_I_169_0 dX11_needs_2 (hL 169 (by decide)) rfl rfl ?_
  refine r_aload_n hE dX11_needs_5 rfl ?_
  refine r_aload_n hE dX11_needs_6 rfl ?_
  refine r_iload_n hE dX11_needs_7 rfl ?_
  refine r_iconst (v := 2) hE dX11_needs_8 (by decide) ?_
  refine t_invv (r := (some (.int (y_b (¬ (0 ≤ p ∧ p ≤ (D 170).1 2 - 1)))))) (S2 := (y_mk n L (y_si D 169 0 0))) hE [.int p, .int 2] (c_none (c := 2) hL (by decide)) v_yX11_none m_X11_262 dX11_needs_9 rfl (hL 169 (by decide)) (y_l_169 ((y_si D 169 0 0) 169)) rfl (by decide) ⟨Nat.le_refl _, Nat.le_refl _⟩ (Nat.le_of_ble_eq_true rfl) ?_
  show E 0 0 12 [(0, .ref 169), (1, .int p), (2, .int q), (3, .int x), (4, .int y), (5, .int hl)] [.int (y_b (¬ (0 ≤ p ∧ p ≤ (D 170).1 2 - 1))), .ref 169] (y_mk n L (y_si D 169 0 0))
  refine r_ifb_ne (tgt := 24) hE dX11_needs_12 (by decide) (fun c12 => ?_) (fun c12 => ?_)
  · refine r_iconst (v := 1) hE dX11_needs_24 (by decide) ?_
    refine r_goto (tgt := 29) hE dX11_needs_25 (by decide) ?_
    refine r_iconst (v := 1) hE dX11_needs_29 (by decide) ?_
    refine t_invv (r := (some (.int 1))) (S2 := (y_mk n L (y_si (y_si D 169 0 0) 169 0 1))) hE [.int 1, .int 1] (c_throwsT hL) v_yX11_throwsIf m_X11_85 dX11_needs_30 rfl (hL 169 (by decide)) (y_l_169 ((y_si D 169 0 0) 169)) rfl (by decide) ⟨Nat.le_refl _, Nat.le_refl _⟩ (Nat.le_of_ble_eq_true rfl) ?_
    show E 0 0 33 [(0, .ref 169), (1, .int p), (2, .int q), (3, .int x), (4, .int y), (5, .int hl)] [.int 1] (y_mk n L (y_si (y_si D 169 0 0) 169 0 1))
    refine r_if_ne (tgt := 71) hE dX11_needs_33 (by decide) (fun _ => ?_) (fun c33 => by first | exact absurd c33 (by decide) | exact absurd (by decide) c33)
    refine r_iconst (v := 0) hE dX11_needs_71 (by decide) ?_
    refine r_ireturn hE dX11_needs_72 rfl (by decide) (Nat.zero_le _) (Nat.zero_le _) ?_
    first
    | exact ⟨_, _, rfl, rfl, m_ot_0 (m_ot_0 m_ot_r), Or.inl ⟨by first | exact Or.inl c12 | exact Or.inr c21, by rw [y_si_1, if_pos rfl]⟩⟩
    | exact ⟨_, _, rfl, rfl, m_ot_0 (m_ot_0 m_ot_r), Or.inr (Or.inl ⟨fun h => h.elim c12 c21, by first | exact fun h => c45 h.1 | exact fun h => c56 h.2, by rw [y_si_1, if_pos rfl]⟩)⟩
  · refine r_aload_n hE dX11_needs_15 rfl ?_
    refine r_iload_n hE dX11_needs_16 rfl ?_
    refine r_iconst (v := 1) hE dX11_needs_17 (by decide) ?_
    refine t_invv (r := (some (.int (y_b (¬ (0 ≤ q ∧ q ≤ (D 170).1 1 - 1)))))) (S2 := (y_mk n L (y_si D 169 0 0))) hE [.int q, .int 1] (c_none (c := 1) hL (by decide)) v_yX11_none m_X11_262 dX11_needs_18 rfl (hL 169 (by decide)) (y_l_169 ((y_si D 169 0 0) 169)) rfl (by decide) ⟨Nat.le_refl _, Nat.le_refl _⟩ (Nat.le_of_ble_eq_true rfl) ?_
    show E 0 0 21 [(0, .ref 169), (1, .int p), (2, .int q), (3, .int x), (4, .int y), (5, .int hl)] [.int (y_b (¬ (0 ≤ q ∧ q ≤ (D 170).1 1 - 1))), .ref 169] (y_mk n L (y_si D 169 0 0))
    refine r_ifb_eq (tgt := 28) hE dX11_needs_21 (by decide) (fun c21 => ?_) (fun c21 => ?_)
    · refine r_iconst (v := 0) hE dX11_needs_28 (by decide) ?_
      refine r_iconst (v := 1) hE dX11_needs_29 (by decide) ?_
      refine t_invv (r := (some (.int 0))) (S2 := (y_mk n L (y_si D 169 0 0))) hE [.int 0, .int 1] (c_throwsF) v_yX11_throwsIf m_X11_85 dX11_needs_30 rfl (hL 169 (by decide)) (y_l_169 ((y_si D 169 0 0) 169)) rfl (by decide) ⟨Nat.le_refl _, Nat.le_refl _⟩ (Nat.le_of_ble_eq_true rfl) ?_
      show E 0 0 33 [(0, .ref 169), (1, .int p), (2, .int q), (3, .int x), (4, .int y), (5, .int hl)] [.int 0] (y_mk n L (y_si D 169 0 0))
      refine r_if_ne (tgt := 71) hE dX11_needs_33 (by decide) (fun c33 => by first | exact absurd c33 (by decide) | exact absurd (by decide) c33) (fun _ => ?_)
      refine r_aload_n hE dX11_needs_36 rfl ?_
      refine r_iload_n hE dX11_needs_37 rfl ?_
      refine r_iconst (v := 0) hE dX11_needs_38 (by decide) ?_
      refine r_sipush (v := 300) hE dX11_needs_39 (by decide) ?_
      refine t_invs (r := (some (.int (y_b (0 ≤ x ∧ x ≤ 300))))) (S2 := (y_mk n L (y_si D 169 0 0))) hE [.int x, .int 0, .int 300] (c_in) s_yX11_in m_X11_81 dX11_needs_42 rfl (by decide) ⟨Nat.le_refl _, Nat.le_refl _⟩ (Nat.le_of_ble_eq_true rfl) ?_
      show E 0 0 45 [(0, .ref 169), (1, .int p), (2, .int q), (3, .int x), (4, .int y), (5, .int hl)] [.int (y_b (0 ≤ x ∧ x ≤ 300)), .ref 169] (y_mk n L (y_si D 169 0 0))
      refine r_ifb_eq (tgt := 59) hE dX11_needs_45 (by decide) (fun c45 => ?_) (fun c45 => ?_)
      · refine r_iconst (v := 1) hE dX11_needs_59 (by decide) ?_
        refine r_goto (tgt := 64) hE dX11_needs_60 (by decide) ?_
        refine r_iconst (v := 2) hE dX11_needs_64 (by decide) ?_
        refine t_invv (r := (some (.int 1))) (S2 := (y_mk n L (y_si (y_si D 169 0 0) 169 0 2))) hE [.int 1, .int 2] (c_throwsT hL) v_yX11_throwsIf m_X11_85 dX11_needs_65 rfl (hL 169 (by decide)) (y_l_169 ((y_si D 169 0 0) 169)) rfl (by decide) ⟨Nat.le_refl _, Nat.le_refl _⟩ (Nat.le_of_ble_eq_true rfl) ?_
        show E 0 0 68 [(0, .ref 169), (1, .int p), (2, .int q), (3, .int x), (4, .int y), (5, .int hl)] [.int 1] (y_mk n L (y_si (y_si D 169 0 0) 169 0 2))
        refine r_if_eq (tgt := 73) hE dX11_needs_68 (by decide) (fun c68 => by first | exact absurd c68 (by decide) | exact absurd (by decide) c68) (fun _ => ?_)
        refine r_iconst (v := 0) hE dX11_needs_71 (by decide) ?_
        refine r_ireturn hE dX11_needs_72 rfl (by decide) (Nat.zero_le _) (Nat.zero_le _) ?_
        first
        | exact ⟨_, _, rfl, rfl, m_ot_0 (m_ot_0 m_ot_r), Or.inl ⟨by first | exact Or.inl c12 | exact Or.inr c21, by rw [y_si_1, if_pos rfl]⟩⟩
        | exact ⟨_, _, rfl, rfl, m_ot_0 (m_ot_0 m_ot_r), Or.inr (Or.inl ⟨fun h => h.elim c12 c21, by first | exact fun h => c45 h.1 | exact fun h => c56 h.2, by rw [y_si_1, if_pos rfl]⟩)⟩
      · refine r_iload hE dX11_needs_48 rfl ?_
        refine r_iconst (v := 0) hE dX11_needs_50 (by decide) ?_
        refine r_bipush (v := 15) hE dX11_needs_51 (by decide) ?_
        refine t_invs (r := (some (.int (y_b (0 ≤ y ∧ y ≤ 15))))) (S2 := (y_mk n L (y_si D 169 0 0))) hE [.int y, .int 0, .int 15] (c_in) s_yX11_in m_X11_81 dX11_needs_53 rfl (by decide) ⟨Nat.le_refl _, Nat.le_refl _⟩ (Nat.le_of_ble_eq_true rfl) ?_
        show E 0 0 56 [(0, .ref 169), (1, .int p), (2, .int q), (3, .int x), (4, .int y), (5, .int hl)] [.int (y_b (0 ≤ y ∧ y ≤ 15)), .ref 169] (y_mk n L (y_si D 169 0 0))
        refine r_ifb_ne (tgt := 63) hE dX11_needs_56 (by decide) (fun c56 => ?_) (fun c56 => ?_)
        · refine r_iconst (v := 0) hE dX11_needs_63 (by decide) ?_
          refine r_iconst (v := 2) hE dX11_needs_64 (by decide) ?_
          refine t_invv (r := (some (.int 0))) (S2 := (y_mk n L (y_si D 169 0 0))) hE [.int 0, .int 2] (c_throwsF) v_yX11_throwsIf m_X11_85 dX11_needs_65 rfl (hL 169 (by decide)) (y_l_169 ((y_si D 169 0 0) 169)) rfl (by decide) ⟨Nat.le_refl _, Nat.le_refl _⟩ (Nat.le_of_ble_eq_true rfl) ?_
          show E 0 0 68 [(0, .ref 169), (1, .int p), (2, .int q), (3, .int x), (4, .int y), (5, .int hl)] [.int 0] (y_mk n L (y_si D 169 0 0))
          refine r_if_eq (tgt := 73) hE dX11_needs_68 (by decide) (fun _ => ?_) (fun c68 => by first | exact absurd c68 (by decide) | exact absurd (by decide) c68)
          obtain ⟨w, hw, rfl⟩ := y_rng (k := q_n (D 170).1 2) (by have := hW.2.2.1.2; omega) (by rw [← hW.2.2.1.1]; exact Decidable.of_not_not c12)
          obtain ⟨t, ht, rfl⟩ := y_rng (k := q_n (D 170).1 1) (by have := hW.2.1.2; omega) (by rw [← hW.2.1.1]; exact Decidable.of_not_not c21)
          obtain ⟨s, hs, rfl⟩ := y_rng2 (k := 300) (by decide) c45
          obtain ⟨f, hf, rfl⟩ := y_rng2 (k := 15) (by decide) c56
          refine r_aload_n hE dX11_needs_73 rfl ?_
          refine r_iload_n hE dX11_needs_74 rfl ?_
          refine r_iconst (v := (-1)) hE dX11_needs_75 (by decide) ?_
          refine t_invvRv hE [.int (nI t), .int (-1)] (c_laysOut (D := y_si D 169 0 0) (t := t) (wo := (-1)) hL (by have := hW.2.1.2; omega) (hW.2.2.2.2.2.1 t ht)) v_yX11_laysOut m_X11_265 dX11_needs_76 rfl (hL 169 (by decide)) (y_l_169 ((y_si D 169 0 0) 169)) rfl (by decide) ⟨Nat.le_refl _, Nat.le_refl _⟩ (Nat.le_of_ble_eq_true rfl) (fun DL ql => ?_)
          have hwr := hW.2.2.2.2.2.1 t ht
          have hml : m_L (D 170).1 DL t (-1) := m_L_lay (D := y_si D 169 0 0) ql
          have hk3 := m_ls_b (wo := (-1)) hwr
          have h170 : DL 170 = D 170 := ql.1 170 (by decide) (by decide) (by decide) (by decide)
          show E 0 0 79 [(0, .ref 169), (1, .int (nI w)), (2, .int (nI t)), (3, .int (nI s)), (4, .int (nI f)), (5, .int hl)] [] (y_mk n L DL)
          refine r_aload_n hE dX11_needs_79 rfl ?_
          refine r_iload_n hE dX11_needs_80 rfl ?_
          refine r_iload_n hE dX11_needs_81 rfl ?_
          refine r_iload hE dX11_needs_82 rfl ?_
          refine r_iload hE dX11_needs_84 rfl ?_
          refine t_invvRi hE [.int (nI w), .int (nI s), .int (nI f), .int hl] (c_holdsAll (D := DL) (w := w) (x := s) (f := f) (hl := hl) hL (by have := hW.2.2.1.2; omega) (by rw [h170]; exact hW.2.2.2.2.2.2.1 w hw) (by omega) (by omega) (m_L_hd hwr hml)) v_yX11_holdsAll m_X11_284 dX11_needs_86 rfl (hL 169 (by decide)) (y_l_169 (DL 169)) rfl (by decide) ⟨Nat.le_refl _, Nat.le_refl _⟩ (Nat.le_of_ble_eq_true rfl) (fun v1 D1 q1 => ?_)
          show E 0 0 89 [(0, .ref 169), (1, .int (nI w)), (2, .int (nI t)), (3, .int (nI s)), (4, .int (nI f)), (5, .int hl)] [.int v1] (y_mk n L D1)
          refine r_ireturn hE dX11_needs_89 rfl (by exact y_is_nar q1.1) (Nat.zero_le _) (Nat.zero_le _) ?_
          exact ⟨_, _, rfl, rfl, m_ot_t (m_ot_0 m_ot_r) (m_ot_t (m_ot_lay ql) (m_ot_fx (y_fx_o (hs := [177]) q1.2 (by decide)) (by decide))), Or.inr (Or.inr ⟨w, t, s, f, hw, ht, hs, by omega, rfl, rfl, rfl, rfl, by rw [q1.2.1 169 (by decide), ql.2.1 0 (by decide), y_si_1, if_pos rfl], DL, hml, q1.1⟩)⟩
        · refine r_iconst (v := 1) hE dX11_needs_59 (by decide) ?_
          refine r_goto (tgt := 64) hE dX11_needs_60 (by decide) ?_
          refine r_iconst (v := 2) hE dX11_needs_64 (by decide) ?_
          refine t_invv (r := (some (.int 1))) (S2 := (y_mk n L (y_si (y_si D 169 0 0) 169 0 2))) hE [.int 1, .int 2] (c_throwsT hL) v_yX11_throwsIf m_X11_85 dX11_needs_65 rfl (hL 169 (by decide)) (y_l_169 ((y_si D 169 0 0) 169)) rfl (by decide) ⟨Nat.le_refl _, Nat.le_refl _⟩ (Nat.le_of_ble_eq_true rfl) ?_
          show E 0 0 68 [(0, .ref 169), (1, .int p), (2, .int q), (3, .int x), (4, .int y), (5, .int hl)] [.int 1] (y_mk n L (y_si (y_si D 169 0 0) 169 0 2))
          refine r_if_eq (tgt := 73) hE dX11_needs_68 (by decide) (fun c68 => by first | exact absurd c68 (by decide) | exact absurd (by decide) c68) (fun _ => ?_)
          refine r_iconst (v := 0) hE dX11_needs_71 (by decide) ?_
          refine r_ireturn hE dX11_needs_72 rfl (by decide) (Nat.zero_le _) (Nat.zero_le _) ?_
          first
          | exact ⟨_, _, rfl, rfl, m_ot_0 (m_ot_0 m_ot_r), Or.inl ⟨by first | exact Or.inl c12 | exact Or.inr c21, by rw [y_si_1, if_pos rfl]⟩⟩
          | exact ⟨_, _, rfl, rfl, m_ot_0 (m_ot_0 m_ot_r), Or.inr (Or.inl ⟨fun h => h.elim c12 c21, by first | exact fun h => c45 h.1 | exact fun h => c56 h.2, by rw [y_si_1, if_pos rfl]⟩)⟩
    · refine r_iconst (v := 1) hE dX11_needs_24 (by decide) ?_
      refine r_goto (tgt := 29) hE dX11_needs_25 (by decide) ?_
      refine r_iconst (v := 1) hE dX11_needs_29 (by decide) ?_
      refine t_invv (r := (some (.int 1))) (S2 := (y_mk n L (y_si (y_si D 169 0 0) 169 0 1))) hE [.int 1, .int 1] (c_throwsT hL) v_yX11_throwsIf m_X11_85 dX11_needs_30 rfl (hL 169 (by decide)) (y_l_169 ((y_si D 169 0 0) 169)) rfl (by decide) ⟨Nat.le_refl _, Nat.le_refl _⟩ (Nat.le_of_ble_eq_true rfl) ?_
      show E 0 0 33 [(0, .ref 169), (1, .int p), (2, .int q), (3, .int x), (4, .int y), (5, .int hl)] [.int 1] (y_mk n L (y_si (y_si D 169 0 0) 169 0 1))
      refine r_if_ne (tgt := 71) hE dX11_needs_33 (by decide) (fun _ => ?_) (fun c33 => by first | exact absurd c33 (by decide) | exact absurd (by decide) c33)
      refine r_iconst (v := 0) hE dX11_needs_71 (by decide) ?_
      refine r_ireturn hE dX11_needs_72 rfl (by decide) (Nat.zero_le _) (Nat.zero_le _) ?_
      first
      | exact ⟨_, _, rfl, rfl, m_ot_0 (m_ot_0 m_ot_r), Or.inl ⟨by first | exact Or.inl c12 | exact Or.inr c21, by rw [y_si_1, if_pos rfl]⟩⟩
      | exact ⟨_, _, rfl, rfl, m_ot_0 (m_ot_0 m_ot_r), Or.inr (Or.inl ⟨fun h => h.elim c12 c21, by first | exact fun h => c45 h.1 | exact fun h => c56 h.2, by rw [y_si_1, if_pos rfl]⟩)⟩
def m_lits (F : Nat → Int32) : Nat → Int32
  | 0 => 0
  | i + 1 => m_lits F i + (if F i = 0 then 0 else 1)
def m_bys (F : Nat → Int32) : Nat → Int32
  | 0 => 0
  | i + 1 => m_bys F i ||| (if F i < 0 then 0 else nI (2 ^ i))
/-- what look answers -/
def m_look (DL : y_D) (k ln c : Nat) : Int32 := if c = 0 then nI k else if c = 2 then nI ln else if c = 1 then m_lits (DL 174).1 k else if c = 3 then m_bys (DL 175).1 4 else m_bys (DL 176).1 4
theorem c_look {V : x_E} {n : Nat} {L : List Nat} {D : y_D} {p x : Int32} (hL : y_ok L) (hW : m_W (D 170).1) : y_Ri V yX11_look cX11_look 5 (some .int) 5 [.ref 169, .int p, .int x] n L D (fun v D2 => m_ot D D2 ∧ (((¬ (0 ≤ p ∧ p ≤ (D 170).1 1 - 1)) ∧ (D2 169).1 0 = 1) ∨ (¬ (¬ (0 ≤ p ∧ p ≤ (D 170).1 1 - 1)) ∧ ¬ (0 ≤ x ∧ x ≤ 4) ∧ (D2 169).1 0 = 2) ∨ ∃ t c, t < q_n (D 170).1 1 ∧ c ≤ 4 ∧ p = nI t ∧ x = nI c ∧ (D2 169).1 0 = 0 ∧ ∃ DL, m_L (D 170).1 DL t (-1) ∧ v = m_look DL (m_ls (D 170).1 t (-1)) (m_k (D 170).1 t) c)) := by
  refine y_ri (by decide) (Nat.le_of_ble_eq_true rfl) (fun E hE => ?_)
  change E 0 0 0 [(0, .ref 169), (1, .int p), (2, .int x)] [] (y_mk n L D)
  refine r_aload_n hE dX11_look_0 rfl ?_
  refine r_iconst (v := 0) hE dX11_look_1 (by decide) ?_
  refine t_puti hE f_X11_3 y_I_169_0 dX11_look_2 (hL 169 (by decide)) rfl rfl ?_
  refine r_aload_n hE dX11_look_5 rfl ?_
  refine r_aload_n hE dX11_look_6 rfl ?_
  refine r_iload_n hE dX11_look_7 rfl ?_
  refine r_iconst (v := 1) hE dX11_look_8 (by decide) ?_
  refine t_invv (r := (some (.int (y_b (¬ (0 ≤ p ∧ p ≤ (D 170).1 1 - 1)))))) (S2 := (y_mk n L (y_si D 169 0 0))) hE [.int p, .int 1] (c_none (c := 1) hL (by decide)) v_yX11_none m_X11_262 dX11_look_9 rfl (hL 169 (by decide)) (y_l_169 ((y_si D 169 0 0) 169)) rfl (by decide) ⟨Nat.le_refl _, Nat.le_refl _⟩ (Nat.le_of_ble_eq_true rfl) ?_
  show E 0 0 12 [(0, .ref 169), (1, .int p), (2, .int x)] [.int (y_b (¬ (0 ≤ p ∧ p ≤ (D 170).1 1 - 1))), .ref 169] (y_mk n L (y_si D 169 0 0))
  refine r_iconst (v := 1) hE dX11_look_12 (by decide) ?_
  refine t_invv (r := (some (.int (y_b (¬ (0 ≤ p ∧ p ≤ (D 170).1 1 - 1)))))) (S2 := (y_mk n L (if (¬ (0 ≤ p ∧ p ≤ (D 170).1 1 - 1)) then y_si (y_si D 169 0 0) 169 0 1 else y_si D 169 0 0))) hE [.int (y_b (¬ (0 ≤ p ∧ p ≤ (D 170).1 1 - 1))), .int 1] (c_throwsIf hL) v_yX11_throwsIf m_X11_85 dX11_look_13 rfl (hL 169 (by decide)) (y_l_169 ((y_si D 169 0 0) 169)) rfl (by decide) ⟨Nat.le_refl _, Nat.le_refl _⟩ (Nat.le_of_ble_eq_true rfl) ?_
  show E 0 0 16 [(0, .ref 169), (1, .int p), (2, .int x)] [.int (y_b (¬ (0 ≤ p ∧ p ≤ (D 170).1 1 - 1)))] (y_mk n L (if (¬ (0 ≤ p ∧ p ≤ (D 170).1 1 - 1)) then y_si (y_si D 169 0 0) 169 0 1 else y_si D 169 0 0))
  refine r_ifb_ne (tgt := 41) hE dX11_look_16 (by decide) (fun c16 => ?_) (fun c16 => ?_)
  · rw [if_pos c16]
    refine r_iconst (v := 0) hE dX11_look_41 (by decide) ?_
    refine r_ireturn hE dX11_look_42 rfl rfl (Nat.zero_le _) (Nat.zero_le _) ?_
    first
    | exact ⟨_, _, rfl, rfl, m_ot_0 (m_ot_0 m_ot_r), Or.inl ⟨c16, by rw [y_si_1, if_pos rfl]⟩⟩
    | exact ⟨_, _, rfl, rfl, m_ot_0 (m_ot_0 m_ot_r), Or.inr (Or.inl ⟨c16, c26, by rw [y_si_1, if_pos rfl]⟩)⟩
  · rw [if_neg c16]
    refine r_aload_n hE dX11_look_19 rfl ?_
    refine r_iload_n hE dX11_look_20 rfl ?_
    refine r_iconst (v := 0) hE dX11_look_21 (by decide) ?_
    refine r_iconst (v := 4) hE dX11_look_22 (by decide) ?_
    refine t_invs (r := (some (.int (y_b (0 ≤ x ∧ x ≤ 4))))) (S2 := (y_mk n L (y_si D 169 0 0))) hE [.int x, .int 0, .int 4] (c_in) s_yX11_in m_X11_81 dX11_look_23 rfl (by decide) ⟨Nat.le_refl _, Nat.le_refl _⟩ (Nat.le_of_ble_eq_true rfl) ?_
    show E 0 0 26 [(0, .ref 169), (1, .int p), (2, .int x)] [.int (y_b (0 ≤ x ∧ x ≤ 4)), .ref 169] (y_mk n L (y_si D 169 0 0))
    refine r_ifb_ne (tgt := 33) hE dX11_look_26 (by decide) (fun c26 => ?_) (fun c26 => ?_)
    · refine r_iconst (v := 0) hE dX11_look_33 (by decide) ?_
      refine r_iconst (v := 2) hE dX11_look_34 (by decide) ?_
      refine t_invv (r := (some (.int 0))) (S2 := (y_mk n L (y_si D 169 0 0))) hE [.int 0, .int 2] (c_throwsF) v_yX11_throwsIf m_X11_85 dX11_look_35 rfl (hL 169 (by decide)) (y_l_169 ((y_si D 169 0 0) 169)) rfl (by decide) ⟨Nat.le_refl _, Nat.le_refl _⟩ (Nat.le_of_ble_eq_true rfl) ?_
      show E 0 0 38 [(0, .ref 169), (1, .int p), (2, .int x)] [.int 0] (y_mk n L (y_si D 169 0 0))
      refine r_if_eq (tgt := 43) hE dX11_look_38 (by decide) (fun _ => ?_) (fun c38 => by first | exact absurd c38 (by decide) | exact absurd (by decide) c38)
      obtain ⟨t, ht, rfl⟩ := y_rng (k := q_n (D 170).1 1) (by have := hW.2.1.2; omega) (by rw [← hW.2.1.1]; exact Decidable.of_not_not c16)
      obtain ⟨c, hc, rfl⟩ := y_rng2 (k := 4) (by decide) c26
      refine r_aload_n hE dX11_look_43 rfl ?_
      refine r_iload_n hE dX11_look_44 rfl ?_
      refine r_iconst (v := (-1)) hE dX11_look_45 (by decide) ?_
      refine t_invvRv hE [.int (nI t), .int (-1)] (c_laysOut (D := y_si D 169 0 0) (t := t) (wo := (-1)) hL (by have := hW.2.1.2; omega) (hW.2.2.2.2.2.1 t ht)) v_yX11_laysOut m_X11_265 dX11_look_46 rfl (hL 169 (by decide)) (y_l_169 ((y_si D 169 0 0) 169)) rfl (by decide) ⟨Nat.le_refl _, Nat.le_refl _⟩ (Nat.le_of_ble_eq_true rfl) (fun DL ql => ?_)
      have hwr := hW.2.2.2.2.2.1 t ht
      have hml : m_L (D 170).1 DL t (-1) := m_L_lay (D := y_si D 169 0 0) ql
      have hk3 := m_ls_b (wo := (-1)) hwr
      have h170 : DL 170 = D 170 := ql.1 170 (by decide) (by decide) (by decide) (by decide)
      show E 0 0 49 [(0, .ref 169), (1, .int (nI t)), (2, .int (nI c))] [] (y_mk n L DL)
      refine r_iconst (v := 0) hE dX11_look_49 (by decide) ?_
      refine r_istore_n (ls2 := [(0, .ref 169), (1, .int (nI t)), (2, .int (nI c)), (3, .int 0)]) hE dX11_look_50 (by decide) rfl ?_
      refine r_iload_n hE dX11_look_51 rfl ?_
      refine r_if_ne (tgt := 60) hE dX11_look_52 (by decide) (fun c52 => ?_) (fun c52 => ?_)
      · have c52n : c ≠ 0 := fun q => c52 (by rw [q]; rfl)
        refine r_iload_n hE dX11_look_60 rfl ?_
        refine r_iconst (v := 2) hE dX11_look_61 (by decide) ?_
        refine r_icmp_neN (a := c) (b := 2) (tgt := 71) hE dX11_look_62 (by decide) (by omega) (by decide) (fun c62 => ?_) (fun c62 => ?_)
        · refine r_iconst (v := 0) hE dX11_look_71 (by decide) ?_
          refine r_istore (ls2 := [(0, .ref 169), (1, .int (nI t)), (2, .int (nI c)), (3, .int 0), (4, .int 0)]) hE dX11_look_72 (by decide) rfl ?_
          have l1 : ∀ (i : Nat) (v : Int32), i ≤ (m_ls (D 170).1 t (-1)) → ((c = 1 ∧ v = m_lits (DL 174).1 i) ∨ (c ≠ 1 ∧ v = 0)) → E 0 0 74 [(0, .ref 169), (1, .int (nI t)), (2, .int (nI c)), (3, .int v), (4, .int (nI i))] [] (y_mk n L DL) := by
            intro i v
            induction hm9 : ((m_ls (D 170).1 t (-1)) - i) using Nat.strongRecOn generalizing i v with
            | _ m9 ih =>
              intro hi hv
              subst hm9
              refine r_iload hE dX11_look_74 rfl ?_
              refine r_aload_n hE dX11_look_76 rfl ?_
              refine t_geti hE f_X11_249 y_I_169_13 dX11_look_77 (hL 169 (by decide)) ?_
              refine r_top (y := (nI (m_ls (D 170).1 t (-1)))) hml.2.1 ?_
              refine r_icmp_geN (a := i) (b := m_ls (D 170).1 t (-1)) (tgt := 112) hE dX11_look_80 (by decide) (by omega) (by omega) (fun c80 => ?_) (fun c80 => ?_)
              · refine r_iconst (v := 0) hE dX11_look_112 (by decide) ?_
                refine r_istore (ls2 := [(0, .ref 169), (1, .int (nI t)), (2, .int (nI c)), (3, .int v), (4, .int 0)]) hE dX11_look_113 (by decide) rfl ?_
                have l2 : ∀ (i : Nat) (v : Int32), i ≤ 4 → ((c = 1 ∧ v = m_lits (DL 174).1 (m_ls (D 170).1 t (-1))) ∨ (c = 3 ∧ v = m_bys (DL 175).1 i) ∨ (c = 4 ∧ v = m_bys (DL 176).1 i)) → E 0 0 115 [(0, .ref 169), (1, .int (nI t)), (2, .int (nI c)), (3, .int v), (4, .int (nI i))] [] (y_mk n L DL) := by
                  intro i v
                  induction hm9 : (4 - i) using Nat.strongRecOn generalizing i v with
                  | _ m9 ih =>
                    intro hi hv
                    subst hm9
                    refine r_iload hE dX11_look_115 rfl ?_
                    refine r_iconst (v := 4) hE dX11_look_117 (by decide) ?_
                    refine r_icmp_geN (a := i) (b := 4) (tgt := 168) hE dX11_look_118 (by decide) (by omega) (by decide) (fun c118 => ?_) (fun c118 => ?_)
                    · refine r_iload_n hE dX11_look_168 rfl ?_
                      refine r_ireturn hE dX11_look_169 rfl rfl (Nat.zero_le _) (Nat.zero_le _) ?_
                      refine ⟨_, _, rfl, rfl, m_ot_t (m_ot_0 m_ot_r) (m_ot_lay ql), Or.inr (Or.inr ⟨t, c, ht, hc, rfl, rfl, by rw [ql.2.1 0 (by decide), y_si_1, if_pos rfl], DL, hml, ?_⟩)⟩
                      rcases hv with ⟨e1, e2⟩ | ⟨e1, e2⟩ | ⟨e1, e2⟩ <;> (unfold m_look; subst e1; first | (rw [e2, show i = 4 by omega]; rfl) | (rw [e2]; rfl) | omega)
                    · refine r_iload_n hE dX11_look_121 rfl ?_
                      refine r_iconst (v := 1) hE dX11_look_122 (by decide) ?_
                      refine r_icmp_leN (a := c) (b := 1) (tgt := 168) hE dX11_look_123 (by decide) (by omega) (by decide) (fun c123 => ?_) (fun c123 => ?_)
                      · refine r_iload_n hE dX11_look_168 rfl ?_
                        refine r_ireturn hE dX11_look_169 rfl rfl (Nat.zero_le _) (Nat.zero_le _) ?_
                        refine ⟨_, _, rfl, rfl, m_ot_t (m_ot_0 m_ot_r) (m_ot_lay ql), Or.inr (Or.inr ⟨t, c, ht, hc, rfl, rfl, by rw [ql.2.1 0 (by decide), y_si_1, if_pos rfl], DL, hml, ?_⟩)⟩
                        rcases hv with ⟨e1, e2⟩ | ⟨e1, e2⟩ | ⟨e1, e2⟩ <;> (unfold m_look; subst e1; first | (rw [e2, show i = 4 by omega]; rfl) | (rw [e2]; rfl) | omega)
                      · refine r_iload_n hE dX11_look_126 rfl ?_
                        refine r_iload_n hE dX11_look_127 rfl ?_
                        refine r_iconst (v := 3) hE dX11_look_128 (by decide) ?_
                        refine r_icmp_neN (a := c) (b := 3) (tgt := 142) hE dX11_look_129 (by decide) (by omega) (by decide) (fun c129 => ?_) (fun c129 => ?_)
                        · refine r_aload_n hE dX11_look_142 rfl ?_
                          refine t_getr hE f_X11_37 y_R_169_16 dX11_look_143 (hL 169 (by decide)) ?_
                          refine r_iload hE dX11_look_146 rfl ?_
                          refine t_ialdN (e := i) hE y_A_176 dX11_look_148 (hL 176 (by decide)) (by omega) (by decide) ?_
                          refine r_if_lt (tgt := 159) hE dX11_look_149 (by decide) (fun c149 => ?_) (fun c149 => ?_)
                          · refine r_iconst (v := 0) hE dX11_look_159 (by decide) ?_
                            refine r_ior hE dX11_look_160 ?_
                            refine r_istore_n (ls2 := [(0, .ref 169), (1, .int (nI t)), (2, .int (nI c)), (3, .int (v ||| 0)), (4, .int (nI i))]) hE dX11_look_161 (by decide) rfl ?_
                            refine r_iincN (a := i) (b := 1) (ls2 := [(0, .ref 169), (1, .int (nI t)), (2, .int (nI c)), (3, .int (v ||| 0)), (4, .int (nI (i + 1)))]) hE dX11_look_162 rfl rfl (by decide) rfl ?_
                            refine r_goto (tgt := 115) hE dX11_look_165 (by decide) ?_
                            refine ih (4 - (i + 1)) (by omega) (i + 1) _ rfl (by omega) ?_
                            rcases hv with ⟨e1, e2⟩ | ⟨e1, e2⟩ | ⟨e1, e2⟩
                            · omega
                            · first
                              | omega
                              | (refine Or.inr (Or.inl ⟨e1, ?_⟩); rw [e2]; show _ = m_bys (DL 175).1 i ||| _; rw [if_pos c149])
                            · first
                              | omega
                              | (refine Or.inr (Or.inr ⟨e1, ?_⟩); rw [e2]; show _ = m_bys (DL 176).1 i ||| _; rw [if_pos c149])
                          · refine r_iconst (v := 1) hE dX11_look_152 (by decide) ?_
                            refine r_iload hE dX11_look_153 rfl ?_
                            refine r_shl1N (k := i) hE dX11_look_155 (by omega) ?_
                            refine r_goto (tgt := 160) hE dX11_look_156 (by decide) ?_
                            refine r_ior hE dX11_look_160 ?_
                            refine r_istore_n (ls2 := [(0, .ref 169), (1, .int (nI t)), (2, .int (nI c)), (3, .int (v ||| (nI (2 ^ i)))), (4, .int (nI i))]) hE dX11_look_161 (by decide) rfl ?_
                            refine r_iincN (a := i) (b := 1) (ls2 := [(0, .ref 169), (1, .int (nI t)), (2, .int (nI c)), (3, .int (v ||| (nI (2 ^ i)))), (4, .int (nI (i + 1)))]) hE dX11_look_162 rfl rfl (by decide) rfl ?_
                            refine r_goto (tgt := 115) hE dX11_look_165 (by decide) ?_
                            refine ih (4 - (i + 1)) (by omega) (i + 1) _ rfl (by omega) ?_
                            rcases hv with ⟨e1, e2⟩ | ⟨e1, e2⟩ | ⟨e1, e2⟩
                            · omega
                            · first
                              | omega
                              | (refine Or.inr (Or.inl ⟨e1, ?_⟩); rw [e2]; show _ = m_bys (DL 175).1 i ||| _; rw [if_neg c149])
                            · first
                              | omega
                              | (refine Or.inr (Or.inr ⟨e1, ?_⟩); rw [e2]; show _ = m_bys (DL 176).1 i ||| _; rw [if_neg c149])
                        · refine r_aload_n hE dX11_look_132 rfl ?_
                          refine t_getr hE f_X11_34 y_R_169_15 dX11_look_133 (hL 169 (by decide)) ?_
                          refine r_iload hE dX11_look_136 rfl ?_
                          refine t_ialdN (e := i) hE y_A_175 dX11_look_138 (hL 175 (by decide)) (by omega) (by decide) ?_
                          refine r_goto (tgt := 149) hE dX11_look_139 (by decide) ?_
                          refine r_if_lt (tgt := 159) hE dX11_look_149 (by decide) (fun c149 => ?_) (fun c149 => ?_)
                          · refine r_iconst (v := 0) hE dX11_look_159 (by decide) ?_
                            refine r_ior hE dX11_look_160 ?_
                            refine r_istore_n (ls2 := [(0, .ref 169), (1, .int (nI t)), (2, .int (nI c)), (3, .int (v ||| 0)), (4, .int (nI i))]) hE dX11_look_161 (by decide) rfl ?_
                            refine r_iincN (a := i) (b := 1) (ls2 := [(0, .ref 169), (1, .int (nI t)), (2, .int (nI c)), (3, .int (v ||| 0)), (4, .int (nI (i + 1)))]) hE dX11_look_162 rfl rfl (by decide) rfl ?_
                            refine r_goto (tgt := 115) hE dX11_look_165 (by decide) ?_
                            refine ih (4 - (i + 1)) (by omega) (i + 1) _ rfl (by omega) ?_
                            rcases hv with ⟨e1, e2⟩ | ⟨e1, e2⟩ | ⟨e1, e2⟩
                            · omega
                            · first
                              | omega
                              | (refine Or.inr (Or.inl ⟨e1, ?_⟩); rw [e2]; show _ = m_bys (DL 175).1 i ||| _; rw [if_pos c149])
                            · first
                              | omega
                              | (refine Or.inr (Or.inr ⟨e1, ?_⟩); rw [e2]; show _ = m_bys (DL 176).1 i ||| _; rw [if_pos c149])
                          · refine r_iconst (v := 1) hE dX11_look_152 (by decide) ?_
                            refine r_iload hE dX11_look_153 rfl ?_
                            refine r_shl1N (k := i) hE dX11_look_155 (by omega) ?_
                            refine r_goto (tgt := 160) hE dX11_look_156 (by decide) ?_
                            refine r_ior hE dX11_look_160 ?_
                            refine r_istore_n (ls2 := [(0, .ref 169), (1, .int (nI t)), (2, .int (nI c)), (3, .int (v ||| (nI (2 ^ i)))), (4, .int (nI i))]) hE dX11_look_161 (by decide) rfl ?_
                            refine r_iincN (a := i) (b := 1) (ls2 := [(0, .ref 169), (1, .int (nI t)), (2, .int (nI c)), (3, .int (v ||| (nI (2 ^ i)))), (4, .int (nI (i + 1)))]) hE dX11_look_162 rfl rfl (by decide) rfl ?_
                            refine r_goto (tgt := 115) hE dX11_look_165 (by decide) ?_
                            refine ih (4 - (i + 1)) (by omega) (i + 1) _ rfl (by omega) ?_
                            rcases hv with ⟨e1, e2⟩ | ⟨e1, e2⟩ | ⟨e1, e2⟩
                            · omega
                            · first
                              | omega
                              | (refine Or.inr (Or.inl ⟨e1, ?_⟩); rw [e2]; show _ = m_bys (DL 175).1 i ||| _; rw [if_neg c149])
                            · first
                              | omega
                              | (refine Or.inr (Or.inr ⟨e1, ?_⟩); rw [e2]; show _ = m_bys (DL 176).1 i ||| _; rw [if_neg c149])
                refine l2 0 v (by omega) ?_
                rcases hv with ⟨e1, e2⟩ | ⟨e1, e2⟩
                · refine Or.inl ⟨e1, ?_⟩
                  first | (rw [e2, show i = (m_ls (D 170).1 t (-1)) by omega]) | omega
                · rcases (show c = 3 ∨ c = 4 by omega) with e | e
                  · exact Or.inr (Or.inl ⟨e, e2⟩)
                  · exact Or.inr (Or.inr ⟨e, e2⟩)
              · refine r_iload_n hE dX11_look_83 rfl ?_
                refine r_iconst (v := 1) hE dX11_look_84 (by decide) ?_
                refine r_icmp_neN (a := c) (b := 1) (tgt := 112) hE dX11_look_85 (by decide) (by omega) (by decide) (fun c85 => ?_) (fun c85 => ?_)
                · refine r_iconst (v := 0) hE dX11_look_112 (by decide) ?_
                  refine r_istore (ls2 := [(0, .ref 169), (1, .int (nI t)), (2, .int (nI c)), (3, .int v), (4, .int 0)]) hE dX11_look_113 (by decide) rfl ?_
                  have l2 : ∀ (i : Nat) (v : Int32), i ≤ 4 → ((c = 1 ∧ v = m_lits (DL 174).1 (m_ls (D 170).1 t (-1))) ∨ (c = 3 ∧ v = m_bys (DL 175).1 i) ∨ (c = 4 ∧ v = m_bys (DL 176).1 i)) → E 0 0 115 [(0, .ref 169), (1, .int (nI t)), (2, .int (nI c)), (3, .int v), (4, .int (nI i))] [] (y_mk n L DL) := by
                    intro i v
                    induction hm9 : (4 - i) using Nat.strongRecOn generalizing i v with
                    | _ m9 ih =>
                      intro hi hv
                      subst hm9
                      refine r_iload hE dX11_look_115 rfl ?_
                      refine r_iconst (v := 4) hE dX11_look_117 (by decide) ?_
                      refine r_icmp_geN (a := i) (b := 4) (tgt := 168) hE dX11_look_118 (by decide) (by omega) (by decide) (fun c118 => ?_) (fun c118 => ?_)
                      · refine r_iload_n hE dX11_look_168 rfl ?_
                        refine r_ireturn hE dX11_look_169 rfl rfl (Nat.zero_le _) (Nat.zero_le _) ?_
                        refine ⟨_, _, rfl, rfl, m_ot_t (m_ot_0 m_ot_r) (m_ot_lay ql), Or.inr (Or.inr ⟨t, c, ht, hc, rfl, rfl, by rw [ql.2.1 0 (by decide), y_si_1, if_pos rfl], DL, hml, ?_⟩)⟩
                        rcases hv with ⟨e1, e2⟩ | ⟨e1, e2⟩ | ⟨e1, e2⟩ <;> (unfold m_look; subst e1; first | (rw [e2, show i = 4 by omega]; rfl) | (rw [e2]; rfl) | omega)
                      · refine r_iload_n hE dX11_look_121 rfl ?_
                        refine r_iconst (v := 1) hE dX11_look_122 (by decide) ?_
                        refine r_icmp_leN (a := c) (b := 1) (tgt := 168) hE dX11_look_123 (by decide) (by omega) (by decide) (fun c123 => ?_) (fun c123 => ?_)
                        · refine r_iload_n hE dX11_look_168 rfl ?_
                          refine r_ireturn hE dX11_look_169 rfl rfl (Nat.zero_le _) (Nat.zero_le _) ?_
                          refine ⟨_, _, rfl, rfl, m_ot_t (m_ot_0 m_ot_r) (m_ot_lay ql), Or.inr (Or.inr ⟨t, c, ht, hc, rfl, rfl, by rw [ql.2.1 0 (by decide), y_si_1, if_pos rfl], DL, hml, ?_⟩)⟩
                          rcases hv with ⟨e1, e2⟩ | ⟨e1, e2⟩ | ⟨e1, e2⟩ <;> (unfold m_look; subst e1; first | (rw [e2, show i = 4 by omega]; rfl) | (rw [e2]; rfl) | omega)
                        · refine r_iload_n hE dX11_look_126 rfl ?_
                          refine r_iload_n hE dX11_look_127 rfl ?_
                          refine r_iconst (v := 3) hE dX11_look_128 (by decide) ?_
                          refine r_icmp_neN (a := c) (b := 3) (tgt := 142) hE dX11_look_129 (by decide) (by omega) (by decide) (fun c129 => ?_) (fun c129 => ?_)
                          · refine r_aload_n hE dX11_look_142 rfl ?_
                            refine t_getr hE f_X11_37 y_R_169_16 dX11_look_143 (hL 169 (by decide)) ?_
                            refine r_iload hE dX11_look_146 rfl ?_
                            refine t_ialdN (e := i) hE y_A_176 dX11_look_148 (hL 176 (by decide)) (by omega) (by decide) ?_
                            refine r_if_lt (tgt := 159) hE dX11_look_149 (by decide) (fun c149 => ?_) (fun c149 => ?_)
                            · refine r_iconst (v := 0) hE dX11_look_159 (by decide) ?_
                              refine r_ior hE dX11_look_160 ?_
                              refine r_istore_n (ls2 := [(0, .ref 169), (1, .int (nI t)), (2, .int (nI c)), (3, .int (v ||| 0)), (4, .int (nI i))]) hE dX11_look_161 (by decide) rfl ?_
                              refine r_iincN (a := i) (b := 1) (ls2 := [(0, .ref 169), (1, .int (nI t)), (2, .int (nI c)), (3, .int (v ||| 0)), (4, .int (nI (i + 1)))]) hE dX11_look_162 rfl rfl (by decide) rfl ?_
                              refine r_goto (tgt := 115) hE dX11_look_165 (by decide) ?_
                              refine ih (4 - (i + 1)) (by omega) (i + 1) _ rfl (by omega) ?_
                              rcases hv with ⟨e1, e2⟩ | ⟨e1, e2⟩ | ⟨e1, e2⟩
                              · omega
                              · first
                                | omega
                                | (refine Or.inr (Or.inl ⟨e1, ?_⟩); rw [e2]; show _ = m_bys (DL 175).1 i ||| _; rw [if_pos c149])
                              · first
                                | omega
                                | (refine Or.inr (Or.inr ⟨e1, ?_⟩); rw [e2]; show _ = m_bys (DL 176).1 i ||| _; rw [if_pos c149])
                            · refine r_iconst (v := 1) hE dX11_look_152 (by decide) ?_
                              refine r_iload hE dX11_look_153 rfl ?_
                              refine r_shl1N (k := i) hE dX11_look_155 (by omega) ?_
                              refine r_goto (tgt := 160) hE dX11_look_156 (by decide) ?_
                              refine r_ior hE dX11_look_160 ?_
                              refine r_istore_n (ls2 := [(0, .ref 169), (1, .int (nI t)), (2, .int (nI c)), (3, .int (v ||| (nI (2 ^ i)))), (4, .int (nI i))]) hE dX11_look_161 (by decide) rfl ?_
                              refine r_iincN (a := i) (b := 1) (ls2 := [(0, .ref 169), (1, .int (nI t)), (2, .int (nI c)), (3, .int (v ||| (nI (2 ^ i)))), (4, .int (nI (i + 1)))]) hE dX11_look_162 rfl rfl (by decide) rfl ?_
                              refine r_goto (tgt := 115) hE dX11_look_165 (by decide) ?_
                              refine ih (4 - (i + 1)) (by omega) (i + 1) _ rfl (by omega) ?_
                              rcases hv with ⟨e1, e2⟩ | ⟨e1, e2⟩ | ⟨e1, e2⟩
                              · omega
                              · first
                                | omega
                                | (refine Or.inr (Or.inl ⟨e1, ?_⟩); rw [e2]; show _ = m_bys (DL 175).1 i ||| _; rw [if_neg c149])
                              · first
                                | omega
                                | (refine Or.inr (Or.inr ⟨e1, ?_⟩); rw [e2]; show _ = m_bys (DL 176).1 i ||| _; rw [if_neg c149])
                          · refine r_aload_n hE dX11_look_132 rfl ?_
                            refine t_getr hE f_X11_34 y_R_169_15 dX11_look_133 (hL 169 (by decide)) ?_
                            refine r_iload hE dX11_look_136 rfl ?_
                            refine t_ialdN (e := i) hE y_A_175 dX11_look_138 (hL 175 (by decide)) (by omega) (by decide) ?_
                            refine r_goto (tgt := 149) hE dX11_look_139 (by decide) ?_
                            refine r_if_lt (tgt := 159) hE dX11_look_149 (by decide) (fun c149 => ?_) (fun c149 => ?_)
                            · refine r_iconst (v := 0) hE dX11_look_159 (by decide) ?_
                              refine r_ior hE dX11_look_160 ?_
                              refine r_istore_n (ls2 := [(0, .ref 169), (1, .int (nI t)), (2, .int (nI c)), (3, .int (v ||| 0)), (4, .int (nI i))]) hE dX11_look_161 (by decide) rfl ?_
                              refine r_iincN (a := i) (b := 1) (ls2 := [(0, .ref 169), (1, .int (nI t)), (2, .int (nI c)), (3, .int (v ||| 0)), (4, .int (nI (i + 1)))]) hE dX11_look_162 rfl rfl (by decide) rfl ?_
                              refine r_goto (tgt := 115) hE dX11_look_165 (by decide) ?_
                              refine ih (4 - (i + 1)) (by omega) (i + 1) _ rfl (by omega) ?_
                              rcases hv with ⟨e1, e2⟩ | ⟨e1, e2⟩ | ⟨e1, e2⟩
                              · omega
                              · first
                                | omega
                                | (refine Or.inr (Or.inl ⟨e1, ?_⟩); rw [e2]; show _ = m_bys (DL 175).1 i ||| _; rw [if_pos c149])
                              · first
                                | omega
                                | (refine Or.inr (Or.inr ⟨e1, ?_⟩); rw [e2]; show _ = m_bys (DL 176).1 i ||| _; rw [if_pos c149])
                            · refine r_iconst (v := 1) hE dX11_look_152 (by decide) ?_
                              refine r_iload hE dX11_look_153 rfl ?_
                              refine r_shl1N (k := i) hE dX11_look_155 (by omega) ?_
                              refine r_goto (tgt := 160) hE dX11_look_156 (by decide) ?_
                              refine r_ior hE dX11_look_160 ?_
                              refine r_istore_n (ls2 := [(0, .ref 169), (1, .int (nI t)), (2, .int (nI c)), (3, .int (v ||| (nI (2 ^ i)))), (4, .int (nI i))]) hE dX11_look_161 (by decide) rfl ?_
                              refine r_iincN (a := i) (b := 1) (ls2 := [(0, .ref 169), (1, .int (nI t)), (2, .int (nI c)), (3, .int (v ||| (nI (2 ^ i)))), (4, .int (nI (i + 1)))]) hE dX11_look_162 rfl rfl (by decide) rfl ?_
                              refine r_goto (tgt := 115) hE dX11_look_165 (by decide) ?_
                              refine ih (4 - (i + 1)) (by omega) (i + 1) _ rfl (by omega) ?_
                              rcases hv with ⟨e1, e2⟩ | ⟨e1, e2⟩ | ⟨e1, e2⟩
                              · omega
                              · first
                                | omega
                                | (refine Or.inr (Or.inl ⟨e1, ?_⟩); rw [e2]; show _ = m_bys (DL 175).1 i ||| _; rw [if_neg c149])
                              · first
                                | omega
                                | (refine Or.inr (Or.inr ⟨e1, ?_⟩); rw [e2]; show _ = m_bys (DL 176).1 i ||| _; rw [if_neg c149])
                  refine l2 0 v (by omega) ?_
                  rcases hv with ⟨e1, e2⟩ | ⟨e1, e2⟩
                  · refine Or.inl ⟨e1, ?_⟩
                    first | (rw [e2, show i = (m_ls (D 170).1 t (-1)) by omega]) | omega
                  · rcases (show c = 3 ∨ c = 4 by omega) with e | e
                    · exact Or.inr (Or.inl ⟨e, e2⟩)
                    · exact Or.inr (Or.inr ⟨e, e2⟩)
                · refine r_iload_n hE dX11_look_88 rfl ?_
                  refine r_aload_n hE dX11_look_89 rfl ?_
                  refine t_getr hE f_X11_30 y_R_169_14 dX11_look_90 (hL 169 (by decide)) ?_
                  refine r_iload hE dX11_look_93 rfl ?_
                  refine t_zaldN (e := i) hE y_A_174 dX11_look_95 (hL 174 (by decide)) (by omega) (by decide) ?_
                  refine r_if_eq (tgt := 103) hE dX11_look_96 (by decide) (fun c96 => ?_) (fun c96 => ?_)
                  · refine r_iconst (v := 0) hE dX11_look_103 (by decide) ?_
                    refine r_iadd hE dX11_look_104 ?_
                    refine r_istore_n (ls2 := [(0, .ref 169), (1, .int (nI t)), (2, .int (nI c)), (3, .int (v + 0)), (4, .int (nI i))]) hE dX11_look_105 (by decide) rfl ?_
                    refine r_iincN (a := i) (b := 1) (ls2 := [(0, .ref 169), (1, .int (nI t)), (2, .int (nI c)), (3, .int (v + 0)), (4, .int (nI (i + 1)))]) hE dX11_look_106 rfl rfl (by decide) rfl ?_
                    refine r_goto (tgt := 74) hE dX11_look_109 (by decide) ?_
                    refine ih ((m_ls (D 170).1 t (-1)) - (i + 1)) (by omega) (i + 1) _ rfl (by omega) (Or.inl ⟨by omega, ?_⟩)
                    rcases hv with ⟨e1, e2⟩ | ⟨e1, e2⟩
                    · rw [e2]
                      show _ = m_lits (DL 174).1 i + _
                      rw [if_pos c96]
                    · omega
                  · refine r_iconst (v := 1) hE dX11_look_99 (by decide) ?_
                    refine r_goto (tgt := 104) hE dX11_look_100 (by decide) ?_
                    refine r_iadd hE dX11_look_104 ?_
                    refine r_istore_n (ls2 := [(0, .ref 169), (1, .int (nI t)), (2, .int (nI c)), (3, .int (v + 1)), (4, .int (nI i))]) hE dX11_look_105 (by decide) rfl ?_
                    refine r_iincN (a := i) (b := 1) (ls2 := [(0, .ref 169), (1, .int (nI t)), (2, .int (nI c)), (3, .int (v + 1)), (4, .int (nI (i + 1)))]) hE dX11_look_106 rfl rfl (by decide) rfl ?_
                    refine r_goto (tgt := 74) hE dX11_look_109 (by decide) ?_
                    refine ih ((m_ls (D 170).1 t (-1)) - (i + 1)) (by omega) (i + 1) _ rfl (by omega) (Or.inl ⟨by omega, ?_⟩)
                    rcases hv with ⟨e1, e2⟩ | ⟨e1, e2⟩
                    · rw [e2]
                      show _ = m_lits (DL 174).1 i + _
                      rw [if_neg c96]
                    · omega
          refine l1 0 0 (by omega) ?_
          by_cases e : c = 1
          · exact Or.inl ⟨e, rfl⟩
          · exact Or.inr ⟨e, rfl⟩
        · refine r_aload_n hE dX11_look_65 rfl ?_
          refine r_iload_n hE dX11_look_66 rfl ?_
          refine t_invv (r := (some (.int ((DL 170).1 (237 + 851 * t))))) (S2 := (y_mk n L DL)) hE [.int (nI t)] (c_lines (t := t) hL (by have := hW.2.1.2; omega)) v_yX11_lines m_X11_252 dX11_look_67 rfl (hL 169 (by decide)) (y_l_169 (DL 169)) rfl (by decide) ⟨Nat.le_refl _, Nat.le_refl _⟩ (Nat.le_of_ble_eq_true rfl) ?_
          show E 0 0 70 [(0, .ref 169), (1, .int (nI t)), (2, .int (nI c)), (3, .int 0)] [.int ((DL 170).1 (237 + 851 * t))] (y_mk n L DL)
          refine r_top (y := (nI (m_k (D 170).1 t))) (by rw [h170]; exact hwr.1.1) ?_
          refine r_ireturn hE dX11_look_70 rfl rfl (Nat.zero_le _) (Nat.zero_le _) ?_
          refine ⟨_, _, rfl, rfl, m_ot_t (m_ot_0 m_ot_r) (m_ot_lay ql), Or.inr (Or.inr ⟨t, c, ht, hc, rfl, rfl, by rw [ql.2.1 0 (by decide), y_si_1, if_pos rfl], DL, hml, ?_⟩)⟩
          unfold m_look
          rw [if_neg (by omega), if_pos c62]
      · refine r_aload_n hE dX11_look_55 rfl ?_
        refine t_geti hE f_X11_249 y_I_169_13 dX11_look_56 (hL 169 (by decide)) ?_
        refine r_top (y := (nI (m_ls (D 170).1 t (-1)))) hml.2.1 ?_
        refine r_ireturn hE dX11_look_59 rfl rfl (Nat.zero_le _) (Nat.zero_le _) ?_
        refine ⟨_, _, rfl, rfl, m_ot_t (m_ot_0 m_ot_r) (m_ot_lay ql), Or.inr (Or.inr ⟨t, c, ht, hc, rfl, rfl, by rw [ql.2.1 0 (by decide), y_si_1, if_pos rfl], DL, hml, ?_⟩)⟩
        unfold m_look
        rw [if_pos ((nI_eq (b := 0) (by omega) (by decide)).mp c52)]
    · refine r_iconst (v := 1) hE dX11_look_29 (by decide) ?_
      refine r_goto (tgt := 34) hE dX11_look_30 (by decide) ?_
      refine r_iconst (v := 2) hE dX11_look_34 (by decide) ?_
      refine t_invv (r := (some (.int 1))) (S2 := (y_mk n L (y_si (y_si D 169 0 0) 169 0 2))) hE [.int 1, .int 2] (c_throwsT hL) v_yX11_throwsIf m_X11_85 dX11_look_35 rfl (hL 169 (by decide)) (y_l_169 ((y_si D 169 0 0) 169)) rfl (by decide) ⟨Nat.le_refl _, Nat.le_refl _⟩ (Nat.le_of_ble_eq_true rfl) ?_
      show E 0 0 38 [(0, .ref 169), (1, .int p), (2, .int x)] [.int 1] (y_mk n L (y_si (y_si D 169 0 0) 169 0 2))
      refine r_if_eq (tgt := 43) hE dX11_look_38 (by decide) (fun c38 => by first | exact absurd c38 (by decide) | exact absurd (by decide) c38) (fun _ => ?_)
      refine r_iconst (v := 0) hE dX11_look_41 (by decide) ?_
      refine r_ireturn hE dX11_look_42 rfl rfl (Nat.zero_le _) (Nat.zero_le _) ?_
      first
      | exact ⟨_, _, rfl, rfl, m_ot_0 (m_ot_0 m_ot_r), Or.inl ⟨c16, by rw [y_si_1, if_pos rfl]⟩⟩
      | exact ⟨_, _, rfl, rfl, m_ot_0 (m_ot_0 m_ot_r), Or.inr (Or.inl ⟨c16, c26, by rw [y_si_1, if_pos rfl]⟩)⟩

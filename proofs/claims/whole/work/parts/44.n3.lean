/-! the reference: what a WAY says -/
def y_is (v : Int32) (P : Prop) : Prop := (v = 1 ∧ P) ∨ (v = 0 ∧ ¬ P)
theorem y_is_b {p P : Prop} [Decidable p] (h : p ↔ P) : y_is (y_b p) P := by
  by_cases c : p
  · exact Or.inl ⟨y_b_t c, h.mp c⟩
  · exact Or.inr ⟨y_b_f c, fun q => c (h.mpr q)⟩
theorem y_is_imp {v : Int32} {P Q : Prop} (h : y_is v P) (hi : P ↔ Q) : y_is v Q := by
  rcases h with ⟨h1, h2⟩ | ⟨h1, h2⟩
  · exact Or.inl ⟨h1, hi.mp h2⟩
  · exact Or.inr ⟨h1, fun q => h2 (hi.mpr q)⟩
theorem y_is_nar {v : Int32} {P : Prop} (h : y_is v P) : narrow .boolean (.int v) = .int v := by
  rcases h with ⟨h1, -⟩ | ⟨h1, -⟩ <;> subst h1 <;> rfl
theorem y_is_nar2 {v : Int32} {P : Prop} (h : y_is v P) : vp_nar .boolean v = v := by
  rcases h with ⟨h1, -⟩ | ⟨h1, -⟩ <;> subst h1 <;> rfl
theorem y_is_0 {v : Int32} {P : Prop} (h : y_is v P) : v = 0 ↔ ¬ P := by
  rcases h with ⟨h1, h2⟩ | ⟨h1, h2⟩
  · rw [h1]; exact ⟨fun q => absurd q (by decide), fun q => absurd h2 q⟩
  · exact ⟨fun _ => h2, fun _ => h1⟩
theorem m_line_fr {D D2 : y_D} (a : y_o1 177 D D2) : m_line D2 = m_line D := by
  funext t i x f hl
  unfold m_line
  rw [m_ask_fr a, a.1 170 (by decide)]
def m_alls (D : y_D) (t x f : Nat) (hl : Int32) (k : Nat) : Prop := ∀ i, i < k → m_o (D 170).1 t i 0 = 3 → m_line D t i x f hl = [1]
/-- all need LINES of the WAY w hold -/
def m_all (D : y_D) (w x f : Nat) (hl : Int32) : Prop := m_alls D (4 + w) x f hl (m_k (D 170).1 (4 + w))
theorem m_alls_s {D : y_D} {t x f : Nat} {hl : Int32} {k : Nat} : m_alls D t x f hl (k + 1) ↔ m_alls D t x f hl k ∧ (m_o (D 170).1 t k 0 = 3 → m_line D t k x f hl = [1]) := by
  unfold m_alls
  refine ⟨fun h => ⟨fun i hi => h i (by omega), h k (by omega)⟩, fun h i hi => ?_⟩
  by_cases c : i = k
  · rw [c]; exact h.2
  · exact h.1 i (by omega)
def m_lst (W : Nat → Int32) (t c d : Nat) : Nat → Nat
  | 0 => d
  | i + 1 => if m_o W t i 0 = c then m_o W t i 1 else m_lst W t c d i
def m_fb (W : Nat → Int32) (t : Nat) : Nat → Nat
  | 0 => 0
  | i + 1 => if m_o W t i 0 = 0 then m_fb W t i ||| 2 ^ m_o W t i 1 else m_fb W t i
abbrev m_take (W : Nat → Int32) (w : Nat) : Nat := m_lst W (4 + w) 1 1 (m_k W (4 + w))
abbrev m_reach (W : Nat → Int32) (w : Nat) : Nat := m_lst W (4 + w) 2 0 (m_k W (4 + w))
abbrev m_frees (W : Nat → Int32) (w : Nat) : Nat := m_fb W (4 + w) (m_k W (4 + w))
def m_rc (W : Nat → Int32) (u : Int32) : Nat → Nat
  | 0 => 0
  | i + 1 => if y_bit u i then max (m_rc W u i) (m_reach W i) else m_rc W u i
theorem m_lst_b {W : Nat → Int32} {t c d B : Nat} (hd : d ≤ B) : ∀ {k}, (∀ i, i < k → m_o W t i 0 = c → m_o W t i 1 ≤ B) → m_lst W t c d k ≤ B
  | 0, _ => hd
  | k + 1, h => by
    unfold m_lst
    by_cases q : m_o W t k 0 = c
    · rw [if_pos q]; exact h k (by omega) q
    · rw [if_neg q]; exact m_lst_b hd (fun i hi => h i (by omega))
theorem m_take_b {W : Nat → Int32} {w : Nat} (h : m_ww W (4 + w)) : m_take W w ≤ 60 := m_lst_b (by omega) (fun i hi c => ((h.2 i hi).2.2.2.1 c).2)
theorem m_reach_b {W : Nat → Int32} {w : Nat} (h : m_ww W (4 + w)) : m_reach W w ≤ 9 := m_lst_b (by omega) (fun i hi c => (h.2 i hi).2.2.2.2.1 c)
theorem m_take_1 {W : Nat → Int32} {w : Nat} (h : m_ww W (4 + w)) : 1 ≤ m_take W w := by
  have : ∀ k, k ≤ m_k W (4 + w) → 1 ≤ m_lst W (4 + w) 1 1 k := by
    intro k
    induction k with
    | zero => intro _; exact Nat.le_refl _
    | succ k ih =>
      intro hk
      unfold m_lst
      by_cases q : m_o W (4 + w) k 0 = 1
      · rw [if_pos q]; exact ((h.2 k (by omega)).2.2.2.1 q).1
      · rw [if_neg q]; exact ih (by omega)
  exact this _ (Nat.le_refl _)
theorem m_fb_b {W : Nat → Int32} {t : Nat} : ∀ {k}, (∀ i, i < k → m_o W t i 0 = 0 → m_o W t i 1 < 4) → m_fb W t k < 16
  | 0, _ => by show 0 < 16; decide
  | k + 1, h => by
    unfold m_fb
    have i1 := m_fb_b (W := W) (t := t) (k := k) (fun i hi => h i (by omega))
    by_cases q : m_o W t k 0 = 0
    · rw [if_pos q]
      exact Nat.or_lt_two_pow (n := 4) i1 (Nat.pow_lt_pow_right (by decide) (h k (by omega) q))
    · rw [if_neg q]; exact i1
theorem m_frees_b {W : Nat → Int32} {w : Nat} (h : m_ww W (4 + w)) : m_frees W w < 16 := m_fb_b (fun i hi c => (h.2 i hi).2.2.1 c)
theorem y_orN : ∀ a, a < 16 → ∀ b, b < 16 → nI a ||| nI b = nI (a ||| b) := by decide +kernel
theorem y_maxN {a b : Nat} (ha : a < 2 ^ 31) (hb : b < 2 ^ 31) : (if nI a < nI b then nI b else nI a) = nI (max a b) := by
  by_cases h : a < b
  · rw [if_pos (nI_lt h hb), Nat.max_eq_right (by omega)]
  · rw [if_neg (nI_nlt (by omega) ha), Nat.max_eq_left (by omega)]
def m_cd (W : Nat → Int32) (th f rc : Nat) : Prop := W (28 + 3 * th) ≤ nI (y_pop (f % 4)) ∧ W (28 + 3 * th + 1) ≤ nI (y_pop (f / 4)) ∧ W (28 + 3 * th + 2) ≤ nI rc
theorem c_holdsAll {V : x_E} {n : Nat} {L : List Nat} {D : y_D} {w x f : Nat} {hl : Int32} (hL : y_ok L) (hw6 : w < 6) (hw : m_ww (D 170).1 (4 + w)) (hx : x < 301) (hf : f < 16) (hh : ∀ l, l < 4 → m_hd ((D 175).1 l)) : y_Ri V yX11_holdsAll cX11_holdsAll 8 (some .boolean) 5 [.ref 169, .int (nI w), .int (nI x), .int (nI f), .int hl] n L D (fun v D2 => y_is v (m_all D w x f hl) ∧ y_o1 177 D D2) := by
  refine y_ri (by decide) (Nat.le_of_ble_eq_true rfl) (fun E hE => ?_)
  change E 0 0 0 [(0, .ref 169), (1, .int (nI w)), (2, .int (nI x)), (3, .int (nI f)), (4, .int hl)] [] (y_mk n L D)
  have lp : ∀ (i : Nat) (v : Int32) (D8 : y_D), i ≤ m_k (D 170).1 (4 + w) → y_is v (m_alls D (4 + w) x f hl i) → y_o1 177 D D8 → E 0 0 11 [(0, .ref 169), (1, .int (nI w)), (2, .int (nI x)), (3, .int (nI f)), (4, .int hl), (5, .int (nI (4 + w))), (6, .int v), (7, .int (nI i))] [] (y_mk n L D8) := by
    intro i v D8
    induction hm9 : (m_k (D 170).1 (4 + w) - i) using Nat.strongRecOn generalizing i v D8 with
    | _ m9 ih =>
      intro hi hv fr
      subst hm9
      have hk9 : m_k (D 170).1 (4 + w) ≤ 10 := hw.1.2
      refine r_iload hE dX11_holdsAll_11 rfl ?_
      refine r_aload_n hE dX11_holdsAll_13 rfl ?_
      refine r_iload hE dX11_holdsAll_14 rfl ?_
      refine t_invv (r := (some (.int ((D8 170).1 (237 + 851 * (4 + w)))))) (S2 := (y_mk n L D8)) hE [.int (nI (4 + w))] (c_lines hL (by omega)) v_yX11_lines m_X11_252 dX11_holdsAll_16 rfl (hL 169 (by decide)) (y_l_169 (D8 169)) rfl (by decide) ⟨Nat.le_refl _, Nat.le_refl _⟩ (Nat.le_of_ble_eq_true rfl) ?_
      show E 0 0 19 [(0, .ref 169), (1, .int (nI w)), (2, .int (nI x)), (3, .int (nI f)), (4, .int hl), (5, .int (nI (4 + w))), (6, .int v), (7, .int (nI i))] [.int ((D8 170).1 (237 + 851 * (4 + w))), .int (nI i)] (y_mk n L D8)
      refine r_top (y := (nI (m_k (D 170).1 (4 + w)))) (by rw [fr.1 170 (by decide)]; exact hw.1.1) ?_
      refine r_icmp_geN (a := i) (b := m_k (D 170).1 (4 + w)) (tgt := 67) hE dX11_holdsAll_19 (by decide) (by omega) (by omega) (fun c19 => ?_) (fun c19 => ?_)
      · refine r_iload hE dX11_holdsAll_67 rfl ?_
        refine r_ireturn hE dX11_holdsAll_69 rfl (by exact y_is_nar hv) (Nat.zero_le _) (Nat.zero_le _) ?_
        refine ⟨_, _, rfl, rfl, ?_, fr⟩
        first
        | (refine y_is_imp hv ?_; rw [show i = m_k (D 170).1 (4 + w) by omega]; exact Iff.rfl)
        | (rw [y_is_0 hv] at c24; rcases hv with ⟨-, h2⟩ | ⟨h1, h2⟩; exact absurd h2 c24; exact Or.inr ⟨h1, fun q => h2 (fun j hj => q j (by omega))⟩)
      · refine r_iload hE dX11_holdsAll_22 rfl ?_
        refine r_if_eq (tgt := 67) hE dX11_holdsAll_24 (by decide) (fun c24 => ?_) (fun c24 => ?_)
        · refine r_iload hE dX11_holdsAll_67 rfl ?_
          refine r_ireturn hE dX11_holdsAll_69 rfl (by exact y_is_nar hv) (Nat.zero_le _) (Nat.zero_le _) ?_
          refine ⟨_, _, rfl, rfl, ?_, fr⟩
          first
          | (refine y_is_imp hv ?_; rw [show i = m_k (D 170).1 (4 + w) by omega]; exact Iff.rfl)
          | (rw [y_is_0 hv] at c24; rcases hv with ⟨-, h2⟩ | ⟨h1, h2⟩; exact absurd h2 c24; exact Or.inr ⟨h1, fun q => h2 (fun j hj => q j (by omega))⟩)
        · have hs9 : m_o (D 170).1 (4 + w) i 0 ≤ 3 := (hw.2 i (by omega)).1.2
          refine r_aload_n hE dX11_holdsAll_27 rfl ?_
          refine r_iload hE dX11_holdsAll_28 rfl ?_
          refine r_iload hE dX11_holdsAll_30 rfl ?_
          refine t_invv (r := (some (.int ((D8 170).1 (237 + 851 * (4 + w) + 1 + 5 * i))))) (S2 := (y_mk n L D8)) hE [.int (nI (4 + w)), .int (nI i)] (c_sortOf hL (by omega) (by omega)) v_yX11_sortOf m_X11_259 dX11_holdsAll_32 rfl (hL 169 (by decide)) (y_l_169 (D8 169)) rfl (by decide) ⟨Nat.le_refl _, Nat.le_refl _⟩ (Nat.le_of_ble_eq_true rfl) ?_
          show E 0 0 35 [(0, .ref 169), (1, .int (nI w)), (2, .int (nI x)), (3, .int (nI f)), (4, .int hl), (5, .int (nI (4 + w))), (6, .int v), (7, .int (nI i))] [.int ((D8 170).1 (237 + 851 * (4 + w) + 1 + 5 * i))] (y_mk n L D8)
          refine r_top (y := (nI (m_o (D 170).1 (4 + w) i 0))) (by rw [fr.1 170 (by decide)]; exact (hw.2 i (by omega)).1.1) ?_
          refine r_iconst (v := 3) hE dX11_holdsAll_35 (by decide) ?_
          refine r_icmp_neN (a := m_o (D 170).1 (4 + w) i 0) (b := 3) (tgt := 54) hE dX11_holdsAll_36 (by decide) (by omega) (by decide) (fun c36 => ?_) (fun c36 => ?_)
          · refine r_iconst (v := 1) hE dX11_holdsAll_54 (by decide) ?_
            refine r_goto (tgt := 59) hE dX11_holdsAll_55 (by decide) ?_
            refine r_istore (ls2 := [(0, .ref 169), (1, .int (nI w)), (2, .int (nI x)), (3, .int (nI f)), (4, .int hl), (5, .int (nI (4 + w))), (6, .int 1), (7, .int (nI i))]) hE dX11_holdsAll_59 (by decide) rfl ?_
            refine r_iincN (a := i) (b := 1) (ls2 := [(0, .ref 169), (1, .int (nI w)), (2, .int (nI x)), (3, .int (nI f)), (4, .int hl), (5, .int (nI (4 + w))), (6, .int 1), (7, .int (nI (i + 1)))]) hE dX11_holdsAll_61 rfl rfl (by decide) rfl ?_
            refine r_goto (tgt := 11) hE dX11_holdsAll_64 (by decide) ?_
            have hP := Classical.not_not.mp (fun q => c24 ((y_is_0 hv).mpr q))
            exact ih (m_k (D 170).1 (4 + w) - (i + 1)) (by omega) (i + 1) _ _ rfl (by omega) (Or.inl ⟨rfl, m_alls_s.mpr ⟨hP, fun q => absurd q (by omega)⟩⟩) fr
          · refine r_aload_n hE dX11_holdsAll_39 rfl ?_
            refine r_iload hE dX11_holdsAll_40 rfl ?_
            refine r_iload hE dX11_holdsAll_42 rfl ?_
            refine r_iload_n hE dX11_holdsAll_44 rfl ?_
            refine r_iload_n hE dX11_holdsAll_45 rfl ?_
            refine r_iload hE dX11_holdsAll_46 rfl ?_
            refine t_invvRi hE [.int (nI (4 + w)), .int (nI i), .int (nI x), .int (nI f), .int hl] (c_holdsLine (D := D8) (t := 4 + w) (ln := i) hL (by omega) (by omega) (by rw [fr.1 170 (by decide)]; exact (hw.2 i (by omega)).2.2.2.2.2 (by omega)) hx hf (by rw [fr.1 175 (by decide)]; exact hh)) v_yX11_holdsLine m_X11_280 dX11_holdsAll_48 rfl (hL 169 (by decide)) (y_l_169 (D8 169)) rfl (by decide) ⟨Nat.le_refl _, Nat.le_refl _⟩ (Nat.le_of_ble_eq_true rfl) (fun r48 D48 q48 => ?_)
            rw [q48.1]
            show E 0 0 51 [(0, .ref 169), (1, .int (nI w)), (2, .int (nI x)), (3, .int (nI f)), (4, .int hl), (5, .int (nI (4 + w))), (6, .int v), (7, .int (nI i))] [.int (y_b (m_line D8 (4 + w) i x f hl = [1]))] (y_mk n L D48)
            refine r_ifb_eq (tgt := 58) hE dX11_holdsAll_51 (by decide) (fun c51 => ?_) (fun c51 => ?_)
            · refine r_iconst (v := 0) hE dX11_holdsAll_58 (by decide) ?_
              refine r_istore (ls2 := [(0, .ref 169), (1, .int (nI w)), (2, .int (nI x)), (3, .int (nI f)), (4, .int hl), (5, .int (nI (4 + w))), (6, .int 0), (7, .int (nI i))]) hE dX11_holdsAll_59 (by decide) rfl ?_
              refine r_iincN (a := i) (b := 1) (ls2 := [(0, .ref 169), (1, .int (nI w)), (2, .int (nI x)), (3, .int (nI f)), (4, .int hl), (5, .int (nI (4 + w))), (6, .int 0), (7, .int (nI (i + 1)))]) hE dX11_holdsAll_61 rfl rfl (by decide) rfl ?_
              refine r_goto (tgt := 11) hE dX11_holdsAll_64 (by decide) ?_
              have hP := Classical.not_not.mp (fun q => c24 ((y_is_0 hv).mpr q))
              exact ih (m_k (D 170).1 (4 + w) - (i + 1)) (by omega) (i + 1) _ _ rfl (by omega) (Or.inr ⟨rfl, fun q => c51 (by rw [m_line_fr fr]; exact (m_alls_s.mp q).2 (by omega))⟩) (y_o1_t fr q48.2)
            · refine r_iconst (v := 1) hE dX11_holdsAll_54 (by decide) ?_
              refine r_goto (tgt := 59) hE dX11_holdsAll_55 (by decide) ?_
              refine r_istore (ls2 := [(0, .ref 169), (1, .int (nI w)), (2, .int (nI x)), (3, .int (nI f)), (4, .int hl), (5, .int (nI (4 + w))), (6, .int 1), (7, .int (nI i))]) hE dX11_holdsAll_59 (by decide) rfl ?_
              refine r_iincN (a := i) (b := 1) (ls2 := [(0, .ref 169), (1, .int (nI w)), (2, .int (nI x)), (3, .int (nI f)), (4, .int hl), (5, .int (nI (4 + w))), (6, .int 1), (7, .int (nI (i + 1)))]) hE dX11_holdsAll_61 rfl rfl (by decide) rfl ?_
              refine r_goto (tgt := 11) hE dX11_holdsAll_64 (by decide) ?_
              have hP := Classical.not_not.mp (fun q => c24 ((y_is_0 hv).mpr q))
              exact ih (m_k (D 170).1 (4 + w) - (i + 1)) (by omega) (i + 1) _ _ rfl (by omega) (Or.inl ⟨rfl, m_alls_s.mpr ⟨hP, fun _ => by rw [← m_line_fr fr]; exact c51⟩⟩) (y_o1_t fr q48.2)
  refine r_iconst (v := 4) hE dX11_holdsAll_0 (by decide) ?_
  refine r_iload_n hE dX11_holdsAll_1 rfl ?_
  refine r_iaddN (a := 4) (b := w) hE dX11_holdsAll_2 ?_
  refine r_istore (ls2 := [(0, .ref 169), (1, .int (nI w)), (2, .int (nI x)), (3, .int (nI f)), (4, .int hl), (5, .int (nI (4 + w)))]) hE dX11_holdsAll_3 (by decide) rfl ?_
  refine r_iconst (v := 1) hE dX11_holdsAll_5 (by decide) ?_
  refine r_istore (ls2 := [(0, .ref 169), (1, .int (nI w)), (2, .int (nI x)), (3, .int (nI f)), (4, .int hl), (5, .int (nI (4 + w))), (6, .int 1)]) hE dX11_holdsAll_6 (by decide) rfl ?_
  refine r_iconst (v := 0) hE dX11_holdsAll_8 (by decide) ?_
  refine r_istore (ls2 := [(0, .ref 169), (1, .int (nI w)), (2, .int (nI x)), (3, .int (nI f)), (4, .int hl), (5, .int (nI (4 + w))), (6, .int 1), (7, .int 0)]) hE dX11_holdsAll_9 (by decide) rfl ?_
  exact lp 0 1 _ (by omega) (Or.inl ⟨rfl, fun i hi => absurd hi (by omega)⟩) y_o1_r
theorem c_lastOf {V : x_E} {n : Nat} {L : List Nat} {D : y_D} {w c dd : Nat} (hL : y_ok L) (hw6 : w < 6) (hw : m_ww (D 170).1 (4 + w)) (hc : c < 4) : x_Fn V yX11_lastOf cX11_lastOf 6 (some .int) 3 [.ref 169, .int (nI w), .int (nI c), .int (nI dd)] (y_mk n L D) (some (.int (nI (m_lst (D 170).1 (4 + w) c dd (m_k (D 170).1 (4 + w)))))) (y_mk n L D) := by
  refine x_fn (by decide) (Nat.le_of_ble_eq_true rfl) (fun E hE => ?_)
  change E 0 0 0 [(0, .ref 169), (1, .int (nI w)), (2, .int (nI c)), (3, .int (nI dd))] [] (y_mk n L D)
  have lp : ∀ (i : Nat), i ≤ m_k (D 170).1 (4 + w) → E 0 0 6 [(0, .ref 169), (1, .int (nI w)), (2, .int (nI c)), (3, .int (nI dd)), (4, .int (nI (m_lst (D 170).1 (4 + w) c dd i))), (5, .int (nI i))] [] (y_mk n L D) := by
    intro i
    induction hm9 : (m_k (D 170).1 (4 + w) - i) using Nat.strongRecOn generalizing i with
    | _ m9 ih =>
      intro hi
      have hk9 : m_k (D 170).1 (4 + w) ≤ 10 := hw.1.2
      refine r_iload hE dX11_lastOf_6 rfl ?_
      refine r_aload_n hE dX11_lastOf_8 rfl ?_
      refine r_iconst (v := 4) hE dX11_lastOf_9 (by decide) ?_
      refine r_iload_n hE dX11_lastOf_10 rfl ?_
      refine r_iaddN (a := 4) (b := w) hE dX11_lastOf_11 ?_
      refine t_invv (r := (some (.int ((D 170).1 (237 + 851 * (4 + w)))))) (S2 := (y_mk n L D)) hE [.int (nI (4 + w))] (c_lines hL (by omega)) v_yX11_lines m_X11_252 dX11_lastOf_12 rfl (hL 169 (by decide)) (y_l_169 (D 169)) rfl (by decide) ⟨Nat.le_refl _, Nat.le_refl _⟩ (Nat.le_of_ble_eq_true rfl) ?_
      show E 0 0 15 [(0, .ref 169), (1, .int (nI w)), (2, .int (nI c)), (3, .int (nI dd)), (4, .int (nI (m_lst (D 170).1 (4 + w) c dd i))), (5, .int (nI i))] [.int ((D 170).1 (237 + 851 * (4 + w))), .int (nI i)] (y_mk n L D)
      refine r_top (y := (nI (m_k (D 170).1 (4 + w)))) hw.1.1 ?_
      refine r_icmp_geN (a := i) (b := m_k (D 170).1 (4 + w)) (tgt := 49) hE dX11_lastOf_15 (by decide) (by omega) (by omega) (fun c15 => ?_) (fun c15 => ?_)
      · refine r_iload hE dX11_lastOf_49 rfl ?_
        refine r_ireturn hE dX11_lastOf_51 rfl rfl (Nat.zero_le _) (Nat.zero_le _) ?_
        have hi2 : i = m_k (D 170).1 (4 + w) := by omega
        rw [hi2]
        exact ⟨rfl, rfl⟩
      · have hs9 : m_o (D 170).1 (4 + w) i 0 ≤ 3 := (hw.2 i (by omega)).1.2
        refine r_aload_n hE dX11_lastOf_18 rfl ?_
        refine r_iconst (v := 4) hE dX11_lastOf_19 (by decide) ?_
        refine r_iload_n hE dX11_lastOf_20 rfl ?_
        refine r_iaddN (a := 4) (b := w) hE dX11_lastOf_21 ?_
        refine r_iload hE dX11_lastOf_22 rfl ?_
        refine t_invv (r := (some (.int ((D 170).1 (237 + 851 * (4 + w) + 1 + 5 * i))))) (S2 := (y_mk n L D)) hE [.int (nI (4 + w)), .int (nI i)] (c_sortOf hL (by omega) (by omega)) v_yX11_sortOf m_X11_259 dX11_lastOf_24 rfl (hL 169 (by decide)) (y_l_169 (D 169)) rfl (by decide) ⟨Nat.le_refl _, Nat.le_refl _⟩ (Nat.le_of_ble_eq_true rfl) ?_
        show E 0 0 27 [(0, .ref 169), (1, .int (nI w)), (2, .int (nI c)), (3, .int (nI dd)), (4, .int (nI (m_lst (D 170).1 (4 + w) c dd i))), (5, .int (nI i))] [.int ((D 170).1 (237 + 851 * (4 + w) + 1 + 5 * i))] (y_mk n L D)
        refine r_top (y := (nI (m_o (D 170).1 (4 + w) i 0))) (hw.2 i (by omega)).1.1 ?_
        refine r_iload_n hE dX11_lastOf_27 rfl ?_
        refine r_icmp_neN (a := m_o (D 170).1 (4 + w) i 0) (b := c) (tgt := 43) hE dX11_lastOf_28 (by decide) (by omega) (by omega) (fun c28 => ?_) (fun c28 => ?_)
        · refine r_iincN (a := i) (b := 1) (ls2 := [(0, .ref 169), (1, .int (nI w)), (2, .int (nI c)), (3, .int (nI dd)), (4, .int (nI (m_lst (D 170).1 (4 + w) c dd i))), (5, .int (nI (i + 1)))]) hE dX11_lastOf_43 rfl rfl (by decide) rfl ?_
          refine r_goto (tgt := 6) hE dX11_lastOf_46 (by decide) ?_
          have e9 : m_lst (D 170).1 (4 + w) c dd (i + 1) = m_lst (D 170).1 (4 + w) c dd i := by
            show (if _ then _ else _) = _
            first | exact if_pos c28 | exact if_neg c28
          refine r_locs hE (ls2 := [(0, .ref 169), (1, .int (nI w)), (2, .int (nI c)), (3, .int (nI dd)), (4, .int (nI (m_lst (D 170).1 (4 + w) c dd (i + 1)))), (5, .int (nI (i + 1)))]) ?_ (ih (m_k (D 170).1 (4 + w) - (i + 1)) (by omega) (i + 1) rfl (by omega))
          rw [e9]
          simp [x_lk]
        · refine r_aload_n hE dX11_lastOf_31 rfl ?_
          refine r_iconst (v := 4) hE dX11_lastOf_32 (by decide) ?_
          refine r_iload_n hE dX11_lastOf_33 rfl ?_
          refine r_iaddN (a := 4) (b := w) hE dX11_lastOf_34 ?_
          refine r_iload hE dX11_lastOf_35 rfl ?_
          refine r_iconst (v := 1) hE dX11_lastOf_37 (by decide) ?_
          refine t_invv (r := (some (.int ((D 170).1 (237 + 851 * (4 + w) + 1 + 5 * i + 1))))) (S2 := (y_mk n L D)) hE [.int (nI (4 + w)), .int (nI i), .int 1] (c_of hL (by omega) (by omega) (by decide)) v_yX11_of m_X11_255 dX11_lastOf_38 rfl (hL 169 (by decide)) (y_l_169 (D 169)) rfl (by decide) ⟨Nat.le_refl _, Nat.le_refl _⟩ (Nat.le_of_ble_eq_true rfl) ?_
          show E 0 0 41 [(0, .ref 169), (1, .int (nI w)), (2, .int (nI c)), (3, .int (nI dd)), (4, .int (nI (m_lst (D 170).1 (4 + w) c dd i))), (5, .int (nI i))] [.int ((D 170).1 (237 + 851 * (4 + w) + 1 + 5 * i + 1))] (y_mk n L D)
          refine r_top (y := (nI (m_o (D 170).1 (4 + w) i 1))) (hw.2 i (by omega)).2.1.1 ?_
          refine r_istore (ls2 := [(0, .ref 169), (1, .int (nI w)), (2, .int (nI c)), (3, .int (nI dd)), (4, .int (nI (m_o (D 170).1 (4 + w) i 1))), (5, .int (nI i))]) hE dX11_lastOf_41 (by decide) rfl ?_
          refine r_iincN (a := i) (b := 1) (ls2 := [(0, .ref 169), (1, .int (nI w)), (2, .int (nI c)), (3, .int (nI dd)), (4, .int (nI (m_o (D 170).1 (4 + w) i 1))), (5, .int (nI (i + 1)))]) hE dX11_lastOf_43 rfl rfl (by decide) rfl ?_
          refine r_goto (tgt := 6) hE dX11_lastOf_46 (by decide) ?_
          have e9 : m_lst (D 170).1 (4 + w) c dd (i + 1) = m_o (D 170).1 (4 + w) i 1 := by
            show (if _ then _ else _) = _
            first | exact if_pos c28 | exact if_neg c28
          refine r_locs hE (ls2 := [(0, .ref 169), (1, .int (nI w)), (2, .int (nI c)), (3, .int (nI dd)), (4, .int (nI (m_lst (D 170).1 (4 + w) c dd (i + 1)))), (5, .int (nI (i + 1)))]) ?_ (ih (m_k (D 170).1 (4 + w) - (i + 1)) (by omega) (i + 1) rfl (by omega))
          rw [e9]
          simp [x_lk]
  refine r_iload_n hE dX11_lastOf_0 rfl ?_
  refine r_istore (ls2 := [(0, .ref 169), (1, .int (nI w)), (2, .int (nI c)), (3, .int (nI dd)), (4, .int (nI dd))]) hE dX11_lastOf_1 (by decide) rfl ?_
  refine r_iconst (v := 0) hE dX11_lastOf_3 (by decide) ?_
  refine r_istore (ls2 := [(0, .ref 169), (1, .int (nI w)), (2, .int (nI c)), (3, .int (nI dd)), (4, .int (nI dd)), (5, .int 0)]) hE dX11_lastOf_4 (by decide) rfl ?_
  exact lp 0 (by omega)
theorem c_freedBy {V : x_E} {n : Nat} {L : List Nat} {D : y_D} {w : Nat} (hL : y_ok L) (hw6 : w < 6) (hw : m_ww (D 170).1 (4 + w)) : x_Fn V yX11_freedBy cX11_freedBy 4 (some .int) 3 [.ref 169, .int (nI w)] (y_mk n L D) (some (.int (nI (m_fb (D 170).1 (4 + w) (m_k (D 170).1 (4 + w)))))) (y_mk n L D) := by
  refine x_fn (by decide) (Nat.le_of_ble_eq_true rfl) (fun E hE => ?_)
  change E 0 0 0 [(0, .ref 169), (1, .int (nI w))] [] (y_mk n L D)
  have lp : ∀ (i : Nat), i ≤ m_k (D 170).1 (4 + w) → E 0 0 4 [(0, .ref 169), (1, .int (nI w)), (2, .int (nI (m_fb (D 170).1 (4 + w) i))), (3, .int (nI i))] [] (y_mk n L D) := by
    intro i
    induction hm9 : (m_k (D 170).1 (4 + w) - i) using Nat.strongRecOn generalizing i with
    | _ m9 ih =>
      intro hi
      have hk9 : m_k (D 170).1 (4 + w) ≤ 10 := hw.1.2
      refine r_iload_n hE dX11_freedBy_4 rfl ?_
      refine r_aload_n hE dX11_freedBy_5 rfl ?_
      refine r_iconst (v := 4) hE dX11_freedBy_6 (by decide) ?_
      refine r_iload_n hE dX11_freedBy_7 rfl ?_
      refine r_iaddN (a := 4) (b := w) hE dX11_freedBy_8 ?_
      refine t_invv (r := (some (.int ((D 170).1 (237 + 851 * (4 + w)))))) (S2 := (y_mk n L D)) hE [.int (nI (4 + w))] (c_lines hL (by omega)) v_yX11_lines m_X11_252 dX11_freedBy_9 rfl (hL 169 (by decide)) (y_l_169 (D 169)) rfl (by decide) ⟨Nat.le_refl _, Nat.le_refl _⟩ (Nat.le_of_ble_eq_true rfl) ?_
      show E 0 0 12 [(0, .ref 169), (1, .int (nI w)), (2, .int (nI (m_fb (D 170).1 (4 + w) i))), (3, .int (nI i))] [.int ((D 170).1 (237 + 851 * (4 + w))), .int (nI i)] (y_mk n L D)
      refine r_top (y := (nI (m_k (D 170).1 (4 + w)))) hw.1.1 ?_
      refine r_icmp_geN (a := i) (b := m_k (D 170).1 (4 + w)) (tgt := 46) hE dX11_freedBy_12 (by decide) (by omega) (by omega) (fun c12 => ?_) (fun c12 => ?_)
      · refine r_iload_n hE dX11_freedBy_46 rfl ?_
        refine r_ireturn hE dX11_freedBy_47 rfl rfl (Nat.zero_le _) (Nat.zero_le _) ?_
        have hi2 : i = m_k (D 170).1 (4 + w) := by omega
        rw [hi2]
        exact ⟨rfl, rfl⟩
      · have hs9 : m_o (D 170).1 (4 + w) i 0 ≤ 3 := (hw.2 i (by omega)).1.2
        refine r_aload_n hE dX11_freedBy_15 rfl ?_
        refine r_iconst (v := 4) hE dX11_freedBy_16 (by decide) ?_
        refine r_iload_n hE dX11_freedBy_17 rfl ?_
        refine r_iaddN (a := 4) (b := w) hE dX11_freedBy_18 ?_
        refine r_iload_n hE dX11_freedBy_19 rfl ?_
        refine t_invv (r := (some (.int ((D 170).1 (237 + 851 * (4 + w) + 1 + 5 * i))))) (S2 := (y_mk n L D)) hE [.int (nI (4 + w)), .int (nI i)] (c_sortOf hL (by omega) (by omega)) v_yX11_sortOf m_X11_259 dX11_freedBy_20 rfl (hL 169 (by decide)) (y_l_169 (D 169)) rfl (by decide) ⟨Nat.le_refl _, Nat.le_refl _⟩ (Nat.le_of_ble_eq_true rfl) ?_
        show E 0 0 23 [(0, .ref 169), (1, .int (nI w)), (2, .int (nI (m_fb (D 170).1 (4 + w) i))), (3, .int (nI i))] [.int ((D 170).1 (237 + 851 * (4 + w) + 1 + 5 * i))] (y_mk n L D)
        refine r_top (y := (nI (m_o (D 170).1 (4 + w) i 0))) (hw.2 i (by omega)).1.1 ?_
        refine r_if_ne (tgt := 40) hE dX11_freedBy_23 (by decide) (fun c23 => ?_) (fun c23 => ?_)
        · refine r_iincN (a := i) (b := 1) (ls2 := [(0, .ref 169), (1, .int (nI w)), (2, .int (nI (m_fb (D 170).1 (4 + w) i))), (3, .int (nI (i + 1)))]) hE dX11_freedBy_40 rfl rfl (by decide) rfl ?_
          refine r_goto (tgt := 4) hE dX11_freedBy_43 (by decide) ?_
          have e9 : m_fb (D 170).1 (4 + w) (i + 1) = m_fb (D 170).1 (4 + w) i := by
            show (if _ then _ else _) = _
            first | exact if_pos c23n | exact if_neg (fun q => c23 (by rw [q]; rfl))
          refine r_locs hE (ls2 := [(0, .ref 169), (1, .int (nI w)), (2, .int (nI (m_fb (D 170).1 (4 + w) (i + 1)))), (3, .int (nI (i + 1)))]) ?_ (ih (m_k (D 170).1 (4 + w) - (i + 1)) (by omega) (i + 1) rfl (by omega))
          rw [e9]
          simp [x_lk]
        · have c23n : m_o (D 170).1 (4 + w) i 0 = 0 := (nI_eq (b := 0) (by omega) (by decide)).mp c23
          refine r_iload_n hE dX11_freedBy_26 rfl ?_
          refine r_iconst (v := 1) hE dX11_freedBy_27 (by decide) ?_
          refine r_aload_n hE dX11_freedBy_28 rfl ?_
          refine r_iconst (v := 4) hE dX11_freedBy_29 (by decide) ?_
          refine r_iload_n hE dX11_freedBy_30 rfl ?_
          refine r_iaddN (a := 4) (b := w) hE dX11_freedBy_31 ?_
          refine r_iload_n hE dX11_freedBy_32 rfl ?_
          refine r_iconst (v := 1) hE dX11_freedBy_33 (by decide) ?_
          refine t_invv (r := (some (.int ((D 170).1 (237 + 851 * (4 + w) + 1 + 5 * i + 1))))) (S2 := (y_mk n L D)) hE [.int (nI (4 + w)), .int (nI i), .int 1] (c_of hL (by omega) (by omega) (by decide)) v_yX11_of m_X11_255 dX11_freedBy_34 rfl (hL 169 (by decide)) (y_l_169 (D 169)) rfl (by decide) ⟨Nat.le_refl _, Nat.le_refl _⟩ (Nat.le_of_ble_eq_true rfl) ?_
          show E 0 0 37 [(0, .ref 169), (1, .int (nI w)), (2, .int (nI (m_fb (D 170).1 (4 + w) i))), (3, .int (nI i))] [.int ((D 170).1 (237 + 851 * (4 + w) + 1 + 5 * i + 1)), .int 1, .int (nI (m_fb (D 170).1 (4 + w) i))] (y_mk n L D)
          refine r_top (y := (nI (m_o (D 170).1 (4 + w) i 1))) (hw.2 i (by omega)).2.1.1 ?_
          refine r_shl1N (k := m_o (D 170).1 (4 + w) i 1) hE dX11_freedBy_37 (by have := (hw.2 i (by omega)).2.2.1 c23n; omega) ?_
          refine r_ior hE dX11_freedBy_38 ?_
          refine r_top (y := (nI (m_fb (D 170).1 (4 + w) i ||| 2 ^ m_o (D 170).1 (4 + w) i 1))) (y_orN _ (m_fb_b (fun j hj => (hw.2 j (by omega)).2.2.1)) _ (Nat.pow_lt_pow_right (by decide) (n := 4) ((hw.2 i (by omega)).2.2.1 c23n))) ?_
          refine r_istore_n (ls2 := [(0, .ref 169), (1, .int (nI w)), (2, .int (nI (m_fb (D 170).1 (4 + w) i ||| 2 ^ m_o (D 170).1 (4 + w) i 1))), (3, .int (nI i))]) hE dX11_freedBy_39 (by decide) rfl ?_
          refine r_iincN (a := i) (b := 1) (ls2 := [(0, .ref 169), (1, .int (nI w)), (2, .int (nI (m_fb (D 170).1 (4 + w) i ||| 2 ^ m_o (D 170).1 (4 + w) i 1))), (3, .int (nI (i + 1)))]) hE dX11_freedBy_40 rfl rfl (by decide) rfl ?_
          refine r_goto (tgt := 4) hE dX11_freedBy_43 (by decide) ?_
          have e9 : m_fb (D 170).1 (4 + w) (i + 1) = m_fb (D 170).1 (4 + w) i ||| 2 ^ m_o (D 170).1 (4 + w) i 1 := by
            show (if _ then _ else _) = _
            first | exact if_pos c23n | exact if_neg (fun q => c23 (by rw [q]; rfl))
          refine r_locs hE (ls2 := [(0, .ref 169), (1, .int (nI w)), (2, .int (nI (m_fb (D 170).1 (4 + w) (i + 1)))), (3, .int (nI (i + 1)))]) ?_ (ih (m_k (D 170).1 (4 + w) - (i + 1)) (by omega) (i + 1) rfl (by omega))
          rw [e9]
          simp [x_lk]
  refine r_iconst (v := 0) hE dX11_freedBy_0 (by decide) ?_
  refine r_istore_n (ls2 := [(0, .ref 169), (1, .int (nI w)), (2, .int 0)]) hE dX11_freedBy_1 (by decide) rfl ?_
  refine r_iconst (v := 0) hE dX11_freedBy_2 (by decide) ?_
  refine r_istore_n (ls2 := [(0, .ref 169), (1, .int (nI w)), (2, .int 0), (3, .int 0)]) hE dX11_freedBy_3 (by decide) rfl ?_
  exact lp 0 (by omega)
theorem m_rc_b {W : Nat → Int32} {u : Int32} {kw : Nat} (hww : ∀ w, w < kw → m_ww W (4 + w)) : ∀ {i}, i ≤ kw → m_rc W u i ≤ 9
  | 0, _ => by unfold m_rc; omega
  | i + 1, h => by
    unfold m_rc
    have h1 := m_rc_b (u := u) hww (i := i) (by omega)
    have h2 := m_reach_b (hww i (by omega))
    by_cases c : y_bit u i
    · rw [if_pos c]; exact Nat.max_le.mpr ⟨h1, h2⟩
    · rw [if_neg c]; exact h1
theorem c_reachOf {V : x_E} {n : Nat} {L : List Nat} {D : y_D} {u : Int32} {kw : Nat} (hL : y_ok L) (hk : (D 170).1 2 = nI kw) (hkw : kw ≤ 6) (hww : ∀ w, w < kw → m_ww (D 170).1 (4 + w)) : x_Fn V yX11_reachOf cX11_reachOf 4 (some .int) 4 [.ref 169, .int u] (y_mk n L D) (some (.int (nI (m_rc (D 170).1 u kw)))) (y_mk n L D) := by
  refine x_fn (by decide) (Nat.le_of_ble_eq_true rfl) (fun E hE => ?_)
  change E 0 0 0 [(0, .ref 169), (1, .int u)] [] (y_mk n L D)
  have lp : ∀ (i : Nat), i ≤ kw → E 0 0 4 [(0, .ref 169), (1, .int u), (2, .int (nI (m_rc (D 170).1 u i))), (3, .int (nI i))] [] (y_mk n L D) := by
    intro i
    induction hm9 : (kw - i) using Nat.strongRecOn generalizing i with
    | _ m9 ih =>
      intro hi
      refine r_iload_n hE dX11_reachOf_4 rfl ?_
      refine r_aload_n hE dX11_reachOf_5 rfl ?_
      refine t_getr hE f_X11_13 y_R_169_1 dX11_reachOf_6 (hL 169 (by decide)) ?_
      refine r_iconst (v := 2) hE dX11_reachOf_9 (by decide) ?_
      refine t_ialdN (e := 2) hE y_A_170 dX11_reachOf_10 (hL 170 (by decide)) (by omega) (by decide) ?_
      refine r_top (y := (nI kw)) hk ?_
      refine r_icmp_geN (a := i) (b := kw) (tgt := 41) hE dX11_reachOf_11 (by decide) (by omega) (by omega) (fun c11 => ?_) (fun c11 => ?_)
      · refine r_iload_n hE dX11_reachOf_41 rfl ?_
        refine r_ireturn hE dX11_reachOf_42 rfl rfl (Nat.zero_le _) (Nat.zero_le _) ?_
        have hi2 : i = kw := by omega
        rw [hi2]
        exact ⟨rfl, rfl⟩
      · refine r_iload_n hE dX11_reachOf_14 rfl ?_
        refine r_iload_n hE dX11_reachOf_15 rfl ?_
        refine r_ishr hE dX11_reachOf_16 ?_
        refine r_iconst (v := 1) hE dX11_reachOf_17 (by decide) ?_
        refine r_iand hE dX11_reachOf_18 ?_
        refine r_iconst (v := 1) hE dX11_reachOf_19 (by decide) ?_
        refine r_icmp_ne (tgt := 35) hE dX11_reachOf_20 (by decide) (fun c20 => ?_) (fun c20 => ?_)
        · refine r_iincN (a := i) (b := 1) (ls2 := [(0, .ref 169), (1, .int u), (2, .int (nI (m_rc (D 170).1 u i))), (3, .int (nI (i + 1)))]) hE dX11_reachOf_35 rfl rfl (by decide) rfl ?_
          refine r_goto (tgt := 4) hE dX11_reachOf_38 (by decide) ?_
          have e9 : m_rc (D 170).1 u (i + 1) = m_rc (D 170).1 u i := by
            show (if _ then _ else _) = _
            first | exact if_pos c20 | exact if_neg c20
          refine r_locs hE (ls2 := [(0, .ref 169), (1, .int u), (2, .int (nI (m_rc (D 170).1 u (i + 1)))), (3, .int (nI (i + 1)))]) ?_ (ih (kw - (i + 1)) (by omega) (i + 1) rfl (by omega))
          rw [e9]
          simp [x_lk]
        · refine r_iload_n hE dX11_reachOf_23 rfl ?_
          refine r_aload_n hE dX11_reachOf_24 rfl ?_
          refine r_iload_n hE dX11_reachOf_25 rfl ?_
          refine r_iconst (v := 2) hE dX11_reachOf_26 (by decide) ?_
          refine r_iconst (v := 0) hE dX11_reachOf_27 (by decide) ?_
          refine t_invv (r := (some (.int (nI (m_lst (D 170).1 (4 + i) 2 0 (m_k (D 170).1 (4 + i))))))) (S2 := (y_mk n L D)) hE [.int (nI i), .int 2, .int 0] (c_lastOf (w := i) (c := 2) (dd := 0) hL (by omega) (hww _ (by omega)) (by decide)) v_yX11_lastOf m_X11_288 dX11_reachOf_28 rfl (hL 169 (by decide)) (y_l_169 (D 169)) rfl (by decide) ⟨Nat.le_refl _, Nat.le_refl _⟩ (Nat.le_of_ble_eq_true rfl) ?_
          show E 0 0 31 [(0, .ref 169), (1, .int u), (2, .int (nI (m_rc (D 170).1 u i))), (3, .int (nI i))] [.int (nI (m_lst (D 170).1 (4 + i) 2 0 (m_k (D 170).1 (4 + i)))), .int (nI (m_rc (D 170).1 u i))] (y_mk n L D)
          refine r_mmax hE m_X11_291 dX11_reachOf_31 (by decide) (Nat.le_of_ble_eq_true rfl) ⟨Nat.le_refl _, Nat.le_refl _⟩ ?_
          refine r_top (y := (nI (max (m_rc (D 170).1 u i) (m_lst (D 170).1 (4 + i) 2 0 (m_k (D 170).1 (4 + i)))))) (y_maxN (Nat.lt_of_le_of_lt (m_rc_b (u := u) hww (i := i) (by omega)) (by decide)) (Nat.lt_of_le_of_lt (m_reach_b (hww i (by omega))) (by decide))) ?_
          refine r_istore_n (ls2 := [(0, .ref 169), (1, .int u), (2, .int (nI (max (m_rc (D 170).1 u i) (m_lst (D 170).1 (4 + i) 2 0 (m_k (D 170).1 (4 + i)))))), (3, .int (nI i))]) hE dX11_reachOf_34 (by decide) rfl ?_
          refine r_iincN (a := i) (b := 1) (ls2 := [(0, .ref 169), (1, .int u), (2, .int (nI (max (m_rc (D 170).1 u i) (m_lst (D 170).1 (4 + i) 2 0 (m_k (D 170).1 (4 + i)))))), (3, .int (nI (i + 1)))]) hE dX11_reachOf_35 rfl rfl (by decide) rfl ?_
          refine r_goto (tgt := 4) hE dX11_reachOf_38 (by decide) ?_
          have e9 : m_rc (D 170).1 u (i + 1) = max (m_rc (D 170).1 u i) (m_lst (D 170).1 (4 + i) 2 0 (m_k (D 170).1 (4 + i))) := by
            show (if _ then _ else _) = _
            first | exact if_pos c20 | exact if_neg c20
          refine r_locs hE (ls2 := [(0, .ref 169), (1, .int u), (2, .int (nI (m_rc (D 170).1 u (i + 1)))), (3, .int (nI (i + 1)))]) ?_ (ih (kw - (i + 1)) (by omega) (i + 1) rfl (by omega))
          rw [e9]
          simp [x_lk]
  refine r_iconst (v := 0) hE dX11_reachOf_0 (by decide) ?_
  refine r_istore_n (ls2 := [(0, .ref 169), (1, .int u), (2, .int 0)]) hE dX11_reachOf_1 (by decide) rfl ?_
  refine r_iconst (v := 0) hE dX11_reachOf_2 (by decide) ?_
  refine r_istore_n (ls2 := [(0, .ref 169), (1, .int u), (2, .int 0), (3, .int 0)]) hE dX11_reachOf_3 (by decide) rfl ?_
  exact lp 0 (by omega)
theorem c_canDo {V : x_E} {n : Nat} {L : List Nat} {D : y_D} {th f rc : Nat} (hL : y_ok L) (hth : th < 6) (hf : f < 16) : y_Ri V yX11_canDo cX11_canDo 5 (some .boolean) 1 [.ref 169, .int (nI th), .int (nI f), .int (nI rc)] n L D (fun v D2 => y_is v (m_cd (D 170).1 th f rc) ∧ D2 = D) := by
  refine y_ri (by decide) (Nat.le_of_ble_eq_true rfl) (fun E hE => ?_)
  change E 0 0 0 [(0, .ref 169), (1, .int (nI th)), (2, .int (nI f)), (3, .int (nI rc))] [] (y_mk n L D)
  refine r_bipush (v := 28) hE dX11_canDo_0 (by decide) ?_
  refine r_iconst (v := 3) hE dX11_canDo_2 (by decide) ?_
  refine r_iload_n hE dX11_canDo_3 rfl ?_
  refine r_imulN (a := 3) (b := th) hE dX11_canDo_4 ?_
  refine r_iaddN (a := 28) (b := 3 * th) hE dX11_canDo_5 ?_
  refine r_istore (ls2 := [(0, .ref 169), (1, .int (nI th)), (2, .int (nI f)), (3, .int (nI rc)), (4, .int (nI (28 + (3 * th))))]) hE dX11_canDo_6 (by decide) rfl ?_
  refine r_iload_n hE dX11_canDo_8 rfl ?_
  refine r_iconst (v := 3) hE dX11_canDo_9 (by decide) ?_
  refine r_iand hE dX11_canDo_10 ?_
  refine r_top (y := (nI (f % 4))) (y_a3 f (by omega)) ?_
  refine t_invs (r := (some (.int (nI (y_pop (f % 4)))))) (S2 := (y_mk n L D)) hE [.int (nI (f % 4))] (j_bitCount (c := f % 4) (by omega)) s_yJ6_bitCount_0f7a4 m_X11_268 dX11_canDo_11 rfl (by decide) ⟨Nat.le_refl _, Nat.le_refl _⟩ (Nat.le_of_ble_eq_true rfl) ?_
  show E 0 0 14 [(0, .ref 169), (1, .int (nI th)), (2, .int (nI f)), (3, .int (nI rc)), (4, .int (nI (28 + (3 * th))))] [.int (nI (y_pop (f % 4)))] (y_mk n L D)
  refine r_aload_n hE dX11_canDo_14 rfl ?_
  refine t_getr hE f_X11_13 y_R_169_1 dX11_canDo_15 (hL 169 (by decide)) ?_
  refine r_iload hE dX11_canDo_18 rfl ?_
  refine t_ialdN (e := 28 + (3 * th)) hE y_A_170 dX11_canDo_20 (hL 170 (by decide)) (by omega) (by decide) ?_
  refine r_icmp_lt (tgt := 59) hE dX11_canDo_21 (by decide) (fun c21 => ?_) (fun c21 => ?_)
  · refine r_iconst (v := 0) hE dX11_canDo_59 (by decide) ?_
    refine r_ireturn hE dX11_canDo_60 rfl (by decide) (Nat.zero_le _) (Nat.zero_le _) ?_
    refine ⟨_, _, rfl, rfl, ?_, rfl⟩
    unfold m_cd
    first | exact Or.inl ⟨rfl, by grind⟩ | exact Or.inr ⟨rfl, by grind⟩
  · refine r_iload_n hE dX11_canDo_24 rfl ?_
    refine r_iconst (v := 2) hE dX11_canDo_25 (by decide) ?_
    refine r_ishr hE dX11_canDo_26 ?_
    refine r_top (y := (nI (f / 4))) (y_s2 f (by omega)) ?_
    refine t_invs (r := (some (.int (nI (y_pop (f / 4)))))) (S2 := (y_mk n L D)) hE [.int (nI (f / 4))] (j_bitCount (c := f / 4) (by omega)) s_yJ6_bitCount_0f7a4 m_X11_268 dX11_canDo_27 rfl (by decide) ⟨Nat.le_refl _, Nat.le_refl _⟩ (Nat.le_of_ble_eq_true rfl) ?_
    show E 0 0 30 [(0, .ref 169), (1, .int (nI th)), (2, .int (nI f)), (3, .int (nI rc)), (4, .int (nI (28 + (3 * th))))] [.int (nI (y_pop (f / 4)))] (y_mk n L D)
    refine r_aload_n hE dX11_canDo_30 rfl ?_
    refine t_getr hE f_X11_13 y_R_169_1 dX11_canDo_31 (hL 169 (by decide)) ?_
    refine r_iload hE dX11_canDo_34 rfl ?_
    refine r_iconst (v := 1) hE dX11_canDo_36 (by decide) ?_
    refine r_iaddN (a := 28 + (3 * th)) (b := 1) hE dX11_canDo_37 ?_
    refine t_ialdN (e := (28 + (3 * th)) + 1) hE y_A_170 dX11_canDo_38 (hL 170 (by decide)) (by omega) (by decide) ?_
    refine r_icmp_lt (tgt := 59) hE dX11_canDo_39 (by decide) (fun c39 => ?_) (fun c39 => ?_)
    · refine r_iconst (v := 0) hE dX11_canDo_59 (by decide) ?_
      refine r_ireturn hE dX11_canDo_60 rfl (by decide) (Nat.zero_le _) (Nat.zero_le _) ?_
      refine ⟨_, _, rfl, rfl, ?_, rfl⟩
      unfold m_cd
      first | exact Or.inl ⟨rfl, by grind⟩ | exact Or.inr ⟨rfl, by grind⟩
    · refine r_iload_n hE dX11_canDo_42 rfl ?_
      refine r_aload_n hE dX11_canDo_43 rfl ?_
      refine t_getr hE f_X11_13 y_R_169_1 dX11_canDo_44 (hL 169 (by decide)) ?_
      refine r_iload hE dX11_canDo_47 rfl ?_
      refine r_iconst (v := 2) hE dX11_canDo_49 (by decide) ?_
      refine r_iaddN (a := 28 + (3 * th)) (b := 2) hE dX11_canDo_50 ?_
      refine t_ialdN (e := (28 + (3 * th)) + 2) hE y_A_170 dX11_canDo_51 (hL 170 (by decide)) (by omega) (by decide) ?_
      refine r_icmp_lt (tgt := 59) hE dX11_canDo_52 (by decide) (fun c52 => ?_) (fun c52 => ?_)
      · refine r_iconst (v := 0) hE dX11_canDo_59 (by decide) ?_
        refine r_ireturn hE dX11_canDo_60 rfl (by decide) (Nat.zero_le _) (Nat.zero_le _) ?_
        refine ⟨_, _, rfl, rfl, ?_, rfl⟩
        unfold m_cd
        first | exact Or.inl ⟨rfl, by grind⟩ | exact Or.inr ⟨rfl, by grind⟩
      · refine r_iconst (v := 1) hE dX11_canDo_55 (by decide) ?_
        refine r_goto (tgt := 60) hE dX11_canDo_56 (by decide) ?_
        refine r_ireturn hE dX11_canDo_60 rfl (by decide) (Nat.zero_le _) (Nat.zero_le _) ?_
        refine ⟨_, _, rfl, rfl, ?_, rfl⟩
        unfold m_cd
        first | exact Or.inl ⟨rfl, by grind⟩ | exact Or.inr ⟨rfl, by grind⟩

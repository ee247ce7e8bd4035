/-! the reference: canGo, goesOnwards, goesBackwards -/
theorem y_and1 (x : Int32) : x &&& 1 = 0 ∨ x &&& 1 = 1 := by
  obtain ⟨j, hj, h⟩ := pk_andE x (m := 1) 1 rfl
  rcases (show j = 0 ∨ j = 1 by omega) with rfl | rfl
  · exact Or.inl h
  · exact Or.inr h
theorem y_bit_n {x : Int32} {c : Nat} (h : ¬ y_bit x c) : (x >>> (nI c &&& 31)) &&& 1 = 0 := (y_and1 _).resolve_right h
theorem y_bit_y {x : Int32} {c : Nat} (h : ¬ (x >>> (nI c &&& 31)) &&& 1 = 0) : y_bit x c := (y_and1 _).resolve_left h
theorem y_sub16 : ∀ a, a < 16 → ∀ b, b < 16 → (nI a &&& (nI b ^^^ (-1)) = 0 ↔ b ||| a = b) := by decide +kernel
def m_CG (W : Nat → Int32) (u : Int32) (k : Nat) (G : Nat → Prop) (Q : Nat → Nat → Nat → Prop) (w x f : Nat) : Prop := y_bit u w ∧ f ||| m_frees W w ≠ f ∧ x + m_take W w ≤ k ∧ (∀ y, x ≤ y → y < x + m_take W w → Q w f y ∧ G (16 * y + f)) ∧ G (16 * (x + m_take W w) + (f ||| m_frees W w))
def m_T1 (G : Nat → Prop) (s f to m : Nat) : Prop := ∃ g, g < to ∧ f ||| g = f ∧ G (16 * (s + 1) + g) ∧ m = 16 * (s + 1) + g
def m_T2 (C : Nat → Nat → Nat → Prop) (W : Nat → Int32) (s f w m : Nat) : Prop := ∃ v, v < w ∧ C v s f ∧ m = 16 * (s + m_take W v) + (f ||| m_frees W v)
/-- what is reached when the first s seconds are gone through -/
def m_on (C : Nat → Nat → Nat → Prop) (W : Nat → Int32) (kw : Nat) (G : Nat → Prop) : Nat → Nat → Prop
  | 0, m => m = 0 ∧ G 0
  | s + 1, m => m_on C W kw G s m ∨ ∃ f, f < 16 ∧ m_on C W kw G s (16 * s + f) ∧ (m_T1 G s f (f + 1) m ∨ m_T2 C W s f kw m)
theorem m_T1_s {G : Nat → Prop} {s f to m : Nat} : m_T1 G s f (to + 1) m ↔ m_T1 G s f to m ∨ (f ||| to = f ∧ G (16 * (s + 1) + to) ∧ m = 16 * (s + 1) + to) := by
  unfold m_T1
  refine ⟨fun ⟨g, h1, h2, h3, h4⟩ => ?_, fun h => ?_⟩
  · by_cases c : g = to
    · subst c; exact Or.inr ⟨h2, h3, h4⟩
    · exact Or.inl ⟨g, by omega, h2, h3, h4⟩
  · rcases h with ⟨g, h1, h2, h3, h4⟩ | ⟨h2, h3, h4⟩
    · exact ⟨g, by omega, h2, h3, h4⟩
    · exact ⟨to, by omega, h2, h3, h4⟩
theorem m_T2_s {C : Nat → Nat → Nat → Prop} {W : Nat → Int32} {s f w m : Nat} : m_T2 C W s f (w + 1) m ↔ m_T2 C W s f w m ∨ (C w s f ∧ m = 16 * (s + m_take W w) + (f ||| m_frees W w)) := by
  unfold m_T2
  refine ⟨fun ⟨g, h1, h2, h3⟩ => ?_, fun h => ?_⟩
  · by_cases c : g = w
    · subst c; exact Or.inr ⟨h2, h3⟩
    · exact Or.inl ⟨g, by omega, h2, h3⟩
  · rcases h with ⟨g, h1, h2, h3⟩ | ⟨h2, h3⟩
    · exact ⟨g, by omega, h2, h3⟩
    · exact ⟨w, by omega, h2, h3⟩
theorem m_T1_0 {G : Nat → Prop} {s f m : Nat} : ¬ m_T1 G s f 0 m := fun ⟨g, h, _⟩ => absurd h (by omega)
theorem m_T2_0 {C : Nat → Nat → Nat → Prop} {W : Nat → Int32} {s f m : Nat} : ¬ m_T2 C W s f 0 m := fun ⟨g, h, _⟩ => absurd h (by omega)
/-- what is reached, and the sets ahead of f at the second s are gone on from -/
def m_onf (C : Nat → Nat → Nat → Prop) (W : Nat → Int32) (kw : Nat) (G : Nat → Prop) (s f m : Nat) : Prop := m_on C W kw G s m ∨ ∃ g, g < f ∧ m_on C W kw G s (16 * s + g) ∧ (m_T1 G s g (g + 1) m ∨ m_T2 C W s g kw m)
section R46
variable {C : Nat → Nat → Nat → Prop} {W : Nat → Int32} {kw : Nat} {G : Nat → Prop}
theorem m_onf_s {s f m : Nat} : m_onf C W kw G s (f + 1) m ↔ m_onf C W kw G s f m ∨ (m_on C W kw G s (16 * s + f) ∧ (m_T1 G s f (f + 1) m ∨ m_T2 C W s f kw m)) := by
  unfold m_onf
  refine ⟨fun h => ?_, fun h => ?_⟩
  · rcases h with h | ⟨g, h1, h2, h3⟩
    · exact Or.inl (Or.inl h)
    · by_cases c : g = f
      · subst c; exact Or.inr ⟨h2, h3⟩
      · exact Or.inl (Or.inr ⟨g, by omega, h2, h3⟩)
  · rcases h with (h | ⟨g, h1, h2, h3⟩) | ⟨h2, h3⟩
    · exact Or.inl h
    · exact Or.inr ⟨g, by omega, h2, h3⟩
    · exact Or.inr ⟨f, by omega, h2, h3⟩
theorem m_onf_z {s m : Nat} : m_onf C W kw G s 0 m ↔ m_on C W kw G s m := ⟨fun h => h.resolve_right (fun ⟨g, h, _⟩ => absurd h (by omega)), Or.inl⟩
theorem m_onf_at (ht : ∀ w, w < kw → 1 ≤ m_take W w) {s f g : Nat} (hg : g < 16) : m_onf C W kw G s f (16 * s + g) ↔ m_on C W kw G s (16 * s + g) := by
  refine ⟨fun h => ?_, Or.inl⟩
  rcases h with h | ⟨e, h1, h2, ⟨a, b1, b2, b3, b4⟩ | ⟨v, b1, b2, b3⟩⟩
  · exact h
  · omega
  · have := ht v b1; omega
theorem m_on_mono {s m : Nat} : ∀ {d}, m_on C W kw G s m → m_on C W kw G (s + d) m
  | 0, h => h
  | d + 1, h => Or.inl (m_on_mono (d := d) h)
theorem m_on_stab (ht : ∀ w, w < kw → 1 ≤ m_take W w) {s m : Nat} (hm : m / 16 ≤ s) : ∀ {d}, m_on C W kw G (s + d) m → m_on C W kw G s m
  | 0, h => h
  | d + 1, h => by
    have h : m_on C W kw G (s + d) m ∨ ∃ f, f < 16 ∧ m_on C W kw G (s + d) (16 * (s + d) + f) ∧ (m_T1 G (s + d) f (f + 1) m ∨ m_T2 C W (s + d) f kw m) := h
    rcases h with h | ⟨e, h1, h2, ⟨a, b1, b2, b3, b4⟩ | ⟨v, b1, b2, b3⟩⟩
    · exact m_on_stab ht hm h
    · omega
    · have := ht v b1; omega
theorem m_on_G {s m : Nat} (hC : ∀ w s f, C w s f → G (16 * (s + m_take W w) + (f ||| m_frees W w))) : m_on C W kw G s m → G m := by
  induction s with
  | zero => intro h; rw [h.1]; exact h.2
  | succ s ih =>
    intro h
    rcases h with h | ⟨e, h1, h2, ⟨a, b1, b2, b3, b4⟩ | ⟨v, b1, b2, b3⟩⟩
    · exact ih h
    · rw [b4]; exact b3
    · rw [b3]; exact hC v s e b2
theorem m_on_stay (ht : ∀ w, w < kw → 1 ≤ m_take W w) {k s f : Nat} (hf : f < 16) (h : m_on C W kw G k (16 * s + f)) : ∀ {d}, s + d ≤ k → (∀ y, s ≤ y → y ≤ s + d → G (16 * y + f)) → m_on C W kw G k (16 * (s + d) + f)
  | 0, _, _ => h
  | d + 1, hk, hG => by
    have h1 := m_on_stay ht hf h (d := d) (by omega) (fun y a b => hG y a (by omega))
    have h2 : m_on C W kw G (s + d) (16 * (s + d) + f) := m_on_stab (d := k - (s + d)) ht (by omega) (by rw [show s + d + (k - (s + d)) = k by omega]; exact h1)
    have h3 : m_on C W kw G (s + d + 1) (16 * (s + d + 1) + f) := Or.inr ⟨f, hf, h2, Or.inl ⟨f, by omega, Nat.or_self f, hG _ (by omega) (by omega), rfl⟩⟩
    have h4 := m_on_mono (d := k - (s + d + 1)) h3
    rw [show s + d + 1 + (k - (s + d + 1)) = k by omega] at h4
    exact h4
end R46
def m_BB (k : Nat) (G : Nat → Prop) (m : Nat) : Prop := (m / 16 < k ∧ G m) ∨ m = 16 * k
theorem y_dn_k (k : Nat) : nI k - 1 = y_dn k := by
  cases k with
  | zero => rfl
  | succ k => exact nI_pred k
theorem c_canGo {V : x_E} {n : Nat} {L : List Nat} {D : y_D} {k kw : Nat} {u : Int32} (hL : y_ok L) (hk : (D 169).1 13 = nI k) (hk3 : k ≤ 300) (hw2 : (D 170).1 2 = nI kw) (hkw : kw ≤ 6) (hww : ∀ w, w < kw → m_ww (D 170).1 (4 + w)) (hus : (D 169).1 23 = u) {G : Nat → Prop} {Q : Nat → Nat → Nat → Prop} (gd : ∀ m, m < 16 * (k + 1) → y_is ((D 178).1 m) (G m)) (hrun : ∀ w, w < kw → y_bit u w → ∀ f, f < 16 → ∀ s, s ≤ k + 1 → ∃ c, (D 182).1 ((16 * w + f) * 302 + s) = nI c ∧ m_rl (Q w f) k s c) {w x f : Nat} (hw : w < kw) (hx : x ≤ k) (hf : f < 16) : y_Ri V yX11_canGo cX11_canGo 7 (some .boolean) 4 [.ref 169, .int (nI w), .int (nI x), .int (nI f)] n L D (fun v D2 => y_is v (m_CG (D 170).1 u k G Q w x f) ∧ D2 = D) := by
  refine y_ri (by decide) (Nat.le_of_ble_eq_true rfl) (fun E hE => ?_)
  change E 0 0 0 [(0, .ref 169), (1, .int (nI w)), (2, .int (nI x)), (3, .int (nI f))] [] (y_mk n L D)
  refine r_aload_n hE dX11_canGo_0 rfl ?_
  refine r_iload_n hE dX11_canGo_1 rfl ?_
  refine r_iconst (v := 1) hE dX11_canGo_2 (by decide) ?_
  refine r_iconst (v := 1) hE dX11_canGo_3 (by decide) ?_
  refine t_invv (r := (some (.int (nI (m_take (D 170).1 w))))) (S2 := (y_mk n L D)) hE [.int (nI w), .int 1, .int 1] (c_lastOf (w := w) (c := 1) (dd := 1) hL (by omega) (hww _ (by omega)) (by decide)) v_yX11_lastOf m_X11_288 dX11_canGo_4 rfl (hL 169 (by decide)) (y_l_169 (D 169)) rfl (by decide) ⟨Nat.le_refl _, Nat.le_refl _⟩ (Nat.le_of_ble_eq_true rfl) ?_
  show E 0 0 7 [(0, .ref 169), (1, .int (nI w)), (2, .int (nI x)), (3, .int (nI f))] [.int (nI (m_take (D 170).1 w))] (y_mk n L D)
  refine r_istore (ls2 := [(0, .ref 169), (1, .int (nI w)), (2, .int (nI x)), (3, .int (nI f)), (4, .int (nI (m_take (D 170).1 w)))]) hE dX11_canGo_7 (by decide) rfl ?_
  have htk : m_take (D 170).1 w ≤ 60 := m_take_b (hww w hw)
  have htk1 : 1 ≤ m_take (D 170).1 w := m_take_1 (hww w hw)
  have hfr : m_frees (D 170).1 w < 16 := m_frees_b (hww w hw)
  have hor : f ||| m_frees (D 170).1 w < 16 := Nat.or_lt_two_pow (n := 4) hf hfr
  refine r_aload_n hE dX11_canGo_9 rfl ?_
  refine t_geti hE f_X11_296 y_I_169_23 dX11_canGo_10 (hL 169 (by decide)) ?_
  refine r_top (y := u) hus ?_
  refine r_iload_n hE dX11_canGo_13 rfl ?_
  refine r_ishr hE dX11_canGo_14 ?_
  refine r_iconst (v := 1) hE dX11_canGo_15 (by decide) ?_
  refine r_iand hE dX11_canGo_16 ?_
  refine r_if_eq (tgt := 59) hE dX11_canGo_17 (by decide) (fun c17 => ?_) (fun c17 => ?_)
  · refine r_iconst (v := 0) hE dX11_canGo_59 (by decide) ?_
    refine r_ireturn hE dX11_canGo_60 rfl (by decide) (Nat.zero_le _) (Nat.zero_le _) ?_
    first
    | exact ⟨_, _, rfl, rfl, Or.inr ⟨rfl, fun q => absurd (show _ = (1 : Int32) from q.1) (by rw [c17]; decide)⟩, rfl⟩
    | exact ⟨_, _, rfl, rfl, Or.inr ⟨rfl, fun q => q.2.1 ((y_sub16 _ hfr _ hf).mp c29)⟩, rfl⟩
    | exact ⟨_, _, rfl, rfl, Or.inr ⟨rfl, fun q => absurd q.2.2.1 (by omega)⟩, rfl⟩
    | exact ⟨_, _, rfl, rfl, Or.inr ⟨rfl, fun q => absurd ((m_rl_ge hc2 (by omega)).mpr (fun y h1 h2 => (q.2.2.2.1 y h1 h2).1)) (by omega)⟩, rfl⟩
  · refine r_aload_n hE dX11_canGo_20 rfl ?_
    refine r_iload_n hE dX11_canGo_21 rfl ?_
    refine t_invv (r := (some (.int (nI (m_frees (D 170).1 w))))) (S2 := (y_mk n L D)) hE [.int (nI w)] (c_freedBy (w := w) hL (by omega) (hww _ (by omega))) v_yX11_freedBy m_X11_311 dX11_canGo_22 rfl (hL 169 (by decide)) (y_l_169 (D 169)) rfl (by decide) ⟨Nat.le_refl _, Nat.le_refl _⟩ (Nat.le_of_ble_eq_true rfl) ?_
    show E 0 0 25 [(0, .ref 169), (1, .int (nI w)), (2, .int (nI x)), (3, .int (nI f)), (4, .int (nI (m_take (D 170).1 w)))] [.int (nI (m_frees (D 170).1 w))] (y_mk n L D)
    refine r_iload_n hE dX11_canGo_25 rfl ?_
    refine r_iconst (v := (-1)) hE dX11_canGo_26 (by decide) ?_
    refine r_ixor hE dX11_canGo_27 ?_
    refine r_iand hE dX11_canGo_28 ?_
    refine r_if_eq (tgt := 59) hE dX11_canGo_29 (by decide) (fun c29 => ?_) (fun c29 => ?_)
    · refine r_iconst (v := 0) hE dX11_canGo_59 (by decide) ?_
      refine r_ireturn hE dX11_canGo_60 rfl (by decide) (Nat.zero_le _) (Nat.zero_le _) ?_
      first
      | exact ⟨_, _, rfl, rfl, Or.inr ⟨rfl, fun q => absurd (show _ = (1 : Int32) from q.1) (by rw [c17]; decide)⟩, rfl⟩
      | exact ⟨_, _, rfl, rfl, Or.inr ⟨rfl, fun q => q.2.1 ((y_sub16 _ hfr _ hf).mp c29)⟩, rfl⟩
      | exact ⟨_, _, rfl, rfl, Or.inr ⟨rfl, fun q => absurd q.2.2.1 (by omega)⟩, rfl⟩
      | exact ⟨_, _, rfl, rfl, Or.inr ⟨rfl, fun q => absurd ((m_rl_ge hc2 (by omega)).mpr (fun y h1 h2 => (q.2.2.2.1 y h1 h2).1)) (by omega)⟩, rfl⟩
    · refine r_iload_n hE dX11_canGo_32 rfl ?_
      refine r_iload hE dX11_canGo_33 rfl ?_
      refine r_iaddN (a := x) (b := m_take (D 170).1 w) hE dX11_canGo_35 ?_
      refine r_aload_n hE dX11_canGo_36 rfl ?_
      refine t_geti hE f_X11_249 y_I_169_13 dX11_canGo_37 (hL 169 (by decide)) ?_
      refine r_top (y := (nI k)) hk ?_
      refine r_icmp_gtN (a := x + (m_take (D 170).1 w)) (b := k) (tgt := 59) hE dX11_canGo_40 (by decide) (by omega) (by omega) (fun c40 => ?_) (fun c40 => ?_)
      · refine r_iconst (v := 0) hE dX11_canGo_59 (by decide) ?_
        refine r_ireturn hE dX11_canGo_60 rfl (by decide) (Nat.zero_le _) (Nat.zero_le _) ?_
        first
        | exact ⟨_, _, rfl, rfl, Or.inr ⟨rfl, fun q => absurd (show _ = (1 : Int32) from q.1) (by rw [c17]; decide)⟩, rfl⟩
        | exact ⟨_, _, rfl, rfl, Or.inr ⟨rfl, fun q => q.2.1 ((y_sub16 _ hfr _ hf).mp c29)⟩, rfl⟩
        | exact ⟨_, _, rfl, rfl, Or.inr ⟨rfl, fun q => absurd q.2.2.1 (by omega)⟩, rfl⟩
        | exact ⟨_, _, rfl, rfl, Or.inr ⟨rfl, fun q => absurd ((m_rl_ge hc2 (by omega)).mpr (fun y h1 h2 => (q.2.2.2.1 y h1 h2).1)) (by omega)⟩, rfl⟩
      · obtain ⟨c, hc1, hc2⟩ := hrun w hw (y_bit_y c17) f hf x (by omega)
        have hc3 := hc2.1
        refine r_aload_n hE dX11_canGo_43 rfl ?_
        refine t_getr hE f_X11_55 y_R_169_22 dX11_canGo_44 (hL 169 (by decide)) ?_
        refine r_iload_n hE dX11_canGo_47 rfl ?_
        refine r_iload_n hE dX11_canGo_48 rfl ?_
        refine r_iload_n hE dX11_canGo_49 rfl ?_
        refine t_invs (r := (some (.int (nI ((16 * w + f) * 302 + x))))) (S2 := (y_mk n L D)) hE [.int (nI w), .int (nI f), .int (nI x)] (c_runAt) s_yX11_runAt m_X11_302 dX11_canGo_50 rfl (by decide) ⟨Nat.le_refl _, Nat.le_refl _⟩ (Nat.le_of_ble_eq_true rfl) ?_
        show E 0 0 53 [(0, .ref 169), (1, .int (nI w)), (2, .int (nI x)), (3, .int (nI f)), (4, .int (nI (m_take (D 170).1 w)))] [.int (nI ((16 * w + f) * 302 + x)), .ref 182] (y_mk n L D)
        refine t_ialdN (e := (16 * w + f) * 302 + x) hE y_A_182 dX11_canGo_53 (hL 182 (by decide)) (by omega) (by decide) ?_
        refine r_top (y := (nI c)) hc1 ?_
        refine r_iload hE dX11_canGo_54 rfl ?_
        refine r_icmp_geN (a := c) (b := m_take (D 170).1 w) (tgt := 61) hE dX11_canGo_56 (by decide) (by omega) (by omega) (fun c56 => ?_) (fun c56 => ?_)
        · refine r_iconst (v := 1) hE dX11_canGo_61 (by decide) ?_
          refine r_istore (ls2 := [(0, .ref 169), (1, .int (nI w)), (2, .int (nI x)), (3, .int (nI f)), (4, .int (nI (m_take (D 170).1 w))), (5, .int 1)]) hE dX11_canGo_62 (by decide) rfl ?_
          refine r_iload_n hE dX11_canGo_64 rfl ?_
          refine r_istore (ls2 := [(0, .ref 169), (1, .int (nI w)), (2, .int (nI x)), (3, .int (nI f)), (4, .int (nI (m_take (D 170).1 w))), (5, .int 1), (6, .int (nI x))]) hE dX11_canGo_65 (by decide) rfl ?_
          have lp : ∀ (y : Nat) (v : Int32), x ≤ y ∧ y ≤ x + m_take (D 170).1 w → y_is v (∀ z, x ≤ z → z < y → G (16 * z + f)) → E 0 0 67 [(0, .ref 169), (1, .int (nI w)), (2, .int (nI x)), (3, .int (nI f)), (4, .int (nI (m_take (D 170).1 w))), (5, .int v), (6, .int (nI y))] [] (y_mk n L D) := by
            intro y v
            induction hm9 : (x + m_take (D 170).1 w - y) using Nat.strongRecOn generalizing y v with
            | _ m9 ih =>
              intro hy hv
              subst hm9
              refine r_iload hE dX11_canGo_67 rfl ?_
              refine r_iload_n hE dX11_canGo_69 rfl ?_
              refine r_iload hE dX11_canGo_70 rfl ?_
              refine r_iaddN (a := x) (b := m_take (D 170).1 w) hE dX11_canGo_72 ?_
              refine r_icmp_geN (a := y) (b := x + (m_take (D 170).1 w)) (tgt := 108) hE dX11_canGo_73 (by decide) (by omega) (by omega) (fun c73 => ?_) (fun c73 => ?_)
              · refine r_iload hE dX11_canGo_108 rfl ?_
                refine r_if_eq (tgt := 139) hE dX11_canGo_110 (by decide) (fun c110 => ?_) (fun c110 => ?_)
                · refine r_iconst (v := 0) hE dX11_canGo_139 (by decide) ?_
                  refine r_ireturn hE dX11_canGo_140 rfl (by decide) (Nat.zero_le _) (Nat.zero_le _) ?_
                  have hy9 : y = x + m_take (D 170).1 w := by omega
                  first
                  | (have g1 := Classical.not_not.mp (fun q => c110 ((y_is_0 hv).mpr q))
                     have g2 := Classical.not_not.mp (fun q => c132 ((y_is_0 (gd _ (by omega))).mpr q))
                     exact ⟨_, _, rfl, rfl, Or.inl ⟨rfl, y_bit_y c17, fun q => c29 ((y_sub16 _ hfr _ hf).mpr q), by omega, fun z h1 h2 => ⟨(m_rl_ge hc2 (by omega)).mp c56 z h1 h2, g1 z h1 (by omega)⟩, g2⟩, rfl⟩)
                  | exact ⟨_, _, rfl, rfl, Or.inr ⟨rfl, fun q => (y_is_0 (gd _ (by omega))).mp c132 q.2.2.2.2⟩, rfl⟩
                  | exact ⟨_, _, rfl, rfl, Or.inr ⟨rfl, fun q => (y_is_0 hv).mp c110 (fun z h1 h2 => (q.2.2.2.1 z h1 (by omega)).2)⟩, rfl⟩
                · refine r_aload_n hE dX11_canGo_113 rfl ?_
                  refine t_getr hE f_X11_43 y_R_169_18 dX11_canGo_114 (hL 169 (by decide)) ?_
                  refine r_iload_n hE dX11_canGo_117 rfl ?_
                  refine r_iload hE dX11_canGo_118 rfl ?_
                  refine r_iaddN (a := x) (b := m_take (D 170).1 w) hE dX11_canGo_120 ?_
                  refine r_iload_n hE dX11_canGo_121 rfl ?_
                  refine r_aload_n hE dX11_canGo_122 rfl ?_
                  refine r_iload_n hE dX11_canGo_123 rfl ?_
                  refine t_invv (r := (some (.int (nI (m_frees (D 170).1 w))))) (S2 := (y_mk n L D)) hE [.int (nI w)] (c_freedBy (w := w) hL (by omega) (hww _ (by omega))) v_yX11_freedBy m_X11_311 dX11_canGo_124 rfl (hL 169 (by decide)) (y_l_169 (D 169)) rfl (by decide) ⟨Nat.le_refl _, Nat.le_refl _⟩ (Nat.le_of_ble_eq_true rfl) ?_
                  show E 0 0 127 [(0, .ref 169), (1, .int (nI w)), (2, .int (nI x)), (3, .int (nI f)), (4, .int (nI (m_take (D 170).1 w))), (5, .int v), (6, .int (nI y))] [.int (nI (m_frees (D 170).1 w)), .int (nI f), .int (nI (x + (m_take (D 170).1 w))), .ref 178] (y_mk n L D)
                  refine r_ior hE dX11_canGo_127 ?_
                  refine r_top (y := (nI (f ||| m_frees (D 170).1 w))) (y_orN _ hf _ hfr) ?_
                  refine t_invs (r := (some (.int (nI (16 * (x + (m_take (D 170).1 w)) + (f ||| m_frees (D 170).1 w)))))) (S2 := (y_mk n L D)) hE [.int (nI (x + (m_take (D 170).1 w))), .int (nI (f ||| m_frees (D 170).1 w))] (c_at) s_yX11_at m_X11_299 dX11_canGo_128 rfl (by decide) ⟨Nat.le_refl _, Nat.le_refl _⟩ (Nat.le_of_ble_eq_true rfl) ?_
                  show E 0 0 131 [(0, .ref 169), (1, .int (nI w)), (2, .int (nI x)), (3, .int (nI f)), (4, .int (nI (m_take (D 170).1 w))), (5, .int v), (6, .int (nI y))] [.int (nI (16 * (x + (m_take (D 170).1 w)) + (f ||| m_frees (D 170).1 w))), .ref 178] (y_mk n L D)
                  refine t_zaldN (e := 16 * (x + (m_take (D 170).1 w)) + (f ||| m_frees (D 170).1 w)) hE y_A_178 dX11_canGo_131 (hL 178 (by decide)) (by omega) (by decide) ?_
                  refine r_if_eq (tgt := 139) hE dX11_canGo_132 (by decide) (fun c132 => ?_) (fun c132 => ?_)
                  · refine r_iconst (v := 0) hE dX11_canGo_139 (by decide) ?_
                    refine r_ireturn hE dX11_canGo_140 rfl (by decide) (Nat.zero_le _) (Nat.zero_le _) ?_
                    have hy9 : y = x + m_take (D 170).1 w := by omega
                    first
                    | (have g1 := Classical.not_not.mp (fun q => c110 ((y_is_0 hv).mpr q))
                       have g2 := Classical.not_not.mp (fun q => c132 ((y_is_0 (gd _ (by omega))).mpr q))
                       exact ⟨_, _, rfl, rfl, Or.inl ⟨rfl, y_bit_y c17, fun q => c29 ((y_sub16 _ hfr _ hf).mpr q), by omega, fun z h1 h2 => ⟨(m_rl_ge hc2 (by omega)).mp c56 z h1 h2, g1 z h1 (by omega)⟩, g2⟩, rfl⟩)
                    | exact ⟨_, _, rfl, rfl, Or.inr ⟨rfl, fun q => (y_is_0 (gd _ (by omega))).mp c132 q.2.2.2.2⟩, rfl⟩
                    | exact ⟨_, _, rfl, rfl, Or.inr ⟨rfl, fun q => (y_is_0 hv).mp c110 (fun z h1 h2 => (q.2.2.2.1 z h1 (by omega)).2)⟩, rfl⟩
                  · refine r_iconst (v := 1) hE dX11_canGo_135 (by decide) ?_
                    refine r_goto (tgt := 140) hE dX11_canGo_136 (by decide) ?_
                    refine r_ireturn hE dX11_canGo_140 rfl (by decide) (Nat.zero_le _) (Nat.zero_le _) ?_
                    have hy9 : y = x + m_take (D 170).1 w := by omega
                    first
                    | (have g1 := Classical.not_not.mp (fun q => c110 ((y_is_0 hv).mpr q))
                       have g2 := Classical.not_not.mp (fun q => c132 ((y_is_0 (gd _ (by omega))).mpr q))
                       exact ⟨_, _, rfl, rfl, Or.inl ⟨rfl, y_bit_y c17, fun q => c29 ((y_sub16 _ hfr _ hf).mpr q), by omega, fun z h1 h2 => ⟨(m_rl_ge hc2 (by omega)).mp c56 z h1 h2, g1 z h1 (by omega)⟩, g2⟩, rfl⟩)
                    | exact ⟨_, _, rfl, rfl, Or.inr ⟨rfl, fun q => (y_is_0 (gd _ (by omega))).mp c132 q.2.2.2.2⟩, rfl⟩
                    | exact ⟨_, _, rfl, rfl, Or.inr ⟨rfl, fun q => (y_is_0 hv).mp c110 (fun z h1 h2 => (q.2.2.2.1 z h1 (by omega)).2)⟩, rfl⟩
              · refine r_iload hE dX11_canGo_76 rfl ?_
                refine r_if_eq (tgt := 99) hE dX11_canGo_78 (by decide) (fun c78 => ?_) (fun c78 => ?_)
                · refine r_iconst (v := 0) hE dX11_canGo_99 (by decide) ?_
                  refine r_istore (ls2 := [(0, .ref 169), (1, .int (nI w)), (2, .int (nI x)), (3, .int (nI f)), (4, .int (nI (m_take (D 170).1 w))), (5, .int 0), (6, .int (nI y))]) hE dX11_canGo_100 (by decide) rfl ?_
                  refine r_iincN (a := y) (b := 1) (ls2 := [(0, .ref 169), (1, .int (nI w)), (2, .int (nI x)), (3, .int (nI f)), (4, .int (nI (m_take (D 170).1 w))), (5, .int 0), (6, .int (nI (y + 1)))]) hE dX11_canGo_102 rfl rfl (by decide) rfl ?_
                  refine r_goto (tgt := 67) hE dX11_canGo_105 (by decide) ?_
                  have hv2 : y_is 0 (∀ z, x ≤ z → z < y + 1 → G (16 * z + f)) := by
                    refine Or.inr ⟨rfl, fun q => ?_⟩
                    first
                    | exact (y_is_0 hv).mp c78 (fun z h1 h2 => q z h1 (by omega))
                    | exact (y_is_0 (gd _ (by omega))).mp c92 (q y (by omega) (by omega))
                  exact ih (x + m_take (D 170).1 w - (y + 1)) (by omega) (y + 1) _ rfl (by omega) hv2
                · refine r_aload_n hE dX11_canGo_81 rfl ?_
                  refine t_getr hE f_X11_43 y_R_169_18 dX11_canGo_82 (hL 169 (by decide)) ?_
                  refine r_iload hE dX11_canGo_85 rfl ?_
                  refine r_iload_n hE dX11_canGo_87 rfl ?_
                  refine t_invs (r := (some (.int (nI (16 * y + f))))) (S2 := (y_mk n L D)) hE [.int (nI y), .int (nI f)] (c_at) s_yX11_at m_X11_299 dX11_canGo_88 rfl (by decide) ⟨Nat.le_refl _, Nat.le_refl _⟩ (Nat.le_of_ble_eq_true rfl) ?_
                  show E 0 0 91 [(0, .ref 169), (1, .int (nI w)), (2, .int (nI x)), (3, .int (nI f)), (4, .int (nI (m_take (D 170).1 w))), (5, .int v), (6, .int (nI y))] [.int (nI (16 * y + f)), .ref 178] (y_mk n L D)
                  refine t_zaldN (e := 16 * y + f) hE y_A_178 dX11_canGo_91 (hL 178 (by decide)) (by omega) (by decide) ?_
                  refine r_if_eq (tgt := 99) hE dX11_canGo_92 (by decide) (fun c92 => ?_) (fun c92 => ?_)
                  · refine r_iconst (v := 0) hE dX11_canGo_99 (by decide) ?_
                    refine r_istore (ls2 := [(0, .ref 169), (1, .int (nI w)), (2, .int (nI x)), (3, .int (nI f)), (4, .int (nI (m_take (D 170).1 w))), (5, .int 0), (6, .int (nI y))]) hE dX11_canGo_100 (by decide) rfl ?_
                    refine r_iincN (a := y) (b := 1) (ls2 := [(0, .ref 169), (1, .int (nI w)), (2, .int (nI x)), (3, .int (nI f)), (4, .int (nI (m_take (D 170).1 w))), (5, .int 0), (6, .int (nI (y + 1)))]) hE dX11_canGo_102 rfl rfl (by decide) rfl ?_
                    refine r_goto (tgt := 67) hE dX11_canGo_105 (by decide) ?_
                    have hv2 : y_is 0 (∀ z, x ≤ z → z < y + 1 → G (16 * z + f)) := by
                      refine Or.inr ⟨rfl, fun q => ?_⟩
                      first
                      | exact (y_is_0 hv).mp c78 (fun z h1 h2 => q z h1 (by omega))
                      | exact (y_is_0 (gd _ (by omega))).mp c92 (q y (by omega) (by omega))
                    exact ih (x + m_take (D 170).1 w - (y + 1)) (by omega) (y + 1) _ rfl (by omega) hv2
                  · refine r_iconst (v := 1) hE dX11_canGo_95 (by decide) ?_
                    refine r_goto (tgt := 100) hE dX11_canGo_96 (by decide) ?_
                    refine r_istore (ls2 := [(0, .ref 169), (1, .int (nI w)), (2, .int (nI x)), (3, .int (nI f)), (4, .int (nI (m_take (D 170).1 w))), (5, .int 1), (6, .int (nI y))]) hE dX11_canGo_100 (by decide) rfl ?_
                    refine r_iincN (a := y) (b := 1) (ls2 := [(0, .ref 169), (1, .int (nI w)), (2, .int (nI x)), (3, .int (nI f)), (4, .int (nI (m_take (D 170).1 w))), (5, .int 1), (6, .int (nI (y + 1)))]) hE dX11_canGo_102 rfl rfl (by decide) rfl ?_
                    refine r_goto (tgt := 67) hE dX11_canGo_105 (by decide) ?_
                    have g1 := Classical.not_not.mp (fun q => c78 ((y_is_0 hv).mpr q))
                    have g2 := Classical.not_not.mp (fun q => c92 ((y_is_0 (gd _ (by omega))).mpr q))
                    have hv2 : y_is 1 (∀ z, x ≤ z → z < y + 1 → G (16 * z + f)) := by
                      refine Or.inl ⟨rfl, fun z h1 h2 => ?_⟩
                      by_cases c : z = y
                      · rw [c]; exact g2
                      · exact g1 z h1 (by omega)
                    exact ih (x + m_take (D 170).1 w - (y + 1)) (by omega) (y + 1) _ rfl (by omega) hv2
          exact lp x 1 (by omega) (Or.inl ⟨rfl, fun z h1 h2 => absurd h1 (by omega)⟩)
        · refine r_iconst (v := 0) hE dX11_canGo_59 (by decide) ?_
          refine r_ireturn hE dX11_canGo_60 rfl (by decide) (Nat.zero_le _) (Nat.zero_le _) ?_
          first
          | exact ⟨_, _, rfl, rfl, Or.inr ⟨rfl, fun q => absurd (show _ = (1 : Int32) from q.1) (by rw [c17]; decide)⟩, rfl⟩
          | exact ⟨_, _, rfl, rfl, Or.inr ⟨rfl, fun q => q.2.1 ((y_sub16 _ hfr _ hf).mp c29)⟩, rfl⟩
          | exact ⟨_, _, rfl, rfl, Or.inr ⟨rfl, fun q => absurd q.2.2.1 (by omega)⟩, rfl⟩
          | exact ⟨_, _, rfl, rfl, Or.inr ⟨rfl, fun q => absurd ((m_rl_ge hc2 (by omega)).mpr (fun y h1 h2 => (q.2.2.2.1 y h1 h2).1)) (by omega)⟩, rfl⟩
theorem c_goesOnwards {V : x_E} {n : Nat} {L : List Nat} {D : y_D} {k kw : Nat} {u : Int32} (hL : y_ok L) (hk : (D 169).1 13 = nI k) (hk3 : k ≤ 300) (hw2 : (D 170).1 2 = nI kw) (hkw : kw ≤ 6) (hww : ∀ w, w < kw → m_ww (D 170).1 (4 + w)) (hus : (D 169).1 23 = u) {G : Nat → Prop} {Q : Nat → Nat → Nat → Prop} (gd : ∀ m, m < 16 * (k + 1) → y_is ((D 178).1 m) (G m)) (hrun : ∀ w, w < kw → y_bit u w → ∀ f, f < 16 → ∀ s, s ≤ k + 1 → ∃ c, (D 182).1 ((16 * w + f) * 302 + s) = nI c ∧ m_rl (Q w f) k s c) : y_Rv V yX11_goesOnwards cX11_goesOnwards 4 none 5 [.ref 169] n L D (fun D2 => y_fx [179] D D2 ∧ ∀ m, m < 16 * (k + 1) → y_is ((D2 179).1 m) (m_on (m_CG (D 170).1 u k G Q) (D 170).1 kw G k m)) := by
  refine y_rv (by decide) (Nat.le_of_ble_eq_true rfl) (fun E hE => ?_)
  change E 0 0 0 [(0, .ref 169)] [] (y_mk n L D)
  have l1 : ∀ (s : Nat) (D8 : y_D), s ≤ k → y_fx [179] D D8 → (∀ m, m < 16 * (k + 1) → y_is ((D8 179).1 m) (m_on (m_CG (D 170).1 u k G Q) (D 170).1 kw G s m)) → E 0 0 42 [(0, .ref 169), (1, .int (nI s))] [] (y_mk n L D8) := by
    intro s D8
    induction hm9 : (k - s) using Nat.strongRecOn generalizing s D8 with
    | _ m9 ih =>
      intro hs fr ar
      subst hm9
      refine r_iload_n hE dX11_goesOnwards_42 rfl ?_
      refine r_aload_n hE dX11_goesOnwards_43 rfl ?_
      refine t_geti hE f_X11_249 y_I_169_13 dX11_goesOnwards_44 (hL 169 (by decide)) ?_
      refine r_top (y := (nI k)) (by rw [(fr.1 169 (by decide))]; exact hk) ?_
      refine r_icmp_geN (a := s) (b := k) (tgt := 188) hE dX11_goesOnwards_47 (by decide) (by omega) (by omega) (fun c47 => ?_) (fun c47 => ?_)
      · refine r_return hE dX11_goesOnwards_188 rfl (Nat.zero_le _) (Nat.zero_le _) ?_
        refine ⟨_, rfl, rfl, fr, ?_⟩
        rw [show s = k by omega] at ar
        exact ar
      · refine r_iconst (v := 0) hE dX11_goesOnwards_50 (by decide) ?_
        refine r_istore_n (ls2 := [(0, .ref 169), (1, .int (nI s)), (2, .int 0)]) hE dX11_goesOnwards_51 (by decide) rfl ?_
        have ihs := ih
        have l2 : ∀ (f : Nat) (D8 : y_D), f ≤ 16 → y_fx [179] D D8 → (∀ m, m < 16 * (k + 1) → y_is ((D8 179).1 m) (m_onf (m_CG (D 170).1 u k G Q) (D 170).1 kw G s f m)) → E 0 0 52 [(0, .ref 169), (1, .int (nI s)), (2, .int (nI f))] [] (y_mk n L D8) := by
          intro f D8
          induction hm9 : (16 - f) using Nat.strongRecOn generalizing f D8 with
          | _ m9 ih =>
            intro hf0 fr ar
            subst hm9
            refine r_iload_n hE dX11_goesOnwards_52 rfl ?_
            refine r_bipush (v := 16) hE dX11_goesOnwards_53 (by decide) ?_
            refine r_icmp_geN (a := f) (b := 16) (tgt := 182) hE dX11_goesOnwards_55 (by decide) (by omega) (by decide) (fun c55 => ?_) (fun c55 => ?_)
            · refine r_iincN (a := s) (b := 1) (ls2 := [(0, .ref 169), (1, .int (nI (s + 1))), (2, .int (nI f))]) hE dX11_goesOnwards_182 rfl rfl (by decide) rfl ?_
              refine r_goto (tgt := 42) hE dX11_goesOnwards_185 (by decide) ?_
              refine r_locs hE (ls2 := [(0, .ref 169), (1, .int (nI (s + 1)))]) ?_ (ihs (k - (s + 1)) (by omega) (s + 1) _ rfl (by omega) fr (fun m hm => ?_))
              · simp [x_lk]
              · have := ar m hm
                rw [show f = 16 by omega] at this
                exact this
            · refine r_aload_n hE dX11_goesOnwards_58 rfl ?_
              refine t_getr hE f_X11_46 y_R_169_19 dX11_goesOnwards_59 (hL 169 (by decide)) ?_
              refine r_iload_n hE dX11_goesOnwards_62 rfl ?_
              refine r_iload_n hE dX11_goesOnwards_63 rfl ?_
              refine t_invs (r := (some (.int (nI (16 * s + f))))) (S2 := (y_mk n L D8)) hE [.int (nI s), .int (nI f)] (c_at) s_yX11_at m_X11_299 dX11_goesOnwards_64 rfl (by decide) ⟨Nat.le_refl _, Nat.le_refl _⟩ (Nat.le_of_ble_eq_true rfl) ?_
              show E 0 0 67 [(0, .ref 169), (1, .int (nI s)), (2, .int (nI f))] [.int (nI (16 * s + f)), .ref 179] (y_mk n L D8)
              refine t_zaldN (e := 16 * s + f) hE y_A_179 dX11_goesOnwards_67 (hL 179 (by decide)) (by omega) (by decide) ?_
              refine r_if_ne (tgt := 74) hE dX11_goesOnwards_68 (by decide) (fun c68 => ?_) (fun c68 => ?_)
              · refine r_iconst (v := 0) hE dX11_goesOnwards_74 (by decide) ?_
                refine r_istore_n (ls2 := [(0, .ref 169), (1, .int (nI s)), (2, .int (nI f)), (3, .int 0)]) hE dX11_goesOnwards_75 (by decide) rfl ?_
                have ihf := ih
                have hf : f < 16 := by omega
                have hon : m_on (m_CG (D 170).1 u k G Q) (D 170).1 kw G s (16 * s + f) := (m_onf_at (fun w hw => m_take_1 (hww w hw)) hf).mp (Classical.not_not.mp (fun q => c68 ((y_is_0 (ar _ (by omega))).mpr q)))
                have l3 : ∀ (to : Nat) (D8 : y_D), to ≤ f + 1 → y_fx [179] D D8 → (∀ m, m < 16 * (k + 1) → y_is ((D8 179).1 m) (m_onf (m_CG (D 170).1 u k G Q) (D 170).1 kw G s f m ∨ m_T1 G s f to m)) → E 0 0 76 [(0, .ref 169), (1, .int (nI s)), (2, .int (nI f)), (3, .int (nI to))] [] (y_mk n L D8) := by
                  intro to D8
                  induction hm9 : (f + 1 - to) using Nat.strongRecOn generalizing to D8 with
                  | _ m9 ih =>
                    intro hto fr ar
                    subst hm9
                    refine r_iload_n hE dX11_goesOnwards_76 rfl ?_
                    refine r_iload_n hE dX11_goesOnwards_77 rfl ?_
                    refine r_icmp_gtN (a := to) (b := f) (tgt := 123) hE dX11_goesOnwards_78 (by decide) (by omega) (by omega) (fun c78 => ?_) (fun c78 => ?_)
                    · refine r_iconst (v := 0) hE dX11_goesOnwards_123 (by decide) ?_
                      refine r_istore_n (ls2 := [(0, .ref 169), (1, .int (nI s)), (2, .int (nI f)), (3, .int 0)]) hE dX11_goesOnwards_124 (by decide) rfl ?_
                      have l4 : ∀ (w : Nat) (D8 : y_D), w ≤ kw → y_fx [179] D D8 → (∀ m, m < 16 * (k + 1) → y_is ((D8 179).1 m) ((m_onf (m_CG (D 170).1 u k G Q) (D 170).1 kw G s f m ∨ m_T1 G s f (f + 1) m) ∨ m_T2 (m_CG (D 170).1 u k G Q) (D 170).1 s f w m)) → E 0 0 125 [(0, .ref 169), (1, .int (nI s)), (2, .int (nI f)), (3, .int (nI w))] [] (y_mk n L D8) := by
                        intro w D8
                        induction hm9 : (kw - w) using Nat.strongRecOn generalizing w D8 with
                        | _ m9 ih =>
                          intro hw fr ar
                          subst hm9
                          refine r_iload_n hE dX11_goesOnwards_125 rfl ?_
                          refine r_aload_n hE dX11_goesOnwards_126 rfl ?_
                          refine t_getr hE f_X11_13 y_R_169_1 dX11_goesOnwards_127 (hL 169 (by decide)) ?_
                          refine r_iconst (v := 2) hE dX11_goesOnwards_130 (by decide) ?_
                          refine t_ialdN (e := 2) hE y_A_170 dX11_goesOnwards_131 (hL 170 (by decide)) (by omega) (by decide) ?_
                          refine r_top (y := (nI kw)) (by rw [(fr.1 170 (by decide))]; exact hw2) ?_
                          refine r_icmp_geN (a := w) (b := kw) (tgt := 176) hE dX11_goesOnwards_132 (by decide) (by omega) (by omega) (fun c132 => ?_) (fun c132 => ?_)
                          · refine r_iincN (a := f) (b := 1) (ls2 := [(0, .ref 169), (1, .int (nI s)), (2, .int (nI (f + 1))), (3, .int (nI w))]) hE dX11_goesOnwards_176 rfl rfl (by decide) rfl ?_
                            refine r_goto (tgt := 52) hE dX11_goesOnwards_179 (by decide) ?_
                            refine r_locs hE (ls2 := [(0, .ref 169), (1, .int (nI s)), (2, .int (nI (f + 1)))]) ?_ (ihf (16 - (f + 1)) (by omega) (f + 1) _ rfl (by omega) fr (fun m hm => y_is_imp (ar m hm) ?_))
                            · simp [x_lk]
                            · rw [m_onf_s, show w = kw by omega, or_assoc]
                              exact or_congr_right ⟨fun q => ⟨hon, q⟩, fun q => q.2⟩
                          · refine r_aload_n hE dX11_goesOnwards_135 rfl ?_
                            refine r_iload_n hE dX11_goesOnwards_136 rfl ?_
                            refine r_iload_n hE dX11_goesOnwards_137 rfl ?_
                            refine r_iload_n hE dX11_goesOnwards_138 rfl ?_
                            refine t_invvRi hE [.int (nI w), .int (nI s), .int (nI f)] (c_canGo (D := D8) (k := k) (kw := kw) (u := u) (G := G) (Q := Q) (w := w) (x := s) (f := f) hL (by rw [(fr.1 169 (by decide))]; exact hk) hk3 (by rw [(fr.1 170 (by decide))]; exact hw2) hkw (by rw [(fr.1 170 (by decide))]; exact hww) (by rw [(fr.1 169 (by decide))]; exact hus) (by rw [(fr.1 178 (by decide))]; exact gd) (by rw [(fr.1 182 (by decide))]; exact hrun) (by omega) (by omega) (by omega)) v_yX11_canGo m_X11_314 dX11_goesOnwards_139 rfl (hL 169 (by decide)) (y_l_169 (D8 169)) rfl (by decide) ⟨Nat.le_refl _, Nat.le_refl _⟩ (Nat.le_of_ble_eq_true rfl) (fun v9 D9 q9 => ?_)
                            obtain ⟨q9, hD9⟩ := q9
                            rw [hD9]
                            rw [(fr.1 170 (by decide))] at q9
                            show E 0 0 142 [(0, .ref 169), (1, .int (nI s)), (2, .int (nI f)), (3, .int (nI w))] [.int v9] (y_mk n L D8)
                            refine r_if_eq (tgt := 170) hE dX11_goesOnwards_142 (by decide) (fun c142 => ?_) (fun c142 => ?_)
                            · refine r_iincN (a := w) (b := 1) (ls2 := [(0, .ref 169), (1, .int (nI s)), (2, .int (nI f)), (3, .int (nI (w + 1)))]) hE dX11_goesOnwards_170 rfl rfl (by decide) rfl ?_
                              refine r_goto (tgt := 125) hE dX11_goesOnwards_173 (by decide) ?_
                              refine ih (kw - (w + 1)) (by omega) (w + 1) _ rfl (by omega) fr (fun m hm => y_is_imp (ar m hm) ?_)
                              rw [m_T2_s]
                              exact or_congr_right ⟨Or.inl, fun q => q.resolve_right (fun q => (y_is_0 q9).mp c142 q.1)⟩
                            · have g3 : m_CG (D 170).1 u k G Q w s f := Classical.not_not.mp (fun q => c142 ((y_is_0 q9).mpr q))
                              have g4 := g3.2.2.1
                              have hfr : m_frees (D 170).1 w < 16 := m_frees_b (hww w (by omega))
                              have htk : m_take (D 170).1 w ≤ 60 := m_take_b (hww w (by omega))
                              have hor : f ||| m_frees (D 170).1 w < 16 := Nat.or_lt_two_pow (n := 4) hf hfr
                              refine r_aload_n hE dX11_goesOnwards_145 rfl ?_
                              refine t_getr hE f_X11_46 y_R_169_19 dX11_goesOnwards_146 (hL 169 (by decide)) ?_
                              refine r_iload_n hE dX11_goesOnwards_149 rfl ?_
                              refine r_aload_n hE dX11_goesOnwards_150 rfl ?_
                              refine r_iload_n hE dX11_goesOnwards_151 rfl ?_
                              refine r_iconst (v := 1) hE dX11_goesOnwards_152 (by decide) ?_
                              refine r_iconst (v := 1) hE dX11_goesOnwards_153 (by decide) ?_
                              refine t_invv (r := (some (.int (nI (m_take (D8 170).1 w))))) (S2 := (y_mk n L D8)) hE [.int (nI w), .int 1, .int 1] (c_lastOf (D := D8) (w := w) (c := 1) (dd := 1) hL (by omega) (by rw [(fr.1 170 (by decide))]; exact hww _ (by omega)) (by decide)) v_yX11_lastOf m_X11_288 dX11_goesOnwards_154 rfl (hL 169 (by decide)) (y_l_169 (D8 169)) rfl (by decide) ⟨Nat.le_refl _, Nat.le_refl _⟩ (Nat.le_of_ble_eq_true rfl) ?_
                              show E 0 0 157 [(0, .ref 169), (1, .int (nI s)), (2, .int (nI f)), (3, .int (nI w))] [.int (nI (m_take (D8 170).1 w)), .int (nI s), .ref 179] (y_mk n L D8)
                              refine r_top (y := (nI (m_take (D 170).1 w))) (by rw [(fr.1 170 (by decide))]) ?_
                              refine r_iaddN (a := s) (b := m_take (D 170).1 w) hE dX11_goesOnwards_157 ?_
                              refine r_iload_n hE dX11_goesOnwards_158 rfl ?_
                              refine r_aload_n hE dX11_goesOnwards_159 rfl ?_
                              refine r_iload_n hE dX11_goesOnwards_160 rfl ?_
                              refine t_invv (r := (some (.int (nI (m_frees (D8 170).1 w))))) (S2 := (y_mk n L D8)) hE [.int (nI w)] (c_freedBy (D := D8) (w := w) hL (by omega) (by rw [(fr.1 170 (by decide))]; exact hww _ (by omega))) v_yX11_freedBy m_X11_311 dX11_goesOnwards_161 rfl (hL 169 (by decide)) (y_l_169 (D8 169)) rfl (by decide) ⟨Nat.le_refl _, Nat.le_refl _⟩ (Nat.le_of_ble_eq_true rfl) ?_
                              show E 0 0 164 [(0, .ref 169), (1, .int (nI s)), (2, .int (nI f)), (3, .int (nI w))] [.int (nI (m_frees (D8 170).1 w)), .int (nI f), .int (nI (s + (m_take (D 170).1 w))), .ref 179] (y_mk n L D8)
                              refine r_top (y := (nI (m_frees (D 170).1 w))) (by rw [(fr.1 170 (by decide))]) ?_
                              refine r_ior hE dX11_goesOnwards_164 ?_
                              refine r_top (y := (nI (f ||| m_frees (D 170).1 w))) (y_orN _ hf _ hfr) ?_
                              refine t_invs (r := (some (.int (nI (16 * (s + (m_take (D 170).1 w)) + (f ||| m_frees (D 170).1 w)))))) (S2 := (y_mk n L D8)) hE [.int (nI (s + (m_take (D 170).1 w))), .int (nI (f ||| m_frees (D 170).1 w))] (c_at) s_yX11_at m_X11_299 dX11_goesOnwards_165 rfl (by decide) ⟨Nat.le_refl _, Nat.le_refl _⟩ (Nat.le_of_ble_eq_true rfl) ?_
                              show E 0 0 168 [(0, .ref 169), (1, .int (nI s)), (2, .int (nI f)), (3, .int (nI w))] [.int (nI (16 * (s + (m_take (D 170).1 w)) + (f ||| m_frees (D 170).1 w))), .ref 179] (y_mk n L D8)
                              refine r_iconst (v := 1) hE dX11_goesOnwards_168 (by decide) ?_
                              refine t_zastN (e := 16 * (s + (m_take (D 170).1 w)) + (f ||| m_frees (D 170).1 w)) hE y_A_179 dX11_goesOnwards_169 (hL 179 (by decide)) (by omega) (by decide) ?_
                              refine r_iincN (a := w) (b := 1) (ls2 := [(0, .ref 169), (1, .int (nI s)), (2, .int (nI f)), (3, .int (nI (w + 1)))]) hE dX11_goesOnwards_170 rfl rfl (by decide) rfl ?_
                              refine r_goto (tgt := 125) hE dX11_goesOnwards_173 (by decide) ?_
                              have g2 := Classical.not_not.mp (fun q => c142 ((y_is_0 q9).mpr q))
                              refine ih (kw - (w + 1)) (by omega) (w + 1) _ rfl (by omega) (y_fx_s fr (by decide)) (fun m hm => ?_)
                              rw [y_si_s]
                              refine y_is_imp (y_isup1 ar m hm) ?_
                              rw [m_T2_s, or_assoc]
                              exact or_congr_right (or_congr_right ⟨fun q => ⟨g2, q⟩, fun q => q.2⟩)
                      refine l4 0 _ (by omega) fr (fun m hm => y_is_imp (ar m hm) ?_)
                      rw [show to = f + 1 by omega]
                      exact ⟨Or.inl, fun q => q.resolve_right m_T2_0⟩
                    · refine r_iload_n hE dX11_goesOnwards_81 rfl ?_
                      refine r_iload_n hE dX11_goesOnwards_82 rfl ?_
                      refine r_iconst (v := (-1)) hE dX11_goesOnwards_83 (by decide) ?_
                      refine r_ixor hE dX11_goesOnwards_84 ?_
                      refine r_iand hE dX11_goesOnwards_85 ?_
                      refine r_if_ne (tgt := 117) hE dX11_goesOnwards_86 (by decide) (fun c86 => ?_) (fun c86 => ?_)
                      · refine r_iincN (a := to) (b := 1) (ls2 := [(0, .ref 169), (1, .int (nI s)), (2, .int (nI f)), (3, .int (nI (to + 1)))]) hE dX11_goesOnwards_117 rfl rfl (by decide) rfl ?_
                        refine r_goto (tgt := 76) hE dX11_goesOnwards_120 (by decide) ?_
                        refine ih (f + 1 - (to + 1)) (by omega) (to + 1) _ rfl (by omega) fr (fun m hm => y_is_imp (ar m hm) ?_)
                        rw [m_T1_s]
                        refine or_congr_right ⟨Or.inl, fun q => q.resolve_right (fun q => ?_)⟩
                        first
                        | exact c86 ((y_sub16 _ (by omega) _ hf).mpr q.1)
                        | exact (y_is_0 (by rw [(fr.1 178 (by decide))]; exact gd _ (by omega))).mp c101 q.2.1
                      · refine r_aload_n hE dX11_goesOnwards_89 rfl ?_
                        refine t_getr hE f_X11_43 y_R_169_18 dX11_goesOnwards_90 (hL 169 (by decide)) ?_
                        refine r_iload_n hE dX11_goesOnwards_93 rfl ?_
                        refine r_iconst (v := 1) hE dX11_goesOnwards_94 (by decide) ?_
                        refine r_iaddN (a := s) (b := 1) hE dX11_goesOnwards_95 ?_
                        refine r_iload_n hE dX11_goesOnwards_96 rfl ?_
                        refine t_invs (r := (some (.int (nI (16 * (s + 1) + to))))) (S2 := (y_mk n L D8)) hE [.int (nI (s + 1)), .int (nI to)] (c_at) s_yX11_at m_X11_299 dX11_goesOnwards_97 rfl (by decide) ⟨Nat.le_refl _, Nat.le_refl _⟩ (Nat.le_of_ble_eq_true rfl) ?_
                        show E 0 0 100 [(0, .ref 169), (1, .int (nI s)), (2, .int (nI f)), (3, .int (nI to))] [.int (nI (16 * (s + 1) + to)), .ref 178] (y_mk n L D8)
                        refine t_zaldN (e := 16 * (s + 1) + to) hE y_A_178 dX11_goesOnwards_100 (hL 178 (by decide)) (by omega) (by decide) ?_
                        refine r_if_eq (tgt := 117) hE dX11_goesOnwards_101 (by decide) (fun c101 => ?_) (fun c101 => ?_)
                        · refine r_iincN (a := to) (b := 1) (ls2 := [(0, .ref 169), (1, .int (nI s)), (2, .int (nI f)), (3, .int (nI (to + 1)))]) hE dX11_goesOnwards_117 rfl rfl (by decide) rfl ?_
                          refine r_goto (tgt := 76) hE dX11_goesOnwards_120 (by decide) ?_
                          refine ih (f + 1 - (to + 1)) (by omega) (to + 1) _ rfl (by omega) fr (fun m hm => y_is_imp (ar m hm) ?_)
                          rw [m_T1_s]
                          refine or_congr_right ⟨Or.inl, fun q => q.resolve_right (fun q => ?_)⟩
                          first
                          | exact c86 ((y_sub16 _ (by omega) _ hf).mpr q.1)
                          | exact (y_is_0 (by rw [(fr.1 178 (by decide))]; exact gd _ (by omega))).mp c101 q.2.1
                        · refine r_aload_n hE dX11_goesOnwards_104 rfl ?_
                          refine t_getr hE f_X11_46 y_R_169_19 dX11_goesOnwards_105 (hL 169 (by decide)) ?_
                          refine r_iload_n hE dX11_goesOnwards_108 rfl ?_
                          refine r_iconst (v := 1) hE dX11_goesOnwards_109 (by decide) ?_
                          refine r_iaddN (a := s) (b := 1) hE dX11_goesOnwards_110 ?_
                          refine r_iload_n hE dX11_goesOnwards_111 rfl ?_
                          refine t_invs (r := (some (.int (nI (16 * (s + 1) + to))))) (S2 := (y_mk n L D8)) hE [.int (nI (s + 1)), .int (nI to)] (c_at) s_yX11_at m_X11_299 dX11_goesOnwards_112 rfl (by decide) ⟨Nat.le_refl _, Nat.le_refl _⟩ (Nat.le_of_ble_eq_true rfl) ?_
                          show E 0 0 115 [(0, .ref 169), (1, .int (nI s)), (2, .int (nI f)), (3, .int (nI to))] [.int (nI (16 * (s + 1) + to)), .ref 179] (y_mk n L D8)
                          refine r_iconst (v := 1) hE dX11_goesOnwards_115 (by decide) ?_
                          refine t_zastN (e := 16 * (s + 1) + to) hE y_A_179 dX11_goesOnwards_116 (hL 179 (by decide)) (by omega) (by decide) ?_
                          refine r_iincN (a := to) (b := 1) (ls2 := [(0, .ref 169), (1, .int (nI s)), (2, .int (nI f)), (3, .int (nI (to + 1)))]) hE dX11_goesOnwards_117 rfl rfl (by decide) rfl ?_
                          refine r_goto (tgt := 76) hE dX11_goesOnwards_120 (by decide) ?_
                          have g2 := Classical.not_not.mp (fun q => c101 ((y_is_0 (by rw [(fr.1 178 (by decide))]; exact gd _ (by omega))).mpr q))
                          refine ih (f + 1 - (to + 1)) (by omega) (to + 1) _ rfl (by omega) (y_fx_s fr (by decide)) (fun m hm => ?_)
                          rw [y_si_s]
                          refine y_is_imp (y_isup1 ar m hm) ?_
                          rw [m_T1_s, or_assoc]
                          have h8 := (y_sub16 _ (by omega) _ hf).mp c86
                          exact or_congr_right (or_congr_right ⟨fun q => ⟨h8, g2, q⟩, fun q => q.2.2⟩)
                exact l3 0 _ (by omega) fr (fun m hm => y_is_imp (ar m hm) ⟨Or.inl, fun q => q.resolve_right m_T1_0⟩)
              · refine r_goto (tgt := 176) hE dX11_goesOnwards_71 (by decide) ?_
                refine r_iincN (a := f) (b := 1) (ls2 := [(0, .ref 169), (1, .int (nI s)), (2, .int (nI (f + 1)))]) hE dX11_goesOnwards_176 rfl rfl (by decide) rfl ?_
                refine r_goto (tgt := 52) hE dX11_goesOnwards_179 (by decide) ?_
                have hf : f < 16 := by omega
                refine ih (16 - (f + 1)) (by omega) (f + 1) _ rfl (by omega) fr (fun m hm => y_is_imp (ar m hm) ?_)
                rw [m_onf_s]
                exact ⟨Or.inl, fun q => q.resolve_right (fun q => (y_is_0 (ar _ (by omega))).mp c68 ((m_onf_at (fun w hw => m_take_1 (hww w hw)) hf).mpr q.1))⟩
        exact l2 0 _ (by omega) fr (fun m hm => y_is_imp (ar m hm) m_onf_z.symm)
  have l0 : ∀ (i : Nat), i ≤ 16 * k + 16 → E 0 0 2 [(0, .ref 169), (1, .int (nI i))] [] (y_mk n L (y_sw D 179 (y_cp (fun _ => 0) (D 179).1 i))) := by
    intro i
    induction hm9 : (16 * k + 16 - i) using Nat.strongRecOn generalizing i with
    | _ m9 ih =>
      intro hi
      subst hm9
      refine r_iload_n hE dX11_goesOnwards_2 rfl ?_
      refine r_aload_n hE dX11_goesOnwards_3 rfl ?_
      refine t_geti hE f_X11_249 y_I_169_13 dX11_goesOnwards_4 (hL 169 (by decide)) ?_
      refine r_top (y := (nI k)) hk ?_
      refine r_bipush (v := 16) hE dX11_goesOnwards_7 (by decide) ?_
      refine t_invs (r := (some (.int (nI (16 * k + 16))))) (S2 := (y_mk n L (y_sw D 179 (y_cp (fun _ => 0) (D 179).1 i)))) hE [.int (nI k), .int 16] (c_at) s_yX11_at m_X11_299 dX11_goesOnwards_9 rfl (by decide) ⟨Nat.le_refl _, Nat.le_refl _⟩ (Nat.le_of_ble_eq_true rfl) ?_
      show E 0 0 12 [(0, .ref 169), (1, .int (nI i))] [.int (nI (16 * k + 16)), .int (nI i)] (y_mk n L (y_sw D 179 (y_cp (fun _ => 0) (D 179).1 i)))
      refine r_icmp_geN (a := i) (b := 16 * k + 16) (tgt := 28) hE dX11_goesOnwards_12 (by decide) (by omega) (by omega) (fun c12 => ?_) (fun c12 => ?_)
      · refine r_aload_n hE dX11_goesOnwards_28 rfl ?_
        refine t_getr hE f_X11_46 y_R_169_19 dX11_goesOnwards_29 (hL 169 (by decide)) ?_
        refine r_iconst (v := 0) hE dX11_goesOnwards_32 (by decide) ?_
        refine r_aload_n hE dX11_goesOnwards_33 rfl ?_
        refine t_getr hE f_X11_43 y_R_169_18 dX11_goesOnwards_34 (hL 169 (by decide)) ?_
        refine r_iconst (v := 0) hE dX11_goesOnwards_37 (by decide) ?_
        refine t_zaldN (e := 0) hE y_A_178 dX11_goesOnwards_38 (hL 178 (by decide)) (by omega) (by decide) ?_
        refine r_top (y := (D 178).1 0) rfl ?_
        refine t_zastN (e := 0) hE y_A_179 dX11_goesOnwards_39 (hL 179 (by decide)) (by omega) (by decide) ?_
        refine r_iconst (v := 0) hE dX11_goesOnwards_40 (by decide) ?_
        refine r_istore_n (ls2 := [(0, .ref 169), (1, .int 0)]) hE dX11_goesOnwards_41 (by decide) rfl ?_
        refine l1 0 _ (by omega) (y_fx_s (y_fx_w y_fx_r (by decide)) (by decide)) (fun m hm => ?_)
        rw [y_si_1, y_sw_1]
        by_cases c : m = 0
        · rw [if_pos c, y_is_nar2 (gd 0 (by omega))]
          exact y_is_imp (gd 0 (by omega)) ⟨fun q => ⟨c, q⟩, fun q => q.2⟩
        · rw [if_neg c]
          unfold y_cp
          rw [if_pos (by omega)]
          exact Or.inr ⟨rfl, fun q => c q.1⟩
      · refine r_aload_n hE dX11_goesOnwards_15 rfl ?_
        refine t_getr hE f_X11_46 y_R_169_19 dX11_goesOnwards_16 (hL 169 (by decide)) ?_
        refine r_iload_n hE dX11_goesOnwards_19 rfl ?_
        refine r_iconst (v := 0) hE dX11_goesOnwards_20 (by decide) ?_
        refine t_zastN (e := i) hE y_A_179 dX11_goesOnwards_21 (hL 179 (by decide)) (by omega) (by decide) ?_
        refine r_iincN (a := i) (b := 1) (ls2 := [(0, .ref 169), (1, .int (nI (i + 1)))]) hE dX11_goesOnwards_22 rfl rfl (by decide) rfl ?_
        refine r_goto (tgt := 2) hE dX11_goesOnwards_25 (by decide) ?_
        rw [y_si_sw, y_nb0, y_cp_s (f := fun _ => 0)]
        exact ih (16 * k + 16 - (i + 1)) (by omega) (i + 1) rfl (by omega)
  refine r_iconst (v := 0) hE dX11_goesOnwards_0 (by decide) ?_
  refine r_istore_n (ls2 := [(0, .ref 169), (1, .int 0)]) hE dX11_goesOnwards_1 (by decide) rfl ?_
  have h0 := l0 0 (by omega)
  rw [y_cp_0, y_sw_self] at h0
  exact h0

/-! the reference: prepares -/
/-- all as it was but for the numbers in the rows hs -/
def y_fx (hs : List Nat) (D D2 : y_D) : Prop := (∀ j, j ∉ hs → D2 j = D j) ∧ ∀ j, (D2 j).2 = (D j).2
theorem y_fx_r {hs : List Nat} {D : y_D} : y_fx hs D D := ⟨fun _ _ => rfl, fun _ => rfl⟩
theorem y_fx_s {hs : List Nat} {D D2 : y_D} {h k : Nat} {v : Int32} (a : y_fx hs D D2) (hh : h ∈ hs) : y_fx hs D (y_si D2 h k v) := by
  refine ⟨fun j hj => ?_, fun j => ?_⟩
  · rw [y_si_ne (fun q => hj (by rw [q]; exact hh)), a.1 j hj]
  · by_cases c : j = h
    · rw [c, y_si_2, a.2]
    · rw [y_si_ne c, a.2]
theorem y_fx_w {hs : List Nat} {D D2 : y_D} {h : Nat} {f : Nat → Int32} (a : y_fx hs D D2) (hh : h ∈ hs) : y_fx hs D (y_sw D2 h f) := by
  refine ⟨fun j hj => ?_, fun j => ?_⟩
  · rw [y_sw_ne (fun q => hj (by rw [q]; exact hh)), a.1 j hj]
  · by_cases c : j = h
    · rw [c, y_sw_2, a.2]
    · rw [y_sw_ne c, a.2]
theorem y_fx_t {hs : List Nat} {D D2 D3 : y_D} (a : y_fx hs D D2) (b : y_fx hs D2 D3) : y_fx hs D D3 := ⟨fun j hj => by rw [b.1 j hj, a.1 j hj], fun j => by rw [b.2, a.2]⟩
theorem y_fx_m {hs h2 : List Nat} {D D2 : y_D} (a : y_fx hs D D2) (h : ∀ j, j ∈ hs → j ∈ h2) : y_fx h2 D D2 := ⟨fun j hj => a.1 j (fun q => hj (h j q)), a.2⟩
theorem y_fx_o {h : Nat} {hs : List Nat} {D D2 : y_D} (a : y_o1 h D D2) (hh : h ∈ hs) : y_fx hs D D2 := by
  refine ⟨fun j hj => a.1 j (fun q => hj (by rw [q]; exact hh)), fun j => ?_⟩
  by_cases c : j = h
  · rw [c]; exact a.2
  · rw [a.1 j c]
theorem m_all_eq {D D8 : y_D} (h0 : D8 170 = D 170) (h1 : D8 174 = D 174) (h2 : D8 175 = D 175) (h3 : D8 176 = D 176) : m_all D8 = m_all D := by
  have e : m_ask D8 = m_ask D := by
    funext p q x f hl
    unfold m_ask
    rw [h0, h1, h2, h3]
  funext w x f hl
  unfold m_all m_alls m_line
  rw [e, h0]
/-- a second and its free LIMBS, 16 * second + limbs, are not seen -/
def m_G0 (D : y_D) (m : Nat) : Prop := m % 16 = 0 ∨ (D 174).1 (m / 16) = 0
/-- from s on just c seconds up to k are as Q says -/
def m_rl (Q : Nat → Prop) (k s c : Nat) : Prop := s + c ≤ k + 1 ∧ (∀ y, s ≤ y → y < s + c → Q y) ∧ (s + c ≤ k → ¬ Q (s + c))
def m_Q (D : y_D) (hl : Int32) (w f y : Nat) : Prop := m_G0 D (16 * y + f) ∧ m_all D w y f hl
def m_R (D D2 : y_D) (hl : Int32) (k w f s : Nat) : Prop := ∃ c, (D2 182).1 ((16 * w + f) * 302 + s) = nI c ∧ m_rl (m_Q D hl w f) k s c
def m_MP (D D2 : y_D) (u : Int32) : Prop := y_fx [169, 177, 178, 182] D D2 ∧ (∀ k, k ≠ 23 → (D2 169).1 k = (D 169).1 k) ∧ (D2 169).1 23 = u
theorem m_MP_s {D D2 : y_D} {u : Int32} {h k : Nat} {v : Int32} (a : m_MP D D2 u) (hh : h = 177 ∨ h = 178 ∨ h = 182) : m_MP D (y_si D2 h k v) u := by
  refine ⟨y_fx_s a.1 (by simp only [List.mem_cons, List.not_mem_nil, or_false]; omega), fun j hj => ?_, ?_⟩
  · rw [y_si_ne (by omega)]; exact a.2.1 j hj
  · rw [y_si_ne (by omega)]; exact a.2.2
theorem m_MP_o {D D2 D3 : y_D} {u : Int32} (a : m_MP D D2 u) (b : y_o1 177 D2 D3) : m_MP D D3 u := by
  refine ⟨y_fx_t a.1 (y_fx_o b (by decide)), fun j hj => ?_, ?_⟩
  · rw [b.1 169 (by decide)]; exact a.2.1 j hj
  · rw [b.1 169 (by decide)]; exact a.2.2
theorem m_R_o {D D2 D3 : y_D} {hl : Int32} {k w f s : Nat} (h : D3 182 = D2 182) (a : m_R D D2 hl k w f s) : m_R D D3 hl k w f s := by
  unfold m_R at a ⊢
  rw [h]
  exact a
theorem m_R_n {D D2 : y_D} {hl : Int32} {k w f s j : Nat} {v : Int32} (h : (16 * w + f) * 302 + s ≠ j) (a : m_R D D2 hl k w f s) : m_R D (y_si D2 182 j v) hl k w f s := by
  obtain ⟨c, h1, h2⟩ := a
  exact ⟨c, by rw [y_si_1, if_neg h]; exact h1, h2⟩
theorem m_R_y {D D2 : y_D} {hl : Int32} {k w f s c : Nat} (h : m_rl (m_Q D hl w f) k s c) : m_R D (y_si D2 182 ((16 * w + f) * 302 + s) (nI c)) hl k w f s := ⟨c, by rw [y_si_1, if_pos rfl], h⟩
theorem m_rl_z {Q : Nat → Prop} {k : Nat} : m_rl Q k (k + 1) 0 := ⟨by omega, fun y _ _ => by omega, fun _ => by omega⟩
theorem m_rl_0 {Q : Nat → Prop} {k s : Nat} (hs : s ≤ k) (h : ¬ Q s) : m_rl Q k s 0 := ⟨by omega, fun y _ _ => by omega, fun _ => h⟩
theorem m_rl_s {Q : Nat → Prop} {k s c : Nat} (h : Q s) (a : m_rl Q k (s + 1) c) : m_rl Q k s (c + 1) := by
  obtain ⟨h1, h2, h3⟩ := a
  refine ⟨by omega, fun y hy hy2 => ?_, fun hc => ?_⟩
  · by_cases q : y = s
    · rw [q]; exact h
    · exact h2 y (by omega) (by omega)
  · rw [show s + (c + 1) = s + 1 + c by omega]; exact h3 (by omega)
theorem m_rl_ge {Q : Nat → Prop} {k s c t : Nat} (a : m_rl Q k s c) (ht : s + t ≤ k + 1) : t ≤ c ↔ ∀ y, s ≤ y → y < s + t → Q y := by
  obtain ⟨h1, h2, h3⟩ := a
  refine ⟨fun h y hy hy2 => h2 y hy (by omega), fun h => ?_⟩
  by_cases q : t ≤ c
  · exact q
  · exact absurd (h (s + c) (by omega) (by omega)) (h3 (by omega))
def y_dn : Nat → Int32
  | 0 => -1
  | s + 1 => nI s
theorem y_dn_s (s : Nat) : nI s + (-1) = y_dn s := by
  cases s with
  | zero => rfl
  | succ s => exact pk_m1 s
theorem y_isup1 {F : Nat → Int32} {P : Nat → Prop} {N j : Nat} (h : ∀ m, m < N → y_is (F m) (P m)) : ∀ m, m < N → y_is (upd F j 1 m) (P m ∨ m = j) := by
  intro m hm
  unfold upd
  by_cases c : m = j
  · rw [if_pos c]; exact Or.inl ⟨rfl, Or.inr c⟩
  · rw [if_neg c]; exact y_is_imp (h m hm) ⟨Or.inl, fun q => q.resolve_right c⟩
/-- what a NOTE leaves -/
def m_nt (W : Nat → Int32) (rc kn m : Nat) : Prop := ∀ j, j < kn → q_n W (46 + 2 * j + 1) = m / 16 → m_cd W (q_n W (46 + 2 * j)) (m % 16) rc
theorem c_prepares0 {V : x_E} {n : Nat} {L : List Nat} {D : y_D} {k kw : Nat} {u hl : Int32} (hL : y_ok L) (hk : (D 169).1 13 = nI k) (hk3 : k ≤ 300) (hw2 : (D 170).1 2 = nI kw) (hkw : kw ≤ 6) (hww : ∀ w, w < kw → m_ww (D 170).1 (4 + w)) (hh : ∀ l, l < 4 → m_hd ((D 175).1 l)) : y_Ri V yX11_prepares cX11_prepares 9 (some .boolean) 6 [.ref 169, .int u, .int hl, .int 0] n L D (fun v D2 => v = 1 ∧ m_MP D D2 (u &&& (nI (2 ^ kw) - 1)) ∧ (∀ m, m < 16 * (k + 1) → y_is ((D2 178).1 m) (m_G0 D m)) ∧ (∀ w, w < kw → y_bit (u &&& (nI (2 ^ kw) - 1)) w → ∀ f, f < 16 → ∀ s, s ≤ k + 1 → m_R D D2 hl k w f s)) := by
  refine y_ri (by decide) (Nat.le_of_ble_eq_true rfl) (fun E hE => ?_)
  change E 0 0 0 [(0, .ref 169), (1, .int u), (2, .int hl), (3, .int 0)] [] (y_mk n L D)
  have lB : ∀ (w : Nat) (D8 : y_D), w ≤ kw → m_MP D D8 (u &&& (nI (2 ^ kw) - 1)) → (∀ m, m < 16 * (k + 1) → y_is ((D8 178).1 m) (m_G0 D m)) → (∀ w2, w2 < w → y_bit (u &&& (nI (2 ^ kw) - 1)) w2 → ∀ f2, f2 < 16 → ∀ s2, s2 ≤ k + 1 → m_R D D8 hl k w2 f2 s2) → E 0 0 85 [(0, .ref 169), (1, .int u), (2, .int hl), (3, .int 0), (4, .int (nI w))] [] (y_mk n L D8) := by
    intro w D8
    induction hm9 : (kw - w) using Nat.strongRecOn generalizing w D8 with
    | _ m9 ih =>
      intro hw fr gd rw9
      subst hm9
      refine r_iload hE dX11_prepares_85 rfl ?_
      refine r_aload_n hE dX11_prepares_87 rfl ?_
      refine t_getr hE f_X11_13 y_R_169_1 dX11_prepares_88 (hL 169 (by decide)) ?_
      refine r_iconst (v := 2) hE dX11_prepares_91 (by decide) ?_
      refine t_ialdN (e := 2) hE y_A_170 dX11_prepares_92 (hL 170 (by decide)) (by omega) (by decide) ?_
      refine r_top (y := (nI kw)) (by rw [(fr.1.1 170 (by decide))]; exact hw2) ?_
      refine r_icmp_geN (a := w) (b := kw) (tgt := 234) hE dX11_prepares_93 (by decide) (by omega) (by omega) (fun c93 => ?_) (fun c93 => ?_)
      · refine r_iload_n hE dX11_prepares_234 rfl ?_
        refine r_if_ne (tgt := 240) hE dX11_prepares_235 (by decide) (fun c235 => by first | exact absurd c235 (by decide) | exact absurd (by decide) c235) (fun _ => ?_)
        refine r_iconst (v := 1) hE dX11_prepares_238 (by decide) ?_
        refine r_ireturn hE dX11_prepares_239 rfl (by first | exact y_is_nar hv | decide) (Nat.zero_le _) (Nat.zero_le _) ?_
        exact ⟨_, _, rfl, rfl, rfl, fr, gd, by rw [show w = kw by omega] at rw9; exact rw9⟩
      · refine r_aload_n hE dX11_prepares_96 rfl ?_
        refine t_geti hE f_X11_296 y_I_169_23 dX11_prepares_97 (hL 169 (by decide)) ?_
        refine r_iload hE dX11_prepares_100 rfl ?_
        refine r_ishr hE dX11_prepares_102 ?_
        refine r_iconst (v := 1) hE dX11_prepares_103 (by decide) ?_
        refine r_iand hE dX11_prepares_104 ?_
        refine r_if_ne (tgt := 111) hE dX11_prepares_105 (by decide) (fun c105 => ?_) (fun c105 => ?_)
        · refine r_iconst (v := 0) hE dX11_prepares_111 (by decide) ?_
          refine r_istore (ls2 := [(0, .ref 169), (1, .int u), (2, .int hl), (3, .int 0), (4, .int (nI w)), (5, .int 0)]) hE dX11_prepares_112 (by decide) rfl ?_
          have ihB := ih
          have lF : ∀ (f : Nat) (D8 : y_D), f ≤ 16 → m_MP D D8 (u &&& (nI (2 ^ kw) - 1)) → (∀ m, m < 16 * (k + 1) → y_is ((D8 178).1 m) (m_G0 D m)) → (∀ w2, w2 < w → y_bit (u &&& (nI (2 ^ kw) - 1)) w2 → ∀ f2, f2 < 16 → ∀ s2, s2 ≤ k + 1 → m_R D D8 hl k w2 f2 s2) → (∀ g, g < f → ∀ s2, s2 ≤ k + 1 → m_R D D8 hl k w g s2) → E 0 0 114 [(0, .ref 169), (1, .int u), (2, .int hl), (3, .int 0), (4, .int (nI w)), (5, .int (nI f))] [] (y_mk n L D8) := by
            intro f D8
            induction hm9 : (16 - f) using Nat.strongRecOn generalizing f D8 with
            | _ m9 ih =>
              intro hf fr gd rw9 rf
              subst hm9
              refine r_iload hE dX11_prepares_114 rfl ?_
              refine r_bipush (v := 16) hE dX11_prepares_116 (by decide) ?_
              refine r_icmp_geN (a := f) (b := 16) (tgt := 228) hE dX11_prepares_118 (by decide) (by omega) (by decide) (fun c118 => ?_) (fun c118 => ?_)
              · refine r_iincN (a := w) (b := 1) (ls2 := [(0, .ref 169), (1, .int u), (2, .int hl), (3, .int 0), (4, .int (nI (w + 1))), (5, .int (nI f))]) hE dX11_prepares_228 rfl rfl (by decide) rfl ?_
                refine r_goto (tgt := 85) hE dX11_prepares_231 (by decide) ?_
                refine r_locs hE (ls2 := [(0, .ref 169), (1, .int u), (2, .int hl), (3, .int 0), (4, .int (nI (w + 1)))]) ?_ (ihB (kw - (w + 1)) (by omega) (w + 1) _ rfl (by omega) fr gd (fun w2 hw3 hb g hg s2 hs2 => ?_))
                · simp [x_lk]
                · by_cases q : w2 = w
                  · rw [q]; exact rf g (by omega) s2 hs2
                  · exact rw9 w2 (by omega) hb g hg s2 hs2
              · refine r_aload_n hE dX11_prepares_121 rfl ?_
                refine t_getr hE f_X11_55 y_R_169_22 dX11_prepares_122 (hL 169 (by decide)) ?_
                refine r_iload hE dX11_prepares_125 rfl ?_
                refine r_iload hE dX11_prepares_127 rfl ?_
                refine r_aload_n hE dX11_prepares_129 rfl ?_
                refine t_geti hE f_X11_249 y_I_169_13 dX11_prepares_130 (hL 169 (by decide)) ?_
                refine r_top (y := (nI k)) (by rw [fr.2.1 13 (by decide)]; exact hk) ?_
                refine r_iconst (v := 1) hE dX11_prepares_133 (by decide) ?_
                refine r_iaddN (a := k) (b := 1) hE dX11_prepares_134 ?_
                refine t_invs (r := (some (.int (nI ((16 * w + f) * 302 + (k + 1)))))) (S2 := (y_mk n L D8)) hE [.int (nI w), .int (nI f), .int (nI (k + 1))] (c_runAt) s_yX11_runAt m_X11_302 dX11_prepares_135 rfl (by decide) ⟨Nat.le_refl _, Nat.le_refl _⟩ (Nat.le_of_ble_eq_true rfl) ?_
                show E 0 0 138 [(0, .ref 169), (1, .int u), (2, .int hl), (3, .int 0), (4, .int (nI w)), (5, .int (nI f))] [.int (nI ((16 * w + f) * 302 + (k + 1))), .ref 182] (y_mk n L D8)
                refine r_iconst (v := 0) hE dX11_prepares_138 (by decide) ?_
                refine t_iastN (e := (16 * w + f) * 302 + (k + 1)) hE y_A_182 dX11_prepares_139 (hL 182 (by decide)) (by omega) (by decide) ?_
                refine r_aload_n hE dX11_prepares_140 rfl ?_
                refine t_geti hE f_X11_249 y_I_169_13 dX11_prepares_141 (hL 169 (by decide)) ?_
                refine r_top (y := (nI k)) (by rw [y_si_ne (by decide), fr.2.1 13 (by decide)]; exact hk) ?_
                refine r_istore (ls2 := [(0, .ref 169), (1, .int u), (2, .int hl), (3, .int 0), (4, .int (nI w)), (5, .int (nI f)), (6, .int (nI k))]) hE dX11_prepares_144 (by decide) rfl ?_
                have ihF := ih
                have lS : ∀ (e : Nat) (D8 : y_D), e ≤ k + 1 → m_MP D D8 (u &&& (nI (2 ^ kw) - 1)) → (∀ m, m < 16 * (k + 1) → y_is ((D8 178).1 m) (m_G0 D m)) → (∀ w2, w2 < w → y_bit (u &&& (nI (2 ^ kw) - 1)) w2 → ∀ f2, f2 < 16 → ∀ s2, s2 ≤ k + 1 → m_R D D8 hl k w2 f2 s2) → (∀ g, g < f → ∀ s2, s2 ≤ k + 1 → m_R D D8 hl k w g s2) → (∀ s2, e ≤ s2 → s2 ≤ k + 1 → m_R D D8 hl k w f s2) → E 0 0 146 [(0, .ref 169), (1, .int u), (2, .int hl), (3, .int 0), (4, .int (nI w)), (5, .int (nI f)), (6, .int (y_dn e))] [] (y_mk n L D8) := by
                  intro e
                  induction e with
                  | zero =>
                    intro D8 he fr gd rw9 rf rs
                    change E 0 0 146 [(0, .ref 169), (1, .int u), (2, .int hl), (3, .int 0), (4, .int (nI w)), (5, .int (nI f)), (6, .int (-1))] [] (y_mk n L D8)
                    refine r_iload hE dX11_prepares_146 rfl ?_
                    refine r_if_lt (tgt := 222) hE dX11_prepares_148 (by decide) (fun _ => ?_) (fun c148 => by first | exact absurd c148 (by decide) | exact absurd (by decide) c148)
                    refine r_iincN (a := f) (b := 1) (ls2 := [(0, .ref 169), (1, .int u), (2, .int hl), (3, .int 0), (4, .int (nI w)), (5, .int (nI (f + 1))), (6, .int (-1))]) hE dX11_prepares_222 rfl rfl (by decide) rfl ?_
                    refine r_goto (tgt := 114) hE dX11_prepares_225 (by decide) ?_
                    refine r_locs hE (ls2 := [(0, .ref 169), (1, .int u), (2, .int hl), (3, .int 0), (4, .int (nI w)), (5, .int (nI (f + 1)))]) ?_ (ihF (16 - (f + 1)) (by omega) (f + 1) _ rfl (by omega) fr gd rw9 (fun g hg s2 hs2 => ?_))
                    · simp [x_lk]
                    · by_cases q : g = f
                      · rw [q]; exact rs s2 (by omega) hs2
                      · exact rf g (by omega) s2 hs2
                  | succ s ihS0 =>
                    intro D8 he fr gd rw9 rf rs
                    have ihS := fun D9 => ihS0 D9 (by omega)
                    change E 0 0 146 [(0, .ref 169), (1, .int u), (2, .int hl), (3, .int 0), (4, .int (nI w)), (5, .int (nI f)), (6, .int (nI s))] [] (y_mk n L D8)
                    refine r_iload hE dX11_prepares_146 rfl ?_
                    refine r_if_lt (tgt := 222) hE dX11_prepares_148 (by decide) (fun c148 => absurd c148 (nI_pos (by omega))) (fun _ => ?_)
                    refine r_aload_n hE dX11_prepares_151 rfl ?_
                    refine t_getr hE f_X11_55 y_R_169_22 dX11_prepares_152 (hL 169 (by decide)) ?_
                    refine r_iload hE dX11_prepares_155 rfl ?_
                    refine r_iload hE dX11_prepares_157 rfl ?_
                    refine r_iload hE dX11_prepares_159 rfl ?_
                    refine t_invs (r := (some (.int (nI ((16 * w + f) * 302 + s))))) (S2 := (y_mk n L D8)) hE [.int (nI w), .int (nI f), .int (nI s)] (c_runAt) s_yX11_runAt m_X11_302 dX11_prepares_161 rfl (by decide) ⟨Nat.le_refl _, Nat.le_refl _⟩ (Nat.le_of_ble_eq_true rfl) ?_
                    show E 0 0 164 [(0, .ref 169), (1, .int u), (2, .int hl), (3, .int 0), (4, .int (nI w)), (5, .int (nI f)), (6, .int (nI s))] [.int (nI ((16 * w + f) * 302 + s)), .ref 182] (y_mk n L D8)
                    refine r_aload_n hE dX11_prepares_164 rfl ?_
                    refine t_getr hE f_X11_43 y_R_169_18 dX11_prepares_165 (hL 169 (by decide)) ?_
                    refine r_iload hE dX11_prepares_168 rfl ?_
                    refine r_iload hE dX11_prepares_170 rfl ?_
                    refine t_invs (r := (some (.int (nI (16 * s + f))))) (S2 := (y_mk n L D8)) hE [.int (nI s), .int (nI f)] (c_at) s_yX11_at m_X11_299 dX11_prepares_172 rfl (by decide) ⟨Nat.le_refl _, Nat.le_refl _⟩ (Nat.le_of_ble_eq_true rfl) ?_
                    show E 0 0 175 [(0, .ref 169), (1, .int u), (2, .int hl), (3, .int 0), (4, .int (nI w)), (5, .int (nI f)), (6, .int (nI s))] [.int (nI (16 * s + f)), .ref 178, .int (nI ((16 * w + f) * 302 + s)), .ref 182] (y_mk n L D8)
                    refine t_zaldN (e := 16 * s + f) hE y_A_178 dX11_prepares_175 (hL 178 (by decide)) (by omega) (by decide) ?_
                    refine r_if_eq (tgt := 214) hE dX11_prepares_176 (by decide) (fun c176 => ?_) (fun c176 => ?_)
                    · refine r_iconst (v := 0) hE dX11_prepares_214 (by decide) ?_
                      refine t_iastN (e := (16 * w + f) * 302 + s) hE y_A_182 dX11_prepares_215 (hL 182 (by decide)) (by omega) (by decide) ?_
                      refine r_iinc (v := (nI s) + (-1)) (ls2 := [(0, .ref 169), (1, .int u), (2, .int hl), (3, .int 0), (4, .int (nI w)), (5, .int (nI f)), (6, .int ((nI s) + (-1)))]) hE dX11_prepares_216 rfl rfl (by decide) rfl ?_
                      refine r_goto (tgt := 146) hE dX11_prepares_219 (by decide) ?_
                      have z0 : (0 : Int32) = nI 0 := rfl
                      rw [z0]
                      rw [y_dn_s]
                      refine ihS _ (m_MP_s fr (by decide)) (fun m hm => ?_) (fun w2 hw2 hb g hg s2 hs2 => ?_) (fun g hg s2 hs2 => ?_) (fun s2 h1 h2 => ?_)
                      · rw [y_si_ne (by decide)]
                        exact gd m hm
                      · exact m_R_n (by omega) (rw9 w2 hw2 hb g hg s2 hs2)
                      · exact m_R_n (by omega) (rf g hg s2 hs2)
                      · by_cases q : s2 = s
                        · rw [q]
                          exact m_R_y (m_rl_0 (by omega) (fun q => ((y_is_0 (gd _ (by omega))).mp c176) q.1))
                        · exact m_R_n (by omega) (rs s2 (by omega) h2)
                    · refine r_aload_n hE dX11_prepares_179 rfl ?_
                      refine r_iload hE dX11_prepares_180 rfl ?_
                      refine r_iload hE dX11_prepares_182 rfl ?_
                      refine r_iload hE dX11_prepares_184 rfl ?_
                      refine r_iload_n hE dX11_prepares_186 rfl ?_
                      refine t_invvRi hE [.int (nI w), .int (nI s), .int (nI f), .int hl] (c_holdsAll (D := D8) (w := w) (x := s) (f := f) hL (by omega) (by rw [(fr.1.1 170 (by decide))]; exact hww w (by omega)) (by omega) (by omega) (by rw [(fr.1.1 175 (by decide))]; exact hh)) v_yX11_holdsAll m_X11_284 dX11_prepares_187 rfl (hL 169 (by decide)) (y_l_169 (D8 169)) rfl (by decide) ⟨Nat.le_refl _, Nat.le_refl _⟩ (Nat.le_of_ble_eq_true rfl) (fun v9 D9 q9 => ?_)
                      show E 0 0 190 [(0, .ref 169), (1, .int u), (2, .int hl), (3, .int 0), (4, .int (nI w)), (5, .int (nI f)), (6, .int (nI s))] [.int v9, .int (nI ((16 * w + f) * 302 + s)), .ref 182] (y_mk n L D9)
                      refine r_if_eq (tgt := 214) hE dX11_prepares_190 (by decide) (fun c190 => ?_) (fun c190 => ?_)
                      · refine r_iconst (v := 0) hE dX11_prepares_214 (by decide) ?_
                        refine t_iastN (e := (16 * w + f) * 302 + s) hE y_A_182 dX11_prepares_215 (hL 182 (by decide)) (by omega) (by decide) ?_
                        refine r_iinc (v := (nI s) + (-1)) (ls2 := [(0, .ref 169), (1, .int u), (2, .int hl), (3, .int 0), (4, .int (nI w)), (5, .int (nI f)), (6, .int ((nI s) + (-1)))]) hE dX11_prepares_216 rfl rfl (by decide) rfl ?_
                        refine r_goto (tgt := 146) hE dX11_prepares_219 (by decide) ?_
                        have z0 : (0 : Int32) = nI 0 := rfl
                        rw [z0]
                        rw [y_dn_s]
                        refine ihS _ (m_MP_s (m_MP_o fr q9.2) (by decide)) (fun m hm => ?_) (fun w2 hw2 hb g hg s2 hs2 => ?_) (fun g hg s2 hs2 => ?_) (fun s2 h1 h2 => ?_)
                        · rw [y_si_ne (by decide), q9.2.1 178 (by decide)]
                          exact gd m hm
                        · exact m_R_n (by omega) (m_R_o (q9.2.1 182 (by decide)) (rw9 w2 hw2 hb g hg s2 hs2))
                        · exact m_R_n (by omega) (m_R_o (q9.2.1 182 (by decide)) (rf g hg s2 hs2))
                        · by_cases q : s2 = s
                          · rw [q]
                            exact m_R_y (m_rl_0 (by omega) (fun q => ((y_is_0 q9.1).mp c190) (by rw [m_all_eq (fr.1.1 170 (by decide)) (fr.1.1 174 (by decide)) (fr.1.1 175 (by decide)) (fr.1.1 176 (by decide))]; exact q.2)))
                          · exact m_R_n (by omega) (m_R_o (q9.2.1 182 (by decide)) (rs s2 (by omega) h2))
                      · have h9b : m_all D w s f hl := by
                          have := (y_is_0 q9.1)
                          rw [m_all_eq (fr.1.1 170 (by decide)) (fr.1.1 174 (by decide)) (fr.1.1 175 (by decide)) (fr.1.1 176 (by decide))] at this
                          exact Classical.not_not.mp (fun q => c190 (this.mpr q))
                        obtain ⟨c, hr1, hr2⟩ := m_R_o (q9.2.1 182 (by decide)) (rs (s + 1) (by omega) (by omega))
                        have hc9 := hr2.1
                        refine r_aload_n hE dX11_prepares_193 rfl ?_
                        refine t_getr hE f_X11_55 y_R_169_22 dX11_prepares_194 (hL 169 (by decide)) ?_
                        refine r_iload hE dX11_prepares_197 rfl ?_
                        refine r_iload hE dX11_prepares_199 rfl ?_
                        refine r_iload hE dX11_prepares_201 rfl ?_
                        refine r_iconst (v := 1) hE dX11_prepares_203 (by decide) ?_
                        refine r_iaddN (a := s) (b := 1) hE dX11_prepares_204 ?_
                        refine t_invs (r := (some (.int (nI ((16 * w + f) * 302 + (s + 1)))))) (S2 := (y_mk n L D9)) hE [.int (nI w), .int (nI f), .int (nI (s + 1))] (c_runAt) s_yX11_runAt m_X11_302 dX11_prepares_205 rfl (by decide) ⟨Nat.le_refl _, Nat.le_refl _⟩ (Nat.le_of_ble_eq_true rfl) ?_
                        show E 0 0 208 [(0, .ref 169), (1, .int u), (2, .int hl), (3, .int 0), (4, .int (nI w)), (5, .int (nI f)), (6, .int (nI s))] [.int (nI ((16 * w + f) * 302 + (s + 1))), .ref 182, .int (nI ((16 * w + f) * 302 + s)), .ref 182] (y_mk n L D9)
                        refine t_ialdN (e := (16 * w + f) * 302 + (s + 1)) hE y_A_182 dX11_prepares_208 (hL 182 (by decide)) (by omega) (by decide) ?_
                        refine r_top (y := (nI c)) hr1 ?_
                        refine r_iconst (v := 1) hE dX11_prepares_209 (by decide) ?_
                        refine r_iaddN (a := c) (b := 1) hE dX11_prepares_210 ?_
                        refine r_goto (tgt := 215) hE dX11_prepares_211 (by decide) ?_
                        refine t_iastN (e := (16 * w + f) * 302 + s) hE y_A_182 dX11_prepares_215 (hL 182 (by decide)) (by omega) (by decide) ?_
                        refine r_iinc (v := (nI s) + (-1)) (ls2 := [(0, .ref 169), (1, .int u), (2, .int hl), (3, .int 0), (4, .int (nI w)), (5, .int (nI f)), (6, .int ((nI s) + (-1)))]) hE dX11_prepares_216 rfl rfl (by decide) rfl ?_
                        refine r_goto (tgt := 146) hE dX11_prepares_219 (by decide) ?_
                        have hG : m_G0 D (16 * s + f) := Classical.not_not.mp (fun q => c176 ((y_is_0 (gd _ (by omega))).mpr q))
                        rw [y_dn_s]
                        refine ihS _ (m_MP_s (m_MP_o fr q9.2) (by decide)) (fun m hm => ?_) (fun w2 hw2 hb g hg s2 hs2 => ?_) (fun g hg s2 hs2 => ?_) (fun s2 h1 h2 => ?_)
                        · rw [y_si_ne (by decide), q9.2.1 178 (by decide)]
                          exact gd m hm
                        · exact m_R_n (by omega) (m_R_o (q9.2.1 182 (by decide)) (rw9 w2 hw2 hb g hg s2 hs2))
                        · exact m_R_n (by omega) (m_R_o (q9.2.1 182 (by decide)) (rf g hg s2 hs2))
                        · by_cases q : s2 = s
                          · rw [q]
                            exact m_R_y (m_rl_s ⟨hG, h9b⟩ hr2)
                          · exact m_R_n (by omega) (m_R_o (q9.2.1 182 (by decide)) (rs s2 (by omega) h2))
                rw [show nI k = y_dn (k + 1) from rfl]
                refine lS (k + 1) _ (by omega) (m_MP_s fr (by decide)) (fun m hm => ?_) (fun w2 hw2 hb g hg s2 hs2 => ?_) (fun g hg s2 hs2 => ?_) (fun s2 h1 h2 => ?_)
                · rw [y_si_ne (by decide)]
                  exact gd m hm
                · exact m_R_n (by omega) (rw9 w2 hw2 hb g hg s2 hs2)
                · exact m_R_n (by omega) (rf g hg s2 hs2)
                · rw [show s2 = k + 1 by omega]
                  exact m_R_y (c := 0) m_rl_z
          exact lF 0 _ (by omega) fr gd rw9 (fun g hg => absurd hg (by omega))
        · refine r_goto (tgt := 228) hE dX11_prepares_108 (by decide) ?_
          refine r_iincN (a := w) (b := 1) (ls2 := [(0, .ref 169), (1, .int u), (2, .int hl), (3, .int 0), (4, .int (nI (w + 1)))]) hE dX11_prepares_228 rfl rfl (by decide) rfl ?_
          refine r_goto (tgt := 85) hE dX11_prepares_231 (by decide) ?_
          refine r_locs hE (ls2 := [(0, .ref 169), (1, .int u), (2, .int hl), (3, .int 0), (4, .int (nI (w + 1)))]) ?_ (ih (kw - (w + 1)) (by omega) (w + 1) _ rfl (by omega) fr gd (fun w2 hw3 hb g hg s2 hs2 => ?_))
          · simp [x_lk]
          · by_cases q : w2 = w
            · subst q
              exact absurd hb (fun q => by have h8 : _ = _ := c105; rw [fr.2.2] at h8; rw [show ((u &&& (nI (2 ^ kw) - 1)) >>> (nI w2 &&& 31)) &&& 1 = 1 from q] at h8; exact absurd h8 (by decide))
            · exact rw9 w2 (by omega) hb g hg s2 hs2
  have lA : ∀ (s : Nat) (D8 : y_D), s ≤ k + 1 → m_MP D D8 (u &&& (nI (2 ^ kw) - 1)) → (∀ m, m < 16 * s → y_is ((D8 178).1 m) (m_G0 D m)) → E 0 0 19 [(0, .ref 169), (1, .int u), (2, .int hl), (3, .int 0), (4, .int (nI s))] [] (y_mk n L D8) := by
    intro s D8
    induction hm9 : (k + 1 - s) using Nat.strongRecOn generalizing s D8 with
    | _ m9 ih =>
      intro hs fr gd
      subst hm9
      refine r_iload hE dX11_prepares_19 rfl ?_
      refine r_aload_n hE dX11_prepares_21 rfl ?_
      refine t_geti hE f_X11_249 y_I_169_13 dX11_prepares_22 (hL 169 (by decide)) ?_
      refine r_top (y := (nI k)) (by rw [fr.2.1 13 (by decide)]; exact hk) ?_
      refine r_icmp_gtN (a := s) (b := k) (tgt := 82) hE dX11_prepares_25 (by decide) (by omega) (by omega) (fun c25 => ?_) (fun c25 => ?_)
      · refine r_iconst (v := 0) hE dX11_prepares_82 (by decide) ?_
        refine r_istore (ls2 := [(0, .ref 169), (1, .int u), (2, .int hl), (3, .int 0), (4, .int 0)]) hE dX11_prepares_83 (by decide) rfl ?_
        exact lB 0 _ (by omega) fr (fun m hm => gd m (by omega)) (fun w hw => absurd hw (by omega))
      · refine r_iconst (v := 0) hE dX11_prepares_28 (by decide) ?_
        refine r_istore (ls2 := [(0, .ref 169), (1, .int u), (2, .int hl), (3, .int 0), (4, .int (nI s)), (5, .int 0)]) hE dX11_prepares_29 (by decide) rfl ?_
        have ihA := ih
        have lA2 : ∀ (f : Nat) (D8 : y_D), f ≤ 16 → m_MP D D8 (u &&& (nI (2 ^ kw) - 1)) → (∀ m, m < 16 * s + f → y_is ((D8 178).1 m) (m_G0 D m)) → E 0 0 31 [(0, .ref 169), (1, .int u), (2, .int hl), (3, .int 0), (4, .int (nI s)), (5, .int (nI f))] [] (y_mk n L D8) := by
          intro f D8
          induction hm9 : (16 - f) using Nat.strongRecOn generalizing f D8 with
          | _ m9 ih =>
            intro hf fr gd
            subst hm9
            refine r_iload hE dX11_prepares_31 rfl ?_
            refine r_bipush (v := 16) hE dX11_prepares_33 (by decide) ?_
            refine r_icmp_geN (a := f) (b := 16) (tgt := 76) hE dX11_prepares_35 (by decide) (by omega) (by decide) (fun c35 => ?_) (fun c35 => ?_)
            · refine r_iincN (a := s) (b := 1) (ls2 := [(0, .ref 169), (1, .int u), (2, .int hl), (3, .int 0), (4, .int (nI (s + 1))), (5, .int (nI f))]) hE dX11_prepares_76 rfl rfl (by decide) rfl ?_
              refine r_goto (tgt := 19) hE dX11_prepares_79 (by decide) ?_
              refine r_locs hE (ls2 := [(0, .ref 169), (1, .int u), (2, .int hl), (3, .int 0), (4, .int (nI (s + 1)))]) ?_ (ihA (k + 1 - (s + 1)) (by omega) (s + 1) _ rfl (by omega) fr (fun m hm => gd m (by omega)))
              simp [x_lk]
            · refine r_aload_n hE dX11_prepares_38 rfl ?_
              refine t_getr hE f_X11_43 y_R_169_18 dX11_prepares_39 (hL 169 (by decide)) ?_
              refine r_iload hE dX11_prepares_42 rfl ?_
              refine r_iload hE dX11_prepares_44 rfl ?_
              refine t_invs (r := (some (.int (nI (16 * s + f))))) (S2 := (y_mk n L D8)) hE [.int (nI s), .int (nI f)] (c_at) s_yX11_at m_X11_299 dX11_prepares_46 rfl (by decide) ⟨Nat.le_refl _, Nat.le_refl _⟩ (Nat.le_of_ble_eq_true rfl) ?_
              show E 0 0 49 [(0, .ref 169), (1, .int u), (2, .int hl), (3, .int 0), (4, .int (nI s)), (5, .int (nI f))] [.int (nI (16 * s + f)), .ref 178] (y_mk n L D8)
              refine r_iload hE dX11_prepares_49 rfl ?_
              refine r_if_eq (tgt := 64) hE dX11_prepares_51 (by decide) (fun c51 => ?_) (fun c51 => ?_)
              · refine r_iconst (v := 1) hE dX11_prepares_64 (by decide) ?_
                refine r_goto (tgt := 69) hE dX11_prepares_65 (by decide) ?_
                refine t_zastN (e := 16 * s + f) hE y_A_178 dX11_prepares_69 (hL 178 (by decide)) (by omega) (by decide) ?_
                refine r_iincN (a := f) (b := 1) (ls2 := [(0, .ref 169), (1, .int u), (2, .int hl), (3, .int 0), (4, .int (nI s)), (5, .int (nI (f + 1)))]) hE dX11_prepares_70 rfl rfl (by decide) rfl ?_
                refine r_goto (tgt := 31) hE dX11_prepares_73 (by decide) ?_
                refine ih (16 - (f + 1)) (by omega) (f + 1) _ rfl (by omega) (m_MP_s fr (by decide)) (fun m hm => ?_)
                rw [y_si_1]
                by_cases cm : m = 16 * s + f
                · rw [if_pos cm]
                  refine Or.inl ⟨rfl, ?_⟩
                  unfold m_G0
                  rw [cm, show (16 * s + f) % 16 = f by omega, show (16 * s + f) / 16 = s by omega]
                  have hf0 : nI f = 0 ↔ f = 0 := nI_eq (b := 0) (by omega) (by decide)
                  have h74 : (D8 174).1 s = (D 174).1 s := by rw [(fr.1.1 174 (by decide))]
                  grind
                · rw [if_neg cm]
                  exact gd m (by omega)
              · refine r_aload_n hE dX11_prepares_54 rfl ?_
                refine t_getr hE f_X11_30 y_R_169_14 dX11_prepares_55 (hL 169 (by decide)) ?_
                refine r_iload hE dX11_prepares_58 rfl ?_
                refine t_zaldN (e := s) hE y_A_174 dX11_prepares_60 (hL 174 (by decide)) (by omega) (by decide) ?_
                refine r_if_ne (tgt := 68) hE dX11_prepares_61 (by decide) (fun c61 => ?_) (fun c61 => ?_)
                · refine r_iconst (v := 0) hE dX11_prepares_68 (by decide) ?_
                  refine t_zastN (e := 16 * s + f) hE y_A_178 dX11_prepares_69 (hL 178 (by decide)) (by omega) (by decide) ?_
                  refine r_iincN (a := f) (b := 1) (ls2 := [(0, .ref 169), (1, .int u), (2, .int hl), (3, .int 0), (4, .int (nI s)), (5, .int (nI (f + 1)))]) hE dX11_prepares_70 rfl rfl (by decide) rfl ?_
                  refine r_goto (tgt := 31) hE dX11_prepares_73 (by decide) ?_
                  refine ih (16 - (f + 1)) (by omega) (f + 1) _ rfl (by omega) (m_MP_s fr (by decide)) (fun m hm => ?_)
                  rw [y_si_1]
                  by_cases cm : m = 16 * s + f
                  · rw [if_pos cm]
                    refine Or.inr ⟨rfl, ?_⟩
                    unfold m_G0
                    rw [cm, show (16 * s + f) % 16 = f by omega, show (16 * s + f) / 16 = s by omega]
                    have hf0 : nI f = 0 ↔ f = 0 := nI_eq (b := 0) (by omega) (by decide)
                    have h74 : (D8 174).1 s = (D 174).1 s := by rw [(fr.1.1 174 (by decide))]
                    grind
                  · rw [if_neg cm]
                    exact gd m (by omega)
                · refine r_iconst (v := 1) hE dX11_prepares_64 (by decide) ?_
                  refine r_goto (tgt := 69) hE dX11_prepares_65 (by decide) ?_
                  refine t_zastN (e := 16 * s + f) hE y_A_178 dX11_prepares_69 (hL 178 (by decide)) (by omega) (by decide) ?_
                  refine r_iincN (a := f) (b := 1) (ls2 := [(0, .ref 169), (1, .int u), (2, .int hl), (3, .int 0), (4, .int (nI s)), (5, .int (nI (f + 1)))]) hE dX11_prepares_70 rfl rfl (by decide) rfl ?_
                  refine r_goto (tgt := 31) hE dX11_prepares_73 (by decide) ?_
                  refine ih (16 - (f + 1)) (by omega) (f + 1) _ rfl (by omega) (m_MP_s fr (by decide)) (fun m hm => ?_)
                  rw [y_si_1]
                  by_cases cm : m = 16 * s + f
                  · rw [if_pos cm]
                    refine Or.inl ⟨rfl, ?_⟩
                    unfold m_G0
                    rw [cm, show (16 * s + f) % 16 = f by omega, show (16 * s + f) / 16 = s by omega]
                    have hf0 : nI f = 0 ↔ f = 0 := nI_eq (b := 0) (by omega) (by decide)
                    have h74 : (D8 174).1 s = (D 174).1 s := by rw [(fr.1.1 174 (by decide))]
                    grind
                  · rw [if_neg cm]
                    exact gd m (by omega)
        exact lA2 0 _ (by omega) fr (fun m hm => gd m (by omega))
  refine r_aload_n hE dX11_prepares_0 rfl ?_
  refine r_iload_n hE dX11_prepares_1 rfl ?_
  refine r_iconst (v := 1) hE dX11_prepares_2 (by decide) ?_
  refine r_aload_n hE dX11_prepares_3 rfl ?_
  refine t_getr hE f_X11_13 y_R_169_1 dX11_prepares_4 (hL 169 (by decide)) ?_
  refine r_iconst (v := 2) hE dX11_prepares_7 (by decide) ?_
  refine t_ialdN (e := 2) hE y_A_170 dX11_prepares_8 (hL 170 (by decide)) (by omega) (by decide) ?_
  refine r_top (y := (nI kw)) hw2 ?_
  refine r_shl1N (k := kw) hE dX11_prepares_9 (by omega) ?_
  refine r_iconst (v := 1) hE dX11_prepares_10 (by decide) ?_
  refine r_isub hE dX11_prepares_11 ?_
  refine r_iand hE dX11_prepares_12 ?_
  refine t_puti hE f_X11_296 y_I_169_23 dX11_prepares_13 (hL 169 (by decide)) rfl rfl ?_
  refine r_iconst (v := 0) hE dX11_prepares_16 (by decide) ?_
  refine r_istore (ls2 := [(0, .ref 169), (1, .int u), (2, .int hl), (3, .int 0), (4, .int 0)]) hE dX11_prepares_17 (by decide) rfl ?_
  refine lA 0 _ (by omega) ⟨y_fx_s y_fx_r (by decide), fun k hk => by rw [y_si_1, if_neg hk], by rw [y_si_1, if_pos rfl]⟩ (fun m hm => absurd hm (by omega))
theorem c_prepares1 {V : x_E} {n : Nat} {L : List Nat} {D : y_D} {k kw : Nat} {u hl : Int32} (hL : y_ok L) (hk : (D 169).1 13 = nI k) (hk3 : k ≤ 300) (hw2 : (D 170).1 2 = nI kw) (hkw : kw ≤ 6) (hww : ∀ w, w < kw → m_ww (D 170).1 (4 + w)) (hh : ∀ l, l < 4 → m_hd ((D 175).1 l)) {kn : Nat} (hn : (D 170).1 4 = nI kn) (hkn : kn ≤ 10) (hnt : ∀ j, j < kn → q_ok (D 170).1 (46 + 2 * j) 5 ∧ q_ok (D 170).1 (46 + 2 * j + 1) 300) : y_Ri V yX11_prepares cX11_prepares 9 (some .boolean) 6 [.ref 169, .int u, .int hl, .int 1] n L D (fun v D2 => y_is v (∀ i, i < kn → q_n (D 170).1 (46 + 2 * i + 1) ≤ k) ∧ m_MP D D2 (u &&& (nI (2 ^ kw) - 1)) ∧ (∀ m, m < 16 * (k + 1) → y_is ((D2 178).1 m) (m_G0 D m ∧ m_nt (D 170).1 (m_rc (D 170).1 (u &&& (nI (2 ^ kw) - 1)) kw) kn m)) ∧ (∀ w, w < kw → y_bit (u &&& (nI (2 ^ kw) - 1)) w → ∀ f, f < 16 → ∀ s, s ≤ k + 1 → m_R D D2 hl k w f s)) := by
  refine y_ri (by decide) (Nat.le_of_ble_eq_true rfl) (fun E hE => ?_)
  change E 0 0 0 [(0, .ref 169), (1, .int u), (2, .int hl), (3, .int 1)] [] (y_mk n L D)
  have lN : ∀ (j : Nat) (v : Int32) (D8 : y_D), j ≤ kn → m_MP D D8 (u &&& (nI (2 ^ kw) - 1)) → (∀ m, m < 16 * (k + 1) → y_is ((D8 178).1 m) (m_G0 D m ∧ m_nt (D 170).1 (m_rc (D 170).1 (u &&& (nI (2 ^ kw) - 1)) kw) j m)) → (∀ w2, w2 < kw → y_bit (u &&& (nI (2 ^ kw) - 1)) w2 → ∀ f2, f2 < 16 → ∀ s2, s2 ≤ k + 1 → m_R D D8 hl k w2 f2 s2) → y_is v (∀ i, i < j → q_n (D 170).1 (46 + 2 * i + 1) ≤ k) → E 0 0 256 [(0, .ref 169), (1, .int u), (2, .int hl), (3, .int 1), (4, .int (nI (m_rc (D 170).1 (u &&& (nI (2 ^ kw) - 1)) kw))), (5, .int v), (6, .int (nI j))] [] (y_mk n L D8) := by
    intro j v D8
    induction hm9 : (kn - j) using Nat.strongRecOn generalizing j v D8 with
    | _ m9 ih =>
      intro hj fr gd rwk hv
      subst hm9
      refine r_iload hE dX11_prepares_256 rfl ?_
      refine r_aload_n hE dX11_prepares_258 rfl ?_
      refine t_getr hE f_X11_13 y_R_169_1 dX11_prepares_259 (hL 169 (by decide)) ?_
      refine r_iconst (v := 4) hE dX11_prepares_262 (by decide) ?_
      refine t_ialdN (e := 4) hE y_A_170 dX11_prepares_263 (hL 170 (by decide)) (by omega) (by decide) ?_
      refine r_top (y := (nI kn)) (by rw [(fr.1.1 170 (by decide))]; exact hn) ?_
      refine r_icmp_geN (a := j) (b := kn) (tgt := 390) hE dX11_prepares_264 (by decide) (by omega) (by omega) (fun c264 => ?_) (fun c264 => ?_)
      · refine r_iload hE dX11_prepares_390 rfl ?_
        refine r_ireturn hE dX11_prepares_392 rfl (by first | exact y_is_nar hv | decide) (Nat.zero_le _) (Nat.zero_le _) ?_
        refine ⟨_, _, rfl, rfl, ?_, fr, ?_, rwk⟩
        · rw [← show j = kn by omega]; exact hv
        · rw [← show j = kn by omega]; exact gd
      · refine r_aload_n hE dX11_prepares_267 rfl ?_
        refine t_getr hE f_X11_13 y_R_169_1 dX11_prepares_268 (hL 169 (by decide)) ?_
        refine r_bipush (v := 46) hE dX11_prepares_271 (by decide) ?_
        refine r_iconst (v := 2) hE dX11_prepares_273 (by decide) ?_
        refine r_iload hE dX11_prepares_274 rfl ?_
        refine r_imulN (a := 2) (b := j) hE dX11_prepares_276 ?_
        refine r_iaddN (a := 46) (b := 2 * j) hE dX11_prepares_277 ?_
        refine r_iconst (v := 1) hE dX11_prepares_278 (by decide) ?_
        refine r_iaddN (a := 46 + (2 * j)) (b := 1) hE dX11_prepares_279 ?_
        refine t_ialdN (e := (46 + (2 * j)) + 1) hE y_A_170 dX11_prepares_280 (hL 170 (by decide)) (by omega) (by decide) ?_
        refine r_top (y := (nI (q_n (D 170).1 (46 + 2 * j + 1)))) (by rw [(fr.1.1 170 (by decide))]; exact (hnt j (by omega)).2.1) ?_
        have hse : q_n (D 170).1 (46 + 2 * j + 1) ≤ 300 := (hnt j (by omega)).2.2
        have hth : q_n (D 170).1 (46 + 2 * j) ≤ 5 := (hnt j (by omega)).1.2
        refine r_istore (ls2 := [(0, .ref 169), (1, .int u), (2, .int hl), (3, .int 1), (4, .int (nI (m_rc (D 170).1 (u &&& (nI (2 ^ kw) - 1)) kw))), (5, .int v), (6, .int (nI j)), (7, .int (nI (q_n (D 170).1 (46 + 2 * j + 1))))]) hE dX11_prepares_281 (by decide) rfl ?_
        refine r_iload hE dX11_prepares_283 rfl ?_
        refine r_if_eq (tgt := 301) hE dX11_prepares_285 (by decide) (fun c285 => ?_) (fun c285 => ?_)
        · refine r_iconst (v := 0) hE dX11_prepares_301 (by decide) ?_
          refine r_istore (ls2 := [(0, .ref 169), (1, .int u), (2, .int hl), (3, .int 1), (4, .int (nI (m_rc (D 170).1 (u &&& (nI (2 ^ kw) - 1)) kw))), (5, .int 0), (6, .int (nI j)), (7, .int (nI (q_n (D 170).1 (46 + 2 * j + 1))))]) hE dX11_prepares_302 (by decide) rfl ?_
          refine r_iconst (v := 0) hE dX11_prepares_304 (by decide) ?_
          refine r_istore (ls2 := [(0, .ref 169), (1, .int u), (2, .int hl), (3, .int 1), (4, .int (nI (m_rc (D 170).1 (u &&& (nI (2 ^ kw) - 1)) kw))), (5, .int 0), (6, .int (nI j)), (7, .int (nI (q_n (D 170).1 (46 + 2 * j + 1)))), (8, .int 0)]) hE dX11_prepares_305 (by decide) rfl ?_
          have hv2 : y_is 0 (∀ i, i < j + 1 → q_n (D 170).1 (46 + 2 * i + 1) ≤ k) := by
            refine Or.inr ⟨rfl, fun q => ?_⟩
            first
            | exact (y_is_0 hv).mp c285 (fun i hi => q i (by omega))
            | (have := q j (by omega); omega)
          have ihN := ih
          have lM : ∀ (f : Nat) (D8 : y_D), f ≤ 16 → m_MP D D8 (u &&& (nI (2 ^ kw) - 1)) → (∀ m, m < 16 * (k + 1) → y_is ((D8 178).1 m) ((m_G0 D m ∧ m_nt (D 170).1 (m_rc (D 170).1 (u &&& (nI (2 ^ kw) - 1)) kw) j m) ∧ (m / 16 = q_n (D 170).1 (46 + 2 * j + 1) → m % 16 < f → m_cd (D 170).1 (q_n (D 170).1 (46 + 2 * j)) (m % 16) (m_rc (D 170).1 (u &&& (nI (2 ^ kw) - 1)) kw)))) → (∀ w2, w2 < kw → y_bit (u &&& (nI (2 ^ kw) - 1)) w2 → ∀ f2, f2 < 16 → ∀ s2, s2 ≤ k + 1 → m_R D D8 hl k w2 f2 s2) → E 0 0 307 [(0, .ref 169), (1, .int u), (2, .int hl), (3, .int 1), (4, .int (nI (m_rc (D 170).1 (u &&& (nI (2 ^ kw) - 1)) kw))), (5, .int 0), (6, .int (nI j)), (7, .int (nI (q_n (D 170).1 (46 + 2 * j + 1)))), (8, .int (nI f))] [] (y_mk n L D8) := by
            intro f D8
            induction hm9 : (16 - f) using Nat.strongRecOn generalizing f D8 with
            | _ m9 ih =>
              intro hf fr gd rwk
              subst hm9
              refine r_iload hE dX11_prepares_307 rfl ?_
              refine r_bipush (v := 16) hE dX11_prepares_309 (by decide) ?_
              refine r_icmp_geN (a := f) (b := 16) (tgt := 384) hE dX11_prepares_311 (by decide) (by omega) (by decide) (fun c311 => ?_) (fun c311 => ?_)
              · refine r_iincN (a := j) (b := 1) (ls2 := [(0, .ref 169), (1, .int u), (2, .int hl), (3, .int 1), (4, .int (nI (m_rc (D 170).1 (u &&& (nI (2 ^ kw) - 1)) kw))), (5, .int 0), (6, .int (nI (j + 1))), (7, .int (nI (q_n (D 170).1 (46 + 2 * j + 1)))), (8, .int (nI f))]) hE dX11_prepares_384 rfl rfl (by decide) rfl ?_
                refine r_goto (tgt := 256) hE dX11_prepares_387 (by decide) ?_
                refine r_locs hE (ls2 := [(0, .ref 169), (1, .int u), (2, .int hl), (3, .int 1), (4, .int (nI (m_rc (D 170).1 (u &&& (nI (2 ^ kw) - 1)) kw))), (5, .int 0), (6, .int (nI (j + 1)))]) ?_ (ihN (kn - (j + 1)) (by omega) (j + 1) _ _ rfl (by omega) fr (fun m hm => y_is_imp (gd m hm) ⟨fun q => ⟨q.1.1, fun i hi h1 => ?_⟩, fun q => ⟨⟨q.1, fun i hi h1 => q.2 i (by omega) h1⟩, fun h1 h2 => q.2 j (by omega) h1.symm⟩⟩) rwk hv2)
                · simp [x_lk]
                · by_cases c : i = j
                  · subst c
                    exact q.2 h1.symm (by first | omega | (exfalso; omega))
                  · exact q.1.2 i (by omega) h1
              · refine r_iload hE dX11_prepares_314 rfl ?_
                refine r_aload_n hE dX11_prepares_316 rfl ?_
                refine t_geti hE f_X11_249 y_I_169_13 dX11_prepares_317 (hL 169 (by decide)) ?_
                refine r_top (y := (nI k)) (by rw [fr.2.1 13 (by decide)]; exact hk) ?_
                refine r_icmp_gtN (a := q_n (D 170).1 (46 + 2 * j + 1)) (b := k) (tgt := 384) hE dX11_prepares_320 (by decide) (by omega) (by omega) (fun c320 => ?_) (fun c320 => ?_)
                · refine r_iincN (a := j) (b := 1) (ls2 := [(0, .ref 169), (1, .int u), (2, .int hl), (3, .int 1), (4, .int (nI (m_rc (D 170).1 (u &&& (nI (2 ^ kw) - 1)) kw))), (5, .int 0), (6, .int (nI (j + 1))), (7, .int (nI (q_n (D 170).1 (46 + 2 * j + 1)))), (8, .int (nI f))]) hE dX11_prepares_384 rfl rfl (by decide) rfl ?_
                  refine r_goto (tgt := 256) hE dX11_prepares_387 (by decide) ?_
                  refine r_locs hE (ls2 := [(0, .ref 169), (1, .int u), (2, .int hl), (3, .int 1), (4, .int (nI (m_rc (D 170).1 (u &&& (nI (2 ^ kw) - 1)) kw))), (5, .int 0), (6, .int (nI (j + 1)))]) ?_ (ihN (kn - (j + 1)) (by omega) (j + 1) _ _ rfl (by omega) fr (fun m hm => y_is_imp (gd m hm) ⟨fun q => ⟨q.1.1, fun i hi h1 => ?_⟩, fun q => ⟨⟨q.1, fun i hi h1 => q.2 i (by omega) h1⟩, fun h1 h2 => q.2 j (by omega) h1.symm⟩⟩) rwk hv2)
                  · simp [x_lk]
                  · by_cases c : i = j
                    · subst c
                      exact q.2 h1.symm (by first | omega | (exfalso; omega))
                    · exact q.1.2 i (by omega) h1
                · refine r_aload_n hE dX11_prepares_323 rfl ?_
                  refine t_getr hE f_X11_43 y_R_169_18 dX11_prepares_324 (hL 169 (by decide)) ?_
                  refine r_iload hE dX11_prepares_327 rfl ?_
                  refine r_iload hE dX11_prepares_329 rfl ?_
                  refine t_invs (r := (some (.int (nI (16 * (q_n (D 170).1 (46 + 2 * j + 1)) + f))))) (S2 := (y_mk n L D8)) hE [.int (nI (q_n (D 170).1 (46 + 2 * j + 1))), .int (nI f)] (c_at) s_yX11_at m_X11_299 dX11_prepares_331 rfl (by decide) ⟨Nat.le_refl _, Nat.le_refl _⟩ (Nat.le_of_ble_eq_true rfl) ?_
                  show E 0 0 334 [(0, .ref 169), (1, .int u), (2, .int hl), (3, .int 1), (4, .int (nI (m_rc (D 170).1 (u &&& (nI (2 ^ kw) - 1)) kw))), (5, .int 0), (6, .int (nI j)), (7, .int (nI (q_n (D 170).1 (46 + 2 * j + 1)))), (8, .int (nI f))] [.int (nI (16 * (q_n (D 170).1 (46 + 2 * j + 1)) + f)), .ref 178] (y_mk n L D8)
                  refine r_aload_n hE dX11_prepares_334 rfl ?_
                  refine t_getr hE f_X11_43 y_R_169_18 dX11_prepares_335 (hL 169 (by decide)) ?_
                  refine r_iload hE dX11_prepares_338 rfl ?_
                  refine r_iload hE dX11_prepares_340 rfl ?_
                  refine t_invs (r := (some (.int (nI (16 * (q_n (D 170).1 (46 + 2 * j + 1)) + f))))) (S2 := (y_mk n L D8)) hE [.int (nI (q_n (D 170).1 (46 + 2 * j + 1))), .int (nI f)] (c_at) s_yX11_at m_X11_299 dX11_prepares_342 rfl (by decide) ⟨Nat.le_refl _, Nat.le_refl _⟩ (Nat.le_of_ble_eq_true rfl) ?_
                  show E 0 0 345 [(0, .ref 169), (1, .int u), (2, .int hl), (3, .int 1), (4, .int (nI (m_rc (D 170).1 (u &&& (nI (2 ^ kw) - 1)) kw))), (5, .int 0), (6, .int (nI j)), (7, .int (nI (q_n (D 170).1 (46 + 2 * j + 1)))), (8, .int (nI f))] [.int (nI (16 * (q_n (D 170).1 (46 + 2 * j + 1)) + f)), .ref 178, .int (nI (16 * (q_n (D 170).1 (46 + 2 * j + 1)) + f)), .ref 178] (y_mk n L D8)
                  refine t_zaldN (e := 16 * (q_n (D 170).1 (46 + 2 * j + 1)) + f) hE y_A_178 dX11_prepares_345 (hL 178 (by decide)) (by omega) (by decide) ?_
                  refine r_if_eq (tgt := 376) hE dX11_prepares_346 (by decide) (fun c346 => ?_) (fun c346 => ?_)
                  · refine r_iconst (v := 0) hE dX11_prepares_376 (by decide) ?_
                    refine t_zastN (e := 16 * (q_n (D 170).1 (46 + 2 * j + 1)) + f) hE y_A_178 dX11_prepares_377 (hL 178 (by decide)) (by omega) (by decide) ?_
                    refine r_iincN (a := f) (b := 1) (ls2 := [(0, .ref 169), (1, .int u), (2, .int hl), (3, .int 1), (4, .int (nI (m_rc (D 170).1 (u &&& (nI (2 ^ kw) - 1)) kw))), (5, .int 0), (6, .int (nI j)), (7, .int (nI (q_n (D 170).1 (46 + 2 * j + 1)))), (8, .int (nI (f + 1)))]) hE dX11_prepares_378 rfl rfl (by decide) rfl ?_
                    refine r_goto (tgt := 307) hE dX11_prepares_381 (by decide) ?_
                    refine ih (16 - (f + 1)) (by omega) (f + 1) _ rfl (by omega) (m_MP_s fr (by decide)) (fun m hm => ?_) (fun w2 hw3 hb g hg s2 hs2 => m_R_o (y_si_ne (by decide)) (rwk w2 hw3 hb g hg s2 hs2))
                    rw [y_si_1]
                    have g0 := gd m hm
                    by_cases cm : m = 16 * (q_n (D 170).1 (46 + 2 * j + 1)) + f
                    · rw [if_pos cm]
                      have e1 : m / 16 = q_n (D 170).1 (46 + 2 * j + 1) := by omega
                      have e2 : m % 16 = f := by omega
                      refine Or.inr ⟨rfl, fun q => ?_⟩
                      first
                      | (refine absurd ?_ ((y_is_0 q9).mp c369)
                         rw [(fr.1.1 170 (by decide))]
                         have := q.2 e1 (by omega)
                         rw [e2] at this
                         exact this)
                      | (rw [show (D8 178).1 (16 * (q_n (D 170).1 (46 + 2 * j + 1)) + f) = (D8 178).1 m by rw [cm]] at c346
                         exact (y_is_0 g0).mp c346 ⟨q.1, fun _ h => absurd h (by omega)⟩)
                    · rw [if_neg cm]
                      refine y_is_imp g0 ⟨fun q => ⟨q.1, fun h1 h2 => ?_⟩, fun q => ⟨q.1, fun h1 h2 => q.2 h1 (by omega)⟩⟩
                      exact q.2 h1 (by omega)
                  · refine r_aload_n hE dX11_prepares_349 rfl ?_
                    refine r_aload_n hE dX11_prepares_350 rfl ?_
                    refine t_getr hE f_X11_13 y_R_169_1 dX11_prepares_351 (hL 169 (by decide)) ?_
                    refine r_bipush (v := 46) hE dX11_prepares_354 (by decide) ?_
                    refine r_iconst (v := 2) hE dX11_prepares_356 (by decide) ?_
                    refine r_iload hE dX11_prepares_357 rfl ?_
                    refine r_imulN (a := 2) (b := j) hE dX11_prepares_359 ?_
                    refine r_iaddN (a := 46) (b := 2 * j) hE dX11_prepares_360 ?_
                    refine t_ialdN (e := 46 + (2 * j)) hE y_A_170 dX11_prepares_361 (hL 170 (by decide)) (by omega) (by decide) ?_
                    refine r_top (y := (nI (q_n (D 170).1 (46 + 2 * j)))) (by rw [(fr.1.1 170 (by decide))]; exact (hnt j (by omega)).1.1) ?_
                    refine r_iload hE dX11_prepares_362 rfl ?_
                    refine r_iload hE dX11_prepares_364 rfl ?_
                    refine t_invvRi hE [.int (nI (q_n (D 170).1 (46 + 2 * j))), .int (nI f), .int (nI (m_rc (D 170).1 (u &&& (nI (2 ^ kw) - 1)) kw))] (c_canDo (D := D8) (th := q_n (D 170).1 (46 + 2 * j)) (f := f) (rc := m_rc (D 170).1 (u &&& (nI (2 ^ kw) - 1)) kw) hL (by omega) (by omega)) v_yX11_canDo m_X11_308 dX11_prepares_366 rfl (hL 169 (by decide)) (y_l_169 (D8 169)) rfl (by decide) ⟨Nat.le_refl _, Nat.le_refl _⟩ (Nat.le_of_ble_eq_true rfl) (fun v9 D9 q9 => ?_)
                    obtain ⟨q9, hD9⟩ := q9
                    rw [hD9]
                    show E 0 0 369 [(0, .ref 169), (1, .int u), (2, .int hl), (3, .int 1), (4, .int (nI (m_rc (D 170).1 (u &&& (nI (2 ^ kw) - 1)) kw))), (5, .int 0), (6, .int (nI j)), (7, .int (nI (q_n (D 170).1 (46 + 2 * j + 1)))), (8, .int (nI f))] [.int v9, .int (nI (16 * (q_n (D 170).1 (46 + 2 * j + 1)) + f)), .ref 178] (y_mk n L D8)
                    refine r_if_eq (tgt := 376) hE dX11_prepares_369 (by decide) (fun c369 => ?_) (fun c369 => ?_)
                    · refine r_iconst (v := 0) hE dX11_prepares_376 (by decide) ?_
                      refine t_zastN (e := 16 * (q_n (D 170).1 (46 + 2 * j + 1)) + f) hE y_A_178 dX11_prepares_377 (hL 178 (by decide)) (by omega) (by decide) ?_
                      refine r_iincN (a := f) (b := 1) (ls2 := [(0, .ref 169), (1, .int u), (2, .int hl), (3, .int 1), (4, .int (nI (m_rc (D 170).1 (u &&& (nI (2 ^ kw) - 1)) kw))), (5, .int 0), (6, .int (nI j)), (7, .int (nI (q_n (D 170).1 (46 + 2 * j + 1)))), (8, .int (nI (f + 1)))]) hE dX11_prepares_378 rfl rfl (by decide) rfl ?_
                      refine r_goto (tgt := 307) hE dX11_prepares_381 (by decide) ?_
                      refine ih (16 - (f + 1)) (by omega) (f + 1) _ rfl (by omega) (m_MP_s fr (by decide)) (fun m hm => ?_) (fun w2 hw3 hb g hg s2 hs2 => m_R_o (y_si_ne (by decide)) (rwk w2 hw3 hb g hg s2 hs2))
                      rw [y_si_1]
                      have g0 := gd m hm
                      by_cases cm : m = 16 * (q_n (D 170).1 (46 + 2 * j + 1)) + f
                      · rw [if_pos cm]
                        have e1 : m / 16 = q_n (D 170).1 (46 + 2 * j + 1) := by omega
                        have e2 : m % 16 = f := by omega
                        refine Or.inr ⟨rfl, fun q => ?_⟩
                        first
                        | (refine absurd ?_ ((y_is_0 q9).mp c369)
                           rw [(fr.1.1 170 (by decide))]
                           have := q.2 e1 (by omega)
                           rw [e2] at this
                           exact this)
                        | (rw [show (D8 178).1 (16 * (q_n (D 170).1 (46 + 2 * j + 1)) + f) = (D8 178).1 m by rw [cm]] at c346
                           exact (y_is_0 g0).mp c346 ⟨q.1, fun _ h => absurd h (by omega)⟩)
                      · rw [if_neg cm]
                        refine y_is_imp g0 ⟨fun q => ⟨q.1, fun h1 h2 => ?_⟩, fun q => ⟨q.1, fun h1 h2 => q.2 h1 (by omega)⟩⟩
                        exact q.2 h1 (by omega)
                    · refine r_iconst (v := 1) hE dX11_prepares_372 (by decide) ?_
                      refine r_goto (tgt := 377) hE dX11_prepares_373 (by decide) ?_
                      refine t_zastN (e := 16 * (q_n (D 170).1 (46 + 2 * j + 1)) + f) hE y_A_178 dX11_prepares_377 (hL 178 (by decide)) (by omega) (by decide) ?_
                      refine r_iincN (a := f) (b := 1) (ls2 := [(0, .ref 169), (1, .int u), (2, .int hl), (3, .int 1), (4, .int (nI (m_rc (D 170).1 (u &&& (nI (2 ^ kw) - 1)) kw))), (5, .int 0), (6, .int (nI j)), (7, .int (nI (q_n (D 170).1 (46 + 2 * j + 1)))), (8, .int (nI (f + 1)))]) hE dX11_prepares_378 rfl rfl (by decide) rfl ?_
                      refine r_goto (tgt := 307) hE dX11_prepares_381 (by decide) ?_
                      refine ih (16 - (f + 1)) (by omega) (f + 1) _ rfl (by omega) (m_MP_s fr (by decide)) (fun m hm => ?_) (fun w2 hw3 hb g hg s2 hs2 => m_R_o (y_si_ne (by decide)) (rwk w2 hw3 hb g hg s2 hs2))
                      rw [y_si_1]
                      have g0 := gd m hm
                      by_cases cm : m = 16 * (q_n (D 170).1 (46 + 2 * j + 1)) + f
                      · rw [if_pos cm]
                        have e1 : m / 16 = q_n (D 170).1 (46 + 2 * j + 1) := by omega
                        have e2 : m % 16 = f := by omega
                        rw [show (D8 178).1 (16 * (q_n (D 170).1 (46 + 2 * j + 1)) + f) = (D8 178).1 m by rw [cm]] at c346
                        have g1 := Classical.not_not.mp (fun q => c346 ((y_is_0 g0).mpr q))
                        have g2 := Classical.not_not.mp (fun q => c369 ((y_is_0 q9).mpr q))
                        rw [(fr.1.1 170 (by decide))] at g2
                        refine Or.inl ⟨rfl, g1.1, fun _ _ => ?_⟩
                        rw [e2]
                        exact g2
                      · rw [if_neg cm]
                        refine y_is_imp g0 ⟨fun q => ⟨q.1, fun h1 h2 => ?_⟩, fun q => ⟨q.1, fun h1 h2 => q.2 h1 (by omega)⟩⟩
                        exact q.2 h1 (by omega)
          exact lM 0 _ (by omega) fr (fun m hm => y_is_imp (gd m hm) ⟨fun q => ⟨q, fun _ h => absurd h (by omega)⟩, fun q => q.1⟩) rwk
        · refine r_iload hE dX11_prepares_288 rfl ?_
          refine r_aload_n hE dX11_prepares_290 rfl ?_
          refine t_geti hE f_X11_249 y_I_169_13 dX11_prepares_291 (hL 169 (by decide)) ?_
          refine r_top (y := (nI k)) (by rw [fr.2.1 13 (by decide)]; exact hk) ?_
          refine r_icmp_gtN (a := q_n (D 170).1 (46 + 2 * j + 1)) (b := k) (tgt := 301) hE dX11_prepares_294 (by decide) (by omega) (by omega) (fun c294 => ?_) (fun c294 => ?_)
          · refine r_iconst (v := 0) hE dX11_prepares_301 (by decide) ?_
            refine r_istore (ls2 := [(0, .ref 169), (1, .int u), (2, .int hl), (3, .int 1), (4, .int (nI (m_rc (D 170).1 (u &&& (nI (2 ^ kw) - 1)) kw))), (5, .int 0), (6, .int (nI j)), (7, .int (nI (q_n (D 170).1 (46 + 2 * j + 1))))]) hE dX11_prepares_302 (by decide) rfl ?_
            refine r_iconst (v := 0) hE dX11_prepares_304 (by decide) ?_
            refine r_istore (ls2 := [(0, .ref 169), (1, .int u), (2, .int hl), (3, .int 1), (4, .int (nI (m_rc (D 170).1 (u &&& (nI (2 ^ kw) - 1)) kw))), (5, .int 0), (6, .int (nI j)), (7, .int (nI (q_n (D 170).1 (46 + 2 * j + 1)))), (8, .int 0)]) hE dX11_prepares_305 (by decide) rfl ?_
            have hv2 : y_is 0 (∀ i, i < j + 1 → q_n (D 170).1 (46 + 2 * i + 1) ≤ k) := by
              refine Or.inr ⟨rfl, fun q => ?_⟩
              first
              | exact (y_is_0 hv).mp c285 (fun i hi => q i (by omega))
              | (have := q j (by omega); omega)
            have ihN := ih
            have lM : ∀ (f : Nat) (D8 : y_D), f ≤ 16 → m_MP D D8 (u &&& (nI (2 ^ kw) - 1)) → (∀ m, m < 16 * (k + 1) → y_is ((D8 178).1 m) ((m_G0 D m ∧ m_nt (D 170).1 (m_rc (D 170).1 (u &&& (nI (2 ^ kw) - 1)) kw) j m) ∧ (m / 16 = q_n (D 170).1 (46 + 2 * j + 1) → m % 16 < f → m_cd (D 170).1 (q_n (D 170).1 (46 + 2 * j)) (m % 16) (m_rc (D 170).1 (u &&& (nI (2 ^ kw) - 1)) kw)))) → (∀ w2, w2 < kw → y_bit (u &&& (nI (2 ^ kw) - 1)) w2 → ∀ f2, f2 < 16 → ∀ s2, s2 ≤ k + 1 → m_R D D8 hl k w2 f2 s2) → E 0 0 307 [(0, .ref 169), (1, .int u), (2, .int hl), (3, .int 1), (4, .int (nI (m_rc (D 170).1 (u &&& (nI (2 ^ kw) - 1)) kw))), (5, .int 0), (6, .int (nI j)), (7, .int (nI (q_n (D 170).1 (46 + 2 * j + 1)))), (8, .int (nI f))] [] (y_mk n L D8) := by
              intro f D8
              induction hm9 : (16 - f) using Nat.strongRecOn generalizing f D8 with
              | _ m9 ih =>
                intro hf fr gd rwk
                subst hm9
                refine r_iload hE dX11_prepares_307 rfl ?_
                refine r_bipush (v := 16) hE dX11_prepares_309 (by decide) ?_
                refine r_icmp_geN (a := f) (b := 16) (tgt := 384) hE dX11_prepares_311 (by decide) (by omega) (by decide) (fun c311 => ?_) (fun c311 => ?_)
                · refine r_iincN (a := j) (b := 1) (ls2 := [(0, .ref 169), (1, .int u), (2, .int hl), (3, .int 1), (4, .int (nI (m_rc (D 170).1 (u &&& (nI (2 ^ kw) - 1)) kw))), (5, .int 0), (6, .int (nI (j + 1))), (7, .int (nI (q_n (D 170).1 (46 + 2 * j + 1)))), (8, .int (nI f))]) hE dX11_prepares_384 rfl rfl (by decide) rfl ?_
                  refine r_goto (tgt := 256) hE dX11_prepares_387 (by decide) ?_
                  refine r_locs hE (ls2 := [(0, .ref 169), (1, .int u), (2, .int hl), (3, .int 1), (4, .int (nI (m_rc (D 170).1 (u &&& (nI (2 ^ kw) - 1)) kw))), (5, .int 0), (6, .int (nI (j + 1)))]) ?_ (ihN (kn - (j + 1)) (by omega) (j + 1) _ _ rfl (by omega) fr (fun m hm => y_is_imp (gd m hm) ⟨fun q => ⟨q.1.1, fun i hi h1 => ?_⟩, fun q => ⟨⟨q.1, fun i hi h1 => q.2 i (by omega) h1⟩, fun h1 h2 => q.2 j (by omega) h1.symm⟩⟩) rwk hv2)
                  · simp [x_lk]
                  · by_cases c : i = j
                    · subst c
                      exact q.2 h1.symm (by first | omega | (exfalso; omega))
                    · exact q.1.2 i (by omega) h1
                · refine r_iload hE dX11_prepares_314 rfl ?_
                  refine r_aload_n hE dX11_prepares_316 rfl ?_
                  refine t_geti hE f_X11_249 y_I_169_13 dX11_prepares_317 (hL 169 (by decide)) ?_
                  refine r_top (y := (nI k)) (by rw [fr.2.1 13 (by decide)]; exact hk) ?_
                  refine r_icmp_gtN (a := q_n (D 170).1 (46 + 2 * j + 1)) (b := k) (tgt := 384) hE dX11_prepares_320 (by decide) (by omega) (by omega) (fun c320 => ?_) (fun c320 => ?_)
                  · refine r_iincN (a := j) (b := 1) (ls2 := [(0, .ref 169), (1, .int u), (2, .int hl), (3, .int 1), (4, .int (nI (m_rc (D 170).1 (u &&& (nI (2 ^ kw) - 1)) kw))), (5, .int 0), (6, .int (nI (j + 1))), (7, .int (nI (q_n (D 170).1 (46 + 2 * j + 1)))), (8, .int (nI f))]) hE dX11_prepares_384 rfl rfl (by decide) rfl ?_
                    refine r_goto (tgt := 256) hE dX11_prepares_387 (by decide) ?_
                    refine r_locs hE (ls2 := [(0, .ref 169), (1, .int u), (2, .int hl), (3, .int 1), (4, .int (nI (m_rc (D 170).1 (u &&& (nI (2 ^ kw) - 1)) kw))), (5, .int 0), (6, .int (nI (j + 1)))]) ?_ (ihN (kn - (j + 1)) (by omega) (j + 1) _ _ rfl (by omega) fr (fun m hm => y_is_imp (gd m hm) ⟨fun q => ⟨q.1.1, fun i hi h1 => ?_⟩, fun q => ⟨⟨q.1, fun i hi h1 => q.2 i (by omega) h1⟩, fun h1 h2 => q.2 j (by omega) h1.symm⟩⟩) rwk hv2)
                    · simp [x_lk]
                    · by_cases c : i = j
                      · subst c
                        exact q.2 h1.symm (by first | omega | (exfalso; omega))
                      · exact q.1.2 i (by omega) h1
                  · refine r_aload_n hE dX11_prepares_323 rfl ?_
                    refine t_getr hE f_X11_43 y_R_169_18 dX11_prepares_324 (hL 169 (by decide)) ?_
                    refine r_iload hE dX11_prepares_327 rfl ?_
                    refine r_iload hE dX11_prepares_329 rfl ?_
                    refine t_invs (r := (some (.int (nI (16 * (q_n (D 170).1 (46 + 2 * j + 1)) + f))))) (S2 := (y_mk n L D8)) hE [.int (nI (q_n (D 170).1 (46 + 2 * j + 1))), .int (nI f)] (c_at) s_yX11_at m_X11_299 dX11_prepares_331 rfl (by decide) ⟨Nat.le_refl _, Nat.le_refl _⟩ (Nat.le_of_ble_eq_true rfl) ?_
                    show E 0 0 334 [(0, .ref 169), (1, .int u), (2, .int hl), (3, .int 1), (4, .int (nI (m_rc (D 170).1 (u &&& (nI (2 ^ kw) - 1)) kw))), (5, .int 0), (6, .int (nI j)), (7, .int (nI (q_n (D 170).1 (46 + 2 * j + 1)))), (8, .int (nI f))] [.int (nI (16 * (q_n (D 170).1 (46 + 2 * j + 1)) + f)), .ref 178] (y_mk n L D8)
                    refine r_aload_n hE dX11_prepares_334 rfl ?_
                    refine t_getr hE f_X11_43 y_R_169_18 dX11_prepares_335 (hL 169 (by decide)) ?_
                    refine r_iload hE dX11_prepares_338 rfl ?_
                    refine r_iload hE dX11_prepares_340 rfl ?_
                    refine t_invs (r := (some (.int (nI (16 * (q_n (D 170).1 (46 + 2 * j + 1)) + f))))) (S2 := (y_mk n L D8)) hE [.int (nI (q_n (D 170).1 (46 + 2 * j + 1))), .int (nI f)] (c_at) s_yX11_at m_X11_299 dX11_prepares_342 rfl (by decide) ⟨Nat.le_refl _, Nat.le_refl _⟩ (Nat.le_of_ble_eq_true rfl) ?_
                    show E 0 0 345 [(0, .ref 169), (1, .int u), (2, .int hl), (3, .int 1), (4, .int (nI (m_rc (D 170).1 (u &&& (nI (2 ^ kw) - 1)) kw))), (5, .int 0), (6, .int (nI j)), (7, .int (nI (q_n (D 170).1 (46 + 2 * j + 1)))), (8, .int (nI f))] [.int (nI (16 * (q_n (D 170).1 (46 + 2 * j + 1)) + f)), .ref 178, .int (nI (16 * (q_n (D 170).1 (46 + 2 * j + 1)) + f)), .ref 178] (y_mk n L D8)
                    refine t_zaldN (e := 16 * (q_n (D 170).1 (46 + 2 * j + 1)) + f) hE y_A_178 dX11_prepares_345 (hL 178 (by decide)) (by omega) (by decide) ?_
                    refine r_if_eq (tgt := 376) hE dX11_prepares_346 (by decide) (fun c346 => ?_) (fun c346 => ?_)
                    · refine r_iconst (v := 0) hE dX11_prepares_376 (by decide) ?_
                      refine t_zastN (e := 16 * (q_n (D 170).1 (46 + 2 * j + 1)) + f) hE y_A_178 dX11_prepares_377 (hL 178 (by decide)) (by omega) (by decide) ?_
                      refine r_iincN (a := f) (b := 1) (ls2 := [(0, .ref 169), (1, .int u), (2, .int hl), (3, .int 1), (4, .int (nI (m_rc (D 170).1 (u &&& (nI (2 ^ kw) - 1)) kw))), (5, .int 0), (6, .int (nI j)), (7, .int (nI (q_n (D 170).1 (46 + 2 * j + 1)))), (8, .int (nI (f + 1)))]) hE dX11_prepares_378 rfl rfl (by decide) rfl ?_
                      refine r_goto (tgt := 307) hE dX11_prepares_381 (by decide) ?_
                      refine ih (16 - (f + 1)) (by omega) (f + 1) _ rfl (by omega) (m_MP_s fr (by decide)) (fun m hm => ?_) (fun w2 hw3 hb g hg s2 hs2 => m_R_o (y_si_ne (by decide)) (rwk w2 hw3 hb g hg s2 hs2))
                      rw [y_si_1]
                      have g0 := gd m hm
                      by_cases cm : m = 16 * (q_n (D 170).1 (46 + 2 * j + 1)) + f
                      · rw [if_pos cm]
                        have e1 : m / 16 = q_n (D 170).1 (46 + 2 * j + 1) := by omega
                        have e2 : m % 16 = f := by omega
                        refine Or.inr ⟨rfl, fun q => ?_⟩
                        first
                        | (refine absurd ?_ ((y_is_0 q9).mp c369)
                           rw [(fr.1.1 170 (by decide))]
                           have := q.2 e1 (by omega)
                           rw [e2] at this
                           exact this)
                        | (rw [show (D8 178).1 (16 * (q_n (D 170).1 (46 + 2 * j + 1)) + f) = (D8 178).1 m by rw [cm]] at c346
                           exact (y_is_0 g0).mp c346 ⟨q.1, fun _ h => absurd h (by omega)⟩)
                      · rw [if_neg cm]
                        refine y_is_imp g0 ⟨fun q => ⟨q.1, fun h1 h2 => ?_⟩, fun q => ⟨q.1, fun h1 h2 => q.2 h1 (by omega)⟩⟩
                        exact q.2 h1 (by omega)
                    · refine r_aload_n hE dX11_prepares_349 rfl ?_
                      refine r_aload_n hE dX11_prepares_350 rfl ?_
                      refine t_getr hE f_X11_13 y_R_169_1 dX11_prepares_351 (hL 169 (by decide)) ?_
                      refine r_bipush (v := 46) hE dX11_prepares_354 (by decide) ?_
                      refine r_iconst (v := 2) hE dX11_prepares_356 (by decide) ?_
                      refine r_iload hE dX11_prepares_357 rfl ?_
                      refine r_imulN (a := 2) (b := j) hE dX11_prepares_359 ?_
                      refine r_iaddN (a := 46) (b := 2 * j) hE dX11_prepares_360 ?_
                      refine t_ialdN (e := 46 + (2 * j)) hE y_A_170 dX11_prepares_361 (hL 170 (by decide)) (by omega) (by decide) ?_
                      refine r_top (y := (nI (q_n (D 170).1 (46 + 2 * j)))) (by rw [(fr.1.1 170 (by decide))]; exact (hnt j (by omega)).1.1) ?_
                      refine r_iload hE dX11_prepares_362 rfl ?_
                      refine r_iload hE dX11_prepares_364 rfl ?_
                      refine t_invvRi hE [.int (nI (q_n (D 170).1 (46 + 2 * j))), .int (nI f), .int (nI (m_rc (D 170).1 (u &&& (nI (2 ^ kw) - 1)) kw))] (c_canDo (D := D8) (th := q_n (D 170).1 (46 + 2 * j)) (f := f) (rc := m_rc (D 170).1 (u &&& (nI (2 ^ kw) - 1)) kw) hL (by omega) (by omega)) v_yX11_canDo m_X11_308 dX11_prepares_366 rfl (hL 169 (by decide)) (y_l_169 (D8 169)) rfl (by decide) ⟨Nat.le_refl _, Nat.le_refl _⟩ (Nat.le_of_ble_eq_true rfl) (fun v9 D9 q9 => ?_)
                      obtain ⟨q9, hD9⟩ := q9
                      rw [hD9]
                      show E 0 0 369 [(0, .ref 169), (1, .int u), (2, .int hl), (3, .int 1), (4, .int (nI (m_rc (D 170).1 (u &&& (nI (2 ^ kw) - 1)) kw))), (5, .int 0), (6, .int (nI j)), (7, .int (nI (q_n (D 170).1 (46 + 2 * j + 1)))), (8, .int (nI f))] [.int v9, .int (nI (16 * (q_n (D 170).1 (46 + 2 * j + 1)) + f)), .ref 178] (y_mk n L D8)
                      refine r_if_eq (tgt := 376) hE dX11_prepares_369 (by decide) (fun c369 => ?_) (fun c369 => ?_)
                      · refine r_iconst (v := 0) hE dX11_prepares_376 (by decide) ?_
                        refine t_zastN (e := 16 * (q_n (D 170).1 (46 + 2 * j + 1)) + f) hE y_A_178 dX11_prepares_377 (hL 178 (by decide)) (by omega) (by decide) ?_
                        refine r_iincN (a := f) (b := 1) (ls2 := [(0, .ref 169), (1, .int u), (2, .int hl), (3, .int 1), (4, .int (nI (m_rc (D 170).1 (u &&& (nI (2 ^ kw) - 1)) kw))), (5, .int 0), (6, .int (nI j)), (7, .int (nI (q_n (D 170).1 (46 + 2 * j + 1)))), (8, .int (nI (f + 1)))]) hE dX11_prepares_378 rfl rfl (by decide) rfl ?_
                        refine r_goto (tgt := 307) hE dX11_prepares_381 (by decide) ?_
                        refine ih (16 - (f + 1)) (by omega) (f + 1) _ rfl (by omega) (m_MP_s fr (by decide)) (fun m hm => ?_) (fun w2 hw3 hb g hg s2 hs2 => m_R_o (y_si_ne (by decide)) (rwk w2 hw3 hb g hg s2 hs2))
                        rw [y_si_1]
                        have g0 := gd m hm
                        by_cases cm : m = 16 * (q_n (D 170).1 (46 + 2 * j + 1)) + f
                        · rw [if_pos cm]
                          have e1 : m / 16 = q_n (D 170).1 (46 + 2 * j + 1) := by omega
                          have e2 : m % 16 = f := by omega
                          refine Or.inr ⟨rfl, fun q => ?_⟩
                          first
                          | (refine absurd ?_ ((y_is_0 q9).mp c369)
                             rw [(fr.1.1 170 (by decide))]
                             have := q.2 e1 (by omega)
                             rw [e2] at this
                             exact this)
                          | (rw [show (D8 178).1 (16 * (q_n (D 170).1 (46 + 2 * j + 1)) + f) = (D8 178).1 m by rw [cm]] at c346
                             exact (y_is_0 g0).mp c346 ⟨q.1, fun _ h => absurd h (by omega)⟩)
                        · rw [if_neg cm]
                          refine y_is_imp g0 ⟨fun q => ⟨q.1, fun h1 h2 => ?_⟩, fun q => ⟨q.1, fun h1 h2 => q.2 h1 (by omega)⟩⟩
                          exact q.2 h1 (by omega)
                      · refine r_iconst (v := 1) hE dX11_prepares_372 (by decide) ?_
                        refine r_goto (tgt := 377) hE dX11_prepares_373 (by decide) ?_
                        refine t_zastN (e := 16 * (q_n (D 170).1 (46 + 2 * j + 1)) + f) hE y_A_178 dX11_prepares_377 (hL 178 (by decide)) (by omega) (by decide) ?_
                        refine r_iincN (a := f) (b := 1) (ls2 := [(0, .ref 169), (1, .int u), (2, .int hl), (3, .int 1), (4, .int (nI (m_rc (D 170).1 (u &&& (nI (2 ^ kw) - 1)) kw))), (5, .int 0), (6, .int (nI j)), (7, .int (nI (q_n (D 170).1 (46 + 2 * j + 1)))), (8, .int (nI (f + 1)))]) hE dX11_prepares_378 rfl rfl (by decide) rfl ?_
                        refine r_goto (tgt := 307) hE dX11_prepares_381 (by decide) ?_
                        refine ih (16 - (f + 1)) (by omega) (f + 1) _ rfl (by omega) (m_MP_s fr (by decide)) (fun m hm => ?_) (fun w2 hw3 hb g hg s2 hs2 => m_R_o (y_si_ne (by decide)) (rwk w2 hw3 hb g hg s2 hs2))
                        rw [y_si_1]
                        have g0 := gd m hm
                        by_cases cm : m = 16 * (q_n (D 170).1 (46 + 2 * j + 1)) + f
                        · rw [if_pos cm]
                          have e1 : m / 16 = q_n (D 170).1 (46 + 2 * j + 1) := by omega
                          have e2 : m % 16 = f := by omega
                          rw [show (D8 178).1 (16 * (q_n (D 170).1 (46 + 2 * j + 1)) + f) = (D8 178).1 m by rw [cm]] at c346
                          have g1 := Classical.not_not.mp (fun q => c346 ((y_is_0 g0).mpr q))
                          have g2 := Classical.not_not.mp (fun q => c369 ((y_is_0 q9).mpr q))
                          rw [(fr.1.1 170 (by decide))] at g2
                          refine Or.inl ⟨rfl, g1.1, fun _ _ => ?_⟩
                          rw [e2]
                          exact g2
                        · rw [if_neg cm]
                          refine y_is_imp g0 ⟨fun q => ⟨q.1, fun h1 h2 => ?_⟩, fun q => ⟨q.1, fun h1 h2 => q.2 h1 (by omega)⟩⟩
                          exact q.2 h1 (by omega)
            exact lM 0 _ (by omega) fr (fun m hm => y_is_imp (gd m hm) ⟨fun q => ⟨q, fun _ h => absurd h (by omega)⟩, fun q => q.1⟩) rwk
          · refine r_iconst (v := 1) hE dX11_prepares_297 (by decide) ?_
            refine r_goto (tgt := 302) hE dX11_prepares_298 (by decide) ?_
            refine r_istore (ls2 := [(0, .ref 169), (1, .int u), (2, .int hl), (3, .int 1), (4, .int (nI (m_rc (D 170).1 (u &&& (nI (2 ^ kw) - 1)) kw))), (5, .int 1), (6, .int (nI j)), (7, .int (nI (q_n (D 170).1 (46 + 2 * j + 1))))]) hE dX11_prepares_302 (by decide) rfl ?_
            refine r_iconst (v := 0) hE dX11_prepares_304 (by decide) ?_
            refine r_istore (ls2 := [(0, .ref 169), (1, .int u), (2, .int hl), (3, .int 1), (4, .int (nI (m_rc (D 170).1 (u &&& (nI (2 ^ kw) - 1)) kw))), (5, .int 1), (6, .int (nI j)), (7, .int (nI (q_n (D 170).1 (46 + 2 * j + 1)))), (8, .int 0)]) hE dX11_prepares_305 (by decide) rfl ?_
            have hv2 : y_is 1 (∀ i, i < j + 1 → q_n (D 170).1 (46 + 2 * i + 1) ≤ k) := by
              refine Or.inl ⟨rfl, fun i hi => ?_⟩
              have h8 := Classical.not_not.mp (fun q => c285 ((y_is_0 hv).mpr q))
              by_cases c : i = j
              · rw [c]; omega
              · exact h8 i (by omega)
            have ihN := ih
            have lM : ∀ (f : Nat) (D8 : y_D), f ≤ 16 → m_MP D D8 (u &&& (nI (2 ^ kw) - 1)) → (∀ m, m < 16 * (k + 1) → y_is ((D8 178).1 m) ((m_G0 D m ∧ m_nt (D 170).1 (m_rc (D 170).1 (u &&& (nI (2 ^ kw) - 1)) kw) j m) ∧ (m / 16 = q_n (D 170).1 (46 + 2 * j + 1) → m % 16 < f → m_cd (D 170).1 (q_n (D 170).1 (46 + 2 * j)) (m % 16) (m_rc (D 170).1 (u &&& (nI (2 ^ kw) - 1)) kw)))) → (∀ w2, w2 < kw → y_bit (u &&& (nI (2 ^ kw) - 1)) w2 → ∀ f2, f2 < 16 → ∀ s2, s2 ≤ k + 1 → m_R D D8 hl k w2 f2 s2) → E 0 0 307 [(0, .ref 169), (1, .int u), (2, .int hl), (3, .int 1), (4, .int (nI (m_rc (D 170).1 (u &&& (nI (2 ^ kw) - 1)) kw))), (5, .int 1), (6, .int (nI j)), (7, .int (nI (q_n (D 170).1 (46 + 2 * j + 1)))), (8, .int (nI f))] [] (y_mk n L D8) := by
              intro f D8
              induction hm9 : (16 - f) using Nat.strongRecOn generalizing f D8 with
              | _ m9 ih =>
                intro hf fr gd rwk
                subst hm9
                refine r_iload hE dX11_prepares_307 rfl ?_
                refine r_bipush (v := 16) hE dX11_prepares_309 (by decide) ?_
                refine r_icmp_geN (a := f) (b := 16) (tgt := 384) hE dX11_prepares_311 (by decide) (by omega) (by decide) (fun c311 => ?_) (fun c311 => ?_)
                · refine r_iincN (a := j) (b := 1) (ls2 := [(0, .ref 169), (1, .int u), (2, .int hl), (3, .int 1), (4, .int (nI (m_rc (D 170).1 (u &&& (nI (2 ^ kw) - 1)) kw))), (5, .int 1), (6, .int (nI (j + 1))), (7, .int (nI (q_n (D 170).1 (46 + 2 * j + 1)))), (8, .int (nI f))]) hE dX11_prepares_384 rfl rfl (by decide) rfl ?_
                  refine r_goto (tgt := 256) hE dX11_prepares_387 (by decide) ?_
                  refine r_locs hE (ls2 := [(0, .ref 169), (1, .int u), (2, .int hl), (3, .int 1), (4, .int (nI (m_rc (D 170).1 (u &&& (nI (2 ^ kw) - 1)) kw))), (5, .int 1), (6, .int (nI (j + 1)))]) ?_ (ihN (kn - (j + 1)) (by omega) (j + 1) _ _ rfl (by omega) fr (fun m hm => y_is_imp (gd m hm) ⟨fun q => ⟨q.1.1, fun i hi h1 => ?_⟩, fun q => ⟨⟨q.1, fun i hi h1 => q.2 i (by omega) h1⟩, fun h1 h2 => q.2 j (by omega) h1.symm⟩⟩) rwk hv2)
                  · simp [x_lk]
                  · by_cases c : i = j
                    · subst c
                      exact q.2 h1.symm (by first | omega | (exfalso; omega))
                    · exact q.1.2 i (by omega) h1
                · refine r_iload hE dX11_prepares_314 rfl ?_
                  refine r_aload_n hE dX11_prepares_316 rfl ?_
                  refine t_geti hE f_X11_249 y_I_169_13 dX11_prepares_317 (hL 169 (by decide)) ?_
                  refine r_top (y := (nI k)) (by rw [fr.2.1 13 (by decide)]; exact hk) ?_
                  refine r_icmp_gtN (a := q_n (D 170).1 (46 + 2 * j + 1)) (b := k) (tgt := 384) hE dX11_prepares_320 (by decide) (by omega) (by omega) (fun c320 => ?_) (fun c320 => ?_)
                  · refine r_iincN (a := j) (b := 1) (ls2 := [(0, .ref 169), (1, .int u), (2, .int hl), (3, .int 1), (4, .int (nI (m_rc (D 170).1 (u &&& (nI (2 ^ kw) - 1)) kw))), (5, .int 1), (6, .int (nI (j + 1))), (7, .int (nI (q_n (D 170).1 (46 + 2 * j + 1)))), (8, .int (nI f))]) hE dX11_prepares_384 rfl rfl (by decide) rfl ?_
                    refine r_goto (tgt := 256) hE dX11_prepares_387 (by decide) ?_
                    refine r_locs hE (ls2 := [(0, .ref 169), (1, .int u), (2, .int hl), (3, .int 1), (4, .int (nI (m_rc (D 170).1 (u &&& (nI (2 ^ kw) - 1)) kw))), (5, .int 1), (6, .int (nI (j + 1)))]) ?_ (ihN (kn - (j + 1)) (by omega) (j + 1) _ _ rfl (by omega) fr (fun m hm => y_is_imp (gd m hm) ⟨fun q => ⟨q.1.1, fun i hi h1 => ?_⟩, fun q => ⟨⟨q.1, fun i hi h1 => q.2 i (by omega) h1⟩, fun h1 h2 => q.2 j (by omega) h1.symm⟩⟩) rwk hv2)
                    · simp [x_lk]
                    · by_cases c : i = j
                      · subst c
                        exact q.2 h1.symm (by first | omega | (exfalso; omega))
                      · exact q.1.2 i (by omega) h1
                  · refine r_aload_n hE dX11_prepares_323 rfl ?_
                    refine t_getr hE f_X11_43 y_R_169_18 dX11_prepares_324 (hL 169 (by decide)) ?_
                    refine r_iload hE dX11_prepares_327 rfl ?_
                    refine r_iload hE dX11_prepares_329 rfl ?_
                    refine t_invs (r := (some (.int (nI (16 * (q_n (D 170).1 (46 + 2 * j + 1)) + f))))) (S2 := (y_mk n L D8)) hE [.int (nI (q_n (D 170).1 (46 + 2 * j + 1))), .int (nI f)] (c_at) s_yX11_at m_X11_299 dX11_prepares_331 rfl (by decide) ⟨Nat.le_refl _, Nat.le_refl _⟩ (Nat.le_of_ble_eq_true rfl) ?_
                    show E 0 0 334 [(0, .ref 169), (1, .int u), (2, .int hl), (3, .int 1), (4, .int (nI (m_rc (D 170).1 (u &&& (nI (2 ^ kw) - 1)) kw))), (5, .int 1), (6, .int (nI j)), (7, .int (nI (q_n (D 170).1 (46 + 2 * j + 1)))), (8, .int (nI f))] [.int (nI (16 * (q_n (D 170).1 (46 + 2 * j + 1)) + f)), .ref 178] (y_mk n L D8)
                    refine r_aload_n hE dX11_prepares_334 rfl ?_
                    refine t_getr hE f_X11_43 y_R_169_18 dX11_prepares_335 (hL 169 (by decide)) ?_
                    refine r_iload hE dX11_prepares_338 rfl ?_
                    refine r_iload hE dX11_prepares_340 rfl ?_
                    refine t_invs (r := (some (.int (nI (16 * (q_n (D 170).1 (46 + 2 * j + 1)) + f))))) (S2 := (y_mk n L D8)) hE [.int (nI (q_n (D 170).1 (46 + 2 * j + 1))), .int (nI f)] (c_at) s_yX11_at m_X11_299 dX11_prepares_342 rfl (by decide) ⟨Nat.le_refl _, Nat.le_refl _⟩ (Nat.le_of_ble_eq_true rfl) ?_
                    show E 0 0 345 [(0, .ref 169), (1, .int u), (2, .int hl), (3, .int 1), (4, .int (nI (m_rc (D 170).1 (u &&& (nI (2 ^ kw) - 1)) kw))), (5, .int 1), (6, .int (nI j)), (7, .int (nI (q_n (D 170).1 (46 + 2 * j + 1)))), (8, .int (nI f))] [.int (nI (16 * (q_n (D 170).1 (46 + 2 * j + 1)) + f)), .ref 178, .int (nI (16 * (q_n (D 170).1 (46 + 2 * j + 1)) + f)), .ref 178] (y_mk n L D8)
                    refine t_zaldN (e := 16 * (q_n (D 170).1 (46 + 2 * j + 1)) + f) hE y_A_178 dX11_prepares_345 (hL 178 (by decide)) (by omega) (by decide) ?_
                    refine r_if_eq (tgt := 376) hE dX11_prepares_346 (by decide) (fun c346 => ?_) (fun c346 => ?_)
                    · refine r_iconst (v := 0) hE dX11_prepares_376 (by decide) ?_
                      refine t_zastN (e := 16 * (q_n (D 170).1 (46 + 2 * j + 1)) + f) hE y_A_178 dX11_prepares_377 (hL 178 (by decide)) (by omega) (by decide) ?_
                      refine r_iincN (a := f) (b := 1) (ls2 := [(0, .ref 169), (1, .int u), (2, .int hl), (3, .int 1), (4, .int (nI (m_rc (D 170).1 (u &&& (nI (2 ^ kw) - 1)) kw))), (5, .int 1), (6, .int (nI j)), (7, .int (nI (q_n (D 170).1 (46 + 2 * j + 1)))), (8, .int (nI (f + 1)))]) hE dX11_prepares_378 rfl rfl (by decide) rfl ?_
                      refine r_goto (tgt := 307) hE dX11_prepares_381 (by decide) ?_
                      refine ih (16 - (f + 1)) (by omega) (f + 1) _ rfl (by omega) (m_MP_s fr (by decide)) (fun m hm => ?_) (fun w2 hw3 hb g hg s2 hs2 => m_R_o (y_si_ne (by decide)) (rwk w2 hw3 hb g hg s2 hs2))
                      rw [y_si_1]
                      have g0 := gd m hm
                      by_cases cm : m = 16 * (q_n (D 170).1 (46 + 2 * j + 1)) + f
                      · rw [if_pos cm]
                        have e1 : m / 16 = q_n (D 170).1 (46 + 2 * j + 1) := by omega
                        have e2 : m % 16 = f := by omega
                        refine Or.inr ⟨rfl, fun q => ?_⟩
                        first
                        | (refine absurd ?_ ((y_is_0 q9).mp c369)
                           rw [(fr.1.1 170 (by decide))]
                           have := q.2 e1 (by omega)
                           rw [e2] at this
                           exact this)
                        | (rw [show (D8 178).1 (16 * (q_n (D 170).1 (46 + 2 * j + 1)) + f) = (D8 178).1 m by rw [cm]] at c346
                           exact (y_is_0 g0).mp c346 ⟨q.1, fun _ h => absurd h (by omega)⟩)
                      · rw [if_neg cm]
                        refine y_is_imp g0 ⟨fun q => ⟨q.1, fun h1 h2 => ?_⟩, fun q => ⟨q.1, fun h1 h2 => q.2 h1 (by omega)⟩⟩
                        exact q.2 h1 (by omega)
                    · refine r_aload_n hE dX11_prepares_349 rfl ?_
                      refine r_aload_n hE dX11_prepares_350 rfl ?_
                      refine t_getr hE f_X11_13 y_R_169_1 dX11_prepares_351 (hL 169 (by decide)) ?_
                      refine r_bipush (v := 46) hE dX11_prepares_354 (by decide) ?_
                      refine r_iconst (v := 2) hE dX11_prepares_356 (by decide) ?_
                      refine r_iload hE dX11_prepares_357 rfl ?_
                      refine r_imulN (a := 2) (b := j) hE dX11_prepares_359 ?_
                      refine r_iaddN (a := 46) (b := 2 * j) hE dX11_prepares_360 ?_
                      refine t_ialdN (e := 46 + (2 * j)) hE y_A_170 dX11_prepares_361 (hL 170 (by decide)) (by omega) (by decide) ?_
                      refine r_top (y := (nI (q_n (D 170).1 (46 + 2 * j)))) (by rw [(fr.1.1 170 (by decide))]; exact (hnt j (by omega)).1.1) ?_
                      refine r_iload hE dX11_prepares_362 rfl ?_
                      refine r_iload hE dX11_prepares_364 rfl ?_
                      refine t_invvRi hE [.int (nI (q_n (D 170).1 (46 + 2 * j))), .int (nI f), .int (nI (m_rc (D 170).1 (u &&& (nI (2 ^ kw) - 1)) kw))] (c_canDo (D := D8) (th := q_n (D 170).1 (46 + 2 * j)) (f := f) (rc := m_rc (D 170).1 (u &&& (nI (2 ^ kw) - 1)) kw) hL (by omega) (by omega)) v_yX11_canDo m_X11_308 dX11_prepares_366 rfl (hL 169 (by decide)) (y_l_169 (D8 169)) rfl (by decide) ⟨Nat.le_refl _, Nat.le_refl _⟩ (Nat.le_of_ble_eq_true rfl) (fun v9 D9 q9 => ?_)
                      obtain ⟨q9, hD9⟩ := q9
                      rw [hD9]
                      show E 0 0 369 [(0, .ref 169), (1, .int u), (2, .int hl), (3, .int 1), (4, .int (nI (m_rc (D 170).1 (u &&& (nI (2 ^ kw) - 1)) kw))), (5, .int 1), (6, .int (nI j)), (7, .int (nI (q_n (D 170).1 (46 + 2 * j + 1)))), (8, .int (nI f))] [.int v9, .int (nI (16 * (q_n (D 170).1 (46 + 2 * j + 1)) + f)), .ref 178] (y_mk n L D8)
                      refine r_if_eq (tgt := 376) hE dX11_prepares_369 (by decide) (fun c369 => ?_) (fun c369 => ?_)
                      · refine r_iconst (v := 0) hE dX11_prepares_376 (by decide) ?_
                        refine t_zastN (e := 16 * (q_n (D 170).1 (46 + 2 * j + 1)) + f) hE y_A_178 dX11_prepares_377 (hL 178 (by decide)) (by omega) (by decide) ?_
                        refine r_iincN (a := f) (b := 1) (ls2 := [(0, .ref 169), (1, .int u), (2, .int hl), (3, .int 1), (4, .int (nI (m_rc (D 170).1 (u &&& (nI (2 ^ kw) - 1)) kw))), (5, .int 1), (6, .int (nI j)), (7, .int (nI (q_n (D 170).1 (46 + 2 * j + 1)))), (8, .int (nI (f + 1)))]) hE dX11_prepares_378 rfl rfl (by decide) rfl ?_
                        refine r_goto (tgt := 307) hE dX11_prepares_381 (by decide) ?_
                        refine ih (16 - (f + 1)) (by omega) (f + 1) _ rfl (by omega) (m_MP_s fr (by decide)) (fun m hm => ?_) (fun w2 hw3 hb g hg s2 hs2 => m_R_o (y_si_ne (by decide)) (rwk w2 hw3 hb g hg s2 hs2))
                        rw [y_si_1]
                        have g0 := gd m hm
                        by_cases cm : m = 16 * (q_n (D 170).1 (46 + 2 * j + 1)) + f
                        · rw [if_pos cm]
                          have e1 : m / 16 = q_n (D 170).1 (46 + 2 * j + 1) := by omega
                          have e2 : m % 16 = f := by omega
                          refine Or.inr ⟨rfl, fun q => ?_⟩
                          first
                          | (refine absurd ?_ ((y_is_0 q9).mp c369)
                             rw [(fr.1.1 170 (by decide))]
                             have := q.2 e1 (by omega)
                             rw [e2] at this
                             exact this)
                          | (rw [show (D8 178).1 (16 * (q_n (D 170).1 (46 + 2 * j + 1)) + f) = (D8 178).1 m by rw [cm]] at c346
                             exact (y_is_0 g0).mp c346 ⟨q.1, fun _ h => absurd h (by omega)⟩)
                        · rw [if_neg cm]
                          refine y_is_imp g0 ⟨fun q => ⟨q.1, fun h1 h2 => ?_⟩, fun q => ⟨q.1, fun h1 h2 => q.2 h1 (by omega)⟩⟩
                          exact q.2 h1 (by omega)
                      · refine r_iconst (v := 1) hE dX11_prepares_372 (by decide) ?_
                        refine r_goto (tgt := 377) hE dX11_prepares_373 (by decide) ?_
                        refine t_zastN (e := 16 * (q_n (D 170).1 (46 + 2 * j + 1)) + f) hE y_A_178 dX11_prepares_377 (hL 178 (by decide)) (by omega) (by decide) ?_
                        refine r_iincN (a := f) (b := 1) (ls2 := [(0, .ref 169), (1, .int u), (2, .int hl), (3, .int 1), (4, .int (nI (m_rc (D 170).1 (u &&& (nI (2 ^ kw) - 1)) kw))), (5, .int 1), (6, .int (nI j)), (7, .int (nI (q_n (D 170).1 (46 + 2 * j + 1)))), (8, .int (nI (f + 1)))]) hE dX11_prepares_378 rfl rfl (by decide) rfl ?_
                        refine r_goto (tgt := 307) hE dX11_prepares_381 (by decide) ?_
                        refine ih (16 - (f + 1)) (by omega) (f + 1) _ rfl (by omega) (m_MP_s fr (by decide)) (fun m hm => ?_) (fun w2 hw3 hb g hg s2 hs2 => m_R_o (y_si_ne (by decide)) (rwk w2 hw3 hb g hg s2 hs2))
                        rw [y_si_1]
                        have g0 := gd m hm
                        by_cases cm : m = 16 * (q_n (D 170).1 (46 + 2 * j + 1)) + f
                        · rw [if_pos cm]
                          have e1 : m / 16 = q_n (D 170).1 (46 + 2 * j + 1) := by omega
                          have e2 : m % 16 = f := by omega
                          rw [show (D8 178).1 (16 * (q_n (D 170).1 (46 + 2 * j + 1)) + f) = (D8 178).1 m by rw [cm]] at c346
                          have g1 := Classical.not_not.mp (fun q => c346 ((y_is_0 g0).mpr q))
                          have g2 := Classical.not_not.mp (fun q => c369 ((y_is_0 q9).mpr q))
                          rw [(fr.1.1 170 (by decide))] at g2
                          refine Or.inl ⟨rfl, g1.1, fun _ _ => ?_⟩
                          rw [e2]
                          exact g2
                        · rw [if_neg cm]
                          refine y_is_imp g0 ⟨fun q => ⟨q.1, fun h1 h2 => ?_⟩, fun q => ⟨q.1, fun h1 h2 => q.2 h1 (by omega)⟩⟩
                          exact q.2 h1 (by omega)
            exact lM 0 _ (by omega) fr (fun m hm => y_is_imp (gd m hm) ⟨fun q => ⟨q, fun _ h => absurd h (by omega)⟩, fun q => q.1⟩) rwk
  have lB : ∀ (w : Nat) (D8 : y_D), w ≤ kw → m_MP D D8 (u &&& (nI (2 ^ kw) - 1)) → (∀ m, m < 16 * (k + 1) → y_is ((D8 178).1 m) (m_G0 D m)) → (∀ w2, w2 < w → y_bit (u &&& (nI (2 ^ kw) - 1)) w2 → ∀ f2, f2 < 16 → ∀ s2, s2 ≤ k + 1 → m_R D D8 hl k w2 f2 s2) → E 0 0 85 [(0, .ref 169), (1, .int u), (2, .int hl), (3, .int 1), (4, .int (nI w))] [] (y_mk n L D8) := by
    intro w D8
    induction hm9 : (kw - w) using Nat.strongRecOn generalizing w D8 with
    | _ m9 ih =>
      intro hw fr gd rw9
      subst hm9
      refine r_iload hE dX11_prepares_85 rfl ?_
      refine r_aload_n hE dX11_prepares_87 rfl ?_
      refine t_getr hE f_X11_13 y_R_169_1 dX11_prepares_88 (hL 169 (by decide)) ?_
      refine r_iconst (v := 2) hE dX11_prepares_91 (by decide) ?_
      refine t_ialdN (e := 2) hE y_A_170 dX11_prepares_92 (hL 170 (by decide)) (by omega) (by decide) ?_
      refine r_top (y := (nI kw)) (by rw [(fr.1.1 170 (by decide))]; exact hw2) ?_
      refine r_icmp_geN (a := w) (b := kw) (tgt := 234) hE dX11_prepares_93 (by decide) (by omega) (by omega) (fun c93 => ?_) (fun c93 => ?_)
      · refine r_iload_n hE dX11_prepares_234 rfl ?_
        refine r_if_ne (tgt := 240) hE dX11_prepares_235 (by decide) (fun _ => ?_) (fun c235 => by first | exact absurd c235 (by decide) | exact absurd (by decide) c235)
        refine r_aload_n hE dX11_prepares_240 rfl ?_
        refine r_aload_n hE dX11_prepares_241 rfl ?_
        refine t_geti hE f_X11_296 y_I_169_23 dX11_prepares_242 (hL 169 (by decide)) ?_
        refine r_top (y := (u &&& (nI (2 ^ kw) - 1))) fr.2.2 ?_
        refine t_invv (r := (some (.int (nI (m_rc (D8 170).1 (u &&& (nI (2 ^ kw) - 1)) kw))))) (S2 := (y_mk n L D8)) hE [.int (u &&& (nI (2 ^ kw) - 1))] (c_reachOf (D := D8) (u := (u &&& (nI (2 ^ kw) - 1))) hL (by rw [(fr.1.1 170 (by decide))]; exact hw2) hkw (by rw [(fr.1.1 170 (by decide))]; exact hww)) v_yX11_reachOf m_X11_305 dX11_prepares_245 rfl (hL 169 (by decide)) (y_l_169 (D8 169)) rfl (by decide) ⟨Nat.le_refl _, Nat.le_refl _⟩ (Nat.le_of_ble_eq_true rfl) ?_
        show E 0 0 248 [(0, .ref 169), (1, .int u), (2, .int hl), (3, .int 1), (4, .int (nI w))] [.int (nI (m_rc (D8 170).1 (u &&& (nI (2 ^ kw) - 1)) kw))] (y_mk n L D8)
        refine r_top (y := (nI (m_rc (D 170).1 (u &&& (nI (2 ^ kw) - 1)) kw))) (by rw [(fr.1.1 170 (by decide))]) ?_
        refine r_istore (ls2 := [(0, .ref 169), (1, .int u), (2, .int hl), (3, .int 1), (4, .int (nI (m_rc (D 170).1 (u &&& (nI (2 ^ kw) - 1)) kw)))]) hE dX11_prepares_248 (by decide) rfl ?_
        refine r_iconst (v := 1) hE dX11_prepares_250 (by decide) ?_
        refine r_istore (ls2 := [(0, .ref 169), (1, .int u), (2, .int hl), (3, .int 1), (4, .int (nI (m_rc (D 170).1 (u &&& (nI (2 ^ kw) - 1)) kw))), (5, .int 1)]) hE dX11_prepares_251 (by decide) rfl ?_
        refine r_iconst (v := 0) hE dX11_prepares_253 (by decide) ?_
        refine r_istore (ls2 := [(0, .ref 169), (1, .int u), (2, .int hl), (3, .int 1), (4, .int (nI (m_rc (D 170).1 (u &&& (nI (2 ^ kw) - 1)) kw))), (5, .int 1), (6, .int 0)]) hE dX11_prepares_254 (by decide) rfl ?_
        rw [show w = kw by omega] at rw9
        refine r_locs hE (ls2 := [(0, .ref 169), (1, .int u), (2, .int hl), (3, .int 1), (4, .int (nI (m_rc (D 170).1 (u &&& (nI (2 ^ kw) - 1)) kw))), (5, .int 1), (6, .int (nI 0))]) ?_ (lN 0 1 _ (by omega) fr (fun m hm => y_is_imp (gd m hm) ⟨fun q => ⟨q, fun j hj => absurd hj (by omega)⟩, fun q => q.1⟩) rw9 (Or.inl ⟨rfl, fun j hj => absurd hj (by omega)⟩))
        simp [x_lk, nI_0]
      · refine r_aload_n hE dX11_prepares_96 rfl ?_
        refine t_geti hE f_X11_296 y_I_169_23 dX11_prepares_97 (hL 169 (by decide)) ?_
        refine r_iload hE dX11_prepares_100 rfl ?_
        refine r_ishr hE dX11_prepares_102 ?_
        refine r_iconst (v := 1) hE dX11_prepares_103 (by decide) ?_
        refine r_iand hE dX11_prepares_104 ?_
        refine r_if_ne (tgt := 111) hE dX11_prepares_105 (by decide) (fun c105 => ?_) (fun c105 => ?_)
        · refine r_iconst (v := 0) hE dX11_prepares_111 (by decide) ?_
          refine r_istore (ls2 := [(0, .ref 169), (1, .int u), (2, .int hl), (3, .int 1), (4, .int (nI w)), (5, .int 0)]) hE dX11_prepares_112 (by decide) rfl ?_
          have ihB := ih
          have lF : ∀ (f : Nat) (D8 : y_D), f ≤ 16 → m_MP D D8 (u &&& (nI (2 ^ kw) - 1)) → (∀ m, m < 16 * (k + 1) → y_is ((D8 178).1 m) (m_G0 D m)) → (∀ w2, w2 < w → y_bit (u &&& (nI (2 ^ kw) - 1)) w2 → ∀ f2, f2 < 16 → ∀ s2, s2 ≤ k + 1 → m_R D D8 hl k w2 f2 s2) → (∀ g, g < f → ∀ s2, s2 ≤ k + 1 → m_R D D8 hl k w g s2) → E 0 0 114 [(0, .ref 169), (1, .int u), (2, .int hl), (3, .int 1), (4, .int (nI w)), (5, .int (nI f))] [] (y_mk n L D8) := by
            intro f D8
            induction hm9 : (16 - f) using Nat.strongRecOn generalizing f D8 with
            | _ m9 ih =>
              intro hf fr gd rw9 rf
              subst hm9
              refine r_iload hE dX11_prepares_114 rfl ?_
              refine r_bipush (v := 16) hE dX11_prepares_116 (by decide) ?_
              refine r_icmp_geN (a := f) (b := 16) (tgt := 228) hE dX11_prepares_118 (by decide) (by omega) (by decide) (fun c118 => ?_) (fun c118 => ?_)
              · refine r_iincN (a := w) (b := 1) (ls2 := [(0, .ref 169), (1, .int u), (2, .int hl), (3, .int 1), (4, .int (nI (w + 1))), (5, .int (nI f))]) hE dX11_prepares_228 rfl rfl (by decide) rfl ?_
                refine r_goto (tgt := 85) hE dX11_prepares_231 (by decide) ?_
                refine r_locs hE (ls2 := [(0, .ref 169), (1, .int u), (2, .int hl), (3, .int 1), (4, .int (nI (w + 1)))]) ?_ (ihB (kw - (w + 1)) (by omega) (w + 1) _ rfl (by omega) fr gd (fun w2 hw3 hb g hg s2 hs2 => ?_))
                · simp [x_lk]
                · by_cases q : w2 = w
                  · rw [q]; exact rf g (by omega) s2 hs2
                  · exact rw9 w2 (by omega) hb g hg s2 hs2
              · refine r_aload_n hE dX11_prepares_121 rfl ?_
                refine t_getr hE f_X11_55 y_R_169_22 dX11_prepares_122 (hL 169 (by decide)) ?_
                refine r_iload hE dX11_prepares_125 rfl ?_
                refine r_iload hE dX11_prepares_127 rfl ?_
                refine r_aload_n hE dX11_prepares_129 rfl ?_
                refine t_geti hE f_X11_249 y_I_169_13 dX11_prepares_130 (hL 169 (by decide)) ?_
                refine r_top (y := (nI k)) (by rw [fr.2.1 13 (by decide)]; exact hk) ?_
                refine r_iconst (v := 1) hE dX11_prepares_133 (by decide) ?_
                refine r_iaddN (a := k) (b := 1) hE dX11_prepares_134 ?_
                refine t_invs (r := (some (.int (nI ((16 * w + f) * 302 + (k + 1)))))) (S2 := (y_mk n L D8)) hE [.int (nI w), .int (nI f), .int (nI (k + 1))] (c_runAt) s_yX11_runAt m_X11_302 dX11_prepares_135 rfl (by decide) ⟨Nat.le_refl _, Nat.le_refl _⟩ (Nat.le_of_ble_eq_true rfl) ?_
                show E 0 0 138 [(0, .ref 169), (1, .int u), (2, .int hl), (3, .int 1), (4, .int (nI w)), (5, .int (nI f))] [.int (nI ((16 * w + f) * 302 + (k + 1))), .ref 182] (y_mk n L D8)
                refine r_iconst (v := 0) hE dX11_prepares_138 (by decide) ?_
                refine t_iastN (e := (16 * w + f) * 302 + (k + 1)) hE y_A_182 dX11_prepares_139 (hL 182 (by decide)) (by omega) (by decide) ?_
                refine r_aload_n hE dX11_prepares_140 rfl ?_
                refine t_geti hE f_X11_249 y_I_169_13 dX11_prepares_141 (hL 169 (by decide)) ?_
                refine r_top (y := (nI k)) (by rw [y_si_ne (by decide), fr.2.1 13 (by decide)]; exact hk) ?_
                refine r_istore (ls2 := [(0, .ref 169), (1, .int u), (2, .int hl), (3, .int 1), (4, .int (nI w)), (5, .int (nI f)), (6, .int (nI k))]) hE dX11_prepares_144 (by decide) rfl ?_
                have ihF := ih
                have lS : ∀ (e : Nat) (D8 : y_D), e ≤ k + 1 → m_MP D D8 (u &&& (nI (2 ^ kw) - 1)) → (∀ m, m < 16 * (k + 1) → y_is ((D8 178).1 m) (m_G0 D m)) → (∀ w2, w2 < w → y_bit (u &&& (nI (2 ^ kw) - 1)) w2 → ∀ f2, f2 < 16 → ∀ s2, s2 ≤ k + 1 → m_R D D8 hl k w2 f2 s2) → (∀ g, g < f → ∀ s2, s2 ≤ k + 1 → m_R D D8 hl k w g s2) → (∀ s2, e ≤ s2 → s2 ≤ k + 1 → m_R D D8 hl k w f s2) → E 0 0 146 [(0, .ref 169), (1, .int u), (2, .int hl), (3, .int 1), (4, .int (nI w)), (5, .int (nI f)), (6, .int (y_dn e))] [] (y_mk n L D8) := by
                  intro e
                  induction e with
                  | zero =>
                    intro D8 he fr gd rw9 rf rs
                    change E 0 0 146 [(0, .ref 169), (1, .int u), (2, .int hl), (3, .int 1), (4, .int (nI w)), (5, .int (nI f)), (6, .int (-1))] [] (y_mk n L D8)
                    refine r_iload hE dX11_prepares_146 rfl ?_
                    refine r_if_lt (tgt := 222) hE dX11_prepares_148 (by decide) (fun _ => ?_) (fun c148 => by first | exact absurd c148 (by decide) | exact absurd (by decide) c148)
                    refine r_iincN (a := f) (b := 1) (ls2 := [(0, .ref 169), (1, .int u), (2, .int hl), (3, .int 1), (4, .int (nI w)), (5, .int (nI (f + 1))), (6, .int (-1))]) hE dX11_prepares_222 rfl rfl (by decide) rfl ?_
                    refine r_goto (tgt := 114) hE dX11_prepares_225 (by decide) ?_
                    refine r_locs hE (ls2 := [(0, .ref 169), (1, .int u), (2, .int hl), (3, .int 1), (4, .int (nI w)), (5, .int (nI (f + 1)))]) ?_ (ihF (16 - (f + 1)) (by omega) (f + 1) _ rfl (by omega) fr gd rw9 (fun g hg s2 hs2 => ?_))
                    · simp [x_lk]
                    · by_cases q : g = f
                      · rw [q]; exact rs s2 (by omega) hs2
                      · exact rf g (by omega) s2 hs2
                  | succ s ihS0 =>
                    intro D8 he fr gd rw9 rf rs
                    have ihS := fun D9 => ihS0 D9 (by omega)
                    change E 0 0 146 [(0, .ref 169), (1, .int u), (2, .int hl), (3, .int 1), (4, .int (nI w)), (5, .int (nI f)), (6, .int (nI s))] [] (y_mk n L D8)
                    refine r_iload hE dX11_prepares_146 rfl ?_
                    refine r_if_lt (tgt := 222) hE dX11_prepares_148 (by decide) (fun c148 => absurd c148 (nI_pos (by omega))) (fun _ => ?_)
                    refine r_aload_n hE dX11_prepares_151 rfl ?_
                    refine t_getr hE f_X11_55 y_R_169_22 dX11_prepares_152 (hL 169 (by decide)) ?_
                    refine r_iload hE dX11_prepares_155 rfl ?_
                    refine r_iload hE dX11_prepares_157 rfl ?_
                    refine r_iload hE dX11_prepares_159 rfl ?_
                    refine t_invs (r := (some (.int (nI ((16 * w + f) * 302 + s))))) (S2 := (y_mk n L D8)) hE [.int (nI w), .int (nI f), .int (nI s)] (c_runAt) s_yX11_runAt m_X11_302 dX11_prepares_161 rfl (by decide) ⟨Nat.le_refl _, Nat.le_refl _⟩ (Nat.le_of_ble_eq_true rfl) ?_
                    show E 0 0 164 [(0, .ref 169), (1, .int u), (2, .int hl), (3, .int 1), (4, .int (nI w)), (5, .int (nI f)), (6, .int (nI s))] [.int (nI ((16 * w + f) * 302 + s)), .ref 182] (y_mk n L D8)
                    refine r_aload_n hE dX11_prepares_164 rfl ?_
                    refine t_getr hE f_X11_43 y_R_169_18 dX11_prepares_165 (hL 169 (by decide)) ?_
                    refine r_iload hE dX11_prepares_168 rfl ?_
                    refine r_iload hE dX11_prepares_170 rfl ?_
                    refine t_invs (r := (some (.int (nI (16 * s + f))))) (S2 := (y_mk n L D8)) hE [.int (nI s), .int (nI f)] (c_at) s_yX11_at m_X11_299 dX11_prepares_172 rfl (by decide) ⟨Nat.le_refl _, Nat.le_refl _⟩ (Nat.le_of_ble_eq_true rfl) ?_
                    show E 0 0 175 [(0, .ref 169), (1, .int u), (2, .int hl), (3, .int 1), (4, .int (nI w)), (5, .int (nI f)), (6, .int (nI s))] [.int (nI (16 * s + f)), .ref 178, .int (nI ((16 * w + f) * 302 + s)), .ref 182] (y_mk n L D8)
                    refine t_zaldN (e := 16 * s + f) hE y_A_178 dX11_prepares_175 (hL 178 (by decide)) (by omega) (by decide) ?_
                    refine r_if_eq (tgt := 214) hE dX11_prepares_176 (by decide) (fun c176 => ?_) (fun c176 => ?_)
                    · refine r_iconst (v := 0) hE dX11_prepares_214 (by decide) ?_
                      refine t_iastN (e := (16 * w + f) * 302 + s) hE y_A_182 dX11_prepares_215 (hL 182 (by decide)) (by omega) (by decide) ?_
                      refine r_iinc (v := (nI s) + (-1)) (ls2 := [(0, .ref 169), (1, .int u), (2, .int hl), (3, .int 1), (4, .int (nI w)), (5, .int (nI f)), (6, .int ((nI s) + (-1)))]) hE dX11_prepares_216 rfl rfl (by decide) rfl ?_
                      refine r_goto (tgt := 146) hE dX11_prepares_219 (by decide) ?_
                      have z0 : (0 : Int32) = nI 0 := rfl
                      rw [z0]
                      rw [y_dn_s]
                      refine ihS _ (m_MP_s fr (by decide)) (fun m hm => ?_) (fun w2 hw2 hb g hg s2 hs2 => ?_) (fun g hg s2 hs2 => ?_) (fun s2 h1 h2 => ?_)
                      · rw [y_si_ne (by decide)]
                        exact gd m hm
                      · exact m_R_n (by omega) (rw9 w2 hw2 hb g hg s2 hs2)
                      · exact m_R_n (by omega) (rf g hg s2 hs2)
                      · by_cases q : s2 = s
                        · rw [q]
                          exact m_R_y (m_rl_0 (by omega) (fun q => ((y_is_0 (gd _ (by omega))).mp c176) q.1))
                        · exact m_R_n (by omega) (rs s2 (by omega) h2)
                    · refine r_aload_n hE dX11_prepares_179 rfl ?_
                      refine r_iload hE dX11_prepares_180 rfl ?_
                      refine r_iload hE dX11_prepares_182 rfl ?_
                      refine r_iload hE dX11_prepares_184 rfl ?_
                      refine r_iload_n hE dX11_prepares_186 rfl ?_
                      refine t_invvRi hE [.int (nI w), .int (nI s), .int (nI f), .int hl] (c_holdsAll (D := D8) (w := w) (x := s) (f := f) hL (by omega) (by rw [(fr.1.1 170 (by decide))]; exact hww w (by omega)) (by omega) (by omega) (by rw [(fr.1.1 175 (by decide))]; exact hh)) v_yX11_holdsAll m_X11_284 dX11_prepares_187 rfl (hL 169 (by decide)) (y_l_169 (D8 169)) rfl (by decide) ⟨Nat.le_refl _, Nat.le_refl _⟩ (Nat.le_of_ble_eq_true rfl) (fun v9 D9 q9 => ?_)
                      show E 0 0 190 [(0, .ref 169), (1, .int u), (2, .int hl), (3, .int 1), (4, .int (nI w)), (5, .int (nI f)), (6, .int (nI s))] [.int v9, .int (nI ((16 * w + f) * 302 + s)), .ref 182] (y_mk n L D9)
                      refine r_if_eq (tgt := 214) hE dX11_prepares_190 (by decide) (fun c190 => ?_) (fun c190 => ?_)
                      · refine r_iconst (v := 0) hE dX11_prepares_214 (by decide) ?_
                        refine t_iastN (e := (16 * w + f) * 302 + s) hE y_A_182 dX11_prepares_215 (hL 182 (by decide)) (by omega) (by decide) ?_
                        refine r_iinc (v := (nI s) + (-1)) (ls2 := [(0, .ref 169), (1, .int u), (2, .int hl), (3, .int 1), (4, .int (nI w)), (5, .int (nI f)), (6, .int ((nI s) + (-1)))]) hE dX11_prepares_216 rfl rfl (by decide) rfl ?_
                        refine r_goto (tgt := 146) hE dX11_prepares_219 (by decide) ?_
                        have z0 : (0 : Int32) = nI 0 := rfl
                        rw [z0]
                        rw [y_dn_s]
                        refine ihS _ (m_MP_s (m_MP_o fr q9.2) (by decide)) (fun m hm => ?_) (fun w2 hw2 hb g hg s2 hs2 => ?_) (fun g hg s2 hs2 => ?_) (fun s2 h1 h2 => ?_)
                        · rw [y_si_ne (by decide), q9.2.1 178 (by decide)]
                          exact gd m hm
                        · exact m_R_n (by omega) (m_R_o (q9.2.1 182 (by decide)) (rw9 w2 hw2 hb g hg s2 hs2))
                        · exact m_R_n (by omega) (m_R_o (q9.2.1 182 (by decide)) (rf g hg s2 hs2))
                        · by_cases q : s2 = s
                          · rw [q]
                            exact m_R_y (m_rl_0 (by omega) (fun q => ((y_is_0 q9.1).mp c190) (by rw [m_all_eq (fr.1.1 170 (by decide)) (fr.1.1 174 (by decide)) (fr.1.1 175 (by decide)) (fr.1.1 176 (by decide))]; exact q.2)))
                          · exact m_R_n (by omega) (m_R_o (q9.2.1 182 (by decide)) (rs s2 (by omega) h2))
                      · have h9b : m_all D w s f hl := by
                          have := (y_is_0 q9.1)
                          rw [m_all_eq (fr.1.1 170 (by decide)) (fr.1.1 174 (by decide)) (fr.1.1 175 (by decide)) (fr.1.1 176 (by decide))] at this
                          exact Classical.not_not.mp (fun q => c190 (this.mpr q))
                        obtain ⟨c, hr1, hr2⟩ := m_R_o (q9.2.1 182 (by decide)) (rs (s + 1) (by omega) (by omega))
                        have hc9 := hr2.1
                        refine r_aload_n hE dX11_prepares_193 rfl ?_
                        refine t_getr hE f_X11_55 y_R_169_22 dX11_prepares_194 (hL 169 (by decide)) ?_
                        refine r_iload hE dX11_prepares_197 rfl ?_
                        refine r_iload hE dX11_prepares_199 rfl ?_
                        refine r_iload hE dX11_prepares_201 rfl ?_
                        refine r_iconst (v := 1) hE dX11_prepares_203 (by decide) ?_
                        refine r_iaddN (a := s) (b := 1) hE dX11_prepares_204 ?_
                        refine t_invs (r := (some (.int (nI ((16 * w + f) * 302 + (s + 1)))))) (S2 := (y_mk n L D9)) hE [.int (nI w), .int (nI f), .int (nI (s + 1))] (c_runAt) s_yX11_runAt m_X11_302 dX11_prepares_205 rfl (by decide) ⟨Nat.le_refl _, Nat.le_refl _⟩ (Nat.le_of_ble_eq_true rfl) ?_
                        show E 0 0 208 [(0, .ref 169), (1, .int u), (2, .int hl), (3, .int 1), (4, .int (nI w)), (5, .int (nI f)), (6, .int (nI s))] [.int (nI ((16 * w + f) * 302 + (s + 1))), .ref 182, .int (nI ((16 * w + f) * 302 + s)), .ref 182] (y_mk n L D9)
                        refine t_ialdN (e := (16 * w + f) * 302 + (s + 1)) hE y_A_182 dX11_prepares_208 (hL 182 (by decide)) (by omega) (by decide) ?_
                        refine r_top (y := (nI c)) hr1 ?_
                        refine r_iconst (v := 1) hE dX11_prepares_209 (by decide) ?_
                        refine r_iaddN (a := c) (b := 1) hE dX11_prepares_210 ?_
                        refine r_goto (tgt := 215) hE dX11_prepares_211 (by decide) ?_
                        refine t_iastN (e := (16 * w + f) * 302 + s) hE y_A_182 dX11_prepares_215 (hL 182 (by decide)) (by omega) (by decide) ?_
                        refine r_iinc (v := (nI s) + (-1)) (ls2 := [(0, .ref 169), (1, .int u), (2, .int hl), (3, .int 1), (4, .int (nI w)), (5, .int (nI f)), (6, .int ((nI s) + (-1)))]) hE dX11_prepares_216 rfl rfl (by decide) rfl ?_
                        refine r_goto (tgt := 146) hE dX11_prepares_219 (by decide) ?_
                        have hG : m_G0 D (16 * s + f) := Classical.not_not.mp (fun q => c176 ((y_is_0 (gd _ (by omega))).mpr q))
                        rw [y_dn_s]
                        refine ihS _ (m_MP_s (m_MP_o fr q9.2) (by decide)) (fun m hm => ?_) (fun w2 hw2 hb g hg s2 hs2 => ?_) (fun g hg s2 hs2 => ?_) (fun s2 h1 h2 => ?_)
                        · rw [y_si_ne (by decide), q9.2.1 178 (by decide)]
                          exact gd m hm
                        · exact m_R_n (by omega) (m_R_o (q9.2.1 182 (by decide)) (rw9 w2 hw2 hb g hg s2 hs2))
                        · exact m_R_n (by omega) (m_R_o (q9.2.1 182 (by decide)) (rf g hg s2 hs2))
                        · by_cases q : s2 = s
                          · rw [q]
                            exact m_R_y (m_rl_s ⟨hG, h9b⟩ hr2)
                          · exact m_R_n (by omega) (m_R_o (q9.2.1 182 (by decide)) (rs s2 (by omega) h2))
                rw [show nI k = y_dn (k + 1) from rfl]
                refine lS (k + 1) _ (by omega) (m_MP_s fr (by decide)) (fun m hm => ?_) (fun w2 hw2 hb g hg s2 hs2 => ?_) (fun g hg s2 hs2 => ?_) (fun s2 h1 h2 => ?_)
                · rw [y_si_ne (by decide)]
                  exact gd m hm
                · exact m_R_n (by omega) (rw9 w2 hw2 hb g hg s2 hs2)
                · exact m_R_n (by omega) (rf g hg s2 hs2)
                · rw [show s2 = k + 1 by omega]
                  exact m_R_y (c := 0) m_rl_z
          exact lF 0 _ (by omega) fr gd rw9 (fun g hg => absurd hg (by omega))
        · refine r_goto (tgt := 228) hE dX11_prepares_108 (by decide) ?_
          refine r_iincN (a := w) (b := 1) (ls2 := [(0, .ref 169), (1, .int u), (2, .int hl), (3, .int 1), (4, .int (nI (w + 1)))]) hE dX11_prepares_228 rfl rfl (by decide) rfl ?_
          refine r_goto (tgt := 85) hE dX11_prepares_231 (by decide) ?_
          refine r_locs hE (ls2 := [(0, .ref 169), (1, .int u), (2, .int hl), (3, .int 1), (4, .int (nI (w + 1)))]) ?_ (ih (kw - (w + 1)) (by omega) (w + 1) _ rfl (by omega) fr gd (fun w2 hw3 hb g hg s2 hs2 => ?_))
          · simp [x_lk]
          · by_cases q : w2 = w
            · subst q
              exact absurd hb (fun q => by have h8 : _ = _ := c105; rw [fr.2.2] at h8; rw [show ((u &&& (nI (2 ^ kw) - 1)) >>> (nI w2 &&& 31)) &&& 1 = 1 from q] at h8; exact absurd h8 (by decide))
            · exact rw9 w2 (by omega) hb g hg s2 hs2
  have lA : ∀ (s : Nat) (D8 : y_D), s ≤ k + 1 → m_MP D D8 (u &&& (nI (2 ^ kw) - 1)) → (∀ m, m < 16 * s → y_is ((D8 178).1 m) (m_G0 D m)) → E 0 0 19 [(0, .ref 169), (1, .int u), (2, .int hl), (3, .int 1), (4, .int (nI s))] [] (y_mk n L D8) := by
    intro s D8
    induction hm9 : (k + 1 - s) using Nat.strongRecOn generalizing s D8 with
    | _ m9 ih =>
      intro hs fr gd
      subst hm9
      refine r_iload hE dX11_prepares_19 rfl ?_
      refine r_aload_n hE dX11_prepares_21 rfl ?_
      refine t_geti hE f_X11_249 y_I_169_13 dX11_prepares_22 (hL 169 (by decide)) ?_
      refine r_top (y := (nI k)) (by rw [fr.2.1 13 (by decide)]; exact hk) ?_
      refine r_icmp_gtN (a := s) (b := k) (tgt := 82) hE dX11_prepares_25 (by decide) (by omega) (by omega) (fun c25 => ?_) (fun c25 => ?_)
      · refine r_iconst (v := 0) hE dX11_prepares_82 (by decide) ?_
        refine r_istore (ls2 := [(0, .ref 169), (1, .int u), (2, .int hl), (3, .int 1), (4, .int 0)]) hE dX11_prepares_83 (by decide) rfl ?_
        exact lB 0 _ (by omega) fr (fun m hm => gd m (by omega)) (fun w hw => absurd hw (by omega))
      · refine r_iconst (v := 0) hE dX11_prepares_28 (by decide) ?_
        refine r_istore (ls2 := [(0, .ref 169), (1, .int u), (2, .int hl), (3, .int 1), (4, .int (nI s)), (5, .int 0)]) hE dX11_prepares_29 (by decide) rfl ?_
        have ihA := ih
        have lA2 : ∀ (f : Nat) (D8 : y_D), f ≤ 16 → m_MP D D8 (u &&& (nI (2 ^ kw) - 1)) → (∀ m, m < 16 * s + f → y_is ((D8 178).1 m) (m_G0 D m)) → E 0 0 31 [(0, .ref 169), (1, .int u), (2, .int hl), (3, .int 1), (4, .int (nI s)), (5, .int (nI f))] [] (y_mk n L D8) := by
          intro f D8
          induction hm9 : (16 - f) using Nat.strongRecOn generalizing f D8 with
          | _ m9 ih =>
            intro hf fr gd
            subst hm9
            refine r_iload hE dX11_prepares_31 rfl ?_
            refine r_bipush (v := 16) hE dX11_prepares_33 (by decide) ?_
            refine r_icmp_geN (a := f) (b := 16) (tgt := 76) hE dX11_prepares_35 (by decide) (by omega) (by decide) (fun c35 => ?_) (fun c35 => ?_)
            · refine r_iincN (a := s) (b := 1) (ls2 := [(0, .ref 169), (1, .int u), (2, .int hl), (3, .int 1), (4, .int (nI (s + 1))), (5, .int (nI f))]) hE dX11_prepares_76 rfl rfl (by decide) rfl ?_
              refine r_goto (tgt := 19) hE dX11_prepares_79 (by decide) ?_
              refine r_locs hE (ls2 := [(0, .ref 169), (1, .int u), (2, .int hl), (3, .int 1), (4, .int (nI (s + 1)))]) ?_ (ihA (k + 1 - (s + 1)) (by omega) (s + 1) _ rfl (by omega) fr (fun m hm => gd m (by omega)))
              simp [x_lk]
            · refine r_aload_n hE dX11_prepares_38 rfl ?_
              refine t_getr hE f_X11_43 y_R_169_18 dX11_prepares_39 (hL 169 (by decide)) ?_
              refine r_iload hE dX11_prepares_42 rfl ?_
              refine r_iload hE dX11_prepares_44 rfl ?_
              refine t_invs (r := (some (.int (nI (16 * s + f))))) (S2 := (y_mk n L D8)) hE [.int (nI s), .int (nI f)] (c_at) s_yX11_at m_X11_299 dX11_prepares_46 rfl (by decide) ⟨Nat.le_refl _, Nat.le_refl _⟩ (Nat.le_of_ble_eq_true rfl) ?_
              show E 0 0 49 [(0, .ref 169), (1, .int u), (2, .int hl), (3, .int 1), (4, .int (nI s)), (5, .int (nI f))] [.int (nI (16 * s + f)), .ref 178] (y_mk n L D8)
              refine r_iload hE dX11_prepares_49 rfl ?_
              refine r_if_eq (tgt := 64) hE dX11_prepares_51 (by decide) (fun c51 => ?_) (fun c51 => ?_)
              · refine r_iconst (v := 1) hE dX11_prepares_64 (by decide) ?_
                refine r_goto (tgt := 69) hE dX11_prepares_65 (by decide) ?_
                refine t_zastN (e := 16 * s + f) hE y_A_178 dX11_prepares_69 (hL 178 (by decide)) (by omega) (by decide) ?_
                refine r_iincN (a := f) (b := 1) (ls2 := [(0, .ref 169), (1, .int u), (2, .int hl), (3, .int 1), (4, .int (nI s)), (5, .int (nI (f + 1)))]) hE dX11_prepares_70 rfl rfl (by decide) rfl ?_
                refine r_goto (tgt := 31) hE dX11_prepares_73 (by decide) ?_
                refine ih (16 - (f + 1)) (by omega) (f + 1) _ rfl (by omega) (m_MP_s fr (by decide)) (fun m hm => ?_)
                rw [y_si_1]
                by_cases cm : m = 16 * s + f
                · rw [if_pos cm]
                  refine Or.inl ⟨rfl, ?_⟩
                  unfold m_G0
                  rw [cm, show (16 * s + f) % 16 = f by omega, show (16 * s + f) / 16 = s by omega]
                  have hf0 : nI f = 0 ↔ f = 0 := nI_eq (b := 0) (by omega) (by decide)
                  have h74 : (D8 174).1 s = (D 174).1 s := by rw [(fr.1.1 174 (by decide))]
                  grind
                · rw [if_neg cm]
                  exact gd m (by omega)
              · refine r_aload_n hE dX11_prepares_54 rfl ?_
                refine t_getr hE f_X11_30 y_R_169_14 dX11_prepares_55 (hL 169 (by decide)) ?_
                refine r_iload hE dX11_prepares_58 rfl ?_
                refine t_zaldN (e := s) hE y_A_174 dX11_prepares_60 (hL 174 (by decide)) (by omega) (by decide) ?_
                refine r_if_ne (tgt := 68) hE dX11_prepares_61 (by decide) (fun c61 => ?_) (fun c61 => ?_)
                · refine r_iconst (v := 0) hE dX11_prepares_68 (by decide) ?_
                  refine t_zastN (e := 16 * s + f) hE y_A_178 dX11_prepares_69 (hL 178 (by decide)) (by omega) (by decide) ?_
                  refine r_iincN (a := f) (b := 1) (ls2 := [(0, .ref 169), (1, .int u), (2, .int hl), (3, .int 1), (4, .int (nI s)), (5, .int (nI (f + 1)))]) hE dX11_prepares_70 rfl rfl (by decide) rfl ?_
                  refine r_goto (tgt := 31) hE dX11_prepares_73 (by decide) ?_
                  refine ih (16 - (f + 1)) (by omega) (f + 1) _ rfl (by omega) (m_MP_s fr (by decide)) (fun m hm => ?_)
                  rw [y_si_1]
                  by_cases cm : m = 16 * s + f
                  · rw [if_pos cm]
                    refine Or.inr ⟨rfl, ?_⟩
                    unfold m_G0
                    rw [cm, show (16 * s + f) % 16 = f by omega, show (16 * s + f) / 16 = s by omega]
                    have hf0 : nI f = 0 ↔ f = 0 := nI_eq (b := 0) (by omega) (by decide)
                    have h74 : (D8 174).1 s = (D 174).1 s := by rw [(fr.1.1 174 (by decide))]
                    grind
                  · rw [if_neg cm]
                    exact gd m (by omega)
                · refine r_iconst (v := 1) hE dX11_prepares_64 (by decide) ?_
                  refine r_goto (tgt := 69) hE dX11_prepares_65 (by decide) ?_
                  refine t_zastN (e := 16 * s + f) hE y_A_178 dX11_prepares_69 (hL 178 (by decide)) (by omega) (by decide) ?_
                  refine r_iincN (a := f) (b := 1) (ls2 := [(0, .ref 169), (1, .int u), (2, .int hl), (3, .int 1), (4, .int (nI s)), (5, .int (nI (f + 1)))]) hE dX11_prepares_70 rfl rfl (by decide) rfl ?_
                  refine r_goto (tgt := 31) hE dX11_prepares_73 (by decide) ?_
                  refine ih (16 - (f + 1)) (by omega) (f + 1) _ rfl (by omega) (m_MP_s fr (by decide)) (fun m hm => ?_)
                  rw [y_si_1]
                  by_cases cm : m = 16 * s + f
                  · rw [if_pos cm]
                    refine Or.inl ⟨rfl, ?_⟩
                    unfold m_G0
                    rw [cm, show (16 * s + f) % 16 = f by omega, show (16 * s + f) / 16 = s by omega]
                    have hf0 : nI f = 0 ↔ f = 0 := nI_eq (b := 0) (by omega) (by decide)
                    have h74 : (D8 174).1 s = (D 174).1 s := by rw [(fr.1.1 174 (by decide))]
                    grind
                  · rw [if_neg cm]
                    exact gd m (by omega)
        exact lA2 0 _ (by omega) fr (fun m hm => gd m (by omega))
  refine r_aload_n hE dX11_prepares_0 rfl ?_
  refine r_iload_n hE dX11_prepares_1 rfl ?_
  refine r_iconst (v := 1) hE dX11_prepares_2 (by decide) ?_
  refine r_aload_n hE dX11_prepares_3 rfl ?_
  refine t_getr hE f_X11_13 y_R_169_1 dX11_prepares_4 (hL 169 (by decide)) ?_
  refine r_iconst (v := 2) hE dX11_prepares_7 (by decide) ?_
  refine t_ialdN (e := 2) hE y_A_170 dX11_prepares_8 (hL 170 (by decide)) (by omega) (by decide) ?_
  refine r_top (y := (nI kw)) hw2 ?_
  refine r_shl1N (k := kw) hE dX11_prepares_9 (by omega) ?_
  refine r_iconst (v := 1) hE dX11_prepares_10 (by decide) ?_
  refine r_isub hE dX11_prepares_11 ?_
  refine r_iand hE dX11_prepares_12 ?_
  refine t_puti hE f_X11_296 y_I_169_23 dX11_prepares_13 (hL 169 (by decide)) rfl rfl ?_
  refine r_iconst (v := 0) hE dX11_prepares_16 (by decide) ?_
  refine r_istore (ls2 := [(0, .ref 169), (1, .int u), (2, .int hl), (3, .int 1), (4, .int 0)]) hE dX11_prepares_17 (by decide) rfl ?_
  refine lA 0 _ (by omega) ⟨y_fx_s y_fx_r (by decide), fun k hk => by rw [y_si_1, if_neg hk], by rw [y_si_1, if_pos rfl]⟩ (fun m hm => absurd hm (by omega))

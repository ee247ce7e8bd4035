/-! the reference: what a text says, laysOut, asked -/
def q_n (W : Nat → Int32) (j : Nat) : Nat := (W j).toNatClampNeg
def q_ok (W : Nat → Int32) (j B : Nat) : Prop := W j = nI (q_n W j) ∧ q_n W j ≤ B
theorem q_mk {W : Nat → Int32} {j B a : Nat} (h : W j = nI a) (ha : a ≤ B) (hB : a < 2 ^ 31) : q_ok W j B ∧ q_n W j = a := by
  have e : q_n W j = a := by unfold q_n; rw [h, nI_clamp hB]
  exact ⟨⟨by rw [e]; exact h, by rw [e]; exact ha⟩, e⟩
/-- the number j of the LINE i of the text t -/
abbrev m_o (W : Nat → Int32) (t i j : Nat) : Nat := q_n W (237 + 851 * t + 1 + 5 * i + j)
abbrev m_k (W : Nat → Int32) (t : Nat) : Nat := q_n W (237 + 851 * t)
/-- the text t is a RULE -/
def m_wr (W : Nat → Int32) (t : Nat) : Prop := q_ok W (237 + 851 * t) 10 ∧ ∀ i, i < m_k W t → q_ok W (237 + 851 * t + 1 + 5 * i) 3 ∧ q_ok W (237 + 851 * t + 1 + 5 * i + 1) 999 ∧ q_ok W (237 + 851 * t + 1 + 5 * i + 2) 999 ∧ (m_o W t i 0 ≤ 1 → m_o W t i 1 < 4) ∧ (m_o W t i 0 = 0 → m_o W t i 2 < 8) ∧ (m_o W t i 0 = 2 → m_o W t i 2 ≤ 300) ∧ (m_o W t i 0 = 3 → 1 ≤ m_o W t i 1 ∧ m_o W t i 1 ≤ 300)
/-! what LINES say: p their kinds, a and b their numbers, wo the one that does not count -/
def s_last (p a : Nat → Nat) (wo : Int32) : Nat → Nat
  | 0 => 120
  | i + 1 => if nI i ≠ wo ∧ p i = 3 then a i else s_last p a wo i
def s_lit (p a b : Nat → Nat) (wo : Int32) (s : Nat) : Nat → Int32
  | 0 => 0
  | i + 1 => if nI i ≠ wo ∧ p i = 2 ∧ a i ≤ s ∧ s < b i then 1 else s_lit p a b wo s i
def s_by (c : Nat) (p a b : Nat → Nat) (wo : Int32) (l : Nat) : Nat → Int32
  | 0 => -1
  | i + 1 => if nI i ≠ wo ∧ p i = c ∧ a i = l then nI (b i) else s_by c p a b wo l i
/-- the first i LINES of the text t are laid out in D2, the others as in D -/
def m_lay (D D2 : y_D) (t : Nat) (wo : Int32) (i : Nat) : Prop := (∀ j, j ≠ 169 → j ≠ 174 → j ≠ 175 → j ≠ 176 → D2 j = D j) ∧ (∀ k, k ≠ 13 → (D2 169).1 k = (D 169).1 k) ∧ (D2 169).2 = (D 169).2 ∧ (D2 174).2 = (D 174).2 ∧ (D2 175).2 = (D 175).2 ∧ (D2 176).2 = (D 176).2 ∧ (D2 169).1 13 = nI (s_last (fun i => m_o (D 170).1 t i 0) (fun i => m_o (D 170).1 t i 1) wo i) ∧ (∀ s, s < 301 → (D2 174).1 s = s_lit (fun i => m_o (D 170).1 t i 0) (fun i => m_o (D 170).1 t i 1) (fun i => m_o (D 170).1 t i 2) wo s i) ∧ (∀ l, l < 4 → (D2 175).1 l = s_by 0 (fun i => m_o (D 170).1 t i 0) (fun i => m_o (D 170).1 t i 1) (fun i => m_o (D 170).1 t i 2) wo l i) ∧ (∀ l, l < 4 → (D2 176).1 l = s_by 1 (fun i => m_o (D 170).1 t i 0) (fun i => m_o (D 170).1 t i 1) (fun i => m_o (D 170).1 t i 2) wo l i)
theorem y_swn3 {p : Nat} (hp : p ≤ 3) : (((nI p).toInt < 0 ∨ 2 < (nI p).toInt) ∧ p = 3) ∨ (nI p = 0 ∧ p = 0) ∨ (nI p = 1 ∧ p = 1) ∨ (nI p = 2 ∧ p = 2) := by
  rcases (show p = 3 ∨ p = 0 ∨ p = 1 ∨ p = 2 by omega) with rfl | rfl | rfl | rfl <;> decide
theorem y_si_1 {D : y_D} {h k j : Nat} {v : Int32} : (y_si D h k v h).1 j = if j = k then v else (D h).1 j := by
  rw [y_si_s]
  rfl
theorem y_si_2 {D : y_D} {h k : Nat} {v : Int32} : (y_si D h k v h).2 = (D h).2 := by rw [y_si_s]
theorem y_sw_1 {D : y_D} {h : Nat} {f : Nat → Int32} : (y_sw D h f h).1 = f := by unfold y_sw; rw [if_pos rfl]
theorem y_sw_2 {D : y_D} {h : Nat} {f : Nat → Int32} : (y_sw D h f h).2 = (D h).2 := by unfold y_sw; rw [if_pos rfl]
theorem y_nb1 : vp_nar .boolean 1 = 1 := rfl
theorem y_nb0 : vp_nar .boolean 0 = 0 := rfl
section R42
variable {D D2 : y_D} {t i : Nat} {wo : Int32}
theorem m_lay_skip (h : m_lay D D2 t wo i) (hw : nI i = wo) : m_lay D D2 t wo (i + 1) := by
  obtain ⟨h1, h2, h3, h3a, h3b, h3c, h4, h5, h6, h7⟩ := h
  refine ⟨h1, h2, h3, h3a, h3b, h3c, ?_, fun s hs => ?_, fun l hl => ?_, fun l hl => ?_⟩
  · rw [h4, s_last, if_neg (fun c => c.1 hw)]
  · rw [h5 s hs]; rw [s_lit, if_neg (fun c => c.1 hw)]
  · rw [h6 l hl]; rw [s_by, if_neg (fun c => c.1 hw)]
  · rw [h7 l hl]; rw [s_by, if_neg (fun c => c.1 hw)]
theorem m_lay_0 (h : m_lay D D2 t wo i) (hw : nI i ≠ wo) (hp : m_o (D 170).1 t i 0 = 0) : m_lay D (y_si D2 175 (m_o (D 170).1 t i 1) (nI (m_o (D 170).1 t i 2))) t wo (i + 1) := by
  obtain ⟨h1, h2, h3, h3a, h3b, h3c, h4, h5, h6, h7⟩ := h
  refine ⟨fun j a b c d => by rw [y_si_ne c]; exact h1 j a b c d, fun k hk => by rw [y_si_ne (by decide)]; exact h2 k hk, by rw [y_si_ne (by decide)]; exact h3, by rw [y_si_ne (by decide)]; exact h3a, by rw [y_si_2]; exact h3b, by rw [y_si_ne (by decide)]; exact h3c, ?_, fun s hs => ?_, fun l hl => ?_, fun l hl => ?_⟩
  · rw [y_si_ne (by decide), h4, s_last, if_neg (by omega)]
  · rw [y_si_ne (by decide), h5 s hs, s_lit, if_neg (by omega)]
  · rw [y_si_1, h6 l hl, s_by]
    by_cases c : l = m_o (D 170).1 t i 1
    · rw [if_pos c, if_pos ⟨hw, hp, c.symm⟩]
    · rw [if_neg c, if_neg (fun q => c q.2.2.symm)]
  · rw [y_si_ne (by decide), h7 l hl, s_by, if_neg (by omega)]
theorem m_lay_1 (h : m_lay D D2 t wo i) (hw : nI i ≠ wo) (hp : m_o (D 170).1 t i 0 = 1) : m_lay D (y_si D2 176 (m_o (D 170).1 t i 1) (nI (m_o (D 170).1 t i 2))) t wo (i + 1) := by
  obtain ⟨h1, h2, h3, h3a, h3b, h3c, h4, h5, h6, h7⟩ := h
  refine ⟨fun j a b c d => by rw [y_si_ne d]; exact h1 j a b c d, fun k hk => by rw [y_si_ne (by decide)]; exact h2 k hk, by rw [y_si_ne (by decide)]; exact h3, by rw [y_si_ne (by decide)]; exact h3a, by rw [y_si_ne (by decide)]; exact h3b, by rw [y_si_2]; exact h3c, ?_, fun s hs => ?_, fun l hl => ?_, fun l hl => ?_⟩
  · rw [y_si_ne (by decide), h4, s_last, if_neg (by omega)]
  · rw [y_si_ne (by decide), h5 s hs, s_lit, if_neg (by omega)]
  · rw [y_si_ne (by decide), h6 l hl, s_by, if_neg (by omega)]
  · rw [y_si_1, h7 l hl, s_by]
    by_cases c : l = m_o (D 170).1 t i 1
    · rw [if_pos c, if_pos ⟨hw, hp, c.symm⟩]
    · rw [if_neg c, if_neg (fun q => c q.2.2.symm)]
theorem m_lay_2 {e : Nat} (h : m_lay D D2 t wo i) (hw : nI i ≠ wo) (hp : m_o (D 170).1 t i 0 = 2) (he : e = m_o (D 170).1 t i 2 ∨ (e = m_o (D 170).1 t i 1 ∧ m_o (D 170).1 t i 2 ≤ e)) : m_lay D (y_sw D2 174 (y_lit (D2 174).1 (m_o (D 170).1 t i 1) e)) t wo (i + 1) := by
  obtain ⟨h1, h2, h3, h3a, h3b, h3c, h4, h5, h6, h7⟩ := h
  refine ⟨fun j a b c d => by rw [y_sw_ne b]; exact h1 j a b c d, fun k hk => by rw [y_sw_ne (by decide)]; exact h2 k hk, by rw [y_sw_ne (by decide)]; exact h3, by rw [y_sw_2]; exact h3a, by rw [y_sw_ne (by decide)]; exact h3b, by rw [y_sw_ne (by decide)]; exact h3c, ?_, fun s hs => ?_, fun l hl => ?_, fun l hl => ?_⟩
  · rw [y_sw_ne (by decide), h4, s_last, if_neg (by omega)]
  · rw [y_sw_1]
    unfold y_lit
    rw [s_lit]
    by_cases c : m_o (D 170).1 t i 1 ≤ s ∧ s < e
    · rw [if_pos c, if_pos ⟨hw, hp, c.1, by omega⟩]
    · rw [if_neg c, if_neg (fun q => c ⟨q.2.2.1, by omega⟩), h5 s hs]
  · rw [y_sw_ne (by decide), h6 l hl, s_by, if_neg (by omega)]
  · rw [y_sw_ne (by decide), h7 l hl, s_by, if_neg (by omega)]
theorem m_lay_3 (h : m_lay D D2 t wo i) (hw : nI i ≠ wo) (hp : m_o (D 170).1 t i 0 = 3) : m_lay D (y_si D2 169 13 (nI (m_o (D 170).1 t i 1))) t wo (i + 1) := by
  obtain ⟨h1, h2, h3, h3a, h3b, h3c, h4, h5, h6, h7⟩ := h
  refine ⟨fun j a b c d => by rw [y_si_ne a]; exact h1 j a b c d, fun k hk => by rw [y_si_1, if_neg hk]; exact h2 k hk, by rw [y_si_2]; exact h3, by rw [y_si_ne (by decide)]; exact h3a, by rw [y_si_ne (by decide)]; exact h3b, by rw [y_si_ne (by decide)]; exact h3c, ?_, fun s hs => ?_, fun l hl => ?_, fun l hl => ?_⟩
  · rw [y_si_1, if_pos rfl, s_last, if_pos ⟨hw, hp⟩]
  · rw [y_si_ne (by decide), h5 s hs, s_lit, if_neg (by omega)]
  · rw [y_si_ne (by decide), h6 l hl, s_by, if_neg (by omega)]
  · rw [y_si_ne (by decide), h7 l hl, s_by, if_neg (by omega)]
theorem m_lay_z : m_lay D (y_sw (y_sw (y_sw (y_si D 169 13 120) 174 (y_cp (fun _ => 0) (D 174).1 301)) 175 (y_cp (fun _ => -1) (D 175).1 4)) 176 (y_cp (fun _ => -1) (D 176).1 4)) t wo 0 := by
  refine ⟨fun j a b c d => by rw [y_sw_ne d, y_sw_ne c, y_sw_ne b, y_si_ne a], fun k hk => ?_, ?_, ?_, ?_, ?_, ?_, fun s hs => ?_, fun l hl => ?_, fun l hl => ?_⟩
  · rw [y_sw_ne (by decide), y_sw_ne (by decide), y_sw_ne (by decide), y_si_1, if_neg hk]
  · rw [y_sw_ne (by decide), y_sw_ne (by decide), y_sw_ne (by decide), y_si_2]
  · rw [y_sw_ne (by decide), y_sw_ne (by decide), y_sw_2, y_si_ne (by decide)]
  · rw [y_sw_ne (by decide), y_sw_2, y_sw_ne (by decide), y_si_ne (by decide)]
  · rw [y_sw_2, y_sw_ne (by decide), y_sw_ne (by decide), y_si_ne (by decide)]
  · rw [y_sw_ne (by decide), y_sw_ne (by decide), y_sw_ne (by decide), y_si_1, if_pos rfl]; rfl
  · rw [y_sw_ne (by decide), y_sw_ne (by decide), y_sw_1]; unfold y_cp; rw [if_pos hs]; rfl
  · rw [y_sw_ne (by decide), y_sw_1]; unfold y_cp; rw [if_pos hl]; rfl
  · rw [y_sw_1]; unfold y_cp; rw [if_pos hl]; rfl
end R42
theorem y_x175 {D : y_D} {f g : Nat → Int32} {k : Nat} {v w : Int32} : y_si (y_si (y_sw (y_sw D 175 f) 176 g) 175 k v) 176 k w = y_si (y_sw (y_sw D 175 (upd f k v)) 176 g) 176 k w := by
  funext j
  by_cases c : j = 176
  · subst c; rfl
  · rw [y_si_ne c, y_si_ne c, y_sw_ne c]
    by_cases c2 : j = 175
    · subst c2; rfl
    · rw [y_si_ne c2, y_sw_ne c, y_sw_ne c2, y_sw_ne c2]
theorem y_x176 {D : y_D} {g : Nat → Int32} {k : Nat} {w : Int32} : y_si (y_sw D 176 g) 176 k w = y_sw D 176 (upd g k w) := y_si_sw
theorem y_sw_self2 {D : y_D} : y_sw (y_sw (y_sw (y_si D 169 13 120) 174 (y_cp (fun _ => 0) (D 174).1 301)) 175 (D 175).1) 176 (D 176).1 = y_sw (y_si D 169 13 120) 174 (y_cp (fun _ => 0) (D 174).1 301) := by
  funext j
  by_cases c : j = 176
  · subst c; rfl
  · rw [y_sw_ne c]
    by_cases c2 : j = 175
    · subst c2; rfl
    · rw [y_sw_ne c2]
theorem c_laysOut {V : x_E} {n : Nat} {L : List Nat} {D : y_D} {t : Nat} {wo : Int32} (hL : y_ok L) (ht : t < 4) (hw : m_wr (D 170).1 t) : y_Rv V yX11_laysOut cX11_laysOut 7 none 3 [.ref 169, .int (nI t), .int wo] n L D (fun D2 => m_lay D D2 t wo (m_k (D 170).1 t)) := by
  refine y_rv (by decide) (Nat.le_of_ble_eq_true rfl) (fun E hE => ?_)
  change E 0 0 0 [(0, .ref 169), (1, .int (nI t)), (2, .int wo)] [] (y_mk n L D)
  have l3 : ∀ (i : Nat) (D8 : y_D), i ≤ m_k (D 170).1 t → m_lay D D8 t wo i → E 0 0 57 [(0, .ref 169), (1, .int (nI t)), (2, .int wo), (3, .int (nI i))] [] (y_mk n L D8) := by
    intro i D8
    induction hm9 : (m_k (D 170).1 t - i) using Nat.strongRecOn generalizing i D8 with
    | _ m9 ih =>
      intro hi fr
      have hk9 : m_k (D 170).1 t ≤ 10 := hw.1.2
      refine r_iload_n hE dX11_laysOut_57 rfl ?_
      refine r_aload_n hE dX11_laysOut_58 rfl ?_
      refine r_iload_n hE dX11_laysOut_59 rfl ?_
      refine t_invv (r := (some (.int ((D8 170).1 (237 + 851 * t))))) (S2 := (y_mk n L D8)) hE [.int (nI t)] (c_lines hL (by omega)) v_yX11_lines m_X11_252 dX11_laysOut_60 rfl (hL 169 (by decide)) (y_l_169 (D8 169)) rfl (by decide) ⟨Nat.le_refl _, Nat.le_refl _⟩ (Nat.le_of_ble_eq_true rfl) ?_
      show E 0 0 63 [(0, .ref 169), (1, .int (nI t)), (2, .int wo), (3, .int (nI i))] [.int ((D8 170).1 (237 + 851 * t)), .int (nI i)] (y_mk n L D8)
      refine r_top (y := (nI (m_k (D 170).1 t))) (by rw [fr.1 170 (by decide) (by decide) (by decide) (by decide)]; exact hw.1.1) ?_
      refine r_icmp_geN (a := i) (b := m_k (D 170).1 t) (tgt := 188) hE dX11_laysOut_63 (by decide) (by omega) (by omega) (fun c63 => ?_) (fun c63 => ?_)
      · refine r_return hE dX11_laysOut_188 rfl (Nat.zero_le _) (Nat.zero_le _) ?_
        have hi2 : i = m_k (D 170).1 t := by omega
        rw [hi2] at fr
        exact ⟨_, rfl, rfl, fr⟩
      · refine r_iload_n hE dX11_laysOut_66 rfl ?_
        refine r_iload_n hE dX11_laysOut_67 rfl ?_
        refine r_icmp_ne (tgt := 74) hE dX11_laysOut_68 (by decide) (fun c68 => ?_) (fun c68 => ?_)
        · have hln := hw.2 i (by omega)
          have hn0 : m_o (D 170).1 t i 0 ≤ 3 := hln.1.2
          have hn1 : m_o (D 170).1 t i 1 ≤ 999 := hln.2.1.2
          have hn2 : m_o (D 170).1 t i 2 ≤ 999 := hln.2.2.1.2
          refine r_aload_n hE dX11_laysOut_74 rfl ?_
          refine r_iload_n hE dX11_laysOut_75 rfl ?_
          refine r_iload_n hE dX11_laysOut_76 rfl ?_
          refine r_iconst (v := 1) hE dX11_laysOut_77 (by decide) ?_
          refine t_invv (r := (some (.int ((D8 170).1 (237 + 851 * t + 1 + 5 * i + 1))))) (S2 := (y_mk n L D8)) hE [.int (nI t), .int (nI i), .int 1] (c_of hL (by omega) (by omega) (by decide)) v_yX11_of m_X11_255 dX11_laysOut_78 rfl (hL 169 (by decide)) (y_l_169 (D8 169)) rfl (by decide) ⟨Nat.le_refl _, Nat.le_refl _⟩ (Nat.le_of_ble_eq_true rfl) ?_
          show E 0 0 81 [(0, .ref 169), (1, .int (nI t)), (2, .int wo), (3, .int (nI i))] [.int ((D8 170).1 (237 + 851 * t + 1 + 5 * i + 1))] (y_mk n L D8)
          refine r_top (y := (nI (m_o (D 170).1 t i 1))) (by rw [fr.1 170 (by decide) (by decide) (by decide) (by decide)]; exact hln.2.1.1) ?_
          refine r_istore (ls2 := [(0, .ref 169), (1, .int (nI t)), (2, .int wo), (3, .int (nI i)), (4, .int (nI (m_o (D 170).1 t i 1)))]) hE dX11_laysOut_81 (by decide) rfl ?_
          refine r_aload_n hE dX11_laysOut_83 rfl ?_
          refine r_iload_n hE dX11_laysOut_84 rfl ?_
          refine r_iload_n hE dX11_laysOut_85 rfl ?_
          refine r_iconst (v := 2) hE dX11_laysOut_86 (by decide) ?_
          refine t_invv (r := (some (.int ((D8 170).1 (237 + 851 * t + 1 + 5 * i + 2))))) (S2 := (y_mk n L D8)) hE [.int (nI t), .int (nI i), .int 2] (c_of hL (by omega) (by omega) (by decide)) v_yX11_of m_X11_255 dX11_laysOut_87 rfl (hL 169 (by decide)) (y_l_169 (D8 169)) rfl (by decide) ⟨Nat.le_refl _, Nat.le_refl _⟩ (Nat.le_of_ble_eq_true rfl) ?_
          show E 0 0 90 [(0, .ref 169), (1, .int (nI t)), (2, .int wo), (3, .int (nI i)), (4, .int (nI (m_o (D 170).1 t i 1)))] [.int ((D8 170).1 (237 + 851 * t + 1 + 5 * i + 2))] (y_mk n L D8)
          refine r_top (y := (nI (m_o (D 170).1 t i 2))) (by rw [fr.1 170 (by decide) (by decide) (by decide) (by decide)]; exact hln.2.2.1.1) ?_
          refine r_istore (ls2 := [(0, .ref 169), (1, .int (nI t)), (2, .int wo), (3, .int (nI i)), (4, .int (nI (m_o (D 170).1 t i 1))), (5, .int (nI (m_o (D 170).1 t i 2)))]) hE dX11_laysOut_90 (by decide) rfl ?_
          refine r_aload_n hE dX11_laysOut_92 rfl ?_
          refine r_iload_n hE dX11_laysOut_93 rfl ?_
          refine r_iload_n hE dX11_laysOut_94 rfl ?_
          refine t_invv (r := (some (.int ((D8 170).1 (237 + 851 * t + 1 + 5 * i))))) (S2 := (y_mk n L D8)) hE [.int (nI t), .int (nI i)] (c_sortOf hL (by omega) (by omega)) v_yX11_sortOf m_X11_259 dX11_laysOut_95 rfl (hL 169 (by decide)) (y_l_169 (D8 169)) rfl (by decide) ⟨Nat.le_refl _, Nat.le_refl _⟩ (Nat.le_of_ble_eq_true rfl) ?_
          show E 0 0 98 [(0, .ref 169), (1, .int (nI t)), (2, .int wo), (3, .int (nI i)), (4, .int (nI (m_o (D 170).1 t i 1))), (5, .int (nI (m_o (D 170).1 t i 2)))] [.int ((D8 170).1 (237 + 851 * t + 1 + 5 * i))] (y_mk n L D8)
          refine r_top (y := (nI (m_o (D 170).1 t i 0))) (by rw [fr.1 170 (by decide) (by decide) (by decide) (by decide)]; exact hln.1.1) ?_
          rcases y_swn3 hn0 with ⟨h98, e98⟩ | ⟨h98, e98⟩ | ⟨h98, e98⟩ | ⟨h98, e98⟩
          · refine r_tsout (tgt := 176) hE dX11_laysOut_98 h98 (by decide) ?_
            refine r_aload_n hE dX11_laysOut_176 rfl ?_
            refine r_iload hE dX11_laysOut_177 rfl ?_
            refine t_puti hE f_X11_249 y_I_169_13 dX11_laysOut_179 (hL 169 (by decide)) rfl rfl ?_
            refine r_iincN (a := i) (b := 1) (ls2 := [(0, .ref 169), (1, .int (nI t)), (2, .int wo), (3, .int (nI (i + 1))), (4, .int (nI (m_o (D 170).1 t i 1))), (5, .int (nI (m_o (D 170).1 t i 2)))]) hE dX11_laysOut_182 rfl rfl (by decide) rfl ?_
            refine r_goto (tgt := 57) hE dX11_laysOut_185 (by decide) ?_
            refine r_locs hE (ls2 := [(0, .ref 169), (1, .int (nI t)), (2, .int wo), (3, .int (nI (i + 1)))]) ?_ (ih (m_k (D 170).1 t - (i + 1)) (by omega) (i + 1) _ rfl (by omega) (m_lay_3 fr c68 e98))
            simp [x_lk]
          · refine r_top (y := 0) h98 ?_
            refine r_tsin (tgt := 124) hE dX11_laysOut_98 (by decide) (by decide) rfl (by decide) ?_
            refine r_aload_n hE dX11_laysOut_124 rfl ?_
            refine t_getr hE f_X11_34 y_R_169_15 dX11_laysOut_125 (hL 169 (by decide)) ?_
            refine r_iload hE dX11_laysOut_128 rfl ?_
            refine r_iload hE dX11_laysOut_130 rfl ?_
            refine t_iastN (e := m_o (D 170).1 t i 1) hE y_A_175 dX11_laysOut_132 (hL 175 (by decide)) (by have := hln.2.2.2.1 (by omega); omega) (by decide) ?_
            refine r_goto (tgt := 182) hE dX11_laysOut_133 (by decide) ?_
            refine r_iincN (a := i) (b := 1) (ls2 := [(0, .ref 169), (1, .int (nI t)), (2, .int wo), (3, .int (nI (i + 1))), (4, .int (nI (m_o (D 170).1 t i 1))), (5, .int (nI (m_o (D 170).1 t i 2)))]) hE dX11_laysOut_182 rfl rfl (by decide) rfl ?_
            refine r_goto (tgt := 57) hE dX11_laysOut_185 (by decide) ?_
            refine r_locs hE (ls2 := [(0, .ref 169), (1, .int (nI t)), (2, .int wo), (3, .int (nI (i + 1)))]) ?_ (ih (m_k (D 170).1 t - (i + 1)) (by omega) (i + 1) _ rfl (by omega) (m_lay_0 fr c68 e98))
            simp [x_lk]
          · refine r_top (y := 1) h98 ?_
            refine r_tsin (tgt := 136) hE dX11_laysOut_98 (by decide) (by decide) rfl (by decide) ?_
            refine r_aload_n hE dX11_laysOut_136 rfl ?_
            refine t_getr hE f_X11_37 y_R_169_16 dX11_laysOut_137 (hL 169 (by decide)) ?_
            refine r_iload hE dX11_laysOut_140 rfl ?_
            refine r_iload hE dX11_laysOut_142 rfl ?_
            refine t_iastN (e := m_o (D 170).1 t i 1) hE y_A_176 dX11_laysOut_144 (hL 176 (by decide)) (by have := hln.2.2.2.1 (by omega); omega) (by decide) ?_
            refine r_goto (tgt := 182) hE dX11_laysOut_145 (by decide) ?_
            refine r_iincN (a := i) (b := 1) (ls2 := [(0, .ref 169), (1, .int (nI t)), (2, .int wo), (3, .int (nI (i + 1))), (4, .int (nI (m_o (D 170).1 t i 1))), (5, .int (nI (m_o (D 170).1 t i 2)))]) hE dX11_laysOut_182 rfl rfl (by decide) rfl ?_
            refine r_goto (tgt := 57) hE dX11_laysOut_185 (by decide) ?_
            refine r_locs hE (ls2 := [(0, .ref 169), (1, .int (nI t)), (2, .int wo), (3, .int (nI (i + 1)))]) ?_ (ih (m_k (D 170).1 t - (i + 1)) (by omega) (i + 1) _ rfl (by omega) (m_lay_1 fr c68 e98))
            simp [x_lk]
          · refine r_top (y := 2) h98 ?_
            refine r_tsin (tgt := 148) hE dX11_laysOut_98 (by decide) (by decide) rfl (by decide) ?_
            refine r_iload hE dX11_laysOut_148 rfl ?_
            refine r_istore (ls2 := [(0, .ref 169), (1, .int (nI t)), (2, .int wo), (3, .int (nI i)), (4, .int (nI (m_o (D 170).1 t i 1))), (5, .int (nI (m_o (D 170).1 t i 2))), (6, .int (nI (m_o (D 170).1 t i 1)))]) hE dX11_laysOut_150 (by decide) rfl ?_
            have hb3 := hln.2.2.2.2.2.1 e98
            have l4 : ∀ (e : Nat), m_o (D 170).1 t i 1 ≤ e → e ≤ m_o (D 170).1 t i 2 ∨ e = m_o (D 170).1 t i 1 → E 0 0 152 [(0, .ref 169), (1, .int (nI t)), (2, .int wo), (3, .int (nI i)), (4, .int (nI (m_o (D 170).1 t i 1))), (5, .int (nI (m_o (D 170).1 t i 2))), (6, .int (nI e))] [] (y_mk n L (y_sw D8 174 (y_lit (D8 174).1 (m_o (D 170).1 t i 1) e))) := by
              intro e
              induction hm8 : (m_o (D 170).1 t i 2 - e) using Nat.strongRecOn generalizing e with
              | _ m8 ih4 =>
                intro he he2
                refine r_iload hE dX11_laysOut_152 rfl ?_
                refine r_iload hE dX11_laysOut_154 rfl ?_
                refine r_icmp_geN (a := e) (b := m_o (D 170).1 t i 2) (tgt := 173) hE dX11_laysOut_156 (by decide) (by omega) (by omega) (fun c156 => ?_) (fun c156 => ?_)
                · refine r_goto (tgt := 182) hE dX11_laysOut_173 (by decide) ?_
                  refine r_iincN (a := i) (b := 1) (ls2 := [(0, .ref 169), (1, .int (nI t)), (2, .int wo), (3, .int (nI (i + 1))), (4, .int (nI (m_o (D 170).1 t i 1))), (5, .int (nI (m_o (D 170).1 t i 2))), (6, .int (nI e))]) hE dX11_laysOut_182 rfl rfl (by decide) rfl ?_
                  refine r_goto (tgt := 57) hE dX11_laysOut_185 (by decide) ?_
                  refine r_locs hE (ls2 := [(0, .ref 169), (1, .int (nI t)), (2, .int wo), (3, .int (nI (i + 1)))]) ?_ (ih (m_k (D 170).1 t - (i + 1)) (by omega) (i + 1) _ rfl (by omega) (m_lay_2 fr c68 e98 (by omega)))
                  simp [x_lk]
                · refine r_aload_n hE dX11_laysOut_159 rfl ?_
                  refine t_getr hE f_X11_30 y_R_169_14 dX11_laysOut_160 (hL 169 (by decide)) ?_
                  refine r_iload hE dX11_laysOut_163 rfl ?_
                  refine r_iconst (v := 1) hE dX11_laysOut_165 (by decide) ?_
                  refine t_zastN (e := e) hE y_A_174 dX11_laysOut_166 (hL 174 (by decide)) (by omega) (by decide) ?_
                  refine r_iincN (a := e) (b := 1) (ls2 := [(0, .ref 169), (1, .int (nI t)), (2, .int wo), (3, .int (nI i)), (4, .int (nI (m_o (D 170).1 t i 1))), (5, .int (nI (m_o (D 170).1 t i 2))), (6, .int (nI (e + 1)))]) hE dX11_laysOut_167 rfl rfl (by decide) rfl ?_
                  refine r_goto (tgt := 152) hE dX11_laysOut_170 (by decide) ?_
                  rw [y_si_sw, y_nb1, y_lit_s he]
                  exact ih4 (m_o (D 170).1 t i 2 - (e + 1)) (by omega) (e + 1) rfl (by omega) (by omega)
            have h0 := l4 (m_o (D 170).1 t i 1) (by omega) (Or.inr rfl)
            rw [y_lit_0, y_sw_self] at h0
            exact h0
        · refine r_goto (tgt := 182) hE dX11_laysOut_71 (by decide) ?_
          refine r_iincN (a := i) (b := 1) (ls2 := [(0, .ref 169), (1, .int (nI t)), (2, .int wo), (3, .int (nI (i + 1)))]) hE dX11_laysOut_182 rfl rfl (by decide) rfl ?_
          refine r_goto (tgt := 57) hE dX11_laysOut_185 (by decide) ?_
          refine r_locs hE (ls2 := [(0, .ref 169), (1, .int (nI t)), (2, .int wo), (3, .int (nI (i + 1)))]) ?_ (ih (m_k (D 170).1 t - (i + 1)) (by omega) (i + 1) _ rfl (by omega) (m_lay_skip fr c68))
          simp [x_lk]
  have l2 : ∀ (i : Nat), i ≤ 4 → E 0 0 30 [(0, .ref 169), (1, .int (nI t)), (2, .int wo), (3, .int (nI i))] [] (y_mk n L (y_sw (y_sw (y_sw (y_si D 169 13 120) 174 (y_cp (fun _ => 0) (D 174).1 301)) 175 (y_cp (fun _ => -1) (D 175).1 i)) 176 (y_cp (fun _ => -1) (D 176).1 i))) := by
    intro i
    induction hm9 : (4 - i) using Nat.strongRecOn generalizing i with
    | _ m9 ih =>
      intro hi
      refine r_iload_n hE dX11_laysOut_30 rfl ?_
      refine r_iconst (v := 4) hE dX11_laysOut_31 (by decide) ?_
      refine r_icmp_geN (a := i) (b := 4) (tgt := 55) hE dX11_laysOut_32 (by decide) (by omega) (by decide) (fun c32 => ?_) (fun c32 => ?_)
      · refine r_iconst (v := 0) hE dX11_laysOut_55 (by decide) ?_
        refine r_istore_n (ls2 := [(0, .ref 169), (1, .int (nI t)), (2, .int wo), (3, .int 0)]) hE dX11_laysOut_56 (by decide) rfl ?_
        have hi2 : i = 4 := by omega
        subst hi2
        exact l3 0 _ (by omega) m_lay_z
      · refine r_aload_n hE dX11_laysOut_35 rfl ?_
        refine t_getr hE f_X11_34 y_R_169_15 dX11_laysOut_36 (hL 169 (by decide)) ?_
        refine r_iload_n hE dX11_laysOut_39 rfl ?_
        refine r_iconst (v := (-1)) hE dX11_laysOut_40 (by decide) ?_
        refine t_iastN (e := i) hE y_A_175 dX11_laysOut_41 (hL 175 (by decide)) (by omega) (by decide) ?_
        refine r_aload_n hE dX11_laysOut_42 rfl ?_
        refine t_getr hE f_X11_37 y_R_169_16 dX11_laysOut_43 (hL 169 (by decide)) ?_
        refine r_iload_n hE dX11_laysOut_46 rfl ?_
        refine r_iconst (v := (-1)) hE dX11_laysOut_47 (by decide) ?_
        refine t_iastN (e := i) hE y_A_176 dX11_laysOut_48 (hL 176 (by decide)) (by omega) (by decide) ?_
        refine r_iincN (a := i) (b := 1) (ls2 := [(0, .ref 169), (1, .int (nI t)), (2, .int wo), (3, .int (nI (i + 1)))]) hE dX11_laysOut_49 rfl rfl (by decide) rfl ?_
        refine r_goto (tgt := 30) hE dX11_laysOut_52 (by decide) ?_
        rw [y_x175, y_x176, y_cp_s (f := fun _ => -1), y_cp_s (f := fun _ => -1)]
        exact ih (4 - (i + 1)) (by omega) (i + 1) rfl (by omega)
  have l1 : ∀ (i : Nat), i ≤ 301 → E 0 0 8 [(0, .ref 169), (1, .int (nI t)), (2, .int wo), (3, .int (nI i))] [] (y_mk n L (y_sw (y_si D 169 13 120) 174 (y_cp (fun _ => 0) (D 174).1 i))) := by
    intro i
    induction hm9 : (301 - i) using Nat.strongRecOn generalizing i with
    | _ m9 ih =>
      intro hi
      refine r_iload_n hE dX11_laysOut_8 rfl ?_
      refine r_sipush (v := 301) hE dX11_laysOut_9 (by decide) ?_
      refine r_icmp_geN (a := i) (b := 301) (tgt := 28) hE dX11_laysOut_12 (by decide) (by omega) (by decide) (fun c12 => ?_) (fun c12 => ?_)
      · refine r_iconst (v := 0) hE dX11_laysOut_28 (by decide) ?_
        refine r_istore_n (ls2 := [(0, .ref 169), (1, .int (nI t)), (2, .int wo), (3, .int 0)]) hE dX11_laysOut_29 (by decide) rfl ?_
        have hi2 : i = 301 := by omega
        subst hi2
        have h0 := l2 0 (by omega)
        rw [y_cp_0, y_cp_0, y_sw_self2] at h0
        exact h0
      · refine r_aload_n hE dX11_laysOut_15 rfl ?_
        refine t_getr hE f_X11_30 y_R_169_14 dX11_laysOut_16 (hL 169 (by decide)) ?_
        refine r_iload_n hE dX11_laysOut_19 rfl ?_
        refine r_iconst (v := 0) hE dX11_laysOut_20 (by decide) ?_
        refine t_zastN (e := i) hE y_A_174 dX11_laysOut_21 (hL 174 (by decide)) (by omega) (by decide) ?_
        refine r_iincN (a := i) (b := 1) (ls2 := [(0, .ref 169), (1, .int (nI t)), (2, .int wo), (3, .int (nI (i + 1)))]) hE dX11_laysOut_22 rfl rfl (by decide) rfl ?_
        refine r_goto (tgt := 8) hE dX11_laysOut_25 (by decide) ?_
        rw [y_si_sw, y_nb0]
        rw [y_cp_s (f := fun _ => 0)]
        exact ih (301 - (i + 1)) (by omega) (i + 1) rfl (by omega)
  refine r_aload_n hE dX11_laysOut_0 rfl ?_
  refine r_bipush (v := 120) hE dX11_laysOut_1 (by decide) ?_
  refine t_puti hE f_X11_249 y_I_169_13 dX11_laysOut_3 (hL 169 (by decide)) rfl rfl ?_
  refine r_iconst (v := 0) hE dX11_laysOut_6 (by decide) ?_
  refine r_istore_n (ls2 := [(0, .ref 169), (1, .int (nI t)), (2, .int wo), (3, .int 0)]) hE dX11_laysOut_7 (by decide) rfl ?_
  have h0 := l1 0 (by omega)
  rw [y_cp_0, show (D 174).1 = ((y_si D 169 13 120) 174).1 from rfl, y_sw_self] at h0
  exact h0
/-- the number c of the PERSON that h tells -/
def m_per (W : Nat → Int32) (h : Int32) (c : Nat) : Int32 := if 0 ≤ h ∧ h ≤ W 0 - 1 then W (12 + 2 * h.toNatClampNeg + c) else 0
abbrev m_hd (x : Int32) : Prop := x = -1 ∨ ∃ b : Nat, x = nI b ∧ b < 8
theorem c_ofHolder {V : x_E} {n : Nat} {L : List Nat} {D : y_D} {l c : Nat} (hL : y_ok L) (hl : l < 4) (hc : c < 2) (hh : m_hd ((D 175).1 l)) : x_Fn V yX11_ofHolder cX11_ofHolder 3 (some .int) 2 [.ref 169, .int (nI l), .int (nI c)] (y_mk n L D) (some (.int (m_per (D 170).1 ((D 175).1 l) c))) (y_mk n L D) := by
  refine x_fn (by decide) (Nat.le_of_ble_eq_true rfl) (fun E hE => ?_)
  change E 0 0 0 [(0, .ref 169), (1, .int (nI l)), (2, .int (nI c))] [] (y_mk n L D)
  rcases hh with hh | ⟨b, hh, hb⟩
  · refine r_aload_n hE dX11_ofHolder_0 rfl ?_
    refine t_getr hE f_X11_34 y_R_169_15 dX11_ofHolder_1 (hL 169 (by decide)) ?_
    refine r_iload_n hE dX11_ofHolder_4 rfl ?_
    refine t_ialdN (e := l) hE y_A_175 dX11_ofHolder_5 (hL 175 (by decide)) (by omega) (by decide) ?_
    refine r_top (y := (-1)) hh ?_
    refine r_if_lt (tgt := 23) hE dX11_ofHolder_6 (by decide) (fun _ => ?_) (fun c6 => by first | exact absurd c6 (by decide) | exact absurd (by decide) c6)
    refine r_iconst (v := 0) hE dX11_ofHolder_23 (by decide) ?_
    refine r_goto (tgt := 45) hE dX11_ofHolder_24 (by decide) ?_
    refine r_ireturn hE dX11_ofHolder_45 rfl rfl (Nat.zero_le _) (Nat.zero_le _) ?_
    refine ⟨?_, rfl⟩
    rw [hh]
    rfl
  · refine r_aload_n hE dX11_ofHolder_0 rfl ?_
    refine t_getr hE f_X11_34 y_R_169_15 dX11_ofHolder_1 (hL 169 (by decide)) ?_
    refine r_iload_n hE dX11_ofHolder_4 rfl ?_
    refine t_ialdN (e := l) hE y_A_175 dX11_ofHolder_5 (hL 175 (by decide)) (by omega) (by decide) ?_
    refine r_top (y := (nI b)) hh ?_
    refine r_if_lt (tgt := 23) hE dX11_ofHolder_6 (by decide) (fun c6 => absurd c6 (nI_pos (by omega))) (fun _ => ?_)
    refine r_aload_n hE dX11_ofHolder_9 rfl ?_
    refine r_aload_n hE dX11_ofHolder_10 rfl ?_
    refine t_getr hE f_X11_34 y_R_169_15 dX11_ofHolder_11 (hL 169 (by decide)) ?_
    refine r_iload_n hE dX11_ofHolder_14 rfl ?_
    refine t_ialdN (e := l) hE y_A_175 dX11_ofHolder_15 (hL 175 (by decide)) (by omega) (by decide) ?_
    refine r_top (y := (nI b)) hh ?_
    refine r_iconst (v := 0) hE dX11_ofHolder_16 (by decide) ?_
    refine t_invv (r := (some (.int (y_b (¬ (0 ≤ (nI b) ∧ (nI b) ≤ (D 170).1 0 - 1)))))) (S2 := (y_mk n L D)) hE [.int (nI b), .int 0] (c_none (c := 0) hL (by decide)) v_yX11_none m_X11_262 dX11_ofHolder_17 rfl (hL 169 (by decide)) (y_l_169 (D 169)) rfl (by decide) ⟨Nat.le_refl _, Nat.le_refl _⟩ (Nat.le_of_ble_eq_true rfl) ?_
    show E 0 0 20 [(0, .ref 169), (1, .int (nI l)), (2, .int (nI c))] [.int (y_b (¬ (0 ≤ (nI b) ∧ (nI b) ≤ (D 170).1 0 - 1)))] (y_mk n L D)
    refine r_ifb_eq (tgt := 27) hE dX11_ofHolder_20 (by decide) (fun c20 => ?_) (fun c20 => ?_)
    · refine r_aload_n hE dX11_ofHolder_27 rfl ?_
      refine t_getr hE f_X11_13 y_R_169_1 dX11_ofHolder_28 (hL 169 (by decide)) ?_
      refine r_bipush (v := 12) hE dX11_ofHolder_31 (by decide) ?_
      refine r_iconst (v := 2) hE dX11_ofHolder_33 (by decide) ?_
      refine r_aload_n hE dX11_ofHolder_34 rfl ?_
      refine t_getr hE f_X11_34 y_R_169_15 dX11_ofHolder_35 (hL 169 (by decide)) ?_
      refine r_iload_n hE dX11_ofHolder_38 rfl ?_
      refine t_ialdN (e := l) hE y_A_175 dX11_ofHolder_39 (hL 175 (by decide)) (by omega) (by decide) ?_
      refine r_top (y := (nI b)) hh ?_
      refine r_imulN (a := 2) (b := b) hE dX11_ofHolder_40 ?_
      refine r_iaddN (a := 12) (b := 2 * b) hE dX11_ofHolder_41 ?_
      refine r_iload_n hE dX11_ofHolder_42 rfl ?_
      refine r_iaddN (a := 12 + (2 * b)) (b := c) hE dX11_ofHolder_43 ?_
      refine t_ialdN (e := (12 + (2 * b)) + c) hE y_A_170 dX11_ofHolder_44 (hL 170 (by decide)) (by omega) (by decide) ?_
      refine r_ireturn hE dX11_ofHolder_45 rfl rfl (Nat.zero_le _) (Nat.zero_le _) ?_
      refine ⟨congrArg (fun z => some (Value.int z)) ?_, rfl⟩
      rw [hh]
      unfold m_per
      first | rw [if_neg c20] | rw [if_pos (Decidable.of_not_not c20), nI_clamp (by omega)]
    · refine r_iconst (v := 0) hE dX11_ofHolder_23 (by decide) ?_
      refine r_goto (tgt := 45) hE dX11_ofHolder_24 (by decide) ?_
      refine r_ireturn hE dX11_ofHolder_45 rfl rfl (Nat.zero_le _) (Nat.zero_le _) ?_
      refine ⟨congrArg (fun z => some (Value.int z)) ?_, rfl⟩
      rw [hh]
      unfold m_per
      first | rw [if_neg c20] | rw [if_pos (Decidable.of_not_not c20), nI_clamp (by omega)]
def m_ask (D : y_D) (p q x f : Nat) (hl : Int32) : Int32 := if p = 0 then nI x else if p = 1 then nI (y_pop f) else if p = 2 then m_per (D 170).1 ((D 175).1 q) 0 else if p = 3 then (if (D 176).1 q < 0 then 99 else (D 176).1 q) else if p = 10 then nI q else if p = 4 then y_b ((D 174).1 x = 0) else if p = 5 then y_b (hl ≠ 0) else if p = 6 then y_b (y_bit (nI f) q) else if p = 7 then y_b (0 ≤ (D 175).1 q) else if p = 8 then y_b (0 ≤ (D 176).1 q) else y_b (0 ≤ (D 175).1 q ∧ m_per (D 170).1 ((D 175).1 q) 1 ≤ nI x)
theorem y_swn10 {p : Nat} (hp : p ≤ 10) : (((nI p).toInt < 0 ∨ 10 < (nI p).toInt) ∧ p = 11) ∨ (nI p = 0 ∧ p = 0) ∨ (nI p = 1 ∧ p = 1) ∨ (nI p = 2 ∧ p = 2) ∨ (nI p = 3 ∧ p = 3) ∨ (nI p = 4 ∧ p = 4) ∨ (nI p = 5 ∧ p = 5) ∨ (nI p = 6 ∧ p = 6) ∨ (nI p = 7 ∧ p = 7) ∨ (nI p = 8 ∧ p = 8) ∨ (nI p = 9 ∧ p = 9) ∨ (nI p = 10 ∧ p = 10) := by
  rcases (show p = 0 ∨ p = 1 ∨ p = 2 ∨ p = 3 ∨ p = 4 ∨ p = 5 ∨ p = 6 ∨ p = 7 ∨ p = 8 ∨ p = 9 ∨ p = 10 by omega) with rfl | rfl | rfl | rfl | rfl | rfl | rfl | rfl | rfl | rfl | rfl <;> decide
theorem c_asked {V : x_E} {n : Nat} {L : List Nat} {D : y_D} {p q x f : Nat} {hl : Int32} (hL : y_ok L) (hp : p ≤ 10) (hq : p ≠ 0 ∧ p ≠ 1 ∧ p ≠ 4 ∧ p ≠ 5 ∧ p ≠ 10 → q < 4) (hq2 : q < 2 ^ 31) (hx : x < 301) (hf : f < 16) (hh : q < 4 → m_hd ((D 175).1 q)) : x_Fn V yX11_asked cX11_asked 7 (some .int) 3 [.ref 169, .int (nI p), .int (nI q), .int (nI x), .int (nI f), .int hl] (y_mk n L D) (some (.int (m_ask D p q x f hl))) (y_mk n L D) := by
  refine x_fn (by decide) (Nat.le_of_ble_eq_true rfl) (fun E hE => ?_)
  change E 0 0 0 [(0, .ref 169), (1, .int (nI p)), (2, .int (nI q)), (3, .int (nI x)), (4, .int (nI f)), (5, .int hl)] [] (y_mk n L D)
  refine r_iload_n hE dX11_asked_0 rfl ?_
  rcases y_swn10 hp with ⟨h1, e1⟩ | ⟨h1, e1⟩ | ⟨h1, e1⟩ | ⟨h1, e1⟩ | ⟨h1, e1⟩ | ⟨h1, e1⟩ | ⟨h1, e1⟩ | ⟨h1, e1⟩ | ⟨h1, e1⟩ | ⟨h1, e1⟩ | ⟨h1, e1⟩ | ⟨h1, e1⟩
  · refine r_tsout (tgt := 182) hE dX11_asked_1 h1 (by decide) ?_
    refine r_aload_n hE dX11_asked_182 rfl ?_
    refine t_getr hE f_X11_34 y_R_169_15 dX11_asked_183 (hL 169 (by decide)) ?_
    refine r_iload_n hE dX11_asked_186 rfl ?_
    refine t_ialdN (e := q) hE y_A_175 dX11_asked_187 (hL 175 (by decide)) (by have h9 := hq (by omega); omega) (by decide) ?_
    refine r_if_lt (tgt := 205) hE dX11_asked_188 (by decide) (fun c188 => ?_) (fun c188 => ?_)
    · refine r_iconst (v := 0) hE dX11_asked_205 (by decide) ?_
      refine r_istore (ls2 := [(0, .ref 169), (1, .int (nI p)), (2, .int (nI q)), (3, .int (nI x)), (4, .int (nI f)), (5, .int hl), (6, .int 0)]) hE dX11_asked_206 (by decide) rfl ?_
      refine r_iload hE dX11_asked_208 rfl ?_
      refine r_if_eq (tgt := 217) hE dX11_asked_210 (by decide) (fun _ => ?_) (fun c210 => by first | exact absurd c210 (by decide) | exact absurd (by decide) c210)
      refine r_iconst (v := 0) hE dX11_asked_217 (by decide) ?_
      refine r_ireturn hE dX11_asked_218 rfl rfl (Nat.zero_le _) (Nat.zero_le _) ?_
      refine ⟨congrArg (fun z => some (Value.int z)) ?_, rfl⟩
      first | omega | (subst e1; simp only [m_ask, y_b, ↓reduceIte, Nat.reduceEqDiff]; done) | (subst e1; simp only [m_ask, y_b, ↓reduceIte, Nat.reduceEqDiff]; grind)
    · refine r_aload_n hE dX11_asked_191 rfl ?_
      refine r_iload_n hE dX11_asked_192 rfl ?_
      refine r_iconst (v := 1) hE dX11_asked_193 (by decide) ?_
      refine t_invv (r := (some (.int (m_per (D 170).1 ((D 175).1 q) 1)))) (S2 := (y_mk n L D)) hE [.int (nI q), .int 1] (c_ofHolder (l := q) (c := 1) hL (hq (by omega)) (by decide) (hh (hq (by omega)))) v_yX11_ofHolder m_X11_273 dX11_asked_194 rfl (hL 169 (by decide)) (y_l_169 (D 169)) rfl (by decide) ⟨Nat.le_refl _, Nat.le_refl _⟩ (Nat.le_of_ble_eq_true rfl) ?_
      show E 0 0 197 [(0, .ref 169), (1, .int (nI p)), (2, .int (nI q)), (3, .int (nI x)), (4, .int (nI f)), (5, .int hl)] [.int (m_per (D 170).1 ((D 175).1 q) 1)] (y_mk n L D)
      refine r_iload_n hE dX11_asked_197 rfl ?_
      refine r_icmp_gt (tgt := 205) hE dX11_asked_198 (by decide) (fun c198 => ?_) (fun c198 => ?_)
      · refine r_iconst (v := 0) hE dX11_asked_205 (by decide) ?_
        refine r_istore (ls2 := [(0, .ref 169), (1, .int (nI p)), (2, .int (nI q)), (3, .int (nI x)), (4, .int (nI f)), (5, .int hl), (6, .int 0)]) hE dX11_asked_206 (by decide) rfl ?_
        refine r_iload hE dX11_asked_208 rfl ?_
        refine r_if_eq (tgt := 217) hE dX11_asked_210 (by decide) (fun _ => ?_) (fun c210 => by first | exact absurd c210 (by decide) | exact absurd (by decide) c210)
        refine r_iconst (v := 0) hE dX11_asked_217 (by decide) ?_
        refine r_ireturn hE dX11_asked_218 rfl rfl (Nat.zero_le _) (Nat.zero_le _) ?_
        refine ⟨congrArg (fun z => some (Value.int z)) ?_, rfl⟩
        first | omega | (subst e1; simp only [m_ask, y_b, ↓reduceIte, Nat.reduceEqDiff]; done) | (subst e1; simp only [m_ask, y_b, ↓reduceIte, Nat.reduceEqDiff]; grind)
      · refine r_iconst (v := 1) hE dX11_asked_201 (by decide) ?_
        refine r_goto (tgt := 206) hE dX11_asked_202 (by decide) ?_
        refine r_istore (ls2 := [(0, .ref 169), (1, .int (nI p)), (2, .int (nI q)), (3, .int (nI x)), (4, .int (nI f)), (5, .int hl), (6, .int 1)]) hE dX11_asked_206 (by decide) rfl ?_
        refine r_iload hE dX11_asked_208 rfl ?_
        refine r_if_eq (tgt := 217) hE dX11_asked_210 (by decide) (fun c210 => by first | exact absurd c210 (by decide) | exact absurd (by decide) c210) (fun _ => ?_)
        refine r_iconst (v := 1) hE dX11_asked_213 (by decide) ?_
        refine r_goto (tgt := 218) hE dX11_asked_214 (by decide) ?_
        refine r_ireturn hE dX11_asked_218 rfl rfl (Nat.zero_le _) (Nat.zero_le _) ?_
        refine ⟨congrArg (fun z => some (Value.int z)) ?_, rfl⟩
        first | omega | (subst e1; simp only [m_ask, y_b, ↓reduceIte, Nat.reduceEqDiff]; done) | (subst e1; simp only [m_ask, y_b, ↓reduceIte, Nat.reduceEqDiff]; grind)
  · refine r_top (y := 0) h1 ?_
    refine r_tsin (tgt := 60) hE dX11_asked_1 (by decide) (by decide) rfl (by decide) ?_
    refine r_iload_n hE dX11_asked_60 rfl ?_
    refine r_ireturn hE dX11_asked_61 rfl rfl (Nat.zero_le _) (Nat.zero_le _) ?_
    refine ⟨congrArg (fun z => some (Value.int z)) ?_, rfl⟩
    first | omega | (subst e1; simp only [m_ask, y_b, ↓reduceIte, Nat.reduceEqDiff]; done) | (subst e1; simp only [m_ask, y_b, ↓reduceIte, Nat.reduceEqDiff]; grind)
  · refine r_top (y := 1) h1 ?_
    refine r_tsin (tgt := 62) hE dX11_asked_1 (by decide) (by decide) rfl (by decide) ?_
    refine r_iload hE dX11_asked_62 rfl ?_
    refine t_invs (r := (some (.int (nI (y_pop f))))) (S2 := (y_mk n L D)) hE [.int (nI f)] (j_bitCount (c := f) (by omega)) s_yJ6_bitCount_0f7a4 m_X11_268 dX11_asked_64 rfl (by decide) ⟨Nat.le_refl _, Nat.le_refl _⟩ (Nat.le_of_ble_eq_true rfl) ?_
    show E 0 0 67 [(0, .ref 169), (1, .int (nI p)), (2, .int (nI q)), (3, .int (nI x)), (4, .int (nI f)), (5, .int hl)] [.int (nI (y_pop f))] (y_mk n L D)
    refine r_ireturn hE dX11_asked_67 rfl rfl (Nat.zero_le _) (Nat.zero_le _) ?_
    refine ⟨congrArg (fun z => some (Value.int z)) ?_, rfl⟩
    first | omega | (subst e1; simp only [m_ask, y_b, ↓reduceIte, Nat.reduceEqDiff]; done) | (subst e1; simp only [m_ask, y_b, ↓reduceIte, Nat.reduceEqDiff]; grind)
  · refine r_top (y := 2) h1 ?_
    refine r_tsin (tgt := 68) hE dX11_asked_1 (by decide) (by decide) rfl (by decide) ?_
    refine r_aload_n hE dX11_asked_68 rfl ?_
    refine r_iload_n hE dX11_asked_69 rfl ?_
    refine r_iconst (v := 0) hE dX11_asked_70 (by decide) ?_
    refine t_invv (r := (some (.int (m_per (D 170).1 ((D 175).1 q) 0)))) (S2 := (y_mk n L D)) hE [.int (nI q), .int 0] (c_ofHolder (l := q) (c := 0) hL (hq (by omega)) (by decide) (hh (hq (by omega)))) v_yX11_ofHolder m_X11_273 dX11_asked_71 rfl (hL 169 (by decide)) (y_l_169 (D 169)) rfl (by decide) ⟨Nat.le_refl _, Nat.le_refl _⟩ (Nat.le_of_ble_eq_true rfl) ?_
    show E 0 0 74 [(0, .ref 169), (1, .int (nI p)), (2, .int (nI q)), (3, .int (nI x)), (4, .int (nI f)), (5, .int hl)] [.int (m_per (D 170).1 ((D 175).1 q) 0)] (y_mk n L D)
    refine r_ireturn hE dX11_asked_74 rfl rfl (Nat.zero_le _) (Nat.zero_le _) ?_
    refine ⟨congrArg (fun z => some (Value.int z)) ?_, rfl⟩
    first | omega | (subst e1; simp only [m_ask, y_b, ↓reduceIte, Nat.reduceEqDiff]; done) | (subst e1; simp only [m_ask, y_b, ↓reduceIte, Nat.reduceEqDiff]; grind)
  · refine r_top (y := 3) h1 ?_
    refine r_tsin (tgt := 75) hE dX11_asked_1 (by decide) (by decide) rfl (by decide) ?_
    refine r_aload_n hE dX11_asked_75 rfl ?_
    refine t_getr hE f_X11_37 y_R_169_16 dX11_asked_76 (hL 169 (by decide)) ?_
    refine r_iload_n hE dX11_asked_79 rfl ?_
    refine t_ialdN (e := q) hE y_A_176 dX11_asked_80 (hL 176 (by decide)) (by have h9 := hq (by omega); omega) (by decide) ?_
    refine r_if_ge (tgt := 89) hE dX11_asked_81 (by decide) (fun c81 => ?_) (fun c81 => ?_)
    · refine r_aload_n hE dX11_asked_89 rfl ?_
      refine t_getr hE f_X11_37 y_R_169_16 dX11_asked_90 (hL 169 (by decide)) ?_
      refine r_iload_n hE dX11_asked_93 rfl ?_
      refine t_ialdN (e := q) hE y_A_176 dX11_asked_94 (hL 176 (by decide)) (by have h9 := hq (by omega); omega) (by decide) ?_
      refine r_ireturn hE dX11_asked_95 rfl rfl (Nat.zero_le _) (Nat.zero_le _) ?_
      refine ⟨congrArg (fun z => some (Value.int z)) ?_, rfl⟩
      first | omega | (subst e1; simp only [m_ask, y_b, ↓reduceIte, Nat.reduceEqDiff]; done) | (subst e1; simp only [m_ask, y_b, ↓reduceIte, Nat.reduceEqDiff]; grind)
    · refine r_bipush (v := 99) hE dX11_asked_84 (by decide) ?_
      refine r_goto (tgt := 95) hE dX11_asked_86 (by decide) ?_
      refine r_ireturn hE dX11_asked_95 rfl rfl (Nat.zero_le _) (Nat.zero_le _) ?_
      refine ⟨congrArg (fun z => some (Value.int z)) ?_, rfl⟩
      first | omega | (subst e1; simp only [m_ask, y_b, ↓reduceIte, Nat.reduceEqDiff]; done) | (subst e1; simp only [m_ask, y_b, ↓reduceIte, Nat.reduceEqDiff]; grind)
  · refine r_top (y := 4) h1 ?_
    refine r_tsin (tgt := 98) hE dX11_asked_1 (by decide) (by decide) rfl (by decide) ?_
    refine r_aload_n hE dX11_asked_98 rfl ?_
    refine t_getr hE f_X11_30 y_R_169_14 dX11_asked_99 (hL 169 (by decide)) ?_
    refine r_iload_n hE dX11_asked_102 rfl ?_
    refine t_zaldN (e := x) hE y_A_174 dX11_asked_103 (hL 174 (by decide)) (by omega) (by decide) ?_
    refine r_if_ne (tgt := 111) hE dX11_asked_104 (by decide) (fun c104 => ?_) (fun c104 => ?_)
    · refine r_iconst (v := 0) hE dX11_asked_111 (by decide) ?_
      refine r_istore (ls2 := [(0, .ref 169), (1, .int (nI p)), (2, .int (nI q)), (3, .int (nI x)), (4, .int (nI f)), (5, .int hl), (6, .int 0)]) hE dX11_asked_112 (by decide) rfl ?_
      refine r_goto (tgt := 208) hE dX11_asked_114 (by decide) ?_
      refine r_iload hE dX11_asked_208 rfl ?_
      refine r_if_eq (tgt := 217) hE dX11_asked_210 (by decide) (fun _ => ?_) (fun c210 => by first | exact absurd c210 (by decide) | exact absurd (by decide) c210)
      refine r_iconst (v := 0) hE dX11_asked_217 (by decide) ?_
      refine r_ireturn hE dX11_asked_218 rfl rfl (Nat.zero_le _) (Nat.zero_le _) ?_
      refine ⟨congrArg (fun z => some (Value.int z)) ?_, rfl⟩
      first | omega | (subst e1; simp only [m_ask, y_b, ↓reduceIte, Nat.reduceEqDiff]; done) | (subst e1; simp only [m_ask, y_b, ↓reduceIte, Nat.reduceEqDiff]; grind)
    · refine r_iconst (v := 1) hE dX11_asked_107 (by decide) ?_
      refine r_goto (tgt := 112) hE dX11_asked_108 (by decide) ?_
      refine r_istore (ls2 := [(0, .ref 169), (1, .int (nI p)), (2, .int (nI q)), (3, .int (nI x)), (4, .int (nI f)), (5, .int hl), (6, .int 1)]) hE dX11_asked_112 (by decide) rfl ?_
      refine r_goto (tgt := 208) hE dX11_asked_114 (by decide) ?_
      refine r_iload hE dX11_asked_208 rfl ?_
      refine r_if_eq (tgt := 217) hE dX11_asked_210 (by decide) (fun c210 => by first | exact absurd c210 (by decide) | exact absurd (by decide) c210) (fun _ => ?_)
      refine r_iconst (v := 1) hE dX11_asked_213 (by decide) ?_
      refine r_goto (tgt := 218) hE dX11_asked_214 (by decide) ?_
      refine r_ireturn hE dX11_asked_218 rfl rfl (Nat.zero_le _) (Nat.zero_le _) ?_
      refine ⟨congrArg (fun z => some (Value.int z)) ?_, rfl⟩
      first | omega | (subst e1; simp only [m_ask, y_b, ↓reduceIte, Nat.reduceEqDiff]; done) | (subst e1; simp only [m_ask, y_b, ↓reduceIte, Nat.reduceEqDiff]; grind)
  · refine r_top (y := 5) h1 ?_
    refine r_tsin (tgt := 117) hE dX11_asked_1 (by decide) (by decide) rfl (by decide) ?_
    refine r_iload hE dX11_asked_117 rfl ?_
    refine r_istore (ls2 := [(0, .ref 169), (1, .int (nI p)), (2, .int (nI q)), (3, .int (nI x)), (4, .int (nI f)), (5, .int hl), (6, .int hl)]) hE dX11_asked_119 (by decide) rfl ?_
    refine r_goto (tgt := 208) hE dX11_asked_121 (by decide) ?_
    refine r_iload hE dX11_asked_208 rfl ?_
    refine r_if_eq (tgt := 217) hE dX11_asked_210 (by decide) (fun c210 => ?_) (fun c210 => ?_)
    · refine r_iconst (v := 0) hE dX11_asked_217 (by decide) ?_
      refine r_ireturn hE dX11_asked_218 rfl rfl (Nat.zero_le _) (Nat.zero_le _) ?_
      refine ⟨congrArg (fun z => some (Value.int z)) ?_, rfl⟩
      first | omega | (subst e1; simp only [m_ask, y_b, ↓reduceIte, Nat.reduceEqDiff]; done) | (subst e1; simp only [m_ask, y_b, ↓reduceIte, Nat.reduceEqDiff]; grind)
    · refine r_iconst (v := 1) hE dX11_asked_213 (by decide) ?_
      refine r_goto (tgt := 218) hE dX11_asked_214 (by decide) ?_
      refine r_ireturn hE dX11_asked_218 rfl rfl (Nat.zero_le _) (Nat.zero_le _) ?_
      refine ⟨congrArg (fun z => some (Value.int z)) ?_, rfl⟩
      first | omega | (subst e1; simp only [m_ask, y_b, ↓reduceIte, Nat.reduceEqDiff]; done) | (subst e1; simp only [m_ask, y_b, ↓reduceIte, Nat.reduceEqDiff]; grind)
  · refine r_top (y := 6) h1 ?_
    refine r_tsin (tgt := 124) hE dX11_asked_1 (by decide) (by decide) rfl (by decide) ?_
    refine r_iload hE dX11_asked_124 rfl ?_
    refine r_iload_n hE dX11_asked_126 rfl ?_
    refine r_ishr hE dX11_asked_127 ?_
    refine r_iconst (v := 1) hE dX11_asked_128 (by decide) ?_
    refine r_iand hE dX11_asked_129 ?_
    refine r_iconst (v := 1) hE dX11_asked_130 (by decide) ?_
    refine r_icmp_ne (tgt := 138) hE dX11_asked_131 (by decide) (fun c131 => ?_) (fun c131 => ?_)
    · refine r_iconst (v := 0) hE dX11_asked_138 (by decide) ?_
      refine r_istore (ls2 := [(0, .ref 169), (1, .int (nI p)), (2, .int (nI q)), (3, .int (nI x)), (4, .int (nI f)), (5, .int hl), (6, .int 0)]) hE dX11_asked_139 (by decide) rfl ?_
      refine r_goto (tgt := 208) hE dX11_asked_141 (by decide) ?_
      refine r_iload hE dX11_asked_208 rfl ?_
      refine r_if_eq (tgt := 217) hE dX11_asked_210 (by decide) (fun _ => ?_) (fun c210 => by first | exact absurd c210 (by decide) | exact absurd (by decide) c210)
      refine r_iconst (v := 0) hE dX11_asked_217 (by decide) ?_
      refine r_ireturn hE dX11_asked_218 rfl rfl (Nat.zero_le _) (Nat.zero_le _) ?_
      refine ⟨congrArg (fun z => some (Value.int z)) ?_, rfl⟩
      first | omega | (subst e1; simp only [m_ask, y_b, ↓reduceIte, Nat.reduceEqDiff]; done) | (subst e1; simp only [m_ask, y_b, ↓reduceIte, Nat.reduceEqDiff]; grind)
    · refine r_iconst (v := 1) hE dX11_asked_134 (by decide) ?_
      refine r_goto (tgt := 139) hE dX11_asked_135 (by decide) ?_
      refine r_istore (ls2 := [(0, .ref 169), (1, .int (nI p)), (2, .int (nI q)), (3, .int (nI x)), (4, .int (nI f)), (5, .int hl), (6, .int 1)]) hE dX11_asked_139 (by decide) rfl ?_
      refine r_goto (tgt := 208) hE dX11_asked_141 (by decide) ?_
      refine r_iload hE dX11_asked_208 rfl ?_
      refine r_if_eq (tgt := 217) hE dX11_asked_210 (by decide) (fun c210 => by first | exact absurd c210 (by decide) | exact absurd (by decide) c210) (fun _ => ?_)
      refine r_iconst (v := 1) hE dX11_asked_213 (by decide) ?_
      refine r_goto (tgt := 218) hE dX11_asked_214 (by decide) ?_
      refine r_ireturn hE dX11_asked_218 rfl rfl (Nat.zero_le _) (Nat.zero_le _) ?_
      refine ⟨congrArg (fun z => some (Value.int z)) ?_, rfl⟩
      first | omega | (subst e1; simp only [m_ask, y_b, ↓reduceIte, Nat.reduceEqDiff]; done) | (subst e1; simp only [m_ask, y_b, ↓reduceIte, Nat.reduceEqDiff]; grind)
  · refine r_top (y := 7) h1 ?_
    refine r_tsin (tgt := 144) hE dX11_asked_1 (by decide) (by decide) rfl (by decide) ?_
    refine r_aload_n hE dX11_asked_144 rfl ?_
    refine t_getr hE f_X11_34 y_R_169_15 dX11_asked_145 (hL 169 (by decide)) ?_
    refine r_iload_n hE dX11_asked_148 rfl ?_
    refine t_ialdN (e := q) hE y_A_175 dX11_asked_149 (hL 175 (by decide)) (by have h9 := hq (by omega); omega) (by decide) ?_
    refine r_if_lt (tgt := 157) hE dX11_asked_150 (by decide) (fun c150 => ?_) (fun c150 => ?_)
    · refine r_iconst (v := 0) hE dX11_asked_157 (by decide) ?_
      refine r_istore (ls2 := [(0, .ref 169), (1, .int (nI p)), (2, .int (nI q)), (3, .int (nI x)), (4, .int (nI f)), (5, .int hl), (6, .int 0)]) hE dX11_asked_158 (by decide) rfl ?_
      refine r_goto (tgt := 208) hE dX11_asked_160 (by decide) ?_
      refine r_iload hE dX11_asked_208 rfl ?_
      refine r_if_eq (tgt := 217) hE dX11_asked_210 (by decide) (fun _ => ?_) (fun c210 => by first | exact absurd c210 (by decide) | exact absurd (by decide) c210)
      refine r_iconst (v := 0) hE dX11_asked_217 (by decide) ?_
      refine r_ireturn hE dX11_asked_218 rfl rfl (Nat.zero_le _) (Nat.zero_le _) ?_
      refine ⟨congrArg (fun z => some (Value.int z)) ?_, rfl⟩
      first | omega | (subst e1; simp only [m_ask, y_b, ↓reduceIte, Nat.reduceEqDiff]; done) | (subst e1; simp only [m_ask, y_b, ↓reduceIte, Nat.reduceEqDiff]; grind)
    · refine r_iconst (v := 1) hE dX11_asked_153 (by decide) ?_
      refine r_goto (tgt := 158) hE dX11_asked_154 (by decide) ?_
      refine r_istore (ls2 := [(0, .ref 169), (1, .int (nI p)), (2, .int (nI q)), (3, .int (nI x)), (4, .int (nI f)), (5, .int hl), (6, .int 1)]) hE dX11_asked_158 (by decide) rfl ?_
      refine r_goto (tgt := 208) hE dX11_asked_160 (by decide) ?_
      refine r_iload hE dX11_asked_208 rfl ?_
      refine r_if_eq (tgt := 217) hE dX11_asked_210 (by decide) (fun c210 => by first | exact absurd c210 (by decide) | exact absurd (by decide) c210) (fun _ => ?_)
      refine r_iconst (v := 1) hE dX11_asked_213 (by decide) ?_
      refine r_goto (tgt := 218) hE dX11_asked_214 (by decide) ?_
      refine r_ireturn hE dX11_asked_218 rfl rfl (Nat.zero_le _) (Nat.zero_le _) ?_
      refine ⟨congrArg (fun z => some (Value.int z)) ?_, rfl⟩
      first | omega | (subst e1; simp only [m_ask, y_b, ↓reduceIte, Nat.reduceEqDiff]; done) | (subst e1; simp only [m_ask, y_b, ↓reduceIte, Nat.reduceEqDiff]; grind)
  · refine r_top (y := 8) h1 ?_
    refine r_tsin (tgt := 163) hE dX11_asked_1 (by decide) (by decide) rfl (by decide) ?_
    refine r_aload_n hE dX11_asked_163 rfl ?_
    refine t_getr hE f_X11_37 y_R_169_16 dX11_asked_164 (hL 169 (by decide)) ?_
    refine r_iload_n hE dX11_asked_167 rfl ?_
    refine t_ialdN (e := q) hE y_A_176 dX11_asked_168 (hL 176 (by decide)) (by have h9 := hq (by omega); omega) (by decide) ?_
    refine r_if_lt (tgt := 176) hE dX11_asked_169 (by decide) (fun c169 => ?_) (fun c169 => ?_)
    · refine r_iconst (v := 0) hE dX11_asked_176 (by decide) ?_
      refine r_istore (ls2 := [(0, .ref 169), (1, .int (nI p)), (2, .int (nI q)), (3, .int (nI x)), (4, .int (nI f)), (5, .int hl), (6, .int 0)]) hE dX11_asked_177 (by decide) rfl ?_
      refine r_goto (tgt := 208) hE dX11_asked_179 (by decide) ?_
      refine r_iload hE dX11_asked_208 rfl ?_
      refine r_if_eq (tgt := 217) hE dX11_asked_210 (by decide) (fun _ => ?_) (fun c210 => by first | exact absurd c210 (by decide) | exact absurd (by decide) c210)
      refine r_iconst (v := 0) hE dX11_asked_217 (by decide) ?_
      refine r_ireturn hE dX11_asked_218 rfl rfl (Nat.zero_le _) (Nat.zero_le _) ?_
      refine ⟨congrArg (fun z => some (Value.int z)) ?_, rfl⟩
      first | omega | (subst e1; simp only [m_ask, y_b, ↓reduceIte, Nat.reduceEqDiff]; done) | (subst e1; simp only [m_ask, y_b, ↓reduceIte, Nat.reduceEqDiff]; grind)
    · refine r_iconst (v := 1) hE dX11_asked_172 (by decide) ?_
      refine r_goto (tgt := 177) hE dX11_asked_173 (by decide) ?_
      refine r_istore (ls2 := [(0, .ref 169), (1, .int (nI p)), (2, .int (nI q)), (3, .int (nI x)), (4, .int (nI f)), (5, .int hl), (6, .int 1)]) hE dX11_asked_177 (by decide) rfl ?_
      refine r_goto (tgt := 208) hE dX11_asked_179 (by decide) ?_
      refine r_iload hE dX11_asked_208 rfl ?_
      refine r_if_eq (tgt := 217) hE dX11_asked_210 (by decide) (fun c210 => by first | exact absurd c210 (by decide) | exact absurd (by decide) c210) (fun _ => ?_)
      refine r_iconst (v := 1) hE dX11_asked_213 (by decide) ?_
      refine r_goto (tgt := 218) hE dX11_asked_214 (by decide) ?_
      refine r_ireturn hE dX11_asked_218 rfl rfl (Nat.zero_le _) (Nat.zero_le _) ?_
      refine ⟨congrArg (fun z => some (Value.int z)) ?_, rfl⟩
      first | omega | (subst e1; simp only [m_ask, y_b, ↓reduceIte, Nat.reduceEqDiff]; done) | (subst e1; simp only [m_ask, y_b, ↓reduceIte, Nat.reduceEqDiff]; grind)
  · refine r_top (y := 9) h1 ?_
    refine r_tsin (tgt := 182) hE dX11_asked_1 (by decide) (by decide) rfl (by decide) ?_
    refine r_aload_n hE dX11_asked_182 rfl ?_
    refine t_getr hE f_X11_34 y_R_169_15 dX11_asked_183 (hL 169 (by decide)) ?_
    refine r_iload_n hE dX11_asked_186 rfl ?_
    refine t_ialdN (e := q) hE y_A_175 dX11_asked_187 (hL 175 (by decide)) (by have h9 := hq (by omega); omega) (by decide) ?_
    refine r_if_lt (tgt := 205) hE dX11_asked_188 (by decide) (fun c188 => ?_) (fun c188 => ?_)
    · refine r_iconst (v := 0) hE dX11_asked_205 (by decide) ?_
      refine r_istore (ls2 := [(0, .ref 169), (1, .int (nI p)), (2, .int (nI q)), (3, .int (nI x)), (4, .int (nI f)), (5, .int hl), (6, .int 0)]) hE dX11_asked_206 (by decide) rfl ?_
      refine r_iload hE dX11_asked_208 rfl ?_
      refine r_if_eq (tgt := 217) hE dX11_asked_210 (by decide) (fun _ => ?_) (fun c210 => by first | exact absurd c210 (by decide) | exact absurd (by decide) c210)
      refine r_iconst (v := 0) hE dX11_asked_217 (by decide) ?_
      refine r_ireturn hE dX11_asked_218 rfl rfl (Nat.zero_le _) (Nat.zero_le _) ?_
      refine ⟨congrArg (fun z => some (Value.int z)) ?_, rfl⟩
      first | omega | (subst e1; simp only [m_ask, y_b, ↓reduceIte, Nat.reduceEqDiff]; done) | (subst e1; simp only [m_ask, y_b, ↓reduceIte, Nat.reduceEqDiff]; grind)
    · refine r_aload_n hE dX11_asked_191 rfl ?_
      refine r_iload_n hE dX11_asked_192 rfl ?_
      refine r_iconst (v := 1) hE dX11_asked_193 (by decide) ?_
      refine t_invv (r := (some (.int (m_per (D 170).1 ((D 175).1 q) 1)))) (S2 := (y_mk n L D)) hE [.int (nI q), .int 1] (c_ofHolder (l := q) (c := 1) hL (hq (by omega)) (by decide) (hh (hq (by omega)))) v_yX11_ofHolder m_X11_273 dX11_asked_194 rfl (hL 169 (by decide)) (y_l_169 (D 169)) rfl (by decide) ⟨Nat.le_refl _, Nat.le_refl _⟩ (Nat.le_of_ble_eq_true rfl) ?_
      show E 0 0 197 [(0, .ref 169), (1, .int (nI p)), (2, .int (nI q)), (3, .int (nI x)), (4, .int (nI f)), (5, .int hl)] [.int (m_per (D 170).1 ((D 175).1 q) 1)] (y_mk n L D)
      refine r_iload_n hE dX11_asked_197 rfl ?_
      refine r_icmp_gt (tgt := 205) hE dX11_asked_198 (by decide) (fun c198 => ?_) (fun c198 => ?_)
      · refine r_iconst (v := 0) hE dX11_asked_205 (by decide) ?_
        refine r_istore (ls2 := [(0, .ref 169), (1, .int (nI p)), (2, .int (nI q)), (3, .int (nI x)), (4, .int (nI f)), (5, .int hl), (6, .int 0)]) hE dX11_asked_206 (by decide) rfl ?_
        refine r_iload hE dX11_asked_208 rfl ?_
        refine r_if_eq (tgt := 217) hE dX11_asked_210 (by decide) (fun _ => ?_) (fun c210 => by first | exact absurd c210 (by decide) | exact absurd (by decide) c210)
        refine r_iconst (v := 0) hE dX11_asked_217 (by decide) ?_
        refine r_ireturn hE dX11_asked_218 rfl rfl (Nat.zero_le _) (Nat.zero_le _) ?_
        refine ⟨congrArg (fun z => some (Value.int z)) ?_, rfl⟩
        first | omega | (subst e1; simp only [m_ask, y_b, ↓reduceIte, Nat.reduceEqDiff]; done) | (subst e1; simp only [m_ask, y_b, ↓reduceIte, Nat.reduceEqDiff]; grind)
      · refine r_iconst (v := 1) hE dX11_asked_201 (by decide) ?_
        refine r_goto (tgt := 206) hE dX11_asked_202 (by decide) ?_
        refine r_istore (ls2 := [(0, .ref 169), (1, .int (nI p)), (2, .int (nI q)), (3, .int (nI x)), (4, .int (nI f)), (5, .int hl), (6, .int 1)]) hE dX11_asked_206 (by decide) rfl ?_
        refine r_iload hE dX11_asked_208 rfl ?_
        refine r_if_eq (tgt := 217) hE dX11_asked_210 (by decide) (fun c210 => by first | exact absurd c210 (by decide) | exact absurd (by decide) c210) (fun _ => ?_)
        refine r_iconst (v := 1) hE dX11_asked_213 (by decide) ?_
        refine r_goto (tgt := 218) hE dX11_asked_214 (by decide) ?_
        refine r_ireturn hE dX11_asked_218 rfl rfl (Nat.zero_le _) (Nat.zero_le _) ?_
        refine ⟨congrArg (fun z => some (Value.int z)) ?_, rfl⟩
        first | omega | (subst e1; simp only [m_ask, y_b, ↓reduceIte, Nat.reduceEqDiff]; done) | (subst e1; simp only [m_ask, y_b, ↓reduceIte, Nat.reduceEqDiff]; grind)
  · refine r_top (y := 10) h1 ?_
    refine r_tsin (tgt := 96) hE dX11_asked_1 (by decide) (by decide) rfl (by decide) ?_
    refine r_iload_n hE dX11_asked_96 rfl ?_
    refine r_ireturn hE dX11_asked_97 rfl rfl (Nat.zero_le _) (Nat.zero_le _) ?_
    refine ⟨congrArg (fun z => some (Value.int z)) ?_, rfl⟩
    first | omega | (subst e1; simp only [m_ask, y_b, ↓reduceIte, Nat.reduceEqDiff]; done) | (subst e1; simp only [m_ask, y_b, ↓reduceIte, Nat.reduceEqDiff]; grind)

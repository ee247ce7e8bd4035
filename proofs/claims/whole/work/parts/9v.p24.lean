/-! a whole WAY is read alike, to its end -/
section P24
variable {T : Nat → Int32} {e m : Nat} {K B C : Nat → Int32}
theorem t_WY_0 {W ST : Nat → Int32} : t_WY W 10 0 0 0 ST 0 1 0 := by
  refine ⟨rfl, Nat.zero_le 15, rfl, rfl, fun i hi => absurd hi (by omega), fun i hi => absurd hi (by omega), fun i hi => absurd hi (by omega), rfl, fun DS DL x hl hE hx => ⟨65535, rfl, fun f hf => ⟨fun _ i hi => absurd hi (by omega), fun _ => y_bit_all hf⟩⟩⟩
theorem t_WY_up {i s s2 sc sc2 : Nat} {W W2 ST ST2 : Nat → Int32} {fr tk rc fr2 tk2 rc2 : Int32} (hi : i < 10) (h : s < 2 ^ 31 → t_WY W 10 i s sc ST fr tk rc) (h1 : t_W1 (t_kk i) s sc s2 sc2 fr tk rc fr2 tk2 rc2 (upd (upd (upd W (t_kk i + 1) 0) (t_kk i + 2) 0) (t_kk i + 3) (nI s)) W2 ST ST2) : s2 < 2 ^ 31 → t_WY (upd W2 (t_kk i + 4) (nI s2)) 10 (i + 1) s2 sc2 ST2 fr2 tk2 rc2 := by
  intro hs2
  have hk : t_kk i = 8748 + 5 * i := by unfold t_kk; omega
  have hkd : ∀ j, j < 5 → 237 + 851 * 10 + (1 + 5 * i + j) = t_kk i + j := fun j _ => by omega
  have base : ∀ W3 : Nat → Int32, s < 2 ^ 31 → (∀ j, (8748 ≤ j ∧ j < t_kk i) ∨ (8798 ≤ j ∧ j < 8798 + 2 * s) → W3 j = W j) → t_WY W3 10 i s sc ST fr tk rc := by
    intro W3 q1 q2
    exact t_WY_c (h q1) (fun o ho => q2 _ (by omega))
  have three : ∀ (x : Int32) (a so : Nat), x = nI so → s2 = s → W2 = upd (upd (upd (upd (upd W (t_kk i + 1) 0) (t_kk i + 2) 0) (t_kk i + 3) (nI s)) (t_kk i) x) (t_kk i + 1) (nI a) → sc2 = sc → ST2 = ST → (so = 0 ∧ a < 4 ∧ fr2 = fr ||| (1 <<< (nI a &&& 31)) ∧ tk2 = tk ∧ rc2 = rc) ∨ (so = 1 ∧ 1 ≤ a ∧ a ≤ 60 ∧ fr2 = fr ∧ tk2 = nI a ∧ rc2 = rc) ∨ (so = 2 ∧ a ≤ 9 ∧ fr2 = fr ∧ tk2 = tk ∧ rc2 = nI a) → t_WY (upd W2 (t_kk i + 4) (nI s2)) 10 (i + 1) s2 sc2 ST2 fr2 tk2 rc2 := by
    intro x a so hx e1 e2 e3 e4 hc
    rw [e1] at hs2
    rw [e1, e3, e4]
    refine t_WY_1 (base _ hs2 (fun j hj => ?_)) ?_ ?_ hc
    · rw [e2, y_updn (by omega), y_updn (by omega), y_updn (by omega), y_updn (by omega), y_updn (by omega), y_updn (by omega)]
    · rw [e2, y_updn (by omega), y_updn (by omega), y_upds, hx]
    · rw [e2, y_updn (by omega), y_upds]
  rcases h1 with ⟨a, c1, c2, c3, c4, c5, c6, c7, c8⟩ | ⟨a, c1, c2, c3, c4, c5, c6, c7, c8, c9⟩ | ⟨a, c1, c2, c3, c4, c5, c6, c7, c8, c9⟩ | ⟨cs, rs, sc1, ST1, c1, c2, c3, c4, c5, c6, c7⟩
  · exact three 0 a 0 rfl c7 c8 c5 c6 (Or.inl ⟨rfl, c1, c2, c3, c4⟩)
  · exact three 1 a 1 rfl c8 c9 c6 c7 (Or.inr (Or.inl ⟨rfl, c1, c2, c3, c4, c5⟩))
  · exact three 2 a 2 rfl c8 c9 c6 c7 (Or.inr (Or.inr ⟨rfl, c2, c3, c4, c5⟩))
  · obtain ⟨x1, x2, x3, x4, x5, x6, x7, x8⟩ := c4
    rw [c1, c2, c3, c6, c7]
    have g : ∀ j, j < 8798 + 2 * s → j ≠ t_kk i + 4 → upd W2 (t_kk i + 4) (nI s2) j = upd (upd (upd (upd W (t_kk i + 1) 0) (t_kk i + 2) 0) (t_kk i + 3) (nI s)) (t_kk i) 3 j := fun j hj hn => by rw [y_updn hn, x4 j (Or.inl hj)]
    refine t_WY_n (base (upd W2 (t_kk i + 4) (nI s2)) (by omega) (fun j hj => ?_)) hs2 x2 x1 ?_ ?_ ?_ y_upds x3 x5 (fun j j1 j2 => m_ws_c (x6 j j1 j2) (y_updn (by omega)) (y_updn (by omega))) x7 ?_ c5
    · rw [g j (by omega) (by omega), y_updn (by omega), y_updn (by omega), y_updn (by omega), y_updn (by omega)]
    · rw [g _ (by omega) (by omega), y_upds]
      rfl
    · rw [g _ (by omega) (by omega), y_updn (by omega), y_updn (by omega), y_updn (by omega), y_upds]
      rfl
    · rw [g _ (by omega) (by omega), y_updn (by omega), y_upds]
    · rw [x8]
      exact v_ml_c _ _ (fun j j1 j2 => (y_updn (by omega)).symm)
theorem t_W1_s {k s sc s2 sc2 : Nat} {fr tk rc fr2 tk2 rc2 : Int32} {W W2 ST ST2 : Nat → Int32} (h : t_W1 k s sc s2 sc2 fr tk rc fr2 tk2 rc2 W W2 ST ST2) : s ≤ s2 := by
  rcases h with ⟨a, c1, c2, c3, c4, c5, c6, c7, c8⟩ | ⟨a, c1, c2, c3, c4, c5, c6, c7, c8, c9⟩ | ⟨a, c1, c2, c3, c4, c5, c6, c7, c8, c9⟩ | ⟨cs, rs, sc1, ST1, c1, c2, c3, c4, c5, c6, c7⟩
  · omega
  · omega
  · omega
  · exact c4.2.1
theorem t_wlk (h : t_H T e K B C m) (hm : m ≤ 400) : ∀ (f i : Nat) {p b g s nx sc : Nat} {wr fr tk rc : Int32} {W ST : Nat → Int32}, f + i = 10 → l_bl T e p = t_b T e nx → nx ≤ m → (s < 2 ^ 31 → t_WY W 10 i s sc ST fr tk rc) →
    ∃ (ok : Bool) (nx2 : Nat) (wr2 fr2 tk2 rc2 : Int32) (sc2 : Nat) (ST2 : Nat → Int32) (v : Int32) (p2 b2 g2 s2 : Nat) (W2 : Nat → Int32), k_wlk K B C f nx wr fr tk rc sc ST = (ok, nx2, wr2, fr2, tk2, rc2, sc2, ST2) ∧ l_allk T e (l_way T e) (f + 1) i p b g s W = (v, p2, b2, g2, s2, W2) ∧ ((ok = true ∧ wr2 = wr ∧ ∃ n, 1 ≤ n ∧ n ≤ 10 ∧ v = nI n ∧ (s2 < 2 ^ 31 → t_WY W2 10 n s2 sc2 ST2 fr2 tk2 rc2)) ∨ (ok = false ∧ v = -1 ∧ wr2 = nI b2))
  | 0, i, p, b, g, s, nx, sc, wr, fr, tk, rc, W, ST, hf, hp, hx, hl => by
    have hi : i = 10 := by omega
    subst hi
    have e1 : l_line T e (l_way T e) 10 p b g s W = (false, l_le T e p, l_bl T e p, g, s, W) := l_line10
    rw [l_allk_f (by decide) e1]
    exact ⟨_, _, _, _, _, _, _, _, _, _, _, _, _, _, rfl, rfl, Or.inr ⟨rfl, rfl, by rw [(h.2.1 nx hx).2.1, hp]⟩⟩
  | f + 1, i, p, b, g, s, nx, sc, wr, fr, tk, rc, W, ST, hf, hp, hx, hl => by
    obtain ⟨W', hW'⟩ : ∃ z, z = upd (upd (upd W (t_kk i + 1) 0) (t_kk i + 2) 0) (t_kk i + 3) (nI s) := ⟨_, rfl⟩
    obtain ⟨ok, nx2, wr2, fr2, tk2, rc2, sc2, ST2, p2, b2, g2, s2, W2, e1, e2, e3, e4⟩ := t_way (g := g) (s := s) (k := t_kk i) (sc := sc) (wr := wr) (fr := fr) (tk := tk) (rc := rc) (W := W') (ST := ST) h hm hp hx
    have el : l_line T e (l_way T e) i p b g s W = (ok, p2, b2, g2, s2, upd W2 (t_kk i + 4) (nI s2)) := by
      unfold l_line
      rw [if_neg (by omega), ← hW', e2]
      rfl
    cases ok with
    | false =>
      have ek : k_wlk K B C (f + 1) nx wr fr tk rc sc ST = (false, nx2, wr2, fr2, tk2, rc2, sc2, ST2) := by
        rw [k_wlk_e (by omega), e1]
        rfl
      rw [l_allk_f (by omega) el]
      exact ⟨_, _, _, _, _, _, _, _, _, _, _, _, _, _, ek, rfl, Or.inr ⟨rfl, rfl, e4 rfl⟩⟩
    | true =>
      obtain ⟨a2, a3, a4, a5, a7⟩ := e3 rfl
      rw [hW'] at a7
      have hl2 := t_WY_up (by omega) hl a7
      have ek : k_wlk K B C (f + 1) nx wr fr tk rc sc ST = (if K nx2 = 0 then (true, nx2, wr2, fr2, tk2, rc2, sc2, ST2) else if K nx2 = 4 then k_wlk K B C f (nx2 + 1) wr2 fr2 tk2 rc2 sc2 ST2 else (false, nx2, B nx2, fr2, tk2, rc2, sc2, ST2)) := by
        rw [k_wlk_e (by omega), e1]
        rfl
      have ea : l_allk T e (l_way T e) (f + 1 + 1) i p b g s W = (if l_bl T e p2 = e then (nI (i + 1), l_bl T e p2, l_bl T e p2, g2, s2, upd W2 (t_kk i + 4) (nI s2)) else if l_bl T e p2 < e ∧ 59 ≤ T (l_bl T e p2) ∧ T (l_bl T e p2) ≤ 59 then l_allk T e (l_way T e) (f + 1) (i + 1) (l_bl T e p2 + 1) (l_bl T e p2) g2 s2 (upd W2 (t_kk i + 4) (nI s2)) else (-1, l_bl T e p2, l_bl T e p2, g2, s2, upd W2 (t_kk i + 4) (nI s2))) := by
        exact l_allk_t (by omega) el
      rw [ek, ea]
      have he := t_end h a4
      rw [← a2] at he
      by_cases c : l_bl T e p2 = e
      · rw [if_pos (he.mpr c), if_pos c]
        exact ⟨_, _, _, _, _, _, _, _, _, _, _, _, _, _, rfl, rfl, Or.inl ⟨rfl, a5, i + 1, by omega, by omega, rfl, hl2⟩⟩
      · rw [if_neg (fun q => c (he.mp q)), if_neg c]
        obtain ⟨s1, s2'⟩ := t_semi h a2 a4
        by_cases c4 : K nx2 = 4
        · obtain ⟨d1, d2, d3⟩ := s2' c4
          rw [if_pos c4, if_pos (s1.mp c4), a5]
          exact t_wlk h hm f (i + 1) (by omega) d3 (by omega) hl2
        · rw [if_neg c4, if_neg (fun q => c4 (s1.mpr q))]
          exact ⟨_, _, _, _, _, _, _, _, _, _, _, _, _, _, rfl, rfl, Or.inr ⟨rfl, rfl, by rw [(h.2.1 nx2 a4).2.1, a2]⟩⟩
/-- a WAY, as a whole -/
theorem t_wls (h : t_H T e K B C m) (hm : m ≤ 400) {b g : Nat} {W ST : Nat → Int32} :
    ∃ (ok : Bool) (nx2 : Nat) (wr2 fr2 tk2 rc2 : Int32) (sc2 : Nat) (ST2 : Nat → Int32) (v : Int32) (p2 b2 g2 s2 : Nat) (W2 : Nat → Int32), k_wls K B C ST = (ok, nx2, wr2, fr2, tk2, rc2, sc2, ST2) ∧ l_all T e (l_way T e) 0 b g 0 W = (v, p2, b2, g2, s2, W2) ∧ ((ok = true ∧ wr2 = -1 ∧ ∃ n, n ≤ 10 ∧ v = nI n ∧ (s2 < 2 ^ 31 → t_WY W2 10 n s2 sc2 ST2 fr2 tk2 rc2)) ∨ (ok = false ∧ v = -1 ∧ wr2 = nI b2)) := by
  have hb0 : l_bl T e 0 = t_b T e 0 := rfl
  have he := t_end h (Nat.zero_le m)
  unfold k_wls l_all
  rw [← hb0] at he
  by_cases c : l_bl T e 0 = e
  · rw [if_pos (he.mpr c), if_pos c]
    exact ⟨_, _, _, _, _, _, _, _, _, _, _, _, _, _, rfl, rfl, Or.inl ⟨rfl, rfl, 0, by omega, rfl, fun _ => t_WY_0⟩⟩
  · rw [if_neg (fun q => c (he.mp q)), if_neg c]
    have hbb : l_bl T e (l_bl T e 0) = t_b T e 0 := by
      rw [← hb0]
      exact l_to_n l_to_out
    obtain ⟨ok, nx2, wr2, fr2, tk2, rc2, sc2, ST2, v, p2, b2, g2, s2, W2, e1, e2, e3⟩ := t_wlk h hm 10 0 (b := l_bl T e 0) (g := g) (s := 0) (sc := 0) (wr := -1) (fr := 0) (tk := 1) (rc := 0) (W := W) (ST := ST) (by omega) hbb (Nat.zero_le _) (fun _ => t_WY_0)
    refine ⟨ok, nx2, wr2, fr2, tk2, rc2, sc2, ST2, v, p2, b2, g2, s2, W2, e1, e2, ?_⟩
    rcases e3 with ⟨a1, a2, n, a3, a4, a5⟩ | a
    · exact Or.inl ⟨a1, a2, n, a4, a5⟩
    · exact Or.inr a
/-- what a WAY read alike means -/
theorem t_WY_ww {W ST : Nat → Int32} {t n s sc : Nat} {fr tk rc : Int32} (h : t_WY W t n s sc ST fr tk rc) (hs : s ≤ 400) (hn : W (237 + 851 * t) = nI n) (h10 : n ≤ 10) : m_ww W t ∧ m_k W t = n ∧ y_wfs ST sc ∧ c_h (c_sl ST sc 0) 1 = some 1 ∧ fr = nI (m_fb W t n) ∧ tk = nI (m_lst W t 1 1 n) ∧ rc = nI (m_lst W t 2 0 n) ∧ m_fb W t n ≤ 15 ∧ q_M (c_sl ST sc 0) W t := by
  obtain ⟨a1, a2, a3, a4, a5, a6, a7, a8, a9⟩ := h
  have qk := q_mk (B := 10) hn h10 (by omega)
  have ek : m_k W t = n := qk.2
  refine ⟨⟨qk.1, fun i hi => ?_⟩, ek, fun j hj => a7 j hj, a8, a1, a3, a4, a2, fun DS DL x f hl hE hx hf => ?_⟩
  · rw [ek] at hi
    obtain ⟨b1, b2, b3, b4, b5, b6⟩ := a5 i hi
    refine ⟨b1, b2, b3, b4, b5, fun q => ?_⟩
    obtain ⟨c1, c2, c3, c4, c5⟩ := b6 q
    exact ⟨⟨c1, by show m_o W t i 3 ≤ 400; omega⟩, ⟨c2, by show m_o W t i 4 ≤ 400; omega⟩, c3, fun j j1 j2 => a6 j (by omega), c5⟩
  · obtain ⟨X, x1, x2⟩ := a9 DS DL x hl hE hx
    have x1' : c_s (fun p q => K_tag DS (nI p) q x) (fun p q => K_partOf DS (nI p) q (nI x)) hl (c_sl ST sc 0) (0, 0, [65535]) = (0, 0, [X]) := x1
    rw [x1', ek]
    exact x2 f hf
end P24

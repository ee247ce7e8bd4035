/-! reading of steps alike: the frame -/
section P20
variable {T : Nat → Int32} {e m : Nat} {K B C : Nat → Int32}
/-- a step of the class is well formed -/
def v_z (x : Int32) : Prop := ∃ z : Nat, x = nI z ∧ z < 2 ^ 20 ∧ (z / 1024 = 31 ∨ z / 1024 = 32 ∨ (23 ≤ z / 1024 ∧ z / 1024 ≤ 28) → z % 1024 < 4)
/-- cs, rs are the steps that were written -/
def t_X (sc s sc2 s2 : Nat) (ST ST2 W W2 : Nat → Int32) (cs : List Nat) (rs : List (Nat × Nat)) : Prop := sc ≤ sc2 ∧ s ≤ s2 ∧ (∀ j, j < sc → ST2 j = ST j) ∧ (∀ j, j < 8798 + 2 * s ∨ 8798 + 2 * s2 ≤ j → W2 j = W j) ∧ (∀ j, sc ≤ j → j < sc2 → v_z (ST2 j)) ∧ (∀ j, s ≤ j → j < s2 → m_ws W2 10 j) ∧ cs = c_sl ST2 (sc2 - sc) sc ∧ rs = m_sl W2 10 (s2 - s) s
theorem t_X_0 {sc s : Nat} {ST W : Nat → Int32} : t_X sc s sc s ST ST W W [] [] := ⟨Nat.le_refl _, Nat.le_refl _, fun _ _ => rfl, fun _ _ => rfl, fun j h1 h2 => absurd h2 (by omega), fun j h1 h2 => absurd h2 (by omega), by rw [Nat.sub_self]; rfl, by rw [Nat.sub_self]; rfl⟩
theorem m_ws_c {W W2 : Nat → Int32} {j : Nat} (h : m_ws W 10 j) (h1 : W2 (237 + 851 * 10 + 51 + 2 * j) = W (237 + 851 * 10 + 51 + 2 * j)) (h2 : W2 (237 + 851 * 10 + 51 + 2 * j + 1) = W (237 + 851 * 10 + 51 + 2 * j + 1)) : m_ws W2 10 j := by
  unfold m_ws q_ok q_n at h ⊢
  rw [h1, h2]
  exact h
theorem t_X_t {sc s sc1 s1 sc2 s2 : Nat} {ST ST1 ST2 W W1 W2 : Nat → Int32} {cs cs2 : List Nat} {rs rs2 : List (Nat × Nat)} (a : t_X sc s sc1 s1 ST ST1 W W1 cs rs) (b : t_X sc1 s1 sc2 s2 ST1 ST2 W1 W2 cs2 rs2) : t_X sc s sc2 s2 ST ST2 W W2 (cs ++ cs2) (rs ++ rs2) := by
  obtain ⟨a1, a2, a3, a4, a5, a6, a7, a8⟩ := a
  obtain ⟨b1, b2, b3, b4, b5, b6, b7, b8⟩ := b
  refine ⟨by omega, by omega, fun j hj => ?_, fun j hj => ?_, fun j h1 h2 => ?_, fun j h1 h2 => ?_, ?_, ?_⟩
  · rw [b3 j (by omega), a3 j hj]
  · rw [b4 j (by omega), a4 j (by omega)]
  · by_cases q : j < sc1
    · rw [b3 j q]
      exact a5 j h1 q
    · exact b5 j (by omega) h2
  · by_cases q : j < s1
    · exact m_ws_c (a6 j h1 q) (b4 _ (by omega)) (b4 _ (by omega))
    · exact b6 j (by omega) h2
  · rw [show sc2 - sc = (sc1 - sc) + (sc2 - sc1) by omega, v_sl_ap, show sc + (sc1 - sc) = sc1 by omega, ← b7, a7]
    rw [v_sl_c (T := ST1) (T2 := ST2) (sc1 - sc) sc (fun j h1 h2 => (b3 j (by omega)).symm)]
  · rw [show s2 - s = (s1 - s) + (s2 - s1) by omega, v_ml_ap, show s + (s1 - s) = s1 by omega, ← b8, a8]
    rw [v_ml_c (W := W1) (W2 := W2) (s1 - s) s (fun j h1 h2 => (b4 j (by omega)).symm)]
theorem t_X_k {sc s z : Nat} {ST W : Nat → Int32} (hz : z < 2 ^ 20) (h4 : z / 1024 = 31 ∨ z / 1024 = 32 ∨ (23 ≤ z / 1024 ∧ z / 1024 ≤ 28) → z % 1024 < 4) : t_X sc s (sc + 1) s ST (upd ST sc (nI z)) W W [z] [] := by
  refine ⟨by omega, by omega, fun j hj => y_updn (by omega), fun _ _ => rfl, fun j h1 h2 => ?_, fun j h1 h2 => absurd h2 (by omega), ?_, by rw [Nat.sub_self]; rfl⟩
  · rw [show j = sc by omega, y_upds]
    exact ⟨z, rfl, hz, h4⟩
  · rw [show sc + 1 - sc = 1 by omega, v_sl_1 (by omega)]
theorem t_X_l {sc s r n : Nat} {ST W : Nat → Int32} (hr : r ≤ 16) (hn : n ≤ 999) (h4 : r ≠ 0 ∧ r ≠ 1 ∧ r ≠ 4 ∧ r ≠ 5 ∧ r ≠ 10 → r ≤ 10 → n < 4) : t_X sc s sc (s + 1) ST ST W (l_em W s (nI r) (nI n)) [] [(r, n)] := by
  have e1 : l_em W s (nI r) (nI n) (237 + 851 * 10 + 51 + 2 * s) = nI r := by
    unfold l_em
    rw [show 237 + 851 * 10 + 51 + 2 * s = 8798 + 2 * s by omega, y_updn (by omega), y_upds]
  have e2 : l_em W s (nI r) (nI n) (237 + 851 * 10 + 51 + 2 * s + 1) = nI n := by
    unfold l_em
    rw [show 237 + 851 * 10 + 51 + 2 * s = 8798 + 2 * s by omega, y_upds]
  refine ⟨by omega, by omega, fun _ _ => rfl, fun j hj => ?_, fun j h1 h2 => absurd h2 (by omega), fun j h1 h2 => ?_, by rw [Nat.sub_self]; rfl, ?_⟩
  · unfold l_em
    rw [y_updn (by omega), y_updn (by omega)]
  · rw [show j = s by omega]
    have q1 := q_mk e1 hr (by omega)
    have q2 := q_mk e2 hn (by omega)
    refine ⟨q1.1, q2.1, ?_⟩
    rw [q1.2, q2.2]
    exact h4
  · rw [show s + 1 - s = 1 by omega, v_ml_1 (by omega) (by omega)]
/-- the two readers answer alike: Q tells of the place behind and of the steps -/
def t_R (T : Nat → Int32) (e m nx g s sc : Nat) (wr : Int32) (W ST : Nat → Int32) (Q : Nat → List Nat → List (Nat × Nat) → Prop) (rk : Bool × k_U) (rl : Bool × l_S) : Prop :=
  (∃ nx2 sc2 ST2 p2 b2 s2 W2 cs rs, rk = (true, nx2, wr, sc2, ST2) ∧ rl = (true, p2, b2, g, s2, W2) ∧ l_bl T e p2 = t_b T e nx2 ∧ nx ≤ nx2 ∧ nx2 ≤ m ∧ t_X sc s sc2 s2 ST ST2 W W2 cs rs ∧ Q nx2 cs rs) ∨
  (∃ nx2 sc2 ST2 p2 b2 g2 s2 W2, rk = (false, nx2, nI b2, sc2, ST2) ∧ rl = (false, p2, b2, g2, s2, W2))
theorem t_R_stop {nx g s sc p b : Nat} {wr : Int32} {W ST : Nat → Int32} {Q : Nat → List Nat → List (Nat × Nat) → Prop} (hp : l_bl T e p = t_b T e nx) (hx : nx ≤ m) (hQ : Q nx [] []) : t_R T e m nx g s sc wr W ST Q (true, nx, wr, sc, ST) (true, p, b, g, s, W) := Or.inl ⟨_, _, _, _, _, _, _, _, _, rfl, rfl, hp, Nat.le_refl _, hx, t_X_0, hQ⟩
theorem t_R_fail {nx g s sc nx2 sc2 p2 b2 g2 s2 : Nat} {wr wr2 : Int32} {W ST ST2 W2 : Nat → Int32} {Q : Nat → List Nat → List (Nat × Nat) → Prop} (h : wr2 = nI b2) : t_R T e m nx g s sc wr W ST Q (false, nx2, wr2, sc2, ST2) (false, p2, b2, g2, s2, W2) := by
  rw [h]
  exact Or.inr ⟨_, _, _, _, _, _, _, _, rfl, rfl⟩
theorem t_R_go {nx nx1 g s sc s1 sc1 : Nat} {wr : Int32} {W ST W1 ST1 : Nat → Int32} {Q : Nat → List Nat → List (Nat × Nat) → Prop} {cs : List Nat} {rs : List (Nat × Nat)} {rk : Bool × k_U} {rl : Bool × l_S} (hn : nx ≤ nx1) (hX : t_X sc s sc1 s1 ST ST1 W W1 cs rs) (h : t_R T e m nx1 g s1 sc1 wr W1 ST1 (fun n c r => Q n (cs ++ c) (rs ++ r)) rk rl) : t_R T e m nx g s sc wr W ST Q rk rl := by
  rcases h with ⟨nx2, sc2, ST2, p2, b2, s2, W2, c, r, h1, h2, h3, h4, h5, h6, h7⟩ | h
  · exact Or.inl ⟨nx2, sc2, ST2, p2, b2, s2, W2, _, _, h1, h2, h3, by omega, h5, t_X_t hX h6, h7⟩
  · exact Or.inr h
theorem t_R_imp {nx g s sc : Nat} {wr : Int32} {W ST : Nat → Int32} {Q Q2 : Nat → List Nat → List (Nat × Nat) → Prop} {rk : Bool × k_U} {rl : Bool × l_S} (h : t_R T e m nx g s sc wr W ST Q rk rl) (hq : ∀ n c r, nx ≤ n → n ≤ m → Q n c r → Q2 n c r) : t_R T e m nx g s sc wr W ST Q2 rk rl := by
  rcases h with ⟨nx2, sc2, ST2, p2, b2, s2, W2, c, r, h1, h2, h3, h4, h5, h6, h7⟩ | h
  · exact Or.inl ⟨nx2, sc2, ST2, p2, b2, s2, W2, c, r, h1, h2, h3, h4, h5, h6, hq _ _ _ h4 h5 h7⟩
  · exact Or.inr h
theorem t_then {nx g g1 s sc : Nat} {wr : Int32} {W ST : Nat → Int32} {Q1 Q : Nat → List Nat → List (Nat × Nat) → Prop} {rk : Bool × k_U} {rl : Bool × l_S} {fk : k_F} {fl : l_F} (h : t_R T e m nx g1 s sc wr W ST Q1 rk rl) (hf : ∀ nx1 sc1 ST1 p1 b1 s1 W1 cs rs, l_bl T e p1 = t_b T e nx1 → nx ≤ nx1 → nx1 ≤ m → Q1 nx1 cs rs → t_R T e m nx1 g s1 sc1 wr W1 ST1 (fun n c r => Q n (cs ++ c) (rs ++ r)) (fk nx1 wr sc1 ST1) (fl p1 b1 g1 s1 W1)) : t_R T e m nx g s sc wr W ST Q (k_then rk fk) (l_then rl fl) := by
  rcases h with ⟨nx2, sc2, ST2, p2, b2, s2, W2, c, r, rfl, rfl, h3, h4, h5, h6, h7⟩ | ⟨nx2, sc2, ST2, p2, b2, g2, s2, W2, rfl, rfl⟩
  · rw [k_then_t, l_then_t]
    exact t_R_go h4 h6 (hf _ _ _ _ _ _ _ _ _ h3 h4 h5 h7)
  · rw [k_then_f, l_then_f]
    exact Or.inr ⟨_, _, _, _, _, _, _, _, rfl, rfl⟩
theorem l_then_a {r : Bool × l_S} {f g : l_F} : l_then (l_then r f) g = l_then r (fun p b q s W => l_then (f p b q s W) g) := by
  obtain ⟨ok, p, b, q, s, W⟩ := r
  cases ok <;> rfl
/-- a sign at the token j -/
theorem t_sb (h : t_H T e K B C m) {p j : Nat} {c : Int32} (hp : l_bl T e p = t_b T e j) (hj : j ≤ m) (hc : c = 59 ∨ c = 40 ∨ c = 41 ∨ c = 43 ∨ c = 60 ∨ c = 62) :
    (¬ K j = t_sgc c ∧ ¬ l_is T e c p ∧ l_sg T e c p = l_bl T e p ∧ l_bl T e (l_sg T e c p) = t_b T e j) ∨ (K j = t_sgc c ∧ l_is T e c p ∧ j < m ∧ l_bl T e (l_sg T e c p) = t_b T e (j + 1)) := by
  have e1 := t_sign h.1 hp hc
  rw [← (h.2.1 j hj).1] at e1
  by_cases q : l_is T e c p
  · obtain ⟨d1, d2⟩ := t_sign_e h.1 hp hc q
    exact Or.inr ⟨e1.mp q, q, t_H_lt h hj d2, by rw [d1]; rfl⟩
  · have e2 : l_sg T e c p = l_bl T e p := by
      unfold l_sg
      rw [if_neg q]
    exact Or.inl ⟨fun z => q (e1.mpr z), q, e2, by rw [e2, hp]; exact t_stay hp⟩
/-- where a word does not stand, the point is behind the blanks -/
theorem t_pa {p j i : Nat} (hp : l_bl T e p = t_b T e j) (hn : ¬ l_w T (l_bl T e p) (l_le T e p) i) : l_pa T e i p = t_b T e j ∧ l_bl T e (l_pa T e i p) = t_b T e j := by
  have e2 : l_pa T e i p = t_b T e j := by
    unfold l_pa
    rw [if_neg hn]
    exact hp
  exact ⟨e2, by rw [e2]; exact t_stay hp⟩
theorem t_pa_t {p i : Nat} (hn : l_w T (l_bl T e p) (l_le T e p) i) : l_pa T e i p = l_le T e p := by
  unfold l_pa
  rw [if_pos hn]
theorem t_partR (h : t_H T e K B C m) {p b g s nx sc : Nat} {wr : Int32} {W ST : Nat → Int32} (hp : l_bl T e p = t_b T e nx) (hx : nx ≤ m) : t_R T e m nx g s sc wr W ST (fun n c r => nx < n ∧ q_s 1 1 c r) (k_part K B C nx wr sc ST) (l_part T e p b g s W) := by
  obtain ⟨ok, nx2, wr2, sc2, ST2, p2, b2, g2, s2, W2, e1, e2, e3, e4⟩ := t_part (b := b) (g := g) (s := s) (sc := sc) (wr := wr) (W := W) (ST := ST) h hp hx
  rw [e1, e2]
  cases ok with
  | false => exact t_R_fail (e4 rfl)
  | true =>
    obtain ⟨-, a2, a3, a4, rfl, rfl, rfl, rfl, t, n, r, f1, f2, rfl, rfl⟩ := e3 rfl
    have x1 : t_X sc s (sc + 1) s ST (upd ST sc (nI (t * 1024 + n))) W W [t * 1024 + n] [] := t_X_k (by omega) (fun q => by omega)
    have x2 : t_X (sc + 1) s (sc + 1) (s + 1) (upd ST sc (nI (t * 1024 + n))) (upd ST sc (nI (t * 1024 + n))) W (l_em W s (nI r) (nI n)) [] [(r, n)] := t_X_l (by omega) (by omega) (fun q1 q2 => by omega)
    exact Or.inl ⟨_, _, _, _, _, _, _, _, _, rfl, rfl, a2, by omega, a4, t_X_t x1 x2, a3, q_part f1 f2⟩
/-- a sum behind its first part -/
theorem t_suk (h : t_H T e K B C m) : ∀ (f f2 : Nat) {p b g s nx sc N : Nat} {wr : Int32} {W ST : Nat → Int32} {cs : List Nat} {rs : List (Nat × Nat)}, l_bl T e p = t_b T e nx → nx ≤ m → m < f + nx → m < f2 + nx → N ≤ nx → q_sm N cs rs →
    t_R T e m nx g s sc wr W ST (fun n c r => ∃ M, M ≤ n ∧ q_sm M (cs ++ c) (rs ++ r)) (if K nx = 7 then k_suk K B C f (nx + 1) wr sc ST else (true, nx, wr, sc, ST)) (l_suk T e f2 p b g s W)
  | 0, _, p, b, g, s, nx, sc, N, wr, W, ST, cs, rs, hp, hx, hf, hf2, hN, hq => absurd hf (by omega)
  | f + 1, 0, p, b, g, s, nx, sc, N, wr, W, ST, cs, rs, hp, hx, hf, hf2, hN, hq => absurd hf2 (by omega)
  | f + 1, f2 + 1, p, b, g, s, nx, sc, N, wr, W, ST, cs, rs, hp, hx, hf, hf2, hN, hq => by
    rw [l_suk_e (by omega)]
    rcases t_sb (c := 43) h hp hx (by decide) with ⟨c1, c2, c3, c4⟩ | ⟨c1, c2, c3, c4⟩
    · rw [if_neg (show ¬ K nx = 7 from c1), if_neg c2]
      exact t_R_stop c4 hx ⟨N, hN, by rw [List.append_nil, List.append_nil]; exact hq⟩
    · rw [if_pos (show K nx = 7 from c1), if_pos c2, k_suk_e (by omega)]
      refine t_R_go (nx1 := nx + 1) (by omega) t_X_0 ?_
      refine t_then (t_partR h c4 (by omega)) (fun nx1 sc1 ST1 p1 b1 s1 W1 cs1 rs1 d1 d2 d3 d4 => ?_)
      refine t_R_go (Nat.le_refl _) (t_X_l (r := 11) (n := 0) (by decide) (by decide) (fun _ q => absurd q (by decide))) ?_
      have ih := t_suk h f f2 (p := p1) (b := b1) (g := g) (s := s1 + 1) (nx := nx1) (sc := sc1) (N := N + 1) (wr := wr) (W := l_em W1 s1 11 0) (ST := ST1) d1 d3 (by omega) (by omega) (by omega) (q_sm_add hq d4.2)
      refine t_R_imp ih (fun n c r _ _ hz => ?_)
      obtain ⟨M, m1, m2⟩ := hz
      refine ⟨M, m1, ?_⟩
      rw [List.append_assoc, List.append_assoc, List.append_assoc] at m2
      exact m2
theorem t_su (h : t_H T e K B C m) (hm : m ≤ 400) {p b g s nx sc : Nat} {wr : Int32} {W ST : Nat → Int32} (hp : l_bl T e p = t_b T e nx) (hx : nx ≤ m) : t_R T e m nx g s sc wr W ST (fun n c r => nx < n ∧ ∃ M, M ≤ n ∧ q_sm M c r) (k_suk K B C 401 nx wr sc ST) (l_su T e p b g s W) := by
  unfold l_su
  rw [k_suk_e (by omega)]
  refine t_then (t_partR h hp hx) (fun nx1 sc1 ST1 p1 b1 s1 W1 cs1 rs1 d1 d2 d3 d4 => ?_)
  refine t_R_imp (t_suk h 400 401 d1 d3 (by omega) (by omega) (N := 1) (by omega) (q_s_up d4.2 (by decide))) (fun n c r z1 z2 hz => ⟨by omega, hz⟩)
theorem t_cmp (h : t_H T e K B C m) (hm : m ≤ 400) {p b g s nx sc : Nat} {wr : Int32} {W ST : Nat → Int32} (hp : l_bl T e p = t_b T e nx) (hx : nx ≤ m) : t_R T e m nx g s sc wr W ST (fun n c r => nx < n ∧ q_cf 1 c r) (k_cmp K B C nx wr sc ST) (l_cmp T e p b g s W) := by
  unfold l_cmp k_cmp
  refine t_then (t_su h hm hp hx) (fun nx1 sc1 ST1 p1 b1 s1 W1 cs1 rs1 d1 d2 d3 d4 => ?_)
  obtain ⟨d5, M, d6, d7⟩ := d4
  have e3 : (3 : Int32) * 1024 + 0 = nI (3 * 1024 + 0) := by decide
  rcases t_sb (c := 60) h d1 d3 (by decide) with ⟨c1, c2, c3, c4⟩ | ⟨c1, c2, c3, c4⟩
  · rw [if_neg c2]
    rcases t_sb (c := 62) h c4 d3 (by decide) with ⟨f1, f2, f3, f4⟩ | ⟨f1, f2, f3, f4⟩
    · rw [if_neg (show ¬ (K nx1 = 8 ∨ K nx1 = 9) from fun q => q.elim c1 f1), if_neg f2]
      exact t_R_fail (by rw [(h.2.1 nx1 d3).2.1, c4])
    · rw [if_pos (show K nx1 = 8 ∨ K nx1 = 9 from Or.inr f1), if_pos f2, e3]
      refine t_R_go (nx1 := nx1 + 1) (by omega) (t_X_k (z := 3 * 1024 + 0) (by decide) (fun q => absurd q (by decide))) ?_
      refine t_then (t_su h hm f4 (by omega)) (fun nx2 sc2 ST2 p2 b2 s2 W2 cs2 rs2 g1 g2 g3 g4 => ?_)
      obtain ⟨g5, M2, g6, g7⟩ := g4
      rw [show K nx1 * 1024 + 0 = nI (9 * 1024 + 0) by rw [show K nx1 = 9 from f1]; decide]
      refine t_R_go (Nat.le_refl _) (t_X_k (z := 9 * 1024 + 0) (by decide) (fun q => absurd q (by decide))) (t_R_go (Nat.le_refl _) (t_X_l (r := 13) (n := 0) (by decide) (by decide) (fun _ q => absurd q (by decide))) (t_R_stop g1 g3 ⟨by omega, ?_⟩))
      have := q_cmp d7 g7 (by omega) (by omega) (t := 9) (r := 13) (Or.inr ⟨rfl, rfl⟩)
      rw [List.append_assoc, List.append_assoc, List.append_assoc] at this
      exact this
  · rw [if_pos (show K nx1 = 8 ∨ K nx1 = 9 from Or.inl c1), if_pos c2, e3]
    refine t_R_go (nx1 := nx1 + 1) (by omega) (t_X_k (z := 3 * 1024 + 0) (by decide) (fun q => absurd q (by decide))) ?_
    refine t_then (t_su h hm c4 (by omega)) (fun nx2 sc2 ST2 p2 b2 s2 W2 cs2 rs2 g1 g2 g3 g4 => ?_)
    obtain ⟨g5, M2, g6, g7⟩ := g4
    rw [show K nx1 * 1024 + 0 = nI (8 * 1024 + 0) by rw [show K nx1 = 8 from c1]; decide]
    refine t_R_go (Nat.le_refl _) (t_X_k (z := 8 * 1024 + 0) (by decide) (fun q => absurd q (by decide))) (t_R_go (Nat.le_refl _) (t_X_l (r := 12) (n := 0) (by decide) (by decide) (fun _ q => absurd q (by decide))) (t_R_stop g1 g3 ⟨by omega, ?_⟩))
    have := q_cmp d7 g7 (by omega) (by omega) (t := 8) (r := 12) (Or.inl ⟨rfl, rfl⟩)
    rw [List.append_assoc, List.append_assoc, List.append_assoc] at this
    exact this
end P20

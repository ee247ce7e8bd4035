/-! atoms, and a LINE of a WAY, are read alike -/
section P22
variable {T : Nat → Int32} {e m : Nat} {K B C : Nat → Int32}
theorem t_atF (h : t_H T e K B C m) (hm : m ≤ 400) {g u : Nat} {kC kA : k_F} {lC lA : l_F} (hg : g ≤ 6) (hu : 1 ≤ u) (hC : g < 6 → t_A T e m (g + 1) u kC lC) (hA : g < 6 → t_A T e m (g + 1) u kA lA) : t_A T e m g u (k_atF K B C kC kA g) (l_atomF T e lC lA) := by
  intro p b s nx sc wr W ST hp hx
  have e22 : (22 : Int32) * 1024 + 0 = nI (22 * 1024 + 0) := by decide
  unfold k_atF l_atomF
  rcases t_sb (c := 40) h hp hx (by decide) with ⟨c1, c2, c3, c4⟩ | ⟨c1, c2, c3, c4⟩
  · rw [if_neg c2]
    rcases t_wb (i := 16) h c4 hx (by decide) (by decide) with ⟨d1, d2⟩ | ⟨d1, d2, d3, d4, d5⟩
    · rw [if_neg (show ¬ K nx = 22 from d1), if_neg (show ¬ K nx = 5 from c1), if_neg d2]
      have ep := t_pa (i := 16) c4 d2
      exact t_R_imp (t_tagF h hm ep.2 hx) (fun n c r _ _ hz => ⟨hz.1, q_cf_up hz.2 hu⟩)
    · rw [if_pos (show K nx = 22 from d1), if_pos d2]
      by_cases hg6 : g = 6
      · rw [if_neg (by omega), if_pos hg6]
        exact t_R_fail (by rw [(h.2.1 nx hx).2.1, c4])
      · rw [if_pos (by omega), if_neg hg6, t_pa_t d2]
        refine t_R_go (nx1 := nx + 1) (by omega) t_X_0 ?_
        refine t_then (hA (by omega) _ _ _ _ _ _ _ _ d5 (by omega)) (fun nx1 sc1 ST1 p1 b1 s1 W1 cs1 rs1 f1 f2 f3 f4 => ?_)
        rw [Nat.add_sub_cancel, e22]
        refine t_R_go (Nat.le_refl _) (t_X_k (z := 22 * 1024 + 0) (by decide) (fun q => absurd q (by decide))) (t_R_go (Nat.le_refl _) (t_X_l (r := 14) (n := 0) (by decide) (by decide) (fun _ q => absurd q (by decide))) (t_R_stop f1 f3 ⟨by omega, ?_⟩))
        exact q_cf_not f4.2
  · rw [if_pos c2, if_neg (show ¬ K nx = 22 from fun q => by rw [show K nx = 5 from c1] at q; exact absurd q (by decide)), if_pos (show K nx = 5 from c1)]
    by_cases hg6 : g = 6
    · rw [if_neg (by omega), if_pos hg6]
      exact t_R_fail (by rw [(h.2.1 nx hx).2.1, hp])
    · rw [if_pos (by omega), if_neg hg6]
      refine t_R_go (nx1 := nx + 1) (by omega) t_X_0 ?_
      refine t_then (hC (by omega) _ _ _ _ _ _ _ _ c4 (by omega)) (fun nx1 sc1 ST1 p1 b1 s1 W1 cs1 rs1 f1 f2 f3 f4 => ?_)
      rw [Nat.add_sub_cancel]
      rcases t_sb (c := 41) h f1 f3 (by decide) with ⟨g1, g2, g3, g4⟩ | ⟨g1, g2, g3, g4⟩
      · rw [if_neg (show ¬ K nx1 = 6 from g1), decide_eq_false g2]
        exact t_R_fail (by rw [(h.2.1 nx1 f3).2.1, f1])
      · rw [if_pos (show K nx1 = 6 from g1), decide_eq_true g2]
        refine t_R_go (nx1 := nx1 + 1) (by omega) t_X_0 (t_R_stop g4 (by omega) ⟨by omega, ?_⟩)
        rw [List.append_nil, List.append_nil, List.append_nil, List.append_nil]
        exact f4.2
theorem t_at (h : t_H T e K B C m) (hm : m ≤ 400) : ∀ (k g : Nat), k + g = 6 → t_A T e m g (2 * k + 1) (k_at K B C (k + 1) g) (l_at T e (k + 1))
  | 0, g, hk => t_atF h hm (by omega) (by omega) (fun q => absurd q (by omega)) (fun q => absurd q (by omega))
  | k + 1, g, hk => by
    have ih := t_at h hm k (g + 1) (by omega)
    refine t_atF h hm (by omega) (by omega) (fun _ => t_cond h hm ih) (fun _ => ?_)
    intro p b s nx sc wr W ST hp hx
    exact t_R_imp (ih p b s nx sc wr W ST hp hx) (fun n c r _ _ hz => ⟨hz.1, q_cf_up hz.2 (by omega)⟩)
/-- what a LINE of a WAY says -/
def t_W1 (k s sc s2 sc2 : Nat) (fr tk rc fr2 tk2 rc2 : Int32) (W W2 ST ST2 : Nat → Int32) : Prop :=
  (∃ a, a < 4 ∧ fr2 = fr ||| (1 <<< (nI a &&& 31)) ∧ tk2 = tk ∧ rc2 = rc ∧ sc2 = sc ∧ ST2 = ST ∧ s2 = s ∧ W2 = upd (upd W k 0) (k + 1) (nI a)) ∨
  (∃ a, 1 ≤ a ∧ a ≤ 60 ∧ fr2 = fr ∧ tk2 = nI a ∧ rc2 = rc ∧ sc2 = sc ∧ ST2 = ST ∧ s2 = s ∧ W2 = upd (upd W k 1) (k + 1) (nI a)) ∨
  (∃ a, 1 ≤ a ∧ a ≤ 9 ∧ fr2 = fr ∧ tk2 = tk ∧ rc2 = nI a ∧ sc2 = sc ∧ ST2 = ST ∧ s2 = s ∧ W2 = upd (upd W k 2) (k + 1) (nI a)) ∨
  (∃ cs rs sc1 ST1, fr2 = fr ∧ tk2 = tk ∧ rc2 = rc ∧ t_X sc s sc1 s2 ST ST1 (upd W k 3) W2 cs rs ∧ q_cf 15 cs rs ∧ sc2 = sc1 + 1 ∧ ST2 = upd ST1 sc1 (nI (21 * 1024 + 0)))
theorem t_way (h : t_H T e K B C m) (hm : m ≤ 400) {p nx g s k sc : Nat} {wr fr tk rc : Int32} {W ST : Nat → Int32} (hp : l_bl T e p = t_b T e nx) (hx : nx ≤ m) :
    ∃ (ok : Bool) (nx2 : Nat) (wr2 fr2 tk2 rc2 : Int32) (sc2 : Nat) (ST2 : Nat → Int32) (p2 b2 g2 s2 : Nat) (W2 : Nat → Int32), k_wln K B C nx wr fr tk rc sc ST = (ok, nx2, wr2, fr2, tk2, rc2, sc2, ST2) ∧ l_way T e k (l_le T e p) (l_bl T e p) g s W = (ok, p2, b2, g2, s2, W2) ∧ (ok = true → l_bl T e p2 = t_b T e nx2 ∧ nx < nx2 ∧ nx2 ≤ m ∧ wr2 = wr ∧ t_W1 k s sc s2 sc2 fr tk rc fr2 tk2 rc2 W W2 ST ST2) ∧ (ok = false → wr2 = nI b2) := by
  have hB : ∀ j, j ≤ m → B j = nI (t_b T e j) := fun j hj => (h.2.1 j hj).2.1
  unfold k_wln l_way
  rcases t_wb (i := 12) h hp hx (by decide) (by decide) with ⟨a1, a2⟩ | ⟨c1, c2, c3, c4, c5⟩
  rotate_left
  · rw [if_pos (show K nx = 16 from c1), if_pos c2]
    rcases t_nb (lo := 0) (hi := 3) h c5 (by omega) (by decide) (by decide) with ⟨d1, d2⟩ | ⟨d1, d2, d3, d4, n, d5, d6, d7, d8⟩
    · rw [if_pos (show k_bad (k_nx K C (nx + 1)) 0 3 from d1), d2, decide_eq_false t_m1]
      exact ⟨_, _, _, _, _, _, _, _, _, _, _, _, _, rfl, rfl, fun q => absurd q (by decide), fun _ => by rw [hB _ (by omega), c5]⟩
    · rw [if_neg (show ¬ k_bad (k_nx K C (nx + 1)) 0 3 from d1), d6, decide_eq_true (nI_n0 (by omega)), d5]
      exact ⟨_, _, _, _, _, _, _, _, _, _, _, _, _, rfl, rfl, fun _ => ⟨d4, by omega, by omega, rfl, Or.inl ⟨n, by omega, rfl, rfl, rfl, rfl, rfl, rfl, rfl⟩⟩, fun q => absurd q (by decide)⟩
  rw [if_neg (show ¬ K nx = 16 from a1), if_neg a2]
  rcases t_wb (i := 13) h hp hx (by decide) (by decide) with ⟨a1, a2⟩ | ⟨c1, c2, c3, c4, c5⟩
  rotate_left
  · rw [if_pos (show K nx = 17 from c1), if_pos c2]
    rcases t_nb (lo := 1) (hi := 60) h c5 (by omega) (by decide) (by decide) with ⟨d1, d2⟩ | ⟨d1, d2, d3, d4, n, d5, d6, d7, d8⟩
    · rw [if_pos (show k_bad (k_nx K C (nx + 1)) 1 60 from d1), d2, decide_eq_false t_m1]
      exact ⟨_, _, _, _, _, _, _, _, _, _, _, _, _, rfl, rfl, fun q => absurd q (by decide), fun _ => by rw [hB _ (by omega), c5]⟩
    · rw [if_neg (show ¬ k_bad (k_nx K C (nx + 1)) 1 60 from d1), d6, decide_eq_true (nI_n0 (by omega)), d5]
      exact ⟨_, _, _, _, _, _, _, _, _, _, _, _, _, rfl, rfl, fun _ => ⟨d4, by omega, by omega, rfl, Or.inr (Or.inl ⟨n, by omega, by omega, rfl, rfl, rfl, rfl, rfl, rfl, rfl⟩)⟩, fun q => absurd q (by decide)⟩
  rw [if_neg (show ¬ K nx = 17 from a1), if_neg a2]
  rcases t_wb (i := 14) h hp hx (by decide) (by decide) with ⟨a1, a2⟩ | ⟨c1, c2, c3, c4, c5⟩
  rotate_left
  · rw [if_pos (show K nx = 18 from c1), if_pos c2]
    rcases t_nb (lo := 1) (hi := 9) h c5 (by omega) (by decide) (by decide) with ⟨d1, d2⟩ | ⟨d1, d2, d3, d4, n, d5, d6, d7, d8⟩
    · rw [if_pos (show k_bad (k_nx K C (nx + 1)) 1 9 from d1), d2, decide_eq_false t_m1]
      exact ⟨_, _, _, _, _, _, _, _, _, _, _, _, _, rfl, rfl, fun q => absurd q (by decide), fun _ => by rw [hB _ (by omega), c5]⟩
    · rw [if_neg (show ¬ k_bad (k_nx K C (nx + 1)) 1 9 from d1), d6, decide_eq_true (nI_n0 (by omega)), d5]
      exact ⟨_, _, _, _, _, _, _, _, _, _, _, _, _, rfl, rfl, fun _ => ⟨d4, by omega, by omega, rfl, Or.inr (Or.inr (Or.inl ⟨n, by omega, by omega, rfl, rfl, rfl, rfl, rfl, rfl, rfl⟩))⟩, fun q => absurd q (by decide)⟩
  rw [if_neg (show ¬ K nx = 18 from a1), if_neg a2]
  rcases t_wb (i := 15) h hp hx (by decide) (by decide) with ⟨a1, a2⟩ | ⟨c1, c2, c3, c4, c5⟩
  rotate_left
  · rw [if_pos (show K nx = 19 from c1), if_pos c2]
    have e21 : (21 : Int32) * 1024 + 0 = nI (21 * 1024 + 0) := by decide
    have hc := t_cond h hm (t_at h hm 6 0 (by decide)) (l_le T e p) (l_bl T e p) s (nx + 1) sc wr (upd W k 3) ST c5 (by omega)
    rcases hc with ⟨nx2, sc2, ST2, p2, b2, s2, W2, cs, rs, h1, h2, h3, h4, h5, h6, h7⟩ | ⟨nx2, sc2, ST2, p2, b2, g2, s2, W2, h1, h2⟩
    · rw [h1, h2, k_ndF_t, e21]
      exact ⟨_, _, _, _, _, _, _, _, _, _, _, _, _, rfl, rfl, fun _ => ⟨h3, by omega, h5, rfl, Or.inr (Or.inr (Or.inr ⟨cs, rs, sc2, ST2, rfl, rfl, rfl, h6, h7.2, rfl, rfl⟩))⟩, fun q => absurd q (by decide)⟩
    · rw [h1, h2, k_ndF_f]
      exact ⟨_, _, _, _, _, _, _, _, _, _, _, _, _, rfl, rfl, fun q => absurd q (by decide), fun _ => rfl⟩
  rw [if_neg (show ¬ K nx = 19 from a1), if_neg a2]
  exact ⟨_, _, _, _, _, _, _, _, _, _, _, _, _, rfl, rfl, fun q => absurd q (by decide), fun _ => by rw [hB _ hx, hp]⟩
end P22

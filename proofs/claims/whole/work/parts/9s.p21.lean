/-! conditions are read alike -/
section P21
variable {T : Nat → Int32} {e m : Nat} {K B C : Nat → Int32}
/-- the atoms of a depth answer alike -/
def t_A (T : Nat → Int32) (e m g u : Nat) (kA : k_F) (lA : l_F) : Prop := ∀ (p b s nx sc : Nat) (wr : Int32) (W ST : Nat → Int32), l_bl T e p = t_b T e nx → nx ≤ m → t_R T e m nx g s sc wr W ST (fun n c r => nx < n ∧ q_cf u c r) (kA nx wr sc ST) (lA p b g s W)
/-- what the reference does behind an atom -/
def t_rt (T : Nat → Int32) (e : Nat) (A : l_F) (ow : Bool) (f2 f3 : Nat) : l_F := fun p b g s W => l_then (l_jk T e 27 15 A f2 p b g s W) (if ow = true then (fun p b g s W => l_jk T e 28 16 (l_j T e 27 15 A) f3 p b g (s + 1) (l_em W s 16 0)) else l_jk T e 28 16 (l_j T e 27 15 A) f3)
theorem t_rt_t {A : l_F} {f2 f3 p b g s : Nat} {W : Nat → Int32} : t_rt T e A true f2 f3 p b g s W = l_then (l_jk T e 27 15 A f2 p b g s W) (fun p b g s W => l_jk T e 28 16 (l_j T e 27 15 A) f3 p b g (s + 1) (l_em W s 16 0)) := rfl
theorem t_rt_f {A : l_F} {f2 f3 p b g s : Nat} {W : Nat → Int32} : t_rt T e A false f2 f3 p b g s W = l_then (l_jk T e 27 15 A f2 p b g s W) (l_jk T e 28 16 (l_j T e 27 15 A) f3) := rfl
theorem t_orj {A : l_F} {f3 p b g s : Nat} {W : Nat → Int32} (hf : 0 < f3) (hw : l_w T (l_bl T e p) (l_le T e p) 28) : l_jk T e 28 16 (l_j T e 27 15 A) f3 p b g s W = l_then (A (l_le T e p) (l_bl T e p) g s W) (t_rt T e A true 401 (f3 - 1)) := by
  rw [l_jk_e hf, if_pos hw, t_pa_t hw]
  show l_then (l_then _ _) _ = _
  rw [l_then_a]
  rfl
theorem t_cdk (h : t_H T e K B C m) (hm : m ≤ 400) {g u : Nat} {kA : k_F} {lA : l_F} (hA : t_A T e m g u kA lA) : ∀ (f : Nat) (ow : Bool) {f2 f3 p b s nx sc : Nat} {wr : Int32} {W ST : Nat → Int32} {c0 c1 : List Nat} {r0 r1 : List (Nat × Nat)}, l_bl T e p = t_b T e nx → nx ≤ m → m < f + nx → m < f2 + nx → m < f3 + nx → q_cf (u + 1) c1 r1 → (if ow = true then q_cf (u + 2) c0 r0 else c0 = [] ∧ r0 = []) →
    t_R T e m nx g s sc wr W ST (fun _ c r => q_cf (u + 2) (c0 ++ c1 ++ c) (r0 ++ r1 ++ r)) (k_cdk K kA f ow nx wr sc ST) (t_rt T e lA ow f2 f3 p b g s W)
  | 0, ow, f2, f3, p, b, s, nx, sc, wr, W, ST, c0, c1, r0, r1, hp, hx, hf, hf2, hf3, hq, h0 => absurd hf (by omega)
  | f + 1, ow, f2, f3, p, b, s, nx, sc, wr, W, ST, c0, c1, r0, r1, hp, hx, hf, hf2, hf3, hq, h0 => by
    have e20 : (20 : Int32) * 1024 + 0 = nI (20 * 1024 + 0) := by decide
    have e21 : (21 : Int32) * 1024 + 0 = nI (21 * 1024 + 0) := by decide
    rw [k_cdk_e (by omega)]
    rcases t_wb (i := 28) h hp hx (by decide) (by decide) with ⟨a1, a2⟩ | ⟨a1, a2, a3, a4, a5⟩
    · rw [if_neg (show ¬ K nx = 20 from a1)]
      rcases t_wb (i := 27) h hp hx (by decide) (by decide) with ⟨b1, b2⟩ | ⟨b1, b2, b3, b4, b5⟩
      · rw [if_neg (show ¬ K nx = 21 from b1)]
        have ep := t_pa (i := 27) hp b2
        have a2' : ¬ l_w T (l_bl T e (l_pa T e 27 p)) (l_le T e (l_pa T e 27 p)) 28 := by
          rcases t_wb (i := 28) h ep.2 hx (by decide) (by decide) with ⟨_, z⟩ | ⟨z, _⟩
          · exact z
          · exact absurd z a1
        have ep2 := t_pa (i := 28) ep.2 a2'
        cases ow with
        | false =>
          rw [t_rt_f, l_jk_e (by omega), if_neg b2, l_then_t, l_jk_e (by omega), if_neg a2']
          obtain ⟨rfl, rfl⟩ := h0
          exact t_R_stop ep2.2 hx (by rw [List.append_nil, List.append_nil]; exact q_cf_up hq (by omega))
        | true =>
          rw [t_rt_t, l_jk_e (by omega), if_neg b2, l_then_t, l_jk_e (by omega), if_neg a2']
          show t_R T e m nx g s sc wr W ST _ (true, nx, wr, sc + 1, upd ST sc (20 * 1024 + 0)) _
          rw [e20]
          refine t_R_go (Nat.le_refl _) (t_X_k (z := 20 * 1024 + 0) (by decide) (fun q => absurd q (by decide))) (t_R_go (Nat.le_refl _) (t_X_l (r := 16) (n := 0) (by decide) (by decide) (fun _ q => absurd q (by decide))) (t_R_stop ep2.2 hx ?_))
          exact q_cf_or h0 hq (by omega)
      · rw [if_pos (show K nx = 21 from b1)]
        have el : t_rt T e lA ow f2 f3 p b g s W = l_then (lA (l_le T e p) (l_bl T e p) g s W) (fun p b g s W => t_rt T e lA ow (f2 - 1) f3 p b g (s + 1) (l_em W s 15 0)) := by
          show l_then (l_jk T e 27 15 lA f2 p b g s W) _ = _
          rw [l_jk_e (by omega), if_pos b2, t_pa_t b2, l_then_a]
          rfl
        rw [el]
        refine t_R_go (nx1 := nx + 1) (by omega) t_X_0 ?_
        refine t_then (hA _ _ _ _ _ _ _ _ b5 (by omega)) (fun nx1 sc1 ST1 p1 b1 s1 W1 cs1 rs1 d1 d2 d3 d4 => ?_)
        rw [e21]
        refine t_R_go (Nat.le_refl _) (t_X_k (z := 21 * 1024 + 0) (by decide) (fun q => absurd q (by decide))) (t_R_go (Nat.le_refl _) (t_X_l (r := 15) (n := 0) (by decide) (by decide) (fun _ q => absurd q (by decide))) ?_)
        have ih := t_cdk h hm hA f ow (f2 := f2 - 1) (f3 := f3) (p := p1) (b := b1) (s := s1 + 1) (nx := nx1) (sc := sc1 + 1) (wr := wr) (W := l_em W1 s1 15 0) (ST := upd ST1 sc1 (nI (21 * 1024 + 0))) (c0 := c0) (r0 := r0) d1 d3 (by omega) (by omega) (by omega) (q_cf_and hq d4.2 (by omega)) h0
        refine t_R_imp ih (fun n c r _ _ hz => ?_)
        simp only [List.append_assoc, List.nil_append, List.cons_append] at hz ⊢
        exact hz
    · rw [if_pos (show K nx = 20 from a1)]
      have n27 : ¬ l_w T (l_bl T e p) (l_le T e p) 27 := by
        rcases t_wb (i := 27) h hp hx (by decide) (by decide) with ⟨_, z⟩ | ⟨z, _⟩
        · exact z
        · rw [a1] at z
          exact absurd z (by decide)
      have ep := t_pa (i := 27) hp n27
      have a28 : l_w T (l_bl T e (l_pa T e 27 p)) (l_le T e (l_pa T e 27 p)) 28 ∧ l_bl T e (l_le T e (l_pa T e 27 p)) = t_b T e (nx + 1) := by
        rcases t_wb (i := 28) h ep.2 hx (by decide) (by decide) with ⟨z, _⟩ | ⟨z1, z2, z3, z4, z5⟩
        · exact absurd a1 z
        · exact ⟨z2, z5⟩
      cases ow with
      | false =>
        obtain ⟨rfl, rfl⟩ := h0
        rw [t_rt_f, l_jk_e (by omega), if_neg n27, l_then_t, t_orj (by omega) a28.1, if_neg (show ¬ false = true by decide)]
        refine t_R_go (nx1 := nx + 1) (by omega) t_X_0 ?_
        refine t_then (hA _ _ _ _ _ _ _ _ a28.2 (by omega)) (fun nx1 sc1 ST1 p1 b1 s1 W1 cs1 rs1 d1 d2 d3 d4 => ?_)
        have ih := t_cdk h hm hA f true (f2 := 401) (f3 := f3 - 1) (p := p1) (b := b1) (s := s1) (nx := nx1) (sc := sc1) (wr := wr) (W := W1) (ST := ST1) (c0 := c1) (r0 := r1) d1 d3 (by omega) (by omega) (by omega) (q_cf_up d4.2 (by omega)) (q_cf_up hq (by omega))
        refine t_R_imp ih (fun n c r _ _ hz => ?_)
        simp only [List.append_assoc, List.nil_append, List.cons_append] at hz ⊢
        exact hz
      | true =>
        rw [t_rt_t, l_jk_e (by omega), if_neg n27, l_then_t, t_orj (by omega) a28.1, if_pos rfl, e20]
        refine t_R_go (Nat.le_refl _) (t_X_k (z := 20 * 1024 + 0) (by decide) (fun q => absurd q (by decide))) (t_R_go (nx1 := nx + 1) (by omega) (t_X_l (r := 16) (n := 0) (by decide) (by decide) (fun _ q => absurd q (by decide))) ?_)
        refine t_then (hA _ _ _ _ _ _ _ _ a28.2 (by omega)) (fun nx1 sc1 ST1 p1 b1 s1 W1 cs1 rs1 d1 d2 d3 d4 => ?_)
        have ih := t_cdk h hm hA f true (f2 := 401) (f3 := f3 - 1) (p := p1) (b := b1) (s := s1) (nx := nx1) (sc := sc1) (wr := wr) (W := W1) (ST := ST1) d1 d3 (by omega) (by omega) (by omega) (q_cf_up d4.2 (by omega)) (q_cf_or h0 hq (by omega))
        refine t_R_imp ih (fun n c r _ _ hz => ?_)
        simp only [List.append_assoc, List.nil_append, List.cons_append] at hz ⊢
        exact hz
theorem t_cond (h : t_H T e K B C m) (hm : m ≤ 400) {g u : Nat} {kA : k_F} {lA : l_F} (hA : t_A T e m g u kA lA) : t_A T e m g (u + 2) (k_cd K kA) (l_cond T e lA) := by
  intro p b s nx sc wr W ST hp hx
  have el : l_cond T e lA p b g s W = l_then (lA p b g s W) (t_rt T e lA false 401 401) := by
    show l_then (l_then _ _) _ = _
    rw [l_then_a]
    rfl
  rw [el]
  unfold k_cd
  refine t_then (hA _ _ _ _ _ _ _ _ hp hx) (fun nx1 sc1 ST1 p1 b1 s1 W1 cs1 rs1 d1 d2 d3 d4 => ?_)
  refine t_R_imp (t_cdk h hm hA 401 false (c0 := []) (r0 := []) d1 d3 (by omega) (by omega) (by omega) (q_cf_up d4.2 (by omega)) ⟨rfl, rfl⟩) (fun n c r z1 _ hz => ⟨by omega, hz⟩)
/-- a tag without a number -/
theorem t_tag0 {p b g s nx sc t r : Nat} {wr : Int32} {W ST : Nat → Int32} (hx : nx < m) (hp : l_bl T e p = t_b T e (nx + 1)) (ht : t ≤ 28) (hr : r ≤ 5) (h4 : r ≠ 0 ∧ r ≠ 1 ∧ r ≠ 4 ∧ r ≠ 5 ∧ r ≠ 10 → r ≤ 10 → 0 < 4) (hq : q_cf 1 [t * 1024 + 0] [(r, 0)]) : t_R T e m nx g s sc wr W ST (fun n c r => nx < n ∧ q_cf 1 c r) (true, nx + 1, wr, sc + 1, upd ST sc (nI (t * 1024 + 0))) (true, p, b, g, s + 1, l_em W s (nI r) (nI 0)) := by
  refine t_R_go (nx1 := nx + 1) (by omega) (t_X_k (z := t * 1024 + 0) (by omega) (fun q => by omega)) (t_R_go (Nat.le_refl _) (t_X_l (r := r) (n := 0) (by omega) (by decide) (fun _ _ => by decide)) (t_R_stop hp (by omega) ⟨by omega, ?_⟩))
  exact hq
theorem t_tag1 {p b g s nx sc t r n : Nat} {wr : Int32} {W ST : Nat → Int32} (hx : nx + 1 < m) (hp : l_bl T e p = t_b T e (nx + 1 + 1)) (ht : t ≤ 28) (hr : r ≤ 9) (hn : n < 4) (hq : q_cf 1 [t * 1024 + n] [(r, n)]) : t_R T e m nx g s sc wr W ST (fun n c r => nx < n ∧ q_cf 1 c r) (true, nx + 1 + 1, wr, sc + 1, upd ST sc (nI (t * 1024 + n))) (true, p, b, g, s + 1, l_em W s (nI r) (nI n)) := by
  refine t_R_go (nx1 := nx + 1 + 1) (by omega) (t_X_k (z := t * 1024 + n) (by omega) (fun q => by omega)) (t_R_go (Nat.le_refl _) (t_X_l (r := r) (n := n) (by omega) (by omega) (fun _ _ => by omega)) (t_R_stop hp (by omega) ⟨by omega, ?_⟩))
  exact hq
theorem l_tag_n {b p : Nat} (h1 : ¬ l_w T b p 17) (h2 : ¬ l_w T b p 18) (h3 : ¬ l_w T b p 19) (h4 : ¬ l_w T b p 20) (h5 : ¬ l_w T b p 21) (h6 : ¬ l_w T b p 22) : l_tag T b p = -1 := by
  unfold l_tag
  rw [if_neg h1, if_neg h2, if_neg h3, if_neg h4, if_neg h5, if_neg h6]
theorem v_le5 {r : Nat} (h : 6 ≤ r) (h2 : r < 1000) : ¬ nI r ≤ 5 := by
  intro q
  rw [Int32.le_iff_toInt_le, nI_toInt (by omega)] at q
  have : (5 : Int32).toInt = 5 := by decide
  omega
theorem v_nm1 {r : Nat} (h2 : r < 2 ^ 31) : ¬ nI r = -1 := by
  intro q
  have h := nI_pos (n := r) h2
  rw [q] at h
  exact h (by decide)
theorem v_tz {t n : Nat} : nI t * 1024 + nI n = nI (t * 1024 + n) := by
  rw [← v_add, ← v_mul]
  rfl
/-- a tag or a comparison -/
theorem t_tagF (h : t_H T e K B C m) (hm : m ≤ 400) {p b g s nx sc : Nat} {wr : Int32} {W ST : Nat → Int32} (hp : l_bl T e p = t_b T e nx) (hx : nx ≤ m) : t_R T e m nx g s sc wr W ST (fun n c r => nx < n ∧ q_cf 1 c r)
    (if K nx = 23 ∨ K nx = 24 then (true, nx + 1, wr, sc + 1, upd ST sc (K nx * 1024 + 0))
  else if K nx = 25 ∨ K nx = 26 ∨ K nx = 27 ∨ K nx = 28 then (if k_bad (k_nx K C (nx + 1)) 0 3 then (false, nx + 1, B (nx + 1), sc, ST) else (true, nx + 1 + 1, wr, sc + 1, upd ST sc (K nx * 1024 + k_nx K C (nx + 1))))
  else k_cmp K B C nx wr sc ST) (l_tagF T e p b g s W) := by
  have key : ∀ i t r : Nat, K nx = nI t → 25 ≤ t → t ≤ 28 → 6 ≤ r → r ≤ 9 → nI t = 25 ∨ nI t = 26 ∨ nI t = 27 ∨ nI t = 28 → nx < m → l_bl T e (l_le T e p) = t_b T e (nx + 1) → l_tag T (l_bl T e p) (l_le T e p) = nI r → (∀ n, n < 4 → q_cf 1 [t * 1024 + n] [(r, n)]) → t_R T e m nx g s sc wr W ST (fun n c r => nx < n ∧ q_cf 1 c r)
    (if K nx = 23 ∨ K nx = 24 then (true, nx + 1, wr, sc + 1, upd ST sc (K nx * 1024 + 0))
  else if K nx = 25 ∨ K nx = 26 ∨ K nx = 27 ∨ K nx = 28 then (if k_bad (k_nx K C (nx + 1)) 0 3 then (false, nx + 1, B (nx + 1), sc, ST) else (true, nx + 1 + 1, wr, sc + 1, upd ST sc (K nx * 1024 + k_nx K C (nx + 1))))
  else k_cmp K B C nx wr sc ST) (l_tagF T e p b g s W) := by
    intro i t r a1 a2 a3 a4 a5 a6 a7 a8 a9 a10
    unfold l_tagF
    rw [a9, a1, if_neg (v_nm1 (by omega)), if_neg (v_le5 a4 (by omega))]
    rw [if_neg (show ¬ (nI t = 23 ∨ nI t = 24) from fun q => by rcases q with q | q; (have := (nI_eq (a := t) (b := 23) (by omega) (by decide)).mp q; omega); (have := (nI_eq (a := t) (b := 24) (by omega) (by decide)).mp q; omega)), if_pos a6]
    rcases t_nb (lo := 0) (hi := 3) h a8 (by omega) (by decide) (by decide) with ⟨d1, d2⟩ | ⟨d1, d2, d3, d4, n, d5, d6, d7, d8⟩
    · rw [if_pos (show k_bad (k_nx K C (nx + 1)) 0 3 from d1), d2, decide_eq_false (show ¬ ¬ (-1 : Int32) < 0 by decide)]
      exact t_R_fail (by rw [(h.2.1 (nx + 1) (by omega)).2.1, a8])
    · rw [if_neg (show ¬ k_bad (k_nx K C (nx + 1)) 0 3 from d1), d6, decide_eq_true (show ¬ nI n < 0 from nI_pos (by omega)), d5, v_tz]
      exact t_tag1 d2 d4 a3 a5 (by omega) (a10 n (by omega))
  rcases t_wb (i := 17) h hp hx (by decide) (by decide) with ⟨a1, a2⟩ | ⟨c1, c2, c3, c4, c5⟩
  rotate_left
  · unfold l_tagF
    have et : l_tag T (l_bl T e p) (l_le T e p) = nI 4 := by
      unfold l_tag
      rw [if_pos c2]
      rfl
    rw [et, if_neg (show ¬ nI 4 = -1 by decide), if_pos (show nI 4 ≤ 5 by decide), if_pos (show K nx = 23 ∨ K nx = 24 from Or.inl c1), show K nx * 1024 + 0 = nI (23 * 1024 + 0) by rw [show K nx = 23 from c1]; decide]
    exact t_tag0 (r := 4) c3 c5 (by decide) (by decide) (fun _ _ => by decide) (q_tag23 (by decide))
  rcases t_wb (i := 18) h hp hx (by decide) (by decide) with ⟨b1, b2⟩ | ⟨c1, c2, c3, c4, c5⟩
  rotate_left
  · unfold l_tagF
    have et : l_tag T (l_bl T e p) (l_le T e p) = nI 5 := by
      unfold l_tag
      rw [if_neg a2, if_pos c2]
      rfl
    rw [et, if_neg (show ¬ nI 5 = -1 by decide), if_pos (show nI 5 ≤ 5 by decide), if_pos (show K nx = 23 ∨ K nx = 24 from Or.inr c1), show K nx * 1024 + 0 = nI (24 * 1024 + 0) by rw [show K nx = 24 from c1]; decide]
    exact t_tag0 (r := 5) c3 c5 (by decide) (by decide) (fun _ _ => by decide) (q_tag24 (by decide))
  rcases t_wb (i := 19) h hp hx (by decide) (by decide) with ⟨d1, d2⟩ | ⟨c1, c2, c3, c4, c5⟩
  rotate_left
  · refine key 19 25 6 c1 (by decide) (by decide) (by decide) (by decide) (by decide) c3 c5 ?_ (fun n hn => q_tag25 hn)
    unfold l_tag
    rw [if_neg a2, if_neg b2, if_pos c2]
    rfl
  rcases t_wb (i := 20) h hp hx (by decide) (by decide) with ⟨f1, f2⟩ | ⟨c1, c2, c3, c4, c5⟩
  rotate_left
  · refine key 20 26 7 c1 (by decide) (by decide) (by decide) (by decide) (by decide) c3 c5 ?_ (fun n hn => q_tag26 hn)
    unfold l_tag
    rw [if_neg a2, if_neg b2, if_neg d2, if_pos c2]
    rfl
  rcases t_wb (i := 21) h hp hx (by decide) (by decide) with ⟨g1, g2⟩ | ⟨c1, c2, c3, c4, c5⟩
  rotate_left
  · refine key 21 27 8 c1 (by decide) (by decide) (by decide) (by decide) (by decide) c3 c5 ?_ (fun n hn => q_tag27 hn)
    unfold l_tag
    rw [if_neg a2, if_neg b2, if_neg d2, if_neg f2, if_pos c2]
    rfl
  rcases t_wb (i := 22) h hp hx (by decide) (by decide) with ⟨i1, i2⟩ | ⟨c1, c2, c3, c4, c5⟩
  rotate_left
  · refine key 22 28 9 c1 (by decide) (by decide) (by decide) (by decide) (by decide) c3 c5 ?_ (fun n hn => q_tag28 hn)
    unfold l_tag
    rw [if_neg a2, if_neg b2, if_neg d2, if_neg f2, if_neg g2, if_pos c2]
    rfl
  unfold l_tagF
  rw [if_pos (l_tag_n a2 b2 d2 f2 g2 i2), if_neg (show ¬ (K nx = 23 ∨ K nx = 24) from fun q => q.elim a1 b1), if_neg (show ¬ (K nx = 25 ∨ K nx = 26 ∨ K nx = 27 ∨ K nx = 28) from fun q => q.elim d1 (fun q => q.elim f1 (fun q => q.elim g1 i1)))]
  exact t_cmp h hm (by rw [hp]; exact t_stay hp) hx
end P21

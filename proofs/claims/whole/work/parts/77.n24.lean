/-! the reference's reader writes behind 8747 alone -/
def l_kp (F : l_F) : Prop := ∀ (p b g s : Nat) (W : Nat → Int32) (j : Nat), j < 8747 → (F p b g s W).2.2.2.2.2 j = W j
theorem l_up_k {W : Nat → Int32} {k j : Nat} {v : Int32} (h : j ≠ k) : upd W k v j = W j := by unfold upd; rw [if_neg h]
theorem l_em_k {W : Nat → Int32} {s j : Nat} {a v : Int32} (hj : j < 8747) : l_em W s a v j = W j := by
  unfold l_em
  rw [l_up_k (by omega), l_up_k (by omega)]
theorem l_then_k {r : Bool × l_S} {f : l_F} {j : Nat} {w : Int32} (hr : r.2.2.2.2.2 j = w) (hf : l_kp f) (hj : j < 8747) : (l_then r f).2.2.2.2.2 j = w := by
  unfold l_then
  split
  · rw [hf _ _ _ _ _ _ hj]; exact hr
  · exact hr
theorem l_part_k {T : Nat → Int32} {e : Nat} : l_kp (l_part T e) := by
  intro p b g s W j hj
  unfold l_part
  repeat' split
  all_goals first | rfl | exact l_em_k hj
theorem l_suk_k {T : Nat → Int32} {e : Nat} : ∀ k, l_kp (l_suk T e k) := by
  intro k
  induction k with
  | zero => intro p b g s W j hj; rfl
  | succ k ih =>
    intro p b g s W j hj
    rw [l_suk_e (by omega)]
    split
    · exact l_then_k (l_part_k _ _ _ _ _ _ hj) (fun p b g s W j hj => by rw [Nat.add_sub_cancel, ih _ _ _ _ _ _ hj, l_em_k hj]) hj
    · rfl
theorem l_su_k {T : Nat → Int32} {e : Nat} : l_kp (l_su T e) := fun _ _ _ _ _ _ hj => l_then_k (l_part_k _ _ _ _ _ _ hj) (l_suk_k _) hj
theorem l_jk_k {T : Nat → Int32} {e i : Nat} {cd : Int32} {A : l_F} (hA : l_kp A) : ∀ k, l_kp (l_jk T e i cd A k) := by
  intro k
  induction k with
  | zero => intro p b g s W j hj; rfl
  | succ k ih =>
    intro p b g s W j hj
    rw [l_jk_e (by omega)]
    split
    · exact l_then_k (hA _ _ _ _ _ _ hj) (fun p b g s W j hj => by rw [Nat.add_sub_cancel, ih _ _ _ _ _ _ hj, l_em_k hj]) hj
    · rfl
theorem l_j_k {T : Nat → Int32} {e i : Nat} {cd : Int32} {A : l_F} (hA : l_kp A) : l_kp (l_j T e i cd A) := fun _ _ _ _ _ _ hj => l_then_k (hA _ _ _ _ _ _ hj) (l_jk_k hA _) hj
theorem l_cmp_k {T : Nat → Int32} {e : Nat} : l_kp (l_cmp T e) := by
  intro p b g s W j hj
  refine l_then_k (l_su_k _ _ _ _ _ _ hj) (fun p b g s W j hj => ?_) hj
  split
  · exact l_then_k (l_su_k _ _ _ _ _ _ hj) (fun p b g s W j hj => l_em_k hj) hj
  · split
    · exact l_then_k (l_su_k _ _ _ _ _ _ hj) (fun p b g s W j hj => l_em_k hj) hj
    · rfl
theorem l_tagF_k {T : Nat → Int32} {e : Nat} : l_kp (l_tagF T e) := by
  intro p b g s W j hj
  unfold l_tagF
  split
  · exact l_cmp_k _ _ _ _ _ _ hj
  · split
    · exact l_em_k hj
    · exact l_em_k hj
theorem l_atomF_k {T : Nat → Int32} {e : Nat} {C A : l_F} (hC : l_kp C) (hA : l_kp A) : l_kp (l_atomF T e C A) := by
  intro p b g s W j hj
  unfold l_atomF
  split
  · split
    · rfl
    · exact l_then_k (hC _ _ _ _ _ _ hj) (fun p b g s W j hj => rfl) hj
  · split
    · split
      · rfl
      · exact l_then_k (hA _ _ _ _ _ _ hj) (fun p b g s W j hj => l_em_k hj) hj
    · exact l_tagF_k _ _ _ _ _ _ hj
theorem l_cond_k {T : Nat → Int32} {e : Nat} {A : l_F} (hA : l_kp A) : l_kp (l_cond T e A) := l_j_k (l_j_k hA)
theorem l_at_k {T : Nat → Int32} {e : Nat} : ∀ k, l_kp (l_at T e k) := by
  intro k
  induction k with
  | zero => intro p b g s W j hj; rfl
  | succ k ih => exact l_atomF_k (l_cond_k ih) ih
theorem l_rule_k {T : Nat → Int32} {e k : Nat} (hk : 8747 ≤ k) : l_kp (l_rule T e k) := by
  intro p b g s W j hj
  unfold l_rule
  repeat' split
  all_goals first
    | (dsimp only; rw [l_up_k (by omega), l_up_k (by omega), l_up_k (by omega)]; done)
    | (dsimp only; rw [l_up_k (by omega), l_up_k (by omega)]; done)
    | (dsimp only; rw [l_up_k (by omega)])
theorem l_way_k {T : Nat → Int32} {e k : Nat} (hk : 8747 ≤ k) : l_kp (l_way T e k) := by
  intro p b g s W j hj
  unfold l_way
  repeat' split
  all_goals first
    | (dsimp only; rw [l_up_k (by omega), l_up_k (by omega)]; done)
    | (rw [l_cond_k (l_at_k _) _ _ _ _ _ _ hj, l_up_k (by omega)]; done)
    | (dsimp only; rw [l_up_k (by omega)])
theorem l_line_k {T : Nat → Int32} {e i : Nat} {G : Nat → l_F} (hG : ∀ k, 8747 ≤ k → l_kp (G k)) : l_kp (l_line T e G i) := by
  intro p b g s W j hj
  unfold l_line
  split
  · rfl
  · unfold l_fin
    dsimp only
    rw [l_up_k (by omega), hG _ (by omega) _ _ _ _ _ _ hj, l_up_k (by omega), l_up_k (by omega), l_up_k (by omega)]
theorem l_allk_k {T : Nat → Int32} {e : Nat} {G : Nat → l_F} (hG : ∀ k, 8747 ≤ k → l_kp (G k)) : ∀ (f i p b g s : Nat) (W : Nat → Int32) (j : Nat), j < 8747 → (l_allk T e G f i p b g s W).2.2.2.2.2 j = W j := by
  intro f
  induction f with
  | zero => intro i p b g s W j hj; rfl
  | succ f ih =>
    intro i p b g s W j hj
    have h1 := l_line_k (T := T) (e := e) (i := i) hG p b g s W j hj
    rcases hq : l_line T e G i p b g s W with ⟨ok, p2, b2, g2, s2, W2⟩
    rw [hq] at h1
    cases ok with
    | false => rw [l_allk_f (by omega) hq]; exact h1
    | true =>
      rw [l_allk_t (by omega) hq]
      split
      · exact h1
      · split
        · rw [Nat.add_sub_cancel, ih _ _ _ _ _ _ _ hj]; exact h1
        · exact h1
theorem l_all_k {T : Nat → Int32} {e : Nat} {G : Nat → l_F} (hG : ∀ k, 8747 ≤ k → l_kp (G k)) {p b g s : Nat} {W : Nat → Int32} {j : Nat} (hj : j < 8747) : (l_all T e G p b g s W).2.2.2.2.2 j = W j := by
  unfold l_all
  split
  · rfl
  · exact l_allk_k hG _ _ _ _ _ _ _ _ hj

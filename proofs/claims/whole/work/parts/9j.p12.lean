/-! the tokens of a text, by their places -/
abbrev t_L (T : Nat → Int32) (p : Nat) : Prop := 97 ≤ T p ∧ T p ≤ 122
abbrev t_G (T : Nat → Int32) (p : Nat) : Prop := 48 ≤ T p ∧ T p ≤ 57
/-- where the token at p ends -/
def t_e (T : Nat → Int32) (e p : Nat) : Nat := if p < e then (if t_L T p then l_to T e 97 122 (p + 1) else if t_G T p then l_to T e 48 57 (p + 1) else p + 1) else p
/-- what the token at p is -/
def t_k (T : Nat → Int32) (e p : Nat) : Int32 := if p < e then (if t_L T p then nI (k_word T p (l_to T e 97 122 (p + 1))) else if t_G T p then 2 else k_sign (T p)) else 0
def t_c (T : Nat → Int32) (e p : Nat) : Int32 := if p < e then (if t_L T p then 0 else if t_G T p then nI (k_num T p (l_to T e 48 57 (p + 1))) else 0) else 0
/-- where the token j begins -/
def t_b (T : Nat → Int32) (e : Nat) : Nat → Nat
  | 0 => l_bl T e 0
  | j + 1 => l_bl T e (t_e T e (t_b T e j))
theorem y_updn {f : Nat → Int32} {k j : Nat} {v : Int32} (h : j ≠ k) : upd f k v j = f j := by
  unfold upd
  rw [if_neg h]
theorem t_sc {T : Nat → Int32} {e : Nat} : ∀ (f p : Nat) (q : k_T), p ≤ e → e < f + p → l_bl T e p = t_b T e q.1 → ∃ (m : Nat) (A B C : Nat → Int32), k_sc T e f p q = (m, A, B, C) ∧ q.1 ≤ m ∧ (∀ j, j < q.1 → A j = q.2.1 j ∧ B j = q.2.2.1 j ∧ C j = q.2.2.2 j) ∧ (∀ j, q.1 ≤ j → j < m → A j = t_k T e (t_b T e j) ∧ B j = nI (t_b T e j) ∧ C j = t_c T e (t_b T e j) ∧ t_b T e j < e) ∧ t_b T e m = e
  | 0, p, q, h1, h2, _ => absurd h2 (by omega)
  | f + 1, p, q, h1, h2, h3 => by
    rw [k_sc_e (by omega), Nat.add_sub_cancel]
    by_cases c : p < e
    · rw [if_pos c]
      have nb : ∀ x : Int32, ¬ (32 ≤ x ∧ x ≤ 32) → x ≠ 32 := fun x h q => h (by rw [q]; decide)
      have step : ∀ (t cc : Int32) (p2 : Nat), ¬ (p < e ∧ 32 ≤ T p ∧ T p ≤ 32) → t = t_k T e p → cc = t_c T e p → p2 = t_e T e p → p2 ≤ e → p + 1 ≤ p2 → ∃ (m : Nat) (A B C : Nat → Int32), k_sc T e f p2 (k_pt t (nI p) cc q) = (m, A, B, C) ∧ q.1 ≤ m ∧ (∀ j, j < q.1 → A j = q.2.1 j ∧ B j = q.2.2.1 j ∧ C j = q.2.2.2 j) ∧ (∀ j, q.1 ≤ j → j < m → A j = t_k T e (t_b T e j) ∧ B j = nI (t_b T e j) ∧ C j = t_c T e (t_b T e j) ∧ t_b T e j < e) ∧ t_b T e m = e := by
        intro t cc p2 g1 g2 g3 g4 g5 g6
        have ep : t_b T e q.1 = p := by rw [← h3]; exact l_to_n g1
        obtain ⟨m, A, B, C, i1, i2, i3, i4, i5⟩ := t_sc f p2 (k_pt t (nI p) cc q) g5 (by omega) (by
          show l_bl T e p2 = l_bl T e (t_e T e (t_b T e q.1))
          rw [ep, g4])
        have i2' : q.1 + 1 ≤ m := i2
        refine ⟨m, A, B, C, i1, by omega, fun j hj => ?_, fun j j1 j2 => ?_, i5⟩
        · obtain ⟨a1, a2, a3⟩ := i3 j (show j < q.1 + 1 by omega)
          have b1 : (k_pt t (nI p) cc q).2.1 j = q.2.1 j := y_updn (by omega)
          have b2 : (k_pt t (nI p) cc q).2.2.1 j = q.2.2.1 j := y_updn (by omega)
          have b3 : (k_pt t (nI p) cc q).2.2.2 j = q.2.2.2 j := y_updn (by omega)
          exact ⟨a1.trans b1, a2.trans b2, a3.trans b3⟩
        · by_cases z : j = q.1
          · subst z
            obtain ⟨a1, a2, a3⟩ := i3 q.1 (show q.1 < q.1 + 1 by omega)
            have b1 : (k_pt t (nI p) cc q).2.1 q.1 = t := y_upds
            have b2 : (k_pt t (nI p) cc q).2.2.1 q.1 = nI p := y_upds
            have b3 : (k_pt t (nI p) cc q).2.2.2 q.1 = cc := y_upds
            rw [ep]
            exact ⟨(a1.trans b1).trans g2, a2.trans b2, (a3.trans b3).trans g3, c⟩
          · exact i4 j (show q.1 + 1 ≤ j by omega) j2
      have nl : ∀ x : Int32, 97 ≤ x ∧ x ≤ 122 → ¬ (32 ≤ x ∧ x ≤ 32) := by
        intro x a b
        have := Int32.le_trans a.1 b.2
        exact absurd this (by decide)
      have ng : ∀ x : Int32, 48 ≤ x ∧ x ≤ 57 → ¬ (32 ≤ x ∧ x ≤ 32) := by
        intro x a b
        have := Int32.le_trans a.1 b.2
        exact absurd this (by decide)
      by_cases cl : 97 ≤ T p ∧ T p ≤ 122
      · rw [if_pos cl]
        exact step _ _ _ (fun z => nl _ cl z.2) (by unfold t_k; rw [if_pos c, if_pos cl]) (by unfold t_c; rw [if_pos c, if_pos cl]) (by unfold t_e; rw [if_pos c, if_pos cl]) (l_to_le (by omega)) l_to_ge
      · rw [if_neg cl]
        by_cases cg : 48 ≤ T p ∧ T p ≤ 57
        · rw [if_pos cg]
          exact step _ _ _ (fun z => ng _ cg z.2) (by unfold t_k; rw [if_pos c, if_neg cl, if_pos cg]) (by unfold t_c; rw [if_pos c, if_neg cl, if_pos cg]) (by unfold t_e; rw [if_pos c, if_neg cl, if_pos cg]) (l_to_le (by omega)) l_to_ge
        · rw [if_neg cg]
          by_cases cb : T p = 32
          · rw [if_pos cb]
            exact t_sc f (p + 1) q (by omega) (by omega) (by
              rw [← h3]
              exact (l_to_y ⟨c, by rw [cb]; decide, by rw [cb]; decide⟩).symm)
          · rw [if_neg cb]
            exact step _ _ _ (fun z => cb (Int32.le_antisymm z.2.2 z.2.1)) (by unfold t_k; rw [if_pos c, if_neg cl, if_neg cg]) (by unfold t_c; rw [if_pos c, if_neg cl, if_neg cg]) (by unfold t_e; rw [if_pos c, if_neg cl, if_neg cg]) (by omega) (Nat.le_refl _)
    · rw [if_neg c]
      refine ⟨q.1, q.2.1, q.2.2.1, q.2.2.2, rfl, Nat.le_refl _, fun j hj => ⟨rfl, rfl, rfl⟩, fun j j1 j2 => absurd j2 (by omega), ?_⟩
      rw [← h3]
      have : l_bl T e p = p := l_to_n (fun z => c z.1)
      omega
/-- the rows of the scanner, up to the END -/
theorem t_scan {D : y_D} {e : Nat} (he : e ≤ 400) : (∀ j, j ≤ k_m D e → (k_D1 D e 68).1 j = t_k (D 65).1 e (t_b (D 65).1 e j) ∧ (k_D1 D e 69).1 j = nI (t_b (D 65).1 e j) ∧ (k_D1 D e 70).1 j = t_c (D 65).1 e (t_b (D 65).1 e j)) ∧ (∀ j, j < k_m D e → t_b (D 65).1 e j < e) ∧ t_b (D 65).1 e (k_m D e) = e := by
  obtain ⟨m, A, B, C, i1, i2, i3, i4, i5⟩ := t_sc (T := (D 65).1) (e := e) 401 0 (0, (D 68).1, (D 69).1, (D 70).1) (Nat.zero_le _) (by omega) rfl
  have em : k_m D e = m := by unfold k_m; rw [i1]
  have e68 : (k_D1 D e 68).1 = upd A m 0 := by
    show (k_scan (D 65).1 e (0, (D 68).1, (D 69).1, (D 70).1)).2.1 = _
    unfold k_scan
    rw [i1]
    rfl
  have e69 : (k_D1 D e 69).1 = upd B m (nI e) := by
    show (k_scan (D 65).1 e (0, (D 68).1, (D 69).1, (D 70).1)).2.2.1 = _
    unfold k_scan
    rw [i1]
    rfl
  have e70 : (k_D1 D e 70).1 = upd C m 0 := by
    show (k_scan (D 65).1 e (0, (D 68).1, (D 69).1, (D 70).1)).2.2.2 = _
    unfold k_scan
    rw [i1]
    rfl
  rw [em]
  refine ⟨fun j hj => ?_, fun j hj => (i4 j (Nat.zero_le _) hj).2.2.2, i5⟩
  rw [e68, e69, e70]
  by_cases z : j = m
  · subst z
    rw [y_upds, y_upds, y_upds, i5]
    unfold t_k t_c
    rw [if_neg (by omega), if_neg (by omega)]
    exact ⟨rfl, rfl, rfl⟩
  · rw [y_updn z, y_updn z, y_updn z]
    obtain ⟨a1, a2, a3, -⟩ := i4 j (Nat.zero_le _) (by omega)
    exact ⟨a1, a2, a3⟩

/-! the numbers of the class are those of the reference -/
theorem k_num_nv {T : Nat → Int32} {e lo hi p a : Nat} (ha : l_bl T e p = a) (hd : a < e ∧ 48 ≤ T a ∧ T a ≤ 57) (hlo : lo < 1000) (hhi : hi ≤ 999) : (if k_bad (nI (k_num T a (l_to T e 48 57 (a + 1)))) (nI lo) (nI hi) then (-1 : Int32) else nI (k_num T a (l_to T e 48 57 (a + 1)))) = l_nv T e lo hi p := by
  have h0 : l_di T e p = l_to T e 48 57 (a + 1) := by
    show l_to T e 48 57 (l_bl T e p) = _
    rw [ha]
    exact l_to_y hd
  have h1 : a + 1 ≤ l_to T e 48 57 (a + 1) := l_to_ge
  have h2 : ∀ j, a ≤ j → j < a + (l_to T e 48 57 (a + 1) - a) → (48 : Int32) ≤ T j ∧ T j ≤ 57 := fun j g1 g2 => by
    by_cases c : j = a
    · subst c; exact hd.2
    · exact (l_to_in (e := e) (p := a + 1) j (by omega) (by omega)).2
  unfold l_nv
  rw [h0, ha]
  generalize l_to T e 48 57 (a + 1) = d at *
  have h3 := (l_vb (T := T) (b := a) (d - a) h2).2.2.2
  unfold k_num
  by_cases c : d - a ≤ 3
  · rw [if_pos c]
    have e1 : k_bad (nI (l_v T a (d - a))) (nI lo) (nI hi) ↔ (l_v T a (d - a) < lo ∨ hi < l_v T a (d - a)) := by
      unfold k_bad
      rw [nI_ltI (by omega) (by omega), nI_ltI (by omega) (by omega)]
    by_cases c2 : l_v T a (d - a) < lo ∨ hi < l_v T a (d - a)
    · rw [if_pos (e1.mpr c2), if_pos (by omega)]
    · rw [if_neg (fun z => c2 (e1.mp z)), if_neg (by omega)]
  · rw [if_neg c, if_pos (Or.inr ((nI_ltI (by omega) (by omega)).mpr (by omega))), if_pos (by omega)]

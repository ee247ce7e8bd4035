/-! what is remembered stays right -/
section P27
variable {D D2 : y_D} {L L2 : List Nat} {W W2 : Nat → Int32}
theorem c_th_e {S : Nat → Int32} {Z : Nat → Nat → Int32} {fr : Nat → Int32} {tk : Nat → Nat} {u : Int32} {x kw : Nat} : ∀ e, (∀ i, kw ≤ i → i < kw + e → ¬ y_bit u i) → c_th S Z fr tk u x (kw + e) = c_th S Z fr tk u x kw
  | 0, _ => rfl
  | e + 1, h => by
    show c_th S Z fr tk u x ((kw + e) + 1) = _
    rw [c_th, if_neg (h (kw + e) (by omega) (by omega))]
    exact c_th_e e (fun i h1 h2 => h i h1 (by omega))
theorem c_S_e {A : Nat → Int32} {Z : Nat → Nat → Int32} {fr : Nat → Int32} {tk : Nat → Nat} {u : Int32} {kw e : Nat} (h : ∀ i, kw ≤ i → i < kw + e → ¬ y_bit u i) : ∀ n, c_S A Z fr tk u (kw + e) n = c_S A Z fr tk u kw n
  | 0 => rfl
  | n + 1 => by
    funext j
    rw [c_S, c_S, c_S_e h n, c_th_e e h]
theorem k_Ev_fr {t e : Nat} {u hl v : Int32} (hB : k_B D L) (ht : t < 4) (h74 : D2 74 = D 74) (h75 : D2 75 = D 75) (h76 : (D2 76).2.2.1 t = (D 76).2.2.1 t) (h77 : ∀ i, i < q_n (D 73).1 4 → (D2 77).2.2.1 i = (D 77).2.2.1 i) (h3 : ∀ h, h ∈ L → y_dh h → D2 h = D h) (hk : q_n (D2 73).1 4 = q_n (D 73).1 4 + e) (hu : ∀ i, q_n (D 73).1 4 ≤ i → i < q_n (D 73).1 4 + e → ¬ y_bit u i) (a : k_Ev D t u hl v) : k_Ev D2 t u hl v := by
  obtain ⟨DS, a1, a2⟩ := a
  have hR := hB.2.2.2.2.2.1 t ht
  obtain ⟨-, et, em⟩ := k_RU_fr (L2 := L) hR h76 h3 (fun _ q => q)
  have ep : c_per D2 (q_n (D2 74).1 2) = c_per D (q_n (D 74).1 2) := by
    funext x c
    unfold c_per y_pg
    rw [h74, h75]
  refine ⟨DS, by rw [ep, et, em]; exact a1, ?_⟩
  have fl : k_last D2 t (-1) = k_last D t (-1) := by
    show s_last (c_p (k_rt D2 t)) (c_a (k_rt D2 t)) (-1) (k_rm D2 t) = _
    rw [et, em]
  rw [fl, a2]
  refine c_or_c (fun x hx => ?_)
  unfold k_SS
  rw [hk, c_S_e hu]
  have hkb := hB.2.1.2
  have hw : ∀ i, i < q_n (D 73).1 4 → k_WA D L i := fun i hi => hB.2.2.2.2.2.2.1 i (by omega)
  have g0 := fun i hi => g_wh (hw i hi) (h77 i hi) h3
  refine c_S_c (fun i hi => ?_) (fun i hi => ?_) (fun i hi => ?_) _ (fun x _ => rfl) (fun i hi b j hj => ?_) x
  · rw [(g0 i hi).1, (g0 i hi).2.1]
  · rw [(g0 i hi).1, (g0 i hi).2.1]
  · exact (hw i hi).2.2.2.2.2.2.2.2.2.2.2.2.2.1
  · unfold k_Z k_chg k_wt k_wl
    rw [(g0 i hi).1, (g0 i hi).2.1, (g0 i hi).2.2.1, (g0 i hi).2.2.2]
theorem k_CI_fr {e : Nat} (he : e ≤ 1) (hB : k_B D L) (h162 : D2 162 = D 162) (h74 : D2 74 = D 74) (h75 : D2 75 = D 75) (h76 : ∀ t, t < q_n (D 73).1 2 → (D2 76).2.2.1 t = (D 76).2.2.1 t) (h77 : ∀ i, i < q_n (D 73).1 4 → (D2 77).2.2.1 i = (D 77).2.2.1 i) (h3 : ∀ h, h ∈ L → y_dh h → D2 h = D h) (hk : q_n (D2 73).1 4 = q_n (D 73).1 4 + e) (hr : q_n (D 73).1 2 ≤ q_n (D2 73).1 2) (a : k_CI D) : k_CI D2 := by
  intro t ht us hus h hh
  rw [h162]
  rcases a t ht us hus h hh with q | ⟨q1, q2, q⟩
  · exact Or.inl q
  · have hp : 2 ^ q_n (D 73).1 4 ≤ 2 ^ q_n (D2 73).1 4 := Nat.pow_le_pow_right (by decide) (by omega)
    refine Or.inr ⟨by omega, by omega, k_Ev_fr hB ht h74 h75 (h76 t q1) h77 h3 hk (fun i i1 i2 z => ?_) q⟩
    have hi : 2 ^ q_n (D 73).1 4 ≤ 2 ^ i := Nat.pow_le_pow_right (by decide) i1
    have h6 := hB.2.1.2
    rw [y_bit_tb (by omega)] at z
    rw [Nat.testBit_lt_two_pow (by omega)] at z
    cases z
theorem k_CI_0 {f : Nat → Int32} (h : (D 162).1 = y_cp (fun _ => 0) f 512) : k_CI D := by
  intro t ht us hus k hk
  refine Or.inl ?_
  rw [h]
  unfold y_cp
  rw [if_pos (by omega)]
end P27

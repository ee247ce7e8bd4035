/-! the law -/
theorem v_sub6 {i N : Nat} (hi : i ≤ N) (hN : N ≤ 3072) (h : ¬ nI N - 6 < nI i) : i + 6 ≤ N := by
  have h1 : (nI N - 6).toInt = (N : Int) - 6 := by
    rw [Int32.toInt_sub, nI_toInt (by omega)]
    have : (6 : Int32).toInt = 6 := by decide
    rw [this]
    apply Int.bmod_eq_of_le <;> omega
  rw [Int32.lt_iff_toInt_lt, h1, nI_toInt (by omega)] at h
  omega
theorem v_sw (x : Int32) : (x.toInt < 0 ∨ 37 < x.toInt) ∨ x = 0 ∨ x = 1 ∨ x = 2 ∨ x = 3 ∨ x = 4 ∨ x = 5 ∨ x = 6 ∨ x = 7 ∨ x = 8 ∨ x = 9 ∨ x = 10 ∨ x = 11 ∨ x = 12 ∨ x = 13 ∨ x = 14 ∨ x = 15 ∨ x = 16 ∨ x = 17 ∨ x = 18 ∨ x = 19 ∨ x = 20 ∨ x = 21 ∨ x = 22 ∨ x = 23 ∨ x = 24 ∨ x = 25 ∨ x = 26 ∨ x = 27 ∨ x = 28 ∨ x = 29 ∨ x = 30 ∨ x = 31 ∨ x = 32 ∨ x = 33 ∨ x = 34 ∨ x = 35 ∨ x = 36 ∨ x = 37 := by
  by_cases c : x.toInt < 0 ∨ 37 < x.toInt
  · exact Or.inl c
  · obtain ⟨a, ha, rfl⟩ := nI_of (x := x) (fun q => by
      rw [Int32.lt_iff_toInt_lt] at q
      have : (0 : Int32).toInt = 0 := by decide
      omega)
    rw [nI_toInt ha] at c
    have k : a = 0 ∨ a = 1 ∨ a = 2 ∨ a = 3 ∨ a = 4 ∨ a = 5 ∨ a = 6 ∨ a = 7 ∨ a = 8 ∨ a = 9 ∨ a = 10 ∨ a = 11 ∨ a = 12 ∨ a = 13 ∨ a = 14 ∨ a = 15 ∨ a = 16 ∨ a = 17 ∨ a = 18 ∨ a = 19 ∨ a = 20 ∨ a = 21 ∨ a = 22 ∨ a = 23 ∨ a = 24 ∨ a = 25 ∨ a = 26 ∨ a = 27 ∨ a = 28 ∨ a = 29 ∨ a = 30 ∨ a = 31 ∨ a = 32 ∨ a = 33 ∨ a = 34 ∨ a = 35 ∨ a = 36 ∨ a = 37 := by omega
    rcases k with rfl | rfl | rfl | rfl | rfl | rfl | rfl | rfl | rfl | rfl | rfl | rfl | rfl | rfl | rfl | rfl | rfl | rfl | rfl | rfl | rfl | rfl | rfl | rfl | rfl | rfl | rfl | rfl | rfl | rfl | rfl | rfl | rfl | rfl | rfl | rfl | rfl | rfl
    · exact Or.inr (Or.inl rfl)
    · exact Or.inr (Or.inr (Or.inl rfl))
    · exact Or.inr (Or.inr (Or.inr (Or.inl rfl)))
    · exact Or.inr (Or.inr (Or.inr (Or.inr (Or.inl rfl))))
    · exact Or.inr (Or.inr (Or.inr (Or.inr (Or.inr (Or.inl rfl)))))
    · exact Or.inr (Or.inr (Or.inr (Or.inr (Or.inr (Or.inr (Or.inl rfl))))))
    · exact Or.inr (Or.inr (Or.inr (Or.inr (Or.inr (Or.inr (Or.inr (Or.inl rfl)))))))
    · exact Or.inr (Or.inr (Or.inr (Or.inr (Or.inr (Or.inr (Or.inr (Or.inr (Or.inl rfl))))))))
    · exact Or.inr (Or.inr (Or.inr (Or.inr (Or.inr (Or.inr (Or.inr (Or.inr (Or.inr (Or.inl rfl)))))))))
    · exact Or.inr (Or.inr (Or.inr (Or.inr (Or.inr (Or.inr (Or.inr (Or.inr (Or.inr (Or.inr (Or.inl rfl))))))))))
    · exact Or.inr (Or.inr (Or.inr (Or.inr (Or.inr (Or.inr (Or.inr (Or.inr (Or.inr (Or.inr (Or.inr (Or.inl rfl)))))))))))
    · exact Or.inr (Or.inr (Or.inr (Or.inr (Or.inr (Or.inr (Or.inr (Or.inr (Or.inr (Or.inr (Or.inr (Or.inr (Or.inl rfl))))))))))))
    · exact Or.inr (Or.inr (Or.inr (Or.inr (Or.inr (Or.inr (Or.inr (Or.inr (Or.inr (Or.inr (Or.inr (Or.inr (Or.inr (Or.inl rfl)))))))))))))
    · exact Or.inr (Or.inr (Or.inr (Or.inr (Or.inr (Or.inr (Or.inr (Or.inr (Or.inr (Or.inr (Or.inr (Or.inr (Or.inr (Or.inr (Or.inl rfl))))))))))))))
    · exact Or.inr (Or.inr (Or.inr (Or.inr (Or.inr (Or.inr (Or.inr (Or.inr (Or.inr (Or.inr (Or.inr (Or.inr (Or.inr (Or.inr (Or.inr (Or.inl rfl)))))))))))))))
    · exact Or.inr (Or.inr (Or.inr (Or.inr (Or.inr (Or.inr (Or.inr (Or.inr (Or.inr (Or.inr (Or.inr (Or.inr (Or.inr (Or.inr (Or.inr (Or.inr (Or.inl rfl))))))))))))))))
    · exact Or.inr (Or.inr (Or.inr (Or.inr (Or.inr (Or.inr (Or.inr (Or.inr (Or.inr (Or.inr (Or.inr (Or.inr (Or.inr (Or.inr (Or.inr (Or.inr (Or.inr (Or.inl rfl)))))))))))))))))
    · exact Or.inr (Or.inr (Or.inr (Or.inr (Or.inr (Or.inr (Or.inr (Or.inr (Or.inr (Or.inr (Or.inr (Or.inr (Or.inr (Or.inr (Or.inr (Or.inr (Or.inr (Or.inr (Or.inl rfl))))))))))))))))))
    · exact Or.inr (Or.inr (Or.inr (Or.inr (Or.inr (Or.inr (Or.inr (Or.inr (Or.inr (Or.inr (Or.inr (Or.inr (Or.inr (Or.inr (Or.inr (Or.inr (Or.inr (Or.inr (Or.inr (Or.inl rfl)))))))))))))))))))
    · exact Or.inr (Or.inr (Or.inr (Or.inr (Or.inr (Or.inr (Or.inr (Or.inr (Or.inr (Or.inr (Or.inr (Or.inr (Or.inr (Or.inr (Or.inr (Or.inr (Or.inr (Or.inr (Or.inr (Or.inr (Or.inl rfl))))))))))))))))))))
    · exact Or.inr (Or.inr (Or.inr (Or.inr (Or.inr (Or.inr (Or.inr (Or.inr (Or.inr (Or.inr (Or.inr (Or.inr (Or.inr (Or.inr (Or.inr (Or.inr (Or.inr (Or.inr (Or.inr (Or.inr (Or.inr (Or.inl rfl)))))))))))))))))))))
    · exact Or.inr (Or.inr (Or.inr (Or.inr (Or.inr (Or.inr (Or.inr (Or.inr (Or.inr (Or.inr (Or.inr (Or.inr (Or.inr (Or.inr (Or.inr (Or.inr (Or.inr (Or.inr (Or.inr (Or.inr (Or.inr (Or.inr (Or.inl rfl))))))))))))))))))))))
    · exact Or.inr (Or.inr (Or.inr (Or.inr (Or.inr (Or.inr (Or.inr (Or.inr (Or.inr (Or.inr (Or.inr (Or.inr (Or.inr (Or.inr (Or.inr (Or.inr (Or.inr (Or.inr (Or.inr (Or.inr (Or.inr (Or.inr (Or.inr (Or.inl rfl)))))))))))))))))))))))
    · exact Or.inr (Or.inr (Or.inr (Or.inr (Or.inr (Or.inr (Or.inr (Or.inr (Or.inr (Or.inr (Or.inr (Or.inr (Or.inr (Or.inr (Or.inr (Or.inr (Or.inr (Or.inr (Or.inr (Or.inr (Or.inr (Or.inr (Or.inr (Or.inr (Or.inl rfl))))))))))))))))))))))))
    · exact Or.inr (Or.inr (Or.inr (Or.inr (Or.inr (Or.inr (Or.inr (Or.inr (Or.inr (Or.inr (Or.inr (Or.inr (Or.inr (Or.inr (Or.inr (Or.inr (Or.inr (Or.inr (Or.inr (Or.inr (Or.inr (Or.inr (Or.inr (Or.inr (Or.inr (Or.inl rfl)))))))))))))))))))))))))
    · exact Or.inr (Or.inr (Or.inr (Or.inr (Or.inr (Or.inr (Or.inr (Or.inr (Or.inr (Or.inr (Or.inr (Or.inr (Or.inr (Or.inr (Or.inr (Or.inr (Or.inr (Or.inr (Or.inr (Or.inr (Or.inr (Or.inr (Or.inr (Or.inr (Or.inr (Or.inr (Or.inl rfl))))))))))))))))))))))))))
    · exact Or.inr (Or.inr (Or.inr (Or.inr (Or.inr (Or.inr (Or.inr (Or.inr (Or.inr (Or.inr (Or.inr (Or.inr (Or.inr (Or.inr (Or.inr (Or.inr (Or.inr (Or.inr (Or.inr (Or.inr (Or.inr (Or.inr (Or.inr (Or.inr (Or.inr (Or.inr (Or.inr (Or.inl rfl)))))))))))))))))))))))))))
    · exact Or.inr (Or.inr (Or.inr (Or.inr (Or.inr (Or.inr (Or.inr (Or.inr (Or.inr (Or.inr (Or.inr (Or.inr (Or.inr (Or.inr (Or.inr (Or.inr (Or.inr (Or.inr (Or.inr (Or.inr (Or.inr (Or.inr (Or.inr (Or.inr (Or.inr (Or.inr (Or.inr (Or.inr (Or.inl rfl))))))))))))))))))))))))))))
    · exact Or.inr (Or.inr (Or.inr (Or.inr (Or.inr (Or.inr (Or.inr (Or.inr (Or.inr (Or.inr (Or.inr (Or.inr (Or.inr (Or.inr (Or.inr (Or.inr (Or.inr (Or.inr (Or.inr (Or.inr (Or.inr (Or.inr (Or.inr (Or.inr (Or.inr (Or.inr (Or.inr (Or.inr (Or.inr (Or.inl rfl)))))))))))))))))))))))))))))
    · exact Or.inr (Or.inr (Or.inr (Or.inr (Or.inr (Or.inr (Or.inr (Or.inr (Or.inr (Or.inr (Or.inr (Or.inr (Or.inr (Or.inr (Or.inr (Or.inr (Or.inr (Or.inr (Or.inr (Or.inr (Or.inr (Or.inr (Or.inr (Or.inr (Or.inr (Or.inr (Or.inr (Or.inr (Or.inr (Or.inr (Or.inl rfl))))))))))))))))))))))))))))))
    · exact Or.inr (Or.inr (Or.inr (Or.inr (Or.inr (Or.inr (Or.inr (Or.inr (Or.inr (Or.inr (Or.inr (Or.inr (Or.inr (Or.inr (Or.inr (Or.inr (Or.inr (Or.inr (Or.inr (Or.inr (Or.inr (Or.inr (Or.inr (Or.inr (Or.inr (Or.inr (Or.inr (Or.inr (Or.inr (Or.inr (Or.inr (Or.inl rfl)))))))))))))))))))))))))))))))
    · exact Or.inr (Or.inr (Or.inr (Or.inr (Or.inr (Or.inr (Or.inr (Or.inr (Or.inr (Or.inr (Or.inr (Or.inr (Or.inr (Or.inr (Or.inr (Or.inr (Or.inr (Or.inr (Or.inr (Or.inr (Or.inr (Or.inr (Or.inr (Or.inr (Or.inr (Or.inr (Or.inr (Or.inr (Or.inr (Or.inr (Or.inr (Or.inr (Or.inl rfl))))))))))))))))))))))))))))))))
    · exact Or.inr (Or.inr (Or.inr (Or.inr (Or.inr (Or.inr (Or.inr (Or.inr (Or.inr (Or.inr (Or.inr (Or.inr (Or.inr (Or.inr (Or.inr (Or.inr (Or.inr (Or.inr (Or.inr (Or.inr (Or.inr (Or.inr (Or.inr (Or.inr (Or.inr (Or.inr (Or.inr (Or.inr (Or.inr (Or.inr (Or.inr (Or.inr (Or.inr (Or.inl rfl)))))))))))))))))))))))))))))))))
    · exact Or.inr (Or.inr (Or.inr (Or.inr (Or.inr (Or.inr (Or.inr (Or.inr (Or.inr (Or.inr (Or.inr (Or.inr (Or.inr (Or.inr (Or.inr (Or.inr (Or.inr (Or.inr (Or.inr (Or.inr (Or.inr (Or.inr (Or.inr (Or.inr (Or.inr (Or.inr (Or.inr (Or.inr (Or.inr (Or.inr (Or.inr (Or.inr (Or.inr (Or.inr (Or.inl rfl))))))))))))))))))))))))))))))))))
    · exact Or.inr (Or.inr (Or.inr (Or.inr (Or.inr (Or.inr (Or.inr (Or.inr (Or.inr (Or.inr (Or.inr (Or.inr (Or.inr (Or.inr (Or.inr (Or.inr (Or.inr (Or.inr (Or.inr (Or.inr (Or.inr (Or.inr (Or.inr (Or.inr (Or.inr (Or.inr (Or.inr (Or.inr (Or.inr (Or.inr (Or.inr (Or.inr (Or.inr (Or.inr (Or.inr (Or.inl rfl)))))))))))))))))))))))))))))))))))
    · exact Or.inr (Or.inr (Or.inr (Or.inr (Or.inr (Or.inr (Or.inr (Or.inr (Or.inr (Or.inr (Or.inr (Or.inr (Or.inr (Or.inr (Or.inr (Or.inr (Or.inr (Or.inr (Or.inr (Or.inr (Or.inr (Or.inr (Or.inr (Or.inr (Or.inr (Or.inr (Or.inr (Or.inr (Or.inr (Or.inr (Or.inr (Or.inr (Or.inr (Or.inr (Or.inr (Or.inr (Or.inl rfl))))))))))))))))))))))))))))))))))))
    · exact Or.inr (Or.inr (Or.inr (Or.inr (Or.inr (Or.inr (Or.inr (Or.inr (Or.inr (Or.inr (Or.inr (Or.inr (Or.inr (Or.inr (Or.inr (Or.inr (Or.inr (Or.inr (Or.inr (Or.inr (Or.inr (Or.inr (Or.inr (Or.inr (Or.inr (Or.inr (Or.inr (Or.inr (Or.inr (Or.inr (Or.inr (Or.inr (Or.inr (Or.inr (Or.inr (Or.inr (Or.inr (Or.inl rfl)))))))))))))))))))))))))))))))))))))
    · exact Or.inr (Or.inr (Or.inr (Or.inr (Or.inr (Or.inr (Or.inr (Or.inr (Or.inr (Or.inr (Or.inr (Or.inr (Or.inr (Or.inr (Or.inr (Or.inr (Or.inr (Or.inr (Or.inr (Or.inr (Or.inr (Or.inr (Or.inr (Or.inr (Or.inr (Or.inr (Or.inr (Or.inr (Or.inr (Or.inr (Or.inr (Or.inr (Or.inr (Or.inr (Or.inr (Or.inr (Or.inr (Or.inr (rfl))))))))))))))))))))))))))))))))))))))
theorem law_hd {V : x_E} (hV : y_V V) (hF : y_fm V) {N : Nat} {f : Nat → Int32} (hT : law_S V N f) (hN : N ≤ 3072) {E : x_P} (hE : x_X V RL cL_law 8 (some .boolean) 40 601024 7293034 "law" (fun r _ => r = some (.int 1)) E) {i ce sl : Nat} {S : x_S} (hi : i ≤ N) (hce : ce ≤ 601024) (hsl : sl ≤ 7293034) (kk : i + 6 ≤ N → E ce sl 33 [(0, .ref 63), (1, .ref 64), (2, .ref 169), (3, .ref 189), (4, .int (nI i))] [] S) : E ce sl 23 [(0, .ref 63), (1, .ref 64), (2, .ref 169), (3, .ref 189), (4, .int (nI i))] [] S := by
  refine r_iload hE dL_law_23 rfl ?_
  refine r_aload_n hE dL_law_25 rfl ?_
  refine r_tlen (v := nI N) hE (by decide) hT dL_law_26 rfl ?_
  refine r_bipush (v := 6) hE dL_law_27 (by decide) ?_
  refine r_isub hE dL_law_29 ?_
  refine r_icmp_gt (tgt := 2613) hE dL_law_30 (by decide) (fun c => ?_) (fun c => ?_)
  · refine r_iconst (v := 1) hE dL_law_2613 (by decide) ?_
    exact r_ireturn hE dL_law_2614 rfl rfl hce hsl rfl
  · exact kk (v_sub6 hi hN c)
theorem law_sw {V : x_E} (hV : y_V V) (hF : y_fm V) {N : Nat} {f : Nat → Int32} (hT : law_S V N f) (hN : N ≤ 3072) {E : x_P} (hE : x_X V RL cL_law 8 (some .boolean) 40 601024 7293034 "law" (fun r _ => r = some (.int 1)) E) {i ce sl n : Nat} {L : List Nat} {D : y_D} (G : g_G n L D) (hi : i + 6 ≤ N) (hce : ce + 4 ≤ 601024) (hsl : sl + 816 ≤ 7293034) (kk : ∀ (n2 : Nat) (L2 : List Nat) (D2 : y_D) (ce2 sl2 : Nat), g_G n2 L2 D2 → ce2 ≤ ce + 4 → sl2 ≤ sl + 816 → E ce2 sl2 2607 [(0, .ref 63), (1, .ref 64), (2, .ref 169), (3, .ref 189), (4, .int (nI i))] [] (y_mk n2 L2 D2)) : E ce sl 33 [(0, .ref 63), (1, .ref 64), (2, .ref 169), (3, .ref 189), (4, .int (nI i))] [] (y_mk n L D) := by
  refine r_aload_n hE dL_law_33 rfl ?_
  refine r_iload hE dL_law_34 rfl ?_
  refine t_scr (e := i) hE hT dL_law_36 (by omega) (by omega) ?_
  refine r_bipush (v := 63) hE dL_law_37 (by decide) ?_
  refine r_iand hE dL_law_39 ?_
  rcases v_sw (f i &&& 63) with h | h | h | h | h | h | h | h | h | h | h | h | h | h | h | h | h | h | h | h | h | h | h | h | h | h | h | h | h | h | h | h | h | h | h | h | h | h | h
  · refine r_tsout (tgt := 2607) hE dL_law_40 h (by decide) ?_
    exact kk n L D ce sl G (by omega) (by omega)
  · refine r_top (y := 0) h ?_
    refine r_tsin (tgt := 208) hE dL_law_40 (by decide) (by decide) rfl (by decide) ?_
    exact law_feed hV hF hT hE G hi hN hce hsl kk
  · refine r_top (y := 1) h ?_
    refine r_tsin (tgt := 281) hE dL_law_40 (by decide) (by decide) rfl (by decide) ?_
    exact law_end hV hF hT hE G hi hN hce hsl kk
  · refine r_top (y := 2) h ?_
    refine r_tsin (tgt := 306) hE dL_law_40 (by decide) (by decide) rfl (by decide) ?_
    exact law_person hV hF hT hE G hi hN hce hsl kk
  · refine r_top (y := 3) h ?_
    refine r_tsin (tgt := 374) hE dL_law_40 (by decide) (by decide) rfl (by decide) ?_
    exact law_rule hV hF hT hE G hi hN hce hsl kk
  · refine r_top (y := 4) h ?_
    refine r_tsin (tgt := 418) hE dL_law_40 (by decide) (by decide) rfl (by decide) ?_
    exact law_way hV hF hT hE G hi hN hce hsl kk
  · refine r_top (y := 5) h ?_
    refine r_tsin (tgt := 462) hE dL_law_40 (by decide) (by decide) rfl (by decide) ?_
    exact law_fault hV hF hT hE G hi hN hce hsl kk
  · refine r_top (y := 6) h ?_
    refine r_tsin (tgt := 475) hE dL_law_40 (by decide) (by decide) rfl (by decide) ?_
    exact law_thing hV hF hT hE G hi hN hce hsl kk
  · refine r_top (y := 7) h ?_
    refine r_tsin (tgt := 555) hE dL_law_40 (by decide) (by decide) rfl (by decide) ?_
    exact law_look hV hF hT hE G hi hN hce hsl kk
  · refine r_top (y := 8) h ?_
    refine r_tsin (tgt := 623) hE dL_law_40 (by decide) (by decide) rfl (by decide) ?_
    exact law_needs hV hF hT hE G hi hN hce hsl kk
  · refine r_top (y := 9) h ?_
    refine r_tsin (tgt := 750) hE dL_law_40 (by decide) (by decide) rfl (by decide) ?_
    exact law_note hV hF hT hE G hi hN hce hsl kk
  · refine r_top (y := 10) h ?_
    refine r_tsin (tgt := 818) hE dL_law_40 (by decide) (by decide) rfl (by decide) ?_
    exact law_torn hV hF hT hE G hi hN hce hsl kk
  · refine r_top (y := 11) h ?_
    refine r_tsin (tgt := 831) hE dL_law_40 (by decide) (by decide) rfl (by decide) ?_
    exact law_can hV hF hT hE G hi hN hce hsl kk
  · refine r_top (y := 12) h ?_
    refine r_tsin (tgt := 934) hE dL_law_40 (by decide) (by decide) rfl (by decide) ?_
    exact law_fewest hV hF hT hE G hi hN hce hsl kk
  · refine r_top (y := 13) h ?_
    refine r_tsin (tgt := 1018) hE dL_law_40 (by decide) (by decide) rfl (by decide) ?_
    exact law_earliest hV hF hT hE G hi hN hce hsl kk
  · refine r_top (y := 14) h ?_
    refine r_tsin (tgt := 1126) hE dL_law_40 (by decide) (by decide) rfl (by decide) ?_
    exact law_may hV hF hT hE G hi hN hce hsl kk
  · refine r_top (y := 15) h ?_
    refine r_tsin (tgt := 1234) hE dL_law_40 (by decide) (by decide) rfl (by decide) ?_
    exact law_shut hV hF hT hE G hi hN hce hsl kk
  · refine r_top (y := 16) h ?_
    refine r_tsin (tgt := 1290) hE dL_law_40 (by decide) (by decide) rfl (by decide) ?_
    exact law_opens hV hF hT hE G hi hN hce hsl kk
  · refine r_top (y := 17) h ?_
    refine r_tsin (tgt := 1358) hE dL_law_40 (by decide) (by decide) rfl (by decide) ?_
    exact law_trap hV hF hT hE G hi hN hce hsl kk
  · refine r_top (y := 18) h ?_
    refine r_tsin (tgt := 1438) hE dL_law_40 (by decide) (by decide) rfl (by decide) ?_
    exact law_story hV hF hT hE G hi hN hce hsl kk
  · refine r_top (y := 19) h ?_
    refine r_tsin (tgt := 1518) hE dL_law_40 (by decide) (by decide) rfl (by decide) ?_
    exact law_night hV hF hT hE G hi hN hce hsl kk
  · refine r_top (y := 20) h ?_
    refine r_tsin (tgt := 1622) hE dL_law_40 (by decide) (by decide) rfl (by decide) ?_
    exact law_odds hV hF hT hE G hi hN hce hsl kk
  · refine r_top (y := 21) h ?_
    refine r_tsin (tgt := 1678) hE dL_law_40 (by decide) (by decide) rfl (by decide) ?_
    exact law_oddsBy hV hF hT hE G hi hN hce hsl kk
  · refine r_top (y := 22) h ?_
    refine r_tsin (tgt := 1746) hE dL_law_40 (by decide) (by decide) rfl (by decide) ?_
    exact law_factor hV hF hT hE G hi hN hce hsl kk
  · refine r_top (y := 23) h ?_
    refine r_tsin (tgt := 1813) hE dL_law_40 (by decide) (by decide) rfl (by decide) ?_
    exact law_says hV hF hT hE G hi hN hce hsl kk
  · refine r_top (y := 24) h ?_
    refine r_tsin (tgt := 1868) hE dL_law_40 (by decide) (by decide) rfl (by decide) ?_
    exact law_with hV hF hT hE G hi hN hce hsl kk
  · refine r_top (y := 25) h ?_
    refine r_tsin (tgt := 1936) hE dL_law_40 (by decide) (by decide) rfl (by decide) ?_
    exact law_knew hV hF hT hE G hi hN hce hsl kk
  · refine r_top (y := 26) h ?_
    refine r_tsin (tgt := 1972) hE dL_law_40 (by decide) (by decide) rfl (by decide) ?_
    exact law_told hV hF hT hE G hi hN hce hsl kk
  · refine r_top (y := 27) h ?_
    refine r_tsin (tgt := 2052) hE dL_law_40 (by decide) (by decide) rfl (by decide) ?_
    exact law_knows hV hF hT hE G hi hN hce hsl kk
  · refine r_top (y := 28) h ?_
    refine r_tsin (tgt := 2108) hE dL_law_40 (by decide) (by decide) rfl (by decide) ?_
    exact law_whence hV hF hT hE G hi hN hce hsl kk
  · refine r_top (y := 29) h ?_
    refine r_tsin (tgt := 2192) hE dL_law_40 (by decide) (by decide) rfl (by decide) ?_
    exact law_knot hV hF hT hE G hi hN hce hsl kk
  · refine r_top (y := 30) h ?_
    refine r_tsin (tgt := 2284) hE dL_law_40 (by decide) (by decide) rfl (by decide) ?_
    exact law_rope hV hF hT hE G hi hN hce hsl kk
  · refine r_top (y := 31) h ?_
    refine r_tsin (tgt := 2320) hE dL_law_40 (by decide) (by decide) rfl (by decide) ?_
    exact law_out hV hF hT hE G hi hN hce hsl kk
  · refine r_top (y := 32) h ?_
    refine r_tsin (tgt := 2373) hE dL_law_40 (by decide) (by decide) rfl (by decide) ?_
    exact law_first hV hF hT hE G hi hN hce hsl kk
  · refine r_top (y := 33) h ?_
    refine r_tsin (tgt := 2398) hE dL_law_40 (by decide) (by decide) rfl (by decide) ?_
    exact law_tale hV hF hT hE G hi hN hce hsl kk
  · refine r_top (y := 34) h ?_
    refine r_tsin (tgt := 2478) hE dL_law_40 (by decide) (by decide) rfl (by decide) ?_
    exact law_cold hV hF hT hE G hi hN hce hsl kk
  · refine r_top (y := 35) h ?_
    refine r_tsin (tgt := 2558) hE dL_law_40 (by decide) (by decide) rfl (by decide) ?_
    exact law_image hV hF hT hE G hi hN hce hsl kk
  · refine r_top (y := 36) h ?_
    refine r_tsin (tgt := 2569) hE dL_law_40 (by decide) (by decide) rfl (by decide) ?_
    exact law_back hV hF hT hE G hi hN hce hsl kk
  · refine r_top (y := 37) h ?_
    refine r_tsin (tgt := 2582) hE dL_law_40 (by decide) (by decide) rfl (by decide) ?_
    exact law_count hV hF hT hE G hi hN hce hsl kk
set_option maxRecDepth 100000 in
theorem law_loop {V : x_E} (hV : y_V V) (hF : y_fm V) {N : Nat} {f : Nat → Int32} (hT : law_S V N f) (hN : N ≤ 3072) {E : x_P} (hE : x_X V RL cL_law 8 (some .boolean) 40 601024 7293034 "law" (fun r _ => r = some (.int 1)) E) : ∀ (m k n : Nat) (L : List Nat) (D : y_D) (ce sl : Nat), g_G n L D → 6 * k ≤ N → N ≤ 6 * k + 6 * m → ce ≤ 127 + 4 * k → sl ≤ 77203 + 816 * k → E ce sl 23 [(0, .ref 63), (1, .ref 64), (2, .ref 169), (3, .ref 189), (4, .int (nI (6 * k)))] [] (y_mk n L D) := by
  intro m
  induction m with
  | zero =>
    intro k n L D ce sl G h1 h2 h3 h4
    exact law_hd hV hF hT hN hE h1 (by omega) (by omega) (fun h => by omega)
  | succ m ih =>
    intro k n L D ce sl G h1 h2 h3 h4
    refine law_hd hV hF hT hN hE h1 (by omega) (by omega) (fun h => ?_)
    refine law_sw hV hF hT hN hE G h (by omega) (by omega) (fun n2 L2 D2 ce2 sl2 G2 c1 c2 => ?_)
    refine r_iincN (a := 6 * k) (b := 6) (ls2 := [(0, .ref 63), (1, .ref 64), (2, .ref 169), (3, .ref 189), (4, .int (nI (6 * k + 6)))]) hE dL_law_2607 rfl rfl (by decide) rfl ?_
    refine r_goto (tgt := 23) hE dL_law_2610 (by decide) ?_
    exact ih (k + 1) n2 L2 D2 ce2 sl2 G2 (by omega) (by omega) (by omega) (by omega)
set_option maxRecDepth 100000 in
theorem law_main {V : x_E} (hV : y_V V) (hF : y_fm V) {N : Nat} {f : Nat → Int32} (hT : law_S V N f) (hN : N ≤ 3072) {E : x_P} (hE : x_X V RL cL_law 8 (some .boolean) 40 601024 7293034 "law" (fun r _ => r = some (.int 1)) E) : E 0 0 0 [(0, .ref 63)] [] z_0 := by
  refine r_new (fs := [.null, .int 0, .null, .null, .null, .int 0, .null, .null, .null, .null, .null]) hE kX10 (x_gin (List.mem_append_right _ (tb_1 _ (List.mem_of_getElem? (i := 29) rfl))) rfl) (x_gin (List.mem_append_right _ (tb_1 _ (List.mem_of_getElem? (i := 30) rfl))) rfl) (x_gin (List.mem_append_right _ (tb_1 _ (List.mem_of_getElem? (i := 1) rfl))) rfl) (fun j hj => match j, hj with | 0, _ => rfl | 1, _ => rfl | 2, _ => rfl | 3, _ => rfl | 4, _ => rfl | 5, _ => rfl | 6, _ => rfl | 7, _ => rfl | 8, _ => rfl | 9, _ => rfl | 10, _ => rfl | k + 11, hj => absurd hj (by omega)) rfl dL_law_0 ⟨by decide, by decide⟩ ?_
  show E 1 11 3 [(0, .ref 63)] [.ref 64] z_1
  refine r_dup hE dL_law_3 rfl ?_
  refine r_invi hE [] (z_cX10_8 hV) i_yX10_init m_L_117 dL_law_4 rfl (by decide) ⟨by decide, by decide⟩ (Nat.le_of_ble_eq_true rfl) ⟨rfl, rfl⟩ (fun r0 S0 h0 => ?_)
  obtain ⟨rfl, rfl⟩ := h0
  show E 106 8295 7 [(0, .ref 63)] [.ref 64] z_198
  refine r_astore_n (ls2 := [(0, .ref 63), (1, .ref 64)]) hE dL_law_7 (by decide) rfl ?_
  refine r_new (fs := [.int 0, .null, .null, .int 0, .null, .int 0, .int 0, .int 0, .int 0, .int 0, .int 0, .null, .int 0, .int 0, .null, .null, .null, .null, .null, .null, .null, .null, .null, .int 0, .null, .null, .null, .null, .null, .null]) hE kX11 (x_gin (List.mem_append_right _ (tb_6 _ (List.mem_of_getElem? (i := 43) rfl))) rfl) (x_gin (List.mem_append_right _ (tb_6 _ (List.mem_of_getElem? (i := 44) rfl))) rfl) (x_gin (List.mem_append_right _ (tb_1 _ (List.mem_of_getElem? (i := 11) rfl))) rfl) (fun j hj => match j, hj with | 0, _ => rfl | 1, _ => rfl | 2, _ => rfl | 3, _ => rfl | 4, _ => rfl | 5, _ => rfl | 6, _ => rfl | 7, _ => rfl | 8, _ => rfl | 9, _ => rfl | 10, _ => rfl | 11, _ => rfl | 12, _ => rfl | 13, _ => rfl | 14, _ => rfl | 15, _ => rfl | 16, _ => rfl | 17, _ => rfl | 18, _ => rfl | 19, _ => rfl | 20, _ => rfl | 21, _ => rfl | 22, _ => rfl | 23, _ => rfl | 24, _ => rfl | 25, _ => rfl | 26, _ => rfl | 27, _ => rfl | 28, _ => rfl | 29, _ => rfl | k + 30, hj => absurd hj (by omega)) rfl dL_law_8 ⟨by decide, by decide⟩ ?_
  show E 107 8325 11 [(0, .ref 63), (1, .ref 64)] [.ref 169] z_199
  refine r_dup hE dL_law_11 rfl ?_
  refine r_invi hE [] (z_cX11_9 hV) i_yX11_init m_L_120 dL_law_12 rfl (by decide) ⟨by decide, by decide⟩ (Nat.le_of_ble_eq_true rfl) ⟨rfl, rfl⟩ (fun r0 S0 h0 => ?_)
  obtain ⟨rfl, rfl⟩ := h0
  show E 126 77202 15 [(0, .ref 63), (1, .ref 64)] [.ref 169] z_238
  refine r_astore_n (ls2 := [(0, .ref 63), (1, .ref 64), (2, .ref 169)]) hE dL_law_15 (by decide) rfl ?_
  refine r_iconst (v := 1) hE dL_law_16 (by decide) ?_
  refine r_newa (at0 := .long) (t := 3) (N := 1) hE (by decide) rfl z_aJ dL_law_17 (by decide) (by decide) (by decide) ⟨by decide, by decide⟩ ?_
  show E 127 77203 19 [(0, .ref 63), (1, .ref 64), (2, .ref 169)] [.ref 189] z_out
  refine r_astore_n (ls2 := [(0, .ref 63), (1, .ref 64), (2, .ref 169), (3, .ref 189)]) hE dL_law_19 (by decide) rfl ?_
  refine r_iconst (v := nI 0) hE dL_law_20 (by decide) ?_
  refine r_istore (ls2 := [(0, .ref 63), (1, .ref 64), (2, .ref 169), (3, .ref 189), (4, .int (nI 0))]) hE dL_law_21 (by decide) rfl ?_
  refine r_agree (S2 := y_mk 191 y_L0 z_D) hE z_n rfl z_lay ?_
  exact law_loop hV hF hT hN hE N 0 191 y_L0 z_D 127 77203 z_G (by omega) (by omega) (by omega) (by omega)

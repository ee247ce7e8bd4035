/-! the start: class and reference are alike -/
abbrev z_rw (h : Nat) : Prop := (93 ≤ h ∧ h < 112 ∧ h % 2 = 1) ∨ (132 ≤ h ∧ h < 151 ∧ h % 2 = 0)
def z_D : y_D := fun h => if z_rw h then (fun _ => 0, fun _ => 0, fun _ => none, 0, 0) else y_D0 h
set_option maxRecDepth 100000 in
theorem z_r93 : z_out.2.2 93 = y_lay 93 (fun _ => 0, fun _ => 0, fun _ => none, 0, 0) := z_t93.trans rfl
set_option maxRecDepth 100000 in
theorem z_r95 : z_out.2.2 95 = y_lay 95 (fun _ => 0, fun _ => 0, fun _ => none, 0, 0) := z_t95.trans rfl
set_option maxRecDepth 100000 in
theorem z_r97 : z_out.2.2 97 = y_lay 97 (fun _ => 0, fun _ => 0, fun _ => none, 0, 0) := z_t97.trans rfl
set_option maxRecDepth 100000 in
theorem z_r99 : z_out.2.2 99 = y_lay 99 (fun _ => 0, fun _ => 0, fun _ => none, 0, 0) := z_t99.trans rfl
set_option maxRecDepth 100000 in
theorem z_r101 : z_out.2.2 101 = y_lay 101 (fun _ => 0, fun _ => 0, fun _ => none, 0, 0) := z_t101.trans rfl
set_option maxRecDepth 100000 in
theorem z_r103 : z_out.2.2 103 = y_lay 103 (fun _ => 0, fun _ => 0, fun _ => none, 0, 0) := z_t103.trans rfl
set_option maxRecDepth 100000 in
theorem z_r105 : z_out.2.2 105 = y_lay 105 (fun _ => 0, fun _ => 0, fun _ => none, 0, 0) := z_t105.trans rfl
set_option maxRecDepth 100000 in
theorem z_r107 : z_out.2.2 107 = y_lay 107 (fun _ => 0, fun _ => 0, fun _ => none, 0, 0) := z_t107.trans rfl
set_option maxRecDepth 100000 in
theorem z_r109 : z_out.2.2 109 = y_lay 109 (fun _ => 0, fun _ => 0, fun _ => none, 0, 0) := z_t109.trans rfl
set_option maxRecDepth 100000 in
theorem z_r111 : z_out.2.2 111 = y_lay 111 (fun _ => 0, fun _ => 0, fun _ => none, 0, 0) := z_t111.trans rfl
set_option maxRecDepth 100000 in
theorem z_r132 : z_out.2.2 132 = y_lay 132 (fun _ => 0, fun _ => 0, fun _ => none, 0, 0) := z_t132.trans rfl
set_option maxRecDepth 100000 in
theorem z_r134 : z_out.2.2 134 = y_lay 134 (fun _ => 0, fun _ => 0, fun _ => none, 0, 0) := z_t134.trans rfl
set_option maxRecDepth 100000 in
theorem z_r136 : z_out.2.2 136 = y_lay 136 (fun _ => 0, fun _ => 0, fun _ => none, 0, 0) := z_t136.trans rfl
set_option maxRecDepth 100000 in
theorem z_r138 : z_out.2.2 138 = y_lay 138 (fun _ => 0, fun _ => 0, fun _ => none, 0, 0) := z_t138.trans rfl
set_option maxRecDepth 100000 in
theorem z_r140 : z_out.2.2 140 = y_lay 140 (fun _ => 0, fun _ => 0, fun _ => none, 0, 0) := z_t140.trans rfl
set_option maxRecDepth 100000 in
theorem z_r142 : z_out.2.2 142 = y_lay 142 (fun _ => 0, fun _ => 0, fun _ => none, 0, 0) := z_t142.trans rfl
set_option maxRecDepth 100000 in
theorem z_r144 : z_out.2.2 144 = y_lay 144 (fun _ => 0, fun _ => 0, fun _ => none, 0, 0) := z_t144.trans rfl
set_option maxRecDepth 100000 in
theorem z_r146 : z_out.2.2 146 = y_lay 146 (fun _ => 0, fun _ => 0, fun _ => none, 0, 0) := z_t146.trans rfl
set_option maxRecDepth 100000 in
theorem z_r148 : z_out.2.2 148 = y_lay 148 (fun _ => 0, fun _ => 0, fun _ => none, 0, 0) := z_t148.trans rfl
set_option maxRecDepth 100000 in
theorem z_r150 : z_out.2.2 150 = y_lay 150 (fun _ => 0, fun _ => 0, fun _ => none, 0, 0) := z_t150.trans rfl
theorem z_lay : ∀ h ∈ z_out.2.1, z_out.2.2 h = y_lay h (z_D h) := by
  intro h hh
  by_cases c : z_rw h
  · rw [show z_D h = (fun _ => 0, fun _ => 0, fun _ => none, 0, 0) from if_pos c]
    have k : h = 93 ∨ h = 95 ∨ h = 97 ∨ h = 99 ∨ h = 101 ∨ h = 103 ∨ h = 105 ∨ h = 107 ∨ h = 109 ∨ h = 111 ∨ h = 132 ∨ h = 134 ∨ h = 136 ∨ h = 138 ∨ h = 140 ∨ h = 142 ∨ h = 144 ∨ h = 146 ∨ h = 148 ∨ h = 150 := by
      unfold z_rw at c
      omega
    rcases k with rfl | rfl | rfl | rfl | rfl | rfl | rfl | rfl | rfl | rfl | rfl | rfl | rfl | rfl | rfl | rfl | rfl | rfl | rfl | rfl
    · exact z_r93
    · exact z_r95
    · exact z_r97
    · exact z_r99
    · exact z_r101
    · exact z_r103
    · exact z_r105
    · exact z_r107
    · exact z_r109
    · exact z_r111
    · exact z_r132
    · exact z_r134
    · exact z_r136
    · exact z_r138
    · exact z_r140
    · exact z_r142
    · exact z_r144
    · exact z_r146
    · exact z_r148
    · exact z_r150
  · rw [show z_D h = y_D0 h from if_neg c]
    exact z_all h hh
theorem z_q0 {j : Nat} : q_n (fun _ => 0) j = 0 := by show (0 : Int32).toNatClampNeg = 0; decide
theorem z_ok {j B : Nat} : q_ok (fun _ => 0) j B := ⟨by rw [z_q0]; rfl, by rw [z_q0]; exact Nat.zero_le _⟩
theorem z_T {D : y_D} {h cnt base wd mx : Nat} {R : (Nat → Int32) → Prop} (h2 : (D h).1 2 = 0) (h0 : (D h).1 0 = nI wd) : g_T D (fun _ => 0) h cnt base wd mx R := ⟨⟨h2, h0, fun k c hk _ => absurd hk (by rw [z_q0]; omega)⟩, z_ok, fun k hk => absurd hk (by rw [z_q0]; omega)⟩
theorem z_RU {D : y_D} {L : List Nat} {i r : Nat} {g f0 : Nat → Int32} {l0 l1 : Nat → Int64} {q0 : Nat → Option Nat} (h76 : (D 76).2.2.1 i = some r) (hr : D r = (f0, l0, fun _ => some (r + 1), 1, 0)) (hr1 : D (r + 1) = (g, l1, q0, 0, 0)) (m1 : r ∈ L) (m2 : r + 1 ∈ L) (d1 : y_dh r) (d2 : y_dh (r + 1)) : k_RU D L i := by
  have e1 : k_rh D i = r := by
    show ((D 76).2.2.1 i).getD 0 = r
    rw [h76]
    rfl
  have e3 : k_rr D i = r + 1 := by
    show ((D (k_rh D i)).2.2.1 0).getD 0 = r + 1
    rw [e1, hr]
    rfl
  have em : k_rm D i = 0 := by
    show (D (k_rr D i)).2.2.2.2 / 3 = 0
    rw [e3, hr1]
    exact Nat.zero_div 3
  exact ⟨by rw [e1]; exact h76, by rw [e1]; exact m1, by rw [e1]; exact d1, by rw [e1, hr], by rw [e1, e3, hr], by rw [e3]; exact m2, by rw [e3]; exact d2, by rw [e3, hr1], by rw [em, e3, hr1], by rw [em]; exact Nat.zero_le _, by rw [em]; exact fun i hi => absurd hi (by omega)⟩
theorem z_WA {D : y_D} {L : List Nat} {i r : Nat} {g f0 : Nat → Int32} {l0 l1 : Nat → Int64} {q0 : Nat → Option Nat} (h77 : (D 77).2.2.1 i = some r) (hr : D r = (f0, l0, fun _ => some (r + 1), 2, 0)) (hr1 : D (r + 1) = (g, l1, q0, 0, 0)) (m1 : r ∈ L) (m2 : r + 1 ∈ L) (d1 : y_dh r) (d2 : y_dh (r + 1)) (f00 : f0 0 = nI 0) (f01 : f0 1 = nI 1) (f02 : f0 2 = nI 0) : k_WA D L i := by
  have e1 : k_wh D i = r := by
    show ((D 77).2.2.1 i).getD 0 = r
    rw [h77]
    rfl
  have e3 : k_wr D i = r + 1 := by
    show ((D (k_wh D i)).2.2.1 0).getD 0 = r + 1
    rw [e1, hr]
    rfl
  have el : k_wl D i = 0 := by
    show (D (k_wr D i)).2.2.2.2 = 0
    rw [e3, hr1]
  have g0 : (D r).1 0 = nI 0 := by rw [hr]; exact f00
  have g1 : (D r).1 1 = nI 1 := by rw [hr]; exact f01
  have g2 : (D r).1 2 = nI 0 := by rw [hr]; exact f02
  have o0 := q_mk (B := 15) g0 (by decide) (by decide)
  have o1 := q_mk (B := 60) g1 (by decide) (by decide)
  have o2 := q_mk (B := 9) g2 (by decide) (by decide)
  exact ⟨by rw [e1]; exact h77, by rw [e1]; exact m1, by rw [e1]; exact d1, by rw [e1, hr], by rw [e1, e3, hr], by rw [e3]; exact m2, by rw [e3]; exact d2, by rw [e3, hr1], by rw [el]; exact Nat.zero_le _, by rw [el]; exact fun i hi => absurd hi (by omega), by rw [el]; rfl, by rw [e1]; exact o0.1, by rw [e1]; exact o1.1, by rw [e1, o1.2]; exact Nat.le_refl _, by rw [e1]; exact o2.1⟩
theorem z_dh : ∀ r, (92 ≤ r ∧ r < 112) ∨ (131 ≤ r ∧ r < 151) → y_dh r := fun r h => by unfold y_dh; omega
set_option maxRecDepth 100000 in
theorem z_RU0 : k_RU z_D y_L0 0 := z_RU (r := 92) (f0 := fun _ => 0) (l0 := fun _ => 0) (g := fun _ => 0) (l1 := fun _ => 0) (q0 := fun _ => none) rfl rfl rfl (y_ok0 92 (by decide)) (y_ok0 93 (by decide)) (z_dh _ (by decide)) (z_dh _ (by decide))
set_option maxRecDepth 100000 in
theorem z_RU1 : k_RU z_D y_L0 1 := z_RU (r := 94) (f0 := fun _ => 0) (l0 := fun _ => 0) (g := fun _ => 0) (l1 := fun _ => 0) (q0 := fun _ => none) rfl rfl rfl (y_ok0 94 (by decide)) (y_ok0 95 (by decide)) (z_dh _ (by decide)) (z_dh _ (by decide))
set_option maxRecDepth 100000 in
theorem z_RU2 : k_RU z_D y_L0 2 := z_RU (r := 96) (f0 := fun _ => 0) (l0 := fun _ => 0) (g := fun _ => 0) (l1 := fun _ => 0) (q0 := fun _ => none) rfl rfl rfl (y_ok0 96 (by decide)) (y_ok0 97 (by decide)) (z_dh _ (by decide)) (z_dh _ (by decide))
set_option maxRecDepth 100000 in
theorem z_RU3 : k_RU z_D y_L0 3 := z_RU (r := 98) (f0 := fun _ => 0) (l0 := fun _ => 0) (g := fun _ => 0) (l1 := fun _ => 0) (q0 := fun _ => none) rfl rfl rfl (y_ok0 98 (by decide)) (y_ok0 99 (by decide)) (z_dh _ (by decide)) (z_dh _ (by decide))
set_option maxRecDepth 100000 in
theorem z_WA0 : k_WA z_D y_L0 0 := z_WA (r := 100) (f0 := fun k => if k = 1 then 1 else 0) (l0 := fun _ => 0) (g := fun _ => 0) (l1 := fun _ => 0) (q0 := fun _ => none) rfl rfl rfl (y_ok0 100 (by decide)) (y_ok0 101 (by decide)) (z_dh _ (by decide)) (z_dh _ (by decide)) rfl rfl rfl
set_option maxRecDepth 100000 in
theorem z_WA1 : k_WA z_D y_L0 1 := z_WA (r := 102) (f0 := fun k => if k = 1 then 1 else 0) (l0 := fun _ => 0) (g := fun _ => 0) (l1 := fun _ => 0) (q0 := fun _ => none) rfl rfl rfl (y_ok0 102 (by decide)) (y_ok0 103 (by decide)) (z_dh _ (by decide)) (z_dh _ (by decide)) rfl rfl rfl
set_option maxRecDepth 100000 in
theorem z_WA2 : k_WA z_D y_L0 2 := z_WA (r := 104) (f0 := fun k => if k = 1 then 1 else 0) (l0 := fun _ => 0) (g := fun _ => 0) (l1 := fun _ => 0) (q0 := fun _ => none) rfl rfl rfl (y_ok0 104 (by decide)) (y_ok0 105 (by decide)) (z_dh _ (by decide)) (z_dh _ (by decide)) rfl rfl rfl
set_option maxRecDepth 100000 in
theorem z_WA3 : k_WA z_D y_L0 3 := z_WA (r := 106) (f0 := fun k => if k = 1 then 1 else 0) (l0 := fun _ => 0) (g := fun _ => 0) (l1 := fun _ => 0) (q0 := fun _ => none) rfl rfl rfl (y_ok0 106 (by decide)) (y_ok0 107 (by decide)) (z_dh _ (by decide)) (z_dh _ (by decide)) rfl rfl rfl
set_option maxRecDepth 100000 in
theorem z_WA4 : k_WA z_D y_L0 4 := z_WA (r := 108) (f0 := fun k => if k = 1 then 1 else 0) (l0 := fun _ => 0) (g := fun _ => 0) (l1 := fun _ => 0) (q0 := fun _ => none) rfl rfl rfl (y_ok0 108 (by decide)) (y_ok0 109 (by decide)) (z_dh _ (by decide)) (z_dh _ (by decide)) rfl rfl rfl
set_option maxRecDepth 100000 in
theorem z_WA5 : k_WA z_D y_L0 5 := z_WA (r := 110) (f0 := fun k => if k = 1 then 1 else 0) (l0 := fun _ => 0) (g := fun _ => 0) (l1 := fun _ => 0) (q0 := fun _ => none) rfl rfl rfl (y_ok0 110 (by decide)) (y_ok0 111 (by decide)) (z_dh _ (by decide)) (z_dh _ (by decide)) rfl rfl rfl
set_option maxRecDepth 100000 in
theorem z_B0 : g_B z_D y_L0 (fun _ => 0) := by
  refine ⟨⟨z_T rfl rfl, z_T rfl rfl, z_T rfl rfl, z_T rfl rfl, z_T rfl rfl, z_T rfl rfl, z_T rfl rfl, z_T rfl rfl⟩, ⟨rfl, z_ok, fun t ht => absurd ht (by rw [z_q0]; omega), fun i hi => ?_⟩, ⟨rfl, z_ok, fun t ht => absurd ht (by rw [z_q0]; omega), fun i hi => ?_⟩, ⟨rfl, z_ok, rfl, z_ok⟩⟩
  · rcases (by omega : i = 0 ∨ i = 1 ∨ i = 2 ∨ i = 3) with rfl | rfl | rfl | rfl
    · exact z_RU0
    · exact z_RU1
    · exact z_RU2
    · exact z_RU3
  · rcases (by omega : i = 0 ∨ i = 1 ∨ i = 2 ∨ i = 3 ∨ i = 4 ∨ i = 5) with rfl | rfl | rfl | rfl | rfl | rfl
    · exact z_WA0
    · exact z_WA1
    · exact z_WA2
    · exact z_WA3
    · exact z_WA4
    · exact z_WA5
set_option maxRecDepth 100000 in
theorem z_lt : ∀ h, h ∈ y_L0 → h < 191 := by
  intro h hh
  have k : h ∈ z_out.2.1 := hh
  rw [z_L] at k
  exact (by decide : ∀ h ∈ [64, 65, 66, 67, 68, 69, 70, 71, 72, 73, 74, 75, 76, 77, 78, 79, 80, 81, 82, 83, 84, 85, 86, 87, 88, 89, 90, 91, 92, 93, 94, 95, 96, 97, 98, 99, 100, 101, 102, 103, 104, 105, 106, 107, 108, 109, 110, 111, 112, 113, 114, 115, 116, 117, 118, 119, 120, 121, 122, 123, 124, 125, 126, 127, 128, 129, 130, 131, 132, 133, 134, 135, 136, 137, 138, 139, 140, 141, 142, 143, 144, 145, 146, 147, 148, 149, 150, 151, 152, 153, 154, 155, 156, 157, 158, 159, 190, 160, 161, 162, 163, 164, 165, 166, 167, 168, 169, 170, 171, 172, 173, 174, 175, 176, 177, 178, 179, 180, 181, 182, 183, 184, 185, 186, 187, 188, 189], h < 191) h k
set_option maxRecDepth 100000 in
theorem z_rq1 : y_rq z_D y_L0 115 4 1 := by
  intro i hi
  rcases (by omega : i = 0 ∨ i = 1 ∨ i = 2 ∨ i = 3) with rfl | rfl | rfl | rfl
  · exact ⟨131, rfl, y_ok0 131 (by decide), z_dh _ (by decide), rfl⟩
  · exact ⟨133, rfl, y_ok0 133 (by decide), z_dh _ (by decide), rfl⟩
  · exact ⟨135, rfl, y_ok0 135 (by decide), z_dh _ (by decide), rfl⟩
  · exact ⟨137, rfl, y_ok0 137 (by decide), z_dh _ (by decide), rfl⟩
set_option maxRecDepth 100000 in
theorem z_rq2 : y_rq z_D y_L0 116 6 2 := by
  intro i hi
  rcases (by omega : i = 0 ∨ i = 1 ∨ i = 2 ∨ i = 3 ∨ i = 4 ∨ i = 5) with rfl | rfl | rfl | rfl | rfl | rfl
  · exact ⟨139, rfl, y_ok0 139 (by decide), z_dh _ (by decide), rfl⟩
  · exact ⟨141, rfl, y_ok0 141 (by decide), z_dh _ (by decide), rfl⟩
  · exact ⟨143, rfl, y_ok0 143 (by decide), z_dh _ (by decide), rfl⟩
  · exact ⟨145, rfl, y_ok0 145 (by decide), z_dh _ (by decide), rfl⟩
  · exact ⟨147, rfl, y_ok0 147 (by decide), z_dh _ (by decide), rfl⟩
  · exact ⟨149, rfl, y_ok0 149 (by decide), z_dh _ (by decide), rfl⟩
set_option maxRecDepth 100000 in
theorem z_G : g_G 191 y_L0 z_D := ⟨⟨y_ok0, Nat.le_refl _, z_lt⟩, z_B0, fun t _ us _ h _ => Or.inl rfl, ⟨0, by decide, rfl, rfl⟩, ⟨rfl, fun j => by show -128 ≤ (0 : Int32).toInt ∧ (0 : Int32).toInt ≤ 127; decide⟩, rfl, Or.inl ⟨rfl, rfl⟩, z_rq1, z_rq2, rfl, rfl, rfl, rfl, rfl, rfl, rfl, rfl⟩

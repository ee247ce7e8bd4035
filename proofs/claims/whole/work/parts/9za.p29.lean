/-! the calls that put a row -/
section P29
variable {D D2 : y_D} {L : List Nat} {n : Nat}
def y_5 (a b c d e : Int32) : Nat → Int32 := fun i => if i = 0 then a else if i = 1 then b else if i = 2 then c else if i = 3 then d else e
theorem y_Tput_1 {tc len k wd c j : Nat} {v : Int32} (h : (k + 1) * wd ≤ len) : (y_Tput D tc len k wd c v tc).1 j = if c < wd ∧ j = k * wd + c then v else (D tc).1 j := by
  rw [Nat.add_mul, Nat.one_mul] at h
  unfold y_Tput
  by_cases q : c < wd
  · rw [if_pos ⟨q, by omega⟩, y_si_1]
    by_cases z : j = k * wd + c
    · rw [if_pos z, if_pos ⟨q, z⟩]
    · rw [if_neg z, if_neg (fun w => z w.2)]
  · rw [if_neg (fun w => q w.1), if_neg (fun w => q w.1)]
theorem y_Tput_m {tc len k wd c j : Nat} {v : Int32} (h : j ≠ tc) : y_Tput D tc len k wd c v j = D j := by
  unfold y_Tput
  split
  · exact y_si_n h
  · rfl
theorem y_Tadd_n {tb tc len k wd j : Nat} {a b c d e : Int32} (h : j ≠ tb) (h2 : j ≠ tc) : y_Tadd D tb tc len k wd a b c d e j = D j := by
  unfold y_Tadd
  rw [y_si_n h, y_Tput_m h2, y_Tput_m h2, y_Tput_m h2, y_Tput_m h2, y_Tput_m h2]
theorem y_Tadd_b {tb tc len k wd j : Nat} {a b c d e : Int32} (h : tb ≠ tc) : (y_Tadd D tb tc len k wd a b c d e tb).1 j = if j = 2 then nI (k + 1) else (D tb).1 j := by
  unfold y_Tadd
  rw [y_si_1, y_Tput_m h, y_Tput_m h, y_Tput_m h, y_Tput_m h, y_Tput_m h]
theorem y_Tadd_c {tb tc len k wd j : Nat} {a b c d e : Int32} (h : tb ≠ tc) (hl : (k + 1) * wd ≤ len) : (y_Tadd D tb tc len k wd a b c d e tc).1 j = if 4 < wd ∧ j = k * wd + 4 then e else if 3 < wd ∧ j = k * wd + 3 then d else if 2 < wd ∧ j = k * wd + 2 then c else if 1 < wd ∧ j = k * wd + 1 then b else if 0 < wd ∧ j = k * wd + 0 then a else (D tc).1 j := by
  unfold y_Tadd
  rw [y_si_n h.symm, y_Tput_1 hl, y_Tput_1 hl, y_Tput_1 hl, y_Tput_1 hl, y_Tput_1 hl]
/-- the row k of a table is put in the class -/
theorem g_Tadd {tb len k wd : Nat} {a b c d e : Int32} (hl : (k + 1) * wd ≤ len) (hw : wd ≤ 5) : (y_Tadd D tb (tb + 1) len k wd a b c d e tb).1 2 = nI (k + 1) ∧ (y_Tadd D tb (tb + 1) len k wd a b c d e tb).1 0 = (D tb).1 0 ∧ (∀ j, j < k * wd → (y_Tadd D tb (tb + 1) len k wd a b c d e (tb + 1)).1 j = (D (tb + 1)).1 j) ∧ ∀ i, i < wd → (y_Tadd D tb (tb + 1) len k wd a b c d e (tb + 1)).1 (k * wd + i) = y_5 a b c d e i := by
  have hn : tb ≠ tb + 1 := by omega
  refine ⟨by rw [y_Tadd_b hn, if_pos rfl], by rw [y_Tadd_b hn, if_neg (by decide)], fun j hj => ?_, fun i hi => ?_⟩
  · rw [y_Tadd_c hn hl, if_neg (by omega), if_neg (by omega), if_neg (by omega), if_neg (by omega), if_neg (by omega)]
  · rw [y_Tadd_c hn hl]
    unfold y_5
    rcases (by omega : i = 0 ∨ i = 1 ∨ i = 2 ∨ i = 3 ∨ i = 4) with rfl | rfl | rfl | rfl | rfl
    · rw [if_neg (by omega), if_neg (by omega), if_neg (by omega), if_neg (by omega), if_pos ⟨by omega, rfl⟩, if_pos rfl]
    · rw [if_neg (by omega), if_neg (by omega), if_neg (by omega), if_pos ⟨by omega, rfl⟩, if_neg (by decide), if_pos rfl]
    · rw [if_neg (by omega), if_neg (by omega), if_pos ⟨by omega, rfl⟩, if_neg (by decide), if_neg (by decide), if_pos rfl]
    · rw [if_neg (by omega), if_pos ⟨by omega, rfl⟩, if_neg (by decide), if_neg (by decide), if_neg (by decide), if_pos rfl]
    · rw [if_pos ⟨by omega, rfl⟩, if_neg (by decide), if_neg (by decide), if_neg (by decide), if_neg (by decide)]
/-- a call of the law through a wrapper: P, X the class's answer, R the reference's -/
def z_Q {α β : Type} (n : Nat) (L : List Nat) (D : y_D) (P : α → y_D → Prop) (X : String → Prop) (es : List String) (R : y_D → β → y_D → Prop) (q : α → β → Prop) : Prop :=
  (∀ (v : α) (D1 : y_D) (x : Int64), P v D1 → ∀ b D3, R (y_sl D1 189 0 x) b D3 → q v b ∧ (D3 169).1 0 = 0 ∧ g_G n L D3 ∧ D3 189 = y_sl D1 189 0 x 189) ∧
  ∀ (i : Nat) (E9 : String) (n2 : Nat), es[i]? = some E9 → X E9 → n ≤ n2 → ∀ b D3, R D b D3 → (D3 169).1 0 = nI (i + 1) ∧ g_G n2 L D3
theorem y_sl_n {h k j : Nat} {v : Int64} (hj : j ≠ h) : y_sl D h k v j = D j := by unfold y_sl; rw [if_neg hj]
/-- where the reference refuses -/
theorem g_G_th (G : g_G n L D) {n2 : Nat} (hn : n ≤ n2) {x : Int32} : (y_si (y_si D 169 0 0) 169 0 x 169).1 0 = x ∧ g_G n2 L (y_si (y_si D 169 0 0) 169 0 x) := by
  refine ⟨rfl, g_G_fr G hn (fun j h1 h2 => ?_) (fun k hk => ?_) ?_⟩
  · rw [y_si_n (by omega), y_si_n (by omega)]
  · rw [y_si_1, if_neg (by omega), y_si_1, if_neg (by omega)]
  · refine k_CI_fr (e := 0) (by decide) (g_k_B G.2.1) rfl rfl rfl (fun _ _ => rfl) (fun _ _ => rfl) (fun h _ hh => ?_) rfl (Nat.le_refl _) G.2.2.1
    have : h ≠ 169 := by unfold y_dh at hh; omega
    rw [y_si_n this, y_si_n this]
theorem v_lt1 {p : Int32} {m : Nat} (hm : m < 2 ^ 30) : p ≤ nI m - 1 ↔ p < nI m := by
  have h1 : (nI m - 1).toInt = (m : Int) - 1 := by
    rw [Int32.toInt_sub, nI_toInt (by omega)]
    have : (1 : Int32).toInt = 1 := by decide
    rw [this]
    apply Int.bmod_eq_of_le <;> omega
  rw [Int32.le_iff_toInt_le, Int32.lt_iff_toInt_lt, h1, nI_toInt (by omega)]
  omega
theorem v_in_of {p : Int32} {lo hi : Nat} (h1 : nI lo ≤ p) (h2 : p ≤ nI hi) (hh : hi < 2 ^ 30) (hl : lo < 2 ^ 30) : v_in p lo hi := by
  rw [Int32.le_iff_toInt_le, nI_toInt (by omega)] at h1 h2
  obtain ⟨a, ha, ea⟩ := nI_of (x := p) (fun q => by
    rw [Int32.lt_iff_toInt_lt] at q
    have : (0 : Int32).toInt = 0 := by decide
    omega)
  rw [ea, nI_toInt ha] at h1 h2
  exact ⟨a, ea, by omega, by omega⟩
end P29

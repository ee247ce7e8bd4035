/-! the meaning of steps -/
def v_c (DS : y_D) (x : Nat) (hl : Int32) (cs : List Nat) (g : Int32 × Int32 × List Int32) : Int32 × Int32 × List Int32 := c_s (fun p q => K_tag DS (nI p) q x) (fun p q => K_partOf DS (nI p) q (nI x)) hl cs g
def v_e (DL : y_D) (x f : Nat) (hl : Int32) (rs : List (Nat × Nat)) (l : List Int32) : List Int32 := e_s (fun p q => m_ask DL p q x f hl) rs l
theorem v_cs_ap {Tg Pt : Nat → Nat → Int32} {hl : Int32} : ∀ (a b : List Nat) (g : Int32 × Int32 × List Int32), c_s Tg Pt hl (a ++ b) g = c_s Tg Pt hl b (c_s Tg Pt hl a g)
  | [], _, _ => rfl
  | z :: r, b, g => v_cs_ap r b (c_1 Tg Pt hl z g)
theorem v_es_ap {A : Nat → Nat → Int32} : ∀ (a b : List (Nat × Nat)) (l : List Int32), e_s A (a ++ b) l = e_s A b (e_s A a l)
  | [], _, _ => rfl
  | z :: r, b, l => v_es_ap r b (e_1 A z l)
theorem v_ch_ap : ∀ {a b : List Nat} {h h2 : Nat}, c_h a h = some h2 → c_h (a ++ b) h = c_h b h2
  | [], b, h, h2, e => by
    have e1 : h = h2 := Option.some.inj e
    rw [e1]
    rfl
  | z :: r, b, h, h2, e => by
    obtain ⟨h3, e1, e2⟩ := c_h_cons e
    show (match c_h1 z h with | some h2 => c_h (r ++ b) h2 | none => none) = _
    rw [e1]
    exact v_ch_ap e2
theorem v_eh_ap : ∀ {a b : List (Nat × Nat)} {h h2 : Nat}, e_h a h = some h2 → e_h (a ++ b) h = e_h b h2
  | [], b, h, h2, e => by
    have e1 : h = h2 := Option.some.inj e
    rw [e1]
    rfl
  | z :: r, b, h, h2, e => by
    unfold e_h at e
    show (match e_h1 z h with | some h2 => e_h (r ++ b) h2 | none => none) = _
    cases q : e_h1 z h with
    | none =>
      rw [q] at e
      cases e
    | some h3 =>
      rw [q] at e
      exact v_eh_ap e
theorem v_c_ap {DS : y_D} {x : Nat} {hl : Int32} {a b : List Nat} {g : Int32 × Int32 × List Int32} : v_c DS x hl (a ++ b) g = v_c DS x hl b (v_c DS x hl a g) := v_cs_ap a b g
theorem v_e_ap {DL : y_D} {x f : Nat} {hl : Int32} {a b : List (Nat × Nat)} {l : List Int32} : v_e DL x f hl (a ++ b) l = v_e DL x f hl b (v_e DL x f hl a l) := v_es_ap a b l
theorem v_c_1 {DS : y_D} {x z : Nat} {hl : Int32} {g : Int32 × Int32 × List Int32} : v_c DS x hl [z] g = c_1 (fun p q => K_tag DS (nI p) q x) (fun p q => K_partOf DS (nI p) q (nI x)) hl z g := rfl
theorem v_e_1 {DL : y_D} {x f : Nat} {hl : Int32} {z : Nat × Nat} {l : List Int32} : v_e DL x f hl [z] l = e_1 (fun p q => m_ask DL p q x f hl) z l := rfl
theorem v_ch_1 {z h : Nat} : c_h [z] h = c_h1 z h := by
  show (match c_h1 z h with | some h2 => some h2 | none => none) = _
  cases c_h1 z h <;> rfl
theorem v_eh_1 {z : Nat × Nat} {h : Nat} : e_h [z] h = e_h1 z h := by
  show (match e_h1 z h with | some h2 => some h2 | none => none) = _
  cases e_h1 z h <;> rfl
/-- a sum of N parts; d: how high the stack of the reference may grow -/
def q_s (d N : Nat) (cs : List Nat) (rs : List (Nat × Nat)) : Prop := (∀ (DS DL : y_D) (x : Nat) (hl : Int32), q_E DS DL → x < 301 → ∃ a b, a ≤ 999 * N ∧ b ≤ N ∧ (∀ S P st, v_c DS x hl cs (S, P, st) = (S + nI a, P + nI b, st)) ∧ ∀ f, f < 16 → ∀ l, v_e DL x f hl rs l = nI (a + b * y_pop f) :: l) ∧ (∀ h, c_h cs h = some h) ∧ ∀ h, h + d ≤ 400 → e_h rs h = some (h + 1)
abbrev q_sm (N : Nat) (cs : List Nat) (rs : List (Nat × Nat)) : Prop := q_s 2 N cs rs
/-- a condition; u: how high the stack may grow -/
def q_cf (u : Nat) (cs : List Nat) (rs : List (Nat × Nat)) : Prop := (∀ (DS DL : y_D) (x : Nat) (hl : Int32), q_E DS DL → x < 301 → ∃ X, (∀ st, v_c DS x hl cs (0, 0, st) = (0, 0, X :: st)) ∧ ∀ f, f < 16 → ∀ l, v_e DL x f hl rs l = y_b (y_bit X f) :: l) ∧ (∀ h, h + u ≤ 24 → c_h cs h = some (h + 1)) ∧ ∀ h, h + u + 2 ≤ 400 → e_h rs h = some (h + 1)
theorem q_cf_up {u u2 : Nat} {cs : List Nat} {rs : List (Nat × Nat)} (h : q_cf u cs rs) (hu : u ≤ u2) : q_cf u2 cs rs := ⟨h.1, fun h9 q => h.2.1 h9 (by omega), fun h9 q => h.2.2 h9 (by omega)⟩
theorem q_s_up {d N : Nat} {cs : List Nat} {rs : List (Nat × Nat)} (h : q_s 1 N cs rs) (hd : 1 ≤ d) : q_s d N cs rs := ⟨h.1, h.2.1, fun h9 q => h.2.2 h9 (by omega)⟩
theorem v_i0 (S : Int32) : S + nI 0 = S := Int32.add_zero S
/-- a part of a sum: its token t, its number n; what the reference asks -/
theorem q_part {t n r : Nat} (hn : n < 1024) (ht : (t = 2 ∧ r = 10 ∧ n ≤ 999) ∨ (t = 29 ∧ r = 0 ∧ n = 0) ∨ (t = 30 ∧ r = 1 ∧ n = 0) ∨ (t = 31 ∧ r = 2 ∧ n < 4) ∨ (t = 32 ∧ r = 3 ∧ n < 4)) : q_s 1 1 [t * 1024 + n] [(r, n)] := by
  obtain ⟨z, hz⟩ : ∃ z, z = t * 1024 + n := ⟨_, rfl⟩
  have z1 : z / 1024 = t := by omega
  have z2 : z % 1024 = n := by omega
  rw [← hz]
  have hr : r ≤ 10 := by omega
  refine ⟨fun DS DL x hl hE hx => ?_, fun h => ?_, fun h hh => ?_⟩
  · have hc : ∀ S P st, v_c DS x hl [z] (S, P, st) = (if t = 30 then (S, P + 1, st) else (S + K_partOf DS (nI t) n (nI x), P, st)) := by
      intro S P st
      rw [v_c_1]
      unfold c_1
      rw [z1, z2]
      rcases ht with ⟨rfl, _⟩ | ⟨rfl, _⟩ | ⟨rfl, _⟩ | ⟨rfl, _⟩ | ⟨rfl, _⟩ <;> rfl
    have he : ∀ f l, v_e DL x f hl [(r, n)] l = m_ask DL r n x f hl :: l := by
      intro f l
      rw [v_e_1]
      unfold e_1
      exact if_pos hr
    rcases ht with ⟨rfl, rfl, h3⟩ | ⟨rfl, rfl, h3⟩ | ⟨rfl, rfl, h3⟩ | ⟨rfl, rfl, h3⟩ | ⟨rfl, rfl, h3⟩
    · refine ⟨n, 0, by omega, by omega, fun S P st => ?_, fun f hf l => ?_⟩
      · rw [hc, if_neg (by decide), v_i0]
        rfl
      · rw [he, Nat.zero_mul, Nat.add_zero]
        rfl
    · refine ⟨x, 0, by omega, by omega, fun S P st => ?_, fun f hf l => ?_⟩
      · rw [hc, if_neg (by decide), v_i0]
        rfl
      · rw [he, Nat.zero_mul, Nat.add_zero]
        rfl
    · refine ⟨0, 1, by omega, by omega, fun S P st => ?_, fun f hf l => ?_⟩
      · rw [hc, if_pos rfl, v_i0]
        rfl
      · rw [he, Nat.one_mul, Nat.zero_add]
        rfl
    · obtain ⟨-, -, g3, -, -, ⟨v, v1, v2⟩, -⟩ := hE.2 n h3
      refine ⟨v, 0, by omega, by omega, fun S P st => ?_, fun f hf l => ?_⟩
      · rw [hc, if_neg (by decide), v_i0, ← v2]
        rfl
      · rw [he, Nat.zero_mul, Nat.add_zero, ← v2, g3]
        rfl
    · obtain ⟨-, -, -, -, g5, -, ⟨v, v1, v2⟩⟩ := hE.2 n h3
      refine ⟨v, 0, by omega, by omega, fun S P st => ?_, fun f hf l => ?_⟩
      · rw [hc, if_neg (by decide), v_i0, ← v2]
        rfl
      · rw [he, Nat.zero_mul, Nat.add_zero, ← v2, g5]
        rfl
  · rw [v_ch_1]
    unfold c_h1
    rw [z1]
    rcases ht with ⟨rfl, _⟩ | ⟨rfl, _⟩ | ⟨rfl, _⟩ | ⟨rfl, _⟩ | ⟨rfl, _⟩ <;> rfl
  · rw [v_eh_1]
    unfold e_h1
    rw [if_pos hr, if_pos (by omega)]
theorem v_add (a b : Nat) : nI a + nI b = nI (a + b) := by
  apply Int32.toBitVec_inj.1
  show BitVec.ofNat 32 a + BitVec.ofNat 32 b = BitVec.ofNat 32 (a + b)
  exact (BitVec.ofNat_add a b).symm
theorem q_sm_add {N : Nat} {cs cs2 : List Nat} {rs rs2 : List (Nat × Nat)} (h1 : q_sm N cs rs) (h2 : q_s 1 1 cs2 rs2) : q_sm (N + 1) (cs ++ cs2) (rs ++ rs2 ++ [(11, 0)]) := by
  refine ⟨fun DS DL x hl hE hx => ?_, fun h => ?_, fun h hh => ?_⟩
  · obtain ⟨a, b, a1, a2, a3, a4⟩ := h1.1 DS DL x hl hE hx
    obtain ⟨c, d, c1, c2, c3, c4⟩ := h2.1 DS DL x hl hE hx
    refine ⟨a + c, b + d, by omega, by omega, fun S P st => ?_, fun f hf l => ?_⟩
    · rw [v_c_ap, a3, c3, Int32.add_assoc, Int32.add_assoc, v_add, v_add]
    · rw [v_e_ap, v_e_ap, a4 f hf, c4 f hf, v_e_1]
      show (nI (a + b * y_pop f) + nI (c + d * y_pop f)) :: l = _
      rw [v_add, Nat.add_mul, show a + b * y_pop f + (c + d * y_pop f) = a + c + (b * y_pop f + d * y_pop f) by omega]
  · rw [v_ch_ap (h1.2.1 h)]
    exact h2.2.1 h
  · rw [List.append_assoc, v_eh_ap (h1.2.2 h hh), v_eh_ap (h2.2.2 (h + 1) (by omega)), v_eh_1]
    unfold e_h1
    rw [if_neg (by decide), if_neg (by decide), if_pos (by omega)]
    rfl
theorem v_y1 (P : Prop) [Decidable P] : 1 - y_b P = y_b (¬ P) := by
  unfold y_b
  by_cases h : P
  · rw [if_pos h, if_neg (fun q => q h)]
    rfl
  · rw [if_neg h, if_pos h]
    rfl
theorem v_and (P Q : Prop) [Decidable P] [Decidable Q] : y_b (y_b P + y_b Q = 2) = y_b (P ∧ Q) := by
  unfold y_b
  by_cases h : P <;> by_cases g : Q
  · rw [if_pos h, if_pos g, if_pos (by decide), if_pos ⟨h, g⟩]
  · rw [if_pos h, if_neg g, if_neg (by decide), if_neg (fun q => g q.2)]
  · rw [if_neg h, if_pos g, if_neg (by decide), if_neg (fun q => h q.1)]
  · rw [if_neg h, if_neg g, if_neg (by decide), if_neg (fun q => h q.1)]
theorem v_or (P Q : Prop) [Decidable P] [Decidable Q] : y_b (0 < y_b P + y_b Q) = y_b (P ∨ Q) := by
  unfold y_b
  by_cases h : P <;> by_cases g : Q
  · rw [if_pos h, if_pos g, if_pos (by decide), if_pos (Or.inl h)]
  · rw [if_pos h, if_neg g, if_pos (by decide), if_pos (Or.inl h)]
  · rw [if_neg h, if_pos g, if_pos (by decide), if_pos (Or.inr g)]
  · rw [if_neg h, if_neg g, if_neg (by decide), if_neg (fun q => q.elim h g)]
theorem v_yc {P Q : Prop} [Decidable P] [Decidable Q] (h : P ↔ Q) : y_b P = y_b Q := by
  unfold y_b
  by_cases q : P
  · rw [if_pos q, if_pos (h.mp q)]
  · rw [if_neg q, if_neg (fun z => q (h.mpr z))]
theorem v_not16 : ∀ f, f < 16 → bt 65535 f = true := by decide +kernel
theorem q_cf_not {u : Nat} {cs : List Nat} {rs : List (Nat × Nat)} (h : q_cf u cs rs) : q_cf u (cs ++ [22 * 1024 + 0]) (rs ++ [(14, 0)]) := by
  refine ⟨fun DS DL x hl hE hx => ?_, fun h9 hh => ?_, fun h9 hh => ?_⟩
  · obtain ⟨X, a1, a2⟩ := h.1 DS DL x hl hE hx
    refine ⟨X ^^^ 65535, fun st => ?_, fun f hf l => ?_⟩
    · rw [v_c_ap, a1, v_c_1]
      rfl
    · rw [v_e_ap, a2 f hf, v_e_1]
      show (1 - y_b (y_bit X f)) :: l = _
      rw [v_y1, v_yc (show ¬ y_bit X f ↔ y_bit (X ^^^ 65535) f from ?_)]
      rw [y_bit_bt (by omega), y_bit_bt (by omega), b_xor, v_not16 f hf, Bool.xor_true, Bool.not_eq_true', Bool.not_eq_true]
  · rw [v_ch_ap (h.2.1 h9 hh), v_ch_1]
    show (if 1 ≤ h9 + 1 then some (h9 + 1) else none) = some (h9 + 1)
    rw [if_pos (by omega)]
  · rw [v_eh_ap (h.2.2 h9 hh), v_eh_1]
    show (if 1 ≤ h9 + 1 then some (h9 + 1) else none) = some (h9 + 1)
    rw [if_pos (by omega)]
theorem q_cf_and {u w : Nat} {cs cs2 : List Nat} {rs rs2 : List (Nat × Nat)} (h : q_cf u cs rs) (h2 : q_cf w cs2 rs2) (hw : w + 1 ≤ u) : q_cf u (cs ++ cs2 ++ [21 * 1024 + 0]) (rs ++ rs2 ++ [(15, 0)]) := by
  refine ⟨fun DS DL x hl hE hx => ?_, fun h9 hh => ?_, fun h9 hh => ?_⟩
  · obtain ⟨X, a1, a2⟩ := h.1 DS DL x hl hE hx
    obtain ⟨Y, b1, b2⟩ := h2.1 DS DL x hl hE hx
    refine ⟨X &&& Y, fun st => ?_, fun f hf l => ?_⟩
    · rw [v_c_ap, v_c_ap, a1, b1, v_c_1]
      rfl
    · rw [v_e_ap, v_e_ap, a2 f hf, b2 f hf, v_e_1]
      show y_b (y_b (y_bit X f) + y_b (y_bit Y f) = 2) :: l = _
      rw [v_and, v_yc (y_bit_and (by omega)).symm]
  · rw [List.append_assoc, v_ch_ap (h.2.1 h9 hh), v_ch_ap (h2.2.1 (h9 + 1) (by omega)), v_ch_1]
    show (if 2 ≤ h9 + 1 + 1 then some (h9 + 1 + 1 - 1) else none) = some (h9 + 1)
    rw [if_pos (by omega)]
    rfl
  · rw [List.append_assoc, v_eh_ap (h.2.2 h9 hh), v_eh_ap (h2.2.2 (h9 + 1) (by omega)), v_eh_1]
    show (if 2 ≤ h9 + 1 + 1 then some (h9 + 1 + 1 - 1) else none) = some (h9 + 1)
    rw [if_pos (by omega)]
    rfl
theorem q_cf_or {u w : Nat} {cs cs2 : List Nat} {rs rs2 : List (Nat × Nat)} (h : q_cf u cs rs) (h2 : q_cf w cs2 rs2) (hw : w + 1 ≤ u) : q_cf u (cs ++ cs2 ++ [20 * 1024 + 0]) (rs ++ rs2 ++ [(16, 0)]) := by
  refine ⟨fun DS DL x hl hE hx => ?_, fun h9 hh => ?_, fun h9 hh => ?_⟩
  · obtain ⟨X, a1, a2⟩ := h.1 DS DL x hl hE hx
    obtain ⟨Y, b1, b2⟩ := h2.1 DS DL x hl hE hx
    refine ⟨X ||| Y, fun st => ?_, fun f hf l => ?_⟩
    · rw [v_c_ap, v_c_ap, a1, b1, v_c_1]
      rfl
    · rw [v_e_ap, v_e_ap, a2 f hf, b2 f hf, v_e_1]
      show y_b (0 < y_b (y_bit X f) + y_b (y_bit Y f)) :: l = _
      rw [v_or, v_yc (y_bit_or (by omega)).symm]
  · rw [List.append_assoc, v_ch_ap (h.2.1 h9 hh), v_ch_ap (h2.2.1 (h9 + 1) (by omega)), v_ch_1]
    show (if 2 ≤ h9 + 1 + 1 then some (h9 + 1 + 1 - 1) else none) = some (h9 + 1)
    rw [if_pos (by omega)]
    rfl
  · rw [List.append_assoc, v_eh_ap (h.2.2 h9 hh), v_eh_ap (h2.2.2 (h9 + 1) (by omega)), v_eh_1]
    show (if 2 ≤ h9 + 1 + 1 then some (h9 + 1 + 1 - 1) else none) = some (h9 + 1)
    rw [if_pos (by omega)]
    rfl

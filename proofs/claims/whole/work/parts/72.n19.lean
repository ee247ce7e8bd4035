theorem sr_205 {V : x_E} (hV : y_V V) : ∀ (U : State) (H : Heap), V.2.2.2.2.2.2 U H → vk_R RX11 205 "hold" (V.2.2.2.2.1 6) U := fun U H hI => (hV.2 U H hI).2.1 6 (RX11, 205, "hold") rfl
theorem sr_207 {V : x_E} (hV : y_V V) : ∀ (U : State) (H : Heap), V.2.2.2.2.2.2 U H → vk_R RX11 207 "tie" (V.2.2.2.2.1 7) U := fun U H hI => (hV.2 U H hI).2.1 7 (RX11, 207, "tie") rfl
theorem sr_208 {V : x_E} (hV : y_V V) : ∀ (U : State) (H : Heap), V.2.2.2.2.2.2 U H → vk_R RX11 208 "lit" (V.2.2.2.2.1 8) U := fun U H hI => (hV.2 U H hI).2.1 8 (RX11, 208, "lit") rfl
theorem sr_209 {V : x_E} (hV : y_V V) : ∀ (U : State) (H : Heap), V.2.2.2.2.2.2 U H → vk_R RX11 209 "last" (V.2.2.2.2.1 9) U := fun U H hI => (hV.2 U H hI).2.1 9 (RX11, 209, "last") rfl
theorem sr_214 {V : x_E} (hV : y_V V) : ∀ (U : State) (H : Heap), V.2.2.2.2.2.2 U H → vk_R RX11 214 "by" (V.2.2.2.2.1 10) U := fun U H hI => (hV.2 U H hI).2.1 10 (RX11, 214, "by") rfl
theorem sr_218 {V : x_E} (hV : y_V V) : ∀ (U : State) (H : Heap), V.2.2.2.2.2.2 U H → vk_R RX11 218 "to" (V.2.2.2.2.1 11) U := fun U H hI => (hV.2 U H hI).2.1 11 (RX11, 218, "to") rfl
theorem sr_220 {V : x_E} (hV : y_V V) : ∀ (U : State) (H : Heap), V.2.2.2.2.2.2 U H → vk_R RX11 220 "free" (V.2.2.2.2.1 12) U := fun U H hI => (hV.2 U H hI).2.1 12 (RX11, 220, "free") rfl
theorem sr_222 {V : x_E} (hV : y_V V) : ∀ (U : State) (H : Heap), V.2.2.2.2.2.2 U H → vk_R RX11 222 "take" (V.2.2.2.2.1 13) U := fun U H hI => (hV.2 U H hI).2.1 13 (RX11, 222, "take") rfl
theorem sr_224 {V : x_E} (hV : y_V V) : ∀ (U : State) (H : Heap), V.2.2.2.2.2.2 U H → vk_R RX11 224 "reach" (V.2.2.2.2.1 14) U := fun U H hI => (hV.2 U H hI).2.1 14 (RX11, 224, "reach") rfl
theorem sr_226 {V : x_E} (hV : y_V V) : ∀ (U : State) (H : Heap), V.2.2.2.2.2.2 U H → vk_R RX11 226 "need" (V.2.2.2.2.1 15) U := fun U H hI => (hV.2 U H hI).2.1 15 (RX11, 226, "need") rfl
theorem sr_184 {V : x_E} (hV : y_V V) : ∀ (U : State) (H : Heap), V.2.2.2.2.2.2 U H → vk_R RX11 184 "not" (V.2.2.2.2.1 16) U := fun U H hI => (hV.2 U H hI).2.1 16 (RX11, 184, "not") rfl
theorem sr_166 {V : x_E} (hV : y_V V) : ∀ (U : State) (H : Heap), V.2.2.2.2.2.2 U H → vk_R RX11 166 "dark" (V.2.2.2.2.1 17) U := fun U H hI => (hV.2 U H hI).2.1 17 (RX11, 166, "dark") rfl
theorem sr_168 {V : x_E} (hV : y_V V) : ∀ (U : State) (H : Heap), V.2.2.2.2.2.2 U H → vk_R RX11 168 "helped" (V.2.2.2.2.1 18) U := fun U H hI => (hV.2 U H hI).2.1 18 (RX11, 168, "helped") rfl
theorem sr_170 {V : x_E} (hV : y_V V) : ∀ (U : State) (H : Heap), V.2.2.2.2.2.2 U H → vk_R RX11 170 "loose" (V.2.2.2.2.1 19) U := fun U H hI => (hV.2 U H hI).2.1 19 (RX11, 170, "loose") rfl
theorem sr_172 {V : x_E} (hV : y_V V) : ∀ (U : State) (H : Heap), V.2.2.2.2.2.2 U H → vk_R RX11 172 "held" (V.2.2.2.2.1 20) U := fun U H hI => (hV.2 U H hI).2.1 20 (RX11, 172, "held") rfl
theorem sr_174 {V : x_E} (hV : y_V V) : ∀ (U : State) (H : Heap), V.2.2.2.2.2.2 U H → vk_R RX11 174 "tied" (V.2.2.2.2.1 21) U := fun U H hI => (hV.2 U H hI).2.1 21 (RX11, 174, "tied") rfl
theorem sr_176 {V : x_E} (hV : y_V V) : ∀ (U : State) (H : Heap), V.2.2.2.2.2.2 U H → vk_R RX11 176 "tired" (V.2.2.2.2.1 22) U := fun U H hI => (hV.2 U H hI).2.1 22 (RX11, 176, "tired") rfl
theorem sr_147 {V : x_E} (hV : y_V V) : ∀ (U : State) (H : Heap), V.2.2.2.2.2.2 U H → vk_R RX11 147 "second" (V.2.2.2.2.1 23) U := fun U H hI => (hV.2 U H hI).2.1 23 (RX11, 147, "second") rfl
theorem sr_149 {V : x_E} (hV : y_V V) : ∀ (U : State) (H : Heap), V.2.2.2.2.2.2 U H → vk_R RX11 149 "limbs" (V.2.2.2.2.1 24) U := fun U H hI => (hV.2 U H hI).2.1 24 (RX11, 149, "limbs") rfl
theorem sr_151 {V : x_E} (hV : y_V V) : ∀ (U : State) (H : Heap), V.2.2.2.2.2.2 U H → vk_R RX11 151 "knows" (V.2.2.2.2.1 25) U := fun U H hI => (hV.2 U H hI).2.1 25 (RX11, 151, "knows") rfl
theorem sr_153 {V : x_E} (hV : y_V V) : ∀ (U : State) (H : Heap), V.2.2.2.2.2.2 U H → vk_R RX11 153 "slack" (V.2.2.2.2.1 26) U := fun U H hI => (hV.2 U H hI).2.1 26 (RX11, 153, "slack") rfl
theorem sr_198 {V : x_E} (hV : y_V V) : ∀ (U : State) (H : Heap), V.2.2.2.2.2.2 U H → vk_R RX11 198 "and" (V.2.2.2.2.1 27) U := fun U H hI => (hV.2 U H hI).2.1 27 (RX11, 198, "and") rfl
theorem sr_203 {V : x_E} (hV : y_V V) : ∀ (U : State) (H : Heap), V.2.2.2.2.2.2 U H → vk_R RX11 203 "or" (V.2.2.2.2.1 28) U := fun U H hI => (hV.2 U H hI).2.1 28 (RX11, 203, "or") rfl
/-! the reference's reader: emitsOf, readPart, readSum -/
abbrev l_S : Type := Nat × Nat × Nat × Nat × (Nat → Int32)
abbrev l_F : Type := Nat → Nat → Nat → Nat → (Nat → Int32) → Bool × l_S
/-- how far a piece may go: no more steps than bytes -/
def l_bd (e p s p2 s2 : Nat) : Prop := p ≤ p2 ∧ p2 ≤ e ∧ s ≤ s2 ∧ s2 + p ≤ s + p2
theorem l_bd.all {e p s p2 s2 : Nat} (h : l_bd e p s p2 s2) : p ≤ p2 ∧ p2 ≤ e ∧ s ≤ s2 ∧ s2 + p ≤ s + p2 := h
/-- what a piece of the reader answers: as F says -/
def l_R (D : y_D) (e : Nat) (F : l_F) (p b g s : Nat) (W : Nat → Int32) (v : Int32) (D2 : y_D) : Prop := ∃ (ok : Bool) (p2 b2 g2 s2 : Nat) (W2 : Nat → Int32), F p b g s W = (ok, p2, b2, g2, s2, W2) ∧ v = y_b (ok = true) ∧ D2 = m_P D p2 b2 g2 s2 W2 ∧ l_bd e p s p2 s2 ∧ (ok = true → g2 = g)
theorem l_f {T : Nat → Int32} {e p : Nat} (hp : p ≤ e) : p ≤ l_bl T e p ∧ l_bl T e p ≤ l_le T e p ∧ l_le T e p ≤ e ∧ l_bl T e p ≤ l_di T e p ∧ l_di T e p ≤ e := ⟨l_to_ge, l_to_ge, l_to_le (l_to_le hp), l_to_ge, l_to_le (l_to_le hp)⟩
theorem l_nv_lt {T : Nat → Int32} {e lo hi p : Nat} (h : 0 ≤ l_nv T e lo hi p) : l_bl T e p < l_di T e p := by
  have h1 : l_bl T e p ≤ l_di T e p := l_to_ge
  unfold l_nv at h
  split at h
  · exact absurd h (by decide)
  · omega
theorem l_sg_b {T : Nat → Int32} {e p : Nat} {c : Int32} (hp : p ≤ e) : p ≤ l_sg T e c p ∧ l_sg T e c p ≤ e ∧ (l_is T e c p → p + 1 ≤ l_sg T e c p) := by
  have h1 := l_f (T := T) hp
  unfold l_sg
  split
  · rename_i h2
    exact ⟨by omega, by have h3 := h2.1; omega, fun _ => by omega⟩
  · rename_i h2
    exact ⟨by omega, by omega, fun h => absurd h h2⟩
theorem l_pa_b {T : Nat → Int32} {e i p : Nat} (hp : p ≤ e) : p ≤ l_pa T e i p ∧ l_pa T e i p ≤ e ∧ (l_w T (l_bl T e p) (l_le T e p) i → 0 < (y_bt i).length → p + 1 ≤ l_pa T e i p) := by
  have h1 := l_f (T := T) hp
  unfold l_pa
  split
  · rename_i h2
    exact ⟨by omega, by omega, fun _ h3 => by have h4 := h2.1; omega⟩
  · rename_i h2
    exact ⟨by omega, by omega, fun h => absurd h h2⟩
/-- one after another -/
def l_then (r : Bool × l_S) (f : l_F) : Bool × l_S := if r.1 = true then f r.2.1 r.2.2.1 r.2.2.2.1 r.2.2.2.2.1 r.2.2.2.2.2 else r
theorem l_then_t {f : l_F} {p b g s : Nat} {W : Nat → Int32} : l_then (true, p, b, g, s, W) f = f p b g s W := rfl
theorem l_then_f {f : l_F} {q : l_S} : l_then (false, q) f = (false, q) := rfl
def l_part (T : Nat → Int32) (e : Nat) : l_F := fun p _ g s W =>
  if l_le T e p ≤ l_bl T e p then
    (if 0 ≤ l_nv T e 0 999 (l_le T e p) then (true, l_di T e (l_le T e p), l_bl T e (l_le T e p), g, s + 1, l_em W s 10 (l_nv T e 0 999 (l_le T e p))) else (false, l_di T e (l_le T e p), l_bl T e (l_le T e p), g, s, W))
  else if l_w T (l_bl T e p) (l_le T e p) 23 then (true, l_le T e p, l_bl T e p, g, s + 1, l_em W s 0 0)
  else if l_w T (l_bl T e p) (l_le T e p) 24 then (true, l_le T e p, l_bl T e p, g, s + 1, l_em W s 1 0)
  else if l_w T (l_bl T e p) (l_le T e p) 25 then (if ¬ l_nv T e 0 3 (l_le T e p) < 0 then (true, l_di T e (l_le T e p), l_bl T e (l_le T e p), g, s + 1, l_em W s 2 (l_nv T e 0 3 (l_le T e p))) else (false, l_di T e (l_le T e p), l_bl T e (l_le T e p), g, s + 1, l_em W s 2 (l_nv T e 0 3 (l_le T e p))))
  else if l_w T (l_bl T e p) (l_le T e p) 26 then (if ¬ l_nv T e 0 3 (l_le T e p) < 0 then (true, l_di T e (l_le T e p), l_bl T e (l_le T e p), g, s + 1, l_em W s 3 (l_nv T e 0 3 (l_le T e p))) else (false, l_di T e (l_le T e p), l_bl T e (l_le T e p), g, s + 1, l_em W s 3 (l_nv T e 0 3 (l_le T e p))))
  else (false, l_le T e p, l_bl T e p, g, s, W)
def l_suk (T : Nat → Int32) (e : Nat) : Nat → l_F
  | 0 => fun p b g s W => (false, p, b, g, s, W)
  | k + 1 => fun p _ g s W => if l_is T e 43 p then l_then (l_part T e (l_sg T e 43 p) (l_bl T e p) g s W) (fun p b g s W => l_suk T e k p b g (s + 1) (l_em W s 11 0)) else (true, l_sg T e 43 p, l_bl T e p, g, s, W)
theorem l_suk_e {T : Nat → Int32} {e k p b g s : Nat} {W : Nat → Int32} (hk : 0 < k) : l_suk T e k p b g s W = if l_is T e 43 p then l_then (l_part T e (l_sg T e 43 p) (l_bl T e p) g s W) (fun p b g s W => l_suk T e (k - 1) p b g (s + 1) (l_em W s 11 0)) else (true, l_sg T e 43 p, l_bl T e p, g, s, W) := by
  rcases k with _ | k
  · omega
  · rfl
def l_su (T : Nat → Int32) (e : Nat) : l_F := fun p b g s W => l_then (l_part T e p b g s W) (l_suk T e 401)
theorem c_emitsOf_0 {V : x_E} {n : Nat} {L : List Nat} {D : y_D} {p b g s : Nat} {W : Nat → Int32} (hL : y_ok L) (hs : s < 400) : x_Fn V yX11_emitsOf cX11_emitsOf 3 (some .boolean) 3 [.ref 169, .int 0] (y_mk n L (m_P D p b g s W)) (some (.int 1)) (y_mk n L (m_P D p b g (s + 1) (l_em W s 0 0))) := by
  refine x_fn (by decide) (Nat.le_of_ble_eq_true rfl) (fun E hE => ?_)
  change E 0 0 0 [(0, .ref 169), (1, .int 0)] [] (y_mk n L (m_P D p b g s W))
  refine r_iload_n hE dX11_emitsOf_0 rfl ?_
  refine r_if_eq (tgt := 19) hE dX11_emitsOf_1 (by decide) (fun _ => ?_) (fun c1 => by first | exact absurd c1 (by decide) | exact absurd (by decide) c1)
  refine r_iconst (v := 0) hE dX11_emitsOf_19 (by decide) ?_
  refine r_goto (tgt := 29) hE dX11_emitsOf_20 (by decide) ?_
  refine r_istore_n (ls2 := [(0, .ref 169), (1, .int 0), (2, .int 0)]) hE dX11_emitsOf_29 (by decide) rfl ?_
  refine r_aload_n hE dX11_emitsOf_30 rfl ?_
  refine r_iload_n hE dX11_emitsOf_31 rfl ?_
  refine r_iload_n hE dX11_emitsOf_32 rfl ?_
  refine t_invv (r := none) (S2 := (y_mk n L (m_P D p b g (s + 1) (l_em W s 0 0)))) hE [.int 0, .int 0] (c_emits hL (by omega)) v_yX11_emits m_X11_143 dX11_emitsOf_33 rfl (hL 169 (by decide)) (y_l_169 ((m_P D p b g s W) 169)) rfl (by decide) ⟨Nat.le_refl _, Nat.le_refl _⟩ (Nat.le_of_ble_eq_true rfl) ?_
  show E 0 0 36 [(0, .ref 169), (1, .int 0), (2, .int 0)] [] (y_mk n L (m_P D p b g (s + 1) (l_em W s 0 0)))
  refine r_iload_n hE dX11_emitsOf_36 rfl ?_
  refine r_if_lt (tgt := 44) hE dX11_emitsOf_37 (by decide) (fun c37 => by first | exact absurd c37 (by decide) | exact absurd (by decide) c37) (fun _ => ?_)
  refine r_iconst (v := 1) hE dX11_emitsOf_40 (by decide) ?_
  refine r_goto (tgt := 45) hE dX11_emitsOf_41 (by decide) ?_
  refine r_ireturn hE dX11_emitsOf_45 rfl (by first | rfl | exact y_nb _) (Nat.zero_le _) (Nat.zero_le _) ?_
  exact ⟨rfl, rfl⟩
theorem c_emitsOf_1 {V : x_E} {n : Nat} {L : List Nat} {D : y_D} {p b g s : Nat} {W : Nat → Int32} (hL : y_ok L) (hs : s < 400) : x_Fn V yX11_emitsOf cX11_emitsOf 3 (some .boolean) 3 [.ref 169, .int 1] (y_mk n L (m_P D p b g s W)) (some (.int 1)) (y_mk n L (m_P D p b g (s + 1) (l_em W s 1 0))) := by
  refine x_fn (by decide) (Nat.le_of_ble_eq_true rfl) (fun E hE => ?_)
  change E 0 0 0 [(0, .ref 169), (1, .int 1)] [] (y_mk n L (m_P D p b g s W))
  refine r_iload_n hE dX11_emitsOf_0 rfl ?_
  refine r_if_eq (tgt := 19) hE dX11_emitsOf_1 (by decide) (fun c1 => by first | exact absurd c1 (by decide) | exact absurd (by decide) c1) (fun _ => ?_)
  refine r_iload_n hE dX11_emitsOf_4 rfl ?_
  refine r_iconst (v := 1) hE dX11_emitsOf_5 (by decide) ?_
  refine r_icmp_eq (tgt := 19) hE dX11_emitsOf_6 (by decide) (fun _ => ?_) (fun c6 => by first | exact absurd c6 (by decide) | exact absurd (by decide) c6)
  refine r_iconst (v := 0) hE dX11_emitsOf_19 (by decide) ?_
  refine r_goto (tgt := 29) hE dX11_emitsOf_20 (by decide) ?_
  refine r_istore_n (ls2 := [(0, .ref 169), (1, .int 1), (2, .int 0)]) hE dX11_emitsOf_29 (by decide) rfl ?_
  refine r_aload_n hE dX11_emitsOf_30 rfl ?_
  refine r_iload_n hE dX11_emitsOf_31 rfl ?_
  refine r_iload_n hE dX11_emitsOf_32 rfl ?_
  refine t_invv (r := none) (S2 := (y_mk n L (m_P D p b g (s + 1) (l_em W s 1 0)))) hE [.int 1, .int 0] (c_emits hL (by omega)) v_yX11_emits m_X11_143 dX11_emitsOf_33 rfl (hL 169 (by decide)) (y_l_169 ((m_P D p b g s W) 169)) rfl (by decide) ⟨Nat.le_refl _, Nat.le_refl _⟩ (Nat.le_of_ble_eq_true rfl) ?_
  show E 0 0 36 [(0, .ref 169), (1, .int 1), (2, .int 0)] [] (y_mk n L (m_P D p b g (s + 1) (l_em W s 1 0)))
  refine r_iload_n hE dX11_emitsOf_36 rfl ?_
  refine r_if_lt (tgt := 44) hE dX11_emitsOf_37 (by decide) (fun c37 => by first | exact absurd c37 (by decide) | exact absurd (by decide) c37) (fun _ => ?_)
  refine r_iconst (v := 1) hE dX11_emitsOf_40 (by decide) ?_
  refine r_goto (tgt := 45) hE dX11_emitsOf_41 (by decide) ?_
  refine r_ireturn hE dX11_emitsOf_45 rfl (by first | rfl | exact y_nb _) (Nat.zero_le _) (Nat.zero_le _) ?_
  exact ⟨rfl, rfl⟩
theorem c_emitsOf_2 {V : x_E} {n : Nat} {L : List Nat} {D : y_D} {e p b g s : Nat} {W : Nat → Int32} (hL : y_ok L) (hen : (D 169).1 7 = nI e) (he : e ≤ 400) (hp : p ≤ e) (hs : s < 400) : x_Fn V yX11_emitsOf cX11_emitsOf 3 (some .boolean) 3 [.ref 169, .int 2] (y_mk n L (m_P D p b g s W)) (some (.int (y_b (¬ (l_nv (D 172).1 e 0 3 p) < 0)))) (y_mk n L (m_P D (l_di (D 172).1 e p) (l_bl (D 172).1 e p) g (s + 1) (l_em W s 2 (l_nv (D 172).1 e 0 3 p)))) := by
  refine x_fn (by decide) (Nat.le_of_ble_eq_true rfl) (fun E hE => ?_)
  change E 0 0 0 [(0, .ref 169), (1, .int 2)] [] (y_mk n L (m_P D p b g s W))
  refine r_iload_n hE dX11_emitsOf_0 rfl ?_
  refine r_if_eq (tgt := 19) hE dX11_emitsOf_1 (by decide) (fun c1 => by first | exact absurd c1 (by decide) | exact absurd (by decide) c1) (fun _ => ?_)
  refine r_iload_n hE dX11_emitsOf_4 rfl ?_
  refine r_iconst (v := 1) hE dX11_emitsOf_5 (by decide) ?_
  refine r_icmp_eq (tgt := 19) hE dX11_emitsOf_6 (by decide) (fun c6 => by first | exact absurd c6 (by decide) | exact absurd (by decide) c6) (fun _ => ?_)
  refine r_iload_n hE dX11_emitsOf_9 rfl ?_
  refine r_iconst (v := 4) hE dX11_emitsOf_10 (by decide) ?_
  refine r_icmp_eq (tgt := 19) hE dX11_emitsOf_11 (by decide) (fun c11 => by first | exact absurd c11 (by decide) | exact absurd (by decide) c11) (fun _ => ?_)
  refine r_iload_n hE dX11_emitsOf_14 rfl ?_
  refine r_iconst (v := 5) hE dX11_emitsOf_15 (by decide) ?_
  refine r_icmp_ne (tgt := 23) hE dX11_emitsOf_16 (by decide) (fun _ => ?_) (fun c16 => by first | exact absurd c16 (by decide) | exact absurd (by decide) c16)
  refine r_aload_n hE dX11_emitsOf_23 rfl ?_
  refine r_iconst (v := 0) hE dX11_emitsOf_24 (by decide) ?_
  refine r_iconst (v := 3) hE dX11_emitsOf_25 (by decide) ?_
  refine t_invv (r := (some (.int (l_nv (D 172).1 e 0 3 p)))) (S2 := (y_mk n L (m_P D (l_di (D 172).1 e p) (l_bl (D 172).1 e p) g s W))) hE [.int 0, .int 3] (c_number (lo := 0) (hi := 3) (by decide) (by decide) hL hen he (by omega)) v_yX11_number m_X11_140 dX11_emitsOf_26 rfl (hL 169 (by decide)) (y_l_169 ((m_P D p b g s W) 169)) rfl (by decide) ⟨Nat.le_refl _, Nat.le_refl _⟩ (Nat.le_of_ble_eq_true rfl) ?_
  show E 0 0 29 [(0, .ref 169), (1, .int 2)] [.int (l_nv (D 172).1 e 0 3 p)] (y_mk n L (m_P D (l_di (D 172).1 e p) (l_bl (D 172).1 e p) g s W))
  refine r_istore_n (ls2 := [(0, .ref 169), (1, .int 2), (2, .int (l_nv (D 172).1 e 0 3 p))]) hE dX11_emitsOf_29 (by decide) rfl ?_
  refine r_aload_n hE dX11_emitsOf_30 rfl ?_
  refine r_iload_n hE dX11_emitsOf_31 rfl ?_
  refine r_iload_n hE dX11_emitsOf_32 rfl ?_
  refine t_invv (r := none) (S2 := (y_mk n L (m_P D (l_di (D 172).1 e p) (l_bl (D 172).1 e p) g (s + 1) (l_em W s 2 (l_nv (D 172).1 e 0 3 p))))) hE [.int 2, .int (l_nv (D 172).1 e 0 3 p)] (c_emits hL (by omega)) v_yX11_emits m_X11_143 dX11_emitsOf_33 rfl (hL 169 (by decide)) (y_l_169 ((m_P D (l_di (D 172).1 e p) (l_bl (D 172).1 e p) g s W) 169)) rfl (by decide) ⟨Nat.le_refl _, Nat.le_refl _⟩ (Nat.le_of_ble_eq_true rfl) ?_
  show E 0 0 36 [(0, .ref 169), (1, .int 2), (2, .int (l_nv (D 172).1 e 0 3 p))] [] (y_mk n L (m_P D (l_di (D 172).1 e p) (l_bl (D 172).1 e p) g (s + 1) (l_em W s 2 (l_nv (D 172).1 e 0 3 p))))
  refine r_iload_n hE dX11_emitsOf_36 rfl ?_
  refine r_if_lt (tgt := 44) hE dX11_emitsOf_37 (by decide) (fun c37 => ?_) (fun c37 => ?_)
  · refine r_iconst (v := 0) hE dX11_emitsOf_44 (by decide) ?_
    refine r_ireturn hE dX11_emitsOf_45 rfl (by first | rfl | exact y_nb _) (Nat.zero_le _) (Nat.zero_le _) ?_
    exact ⟨by first | rw [y_b_t (by assumption)] | rw [y_b_f (fun z => z (by assumption))], rfl⟩
  · refine r_iconst (v := 1) hE dX11_emitsOf_40 (by decide) ?_
    refine r_goto (tgt := 45) hE dX11_emitsOf_41 (by decide) ?_
    refine r_ireturn hE dX11_emitsOf_45 rfl (by first | rfl | exact y_nb _) (Nat.zero_le _) (Nat.zero_le _) ?_
    exact ⟨by first | rw [y_b_t (by assumption)] | rw [y_b_f (fun z => z (by assumption))], rfl⟩
theorem c_emitsOf_3 {V : x_E} {n : Nat} {L : List Nat} {D : y_D} {e p b g s : Nat} {W : Nat → Int32} (hL : y_ok L) (hen : (D 169).1 7 = nI e) (he : e ≤ 400) (hp : p ≤ e) (hs : s < 400) : x_Fn V yX11_emitsOf cX11_emitsOf 3 (some .boolean) 3 [.ref 169, .int 3] (y_mk n L (m_P D p b g s W)) (some (.int (y_b (¬ (l_nv (D 172).1 e 0 3 p) < 0)))) (y_mk n L (m_P D (l_di (D 172).1 e p) (l_bl (D 172).1 e p) g (s + 1) (l_em W s 3 (l_nv (D 172).1 e 0 3 p)))) := by
  refine x_fn (by decide) (Nat.le_of_ble_eq_true rfl) (fun E hE => ?_)
  change E 0 0 0 [(0, .ref 169), (1, .int 3)] [] (y_mk n L (m_P D p b g s W))
  refine r_iload_n hE dX11_emitsOf_0 rfl ?_
  refine r_if_eq (tgt := 19) hE dX11_emitsOf_1 (by decide) (fun c1 => by first | exact absurd c1 (by decide) | exact absurd (by decide) c1) (fun _ => ?_)
  refine r_iload_n hE dX11_emitsOf_4 rfl ?_
  refine r_iconst (v := 1) hE dX11_emitsOf_5 (by decide) ?_
  refine r_icmp_eq (tgt := 19) hE dX11_emitsOf_6 (by decide) (fun c6 => by first | exact absurd c6 (by decide) | exact absurd (by decide) c6) (fun _ => ?_)
  refine r_iload_n hE dX11_emitsOf_9 rfl ?_
  refine r_iconst (v := 4) hE dX11_emitsOf_10 (by decide) ?_
  refine r_icmp_eq (tgt := 19) hE dX11_emitsOf_11 (by decide) (fun c11 => by first | exact absurd c11 (by decide) | exact absurd (by decide) c11) (fun _ => ?_)
  refine r_iload_n hE dX11_emitsOf_14 rfl ?_
  refine r_iconst (v := 5) hE dX11_emitsOf_15 (by decide) ?_
  refine r_icmp_ne (tgt := 23) hE dX11_emitsOf_16 (by decide) (fun _ => ?_) (fun c16 => by first | exact absurd c16 (by decide) | exact absurd (by decide) c16)
  refine r_aload_n hE dX11_emitsOf_23 rfl ?_
  refine r_iconst (v := 0) hE dX11_emitsOf_24 (by decide) ?_
  refine r_iconst (v := 3) hE dX11_emitsOf_25 (by decide) ?_
  refine t_invv (r := (some (.int (l_nv (D 172).1 e 0 3 p)))) (S2 := (y_mk n L (m_P D (l_di (D 172).1 e p) (l_bl (D 172).1 e p) g s W))) hE [.int 0, .int 3] (c_number (lo := 0) (hi := 3) (by decide) (by decide) hL hen he (by omega)) v_yX11_number m_X11_140 dX11_emitsOf_26 rfl (hL 169 (by decide)) (y_l_169 ((m_P D p b g s W) 169)) rfl (by decide) ⟨Nat.le_refl _, Nat.le_refl _⟩ (Nat.le_of_ble_eq_true rfl) ?_
  show E 0 0 29 [(0, .ref 169), (1, .int 3)] [.int (l_nv (D 172).1 e 0 3 p)] (y_mk n L (m_P D (l_di (D 172).1 e p) (l_bl (D 172).1 e p) g s W))
  refine r_istore_n (ls2 := [(0, .ref 169), (1, .int 3), (2, .int (l_nv (D 172).1 e 0 3 p))]) hE dX11_emitsOf_29 (by decide) rfl ?_
  refine r_aload_n hE dX11_emitsOf_30 rfl ?_
  refine r_iload_n hE dX11_emitsOf_31 rfl ?_
  refine r_iload_n hE dX11_emitsOf_32 rfl ?_
  refine t_invv (r := none) (S2 := (y_mk n L (m_P D (l_di (D 172).1 e p) (l_bl (D 172).1 e p) g (s + 1) (l_em W s 3 (l_nv (D 172).1 e 0 3 p))))) hE [.int 3, .int (l_nv (D 172).1 e 0 3 p)] (c_emits hL (by omega)) v_yX11_emits m_X11_143 dX11_emitsOf_33 rfl (hL 169 (by decide)) (y_l_169 ((m_P D (l_di (D 172).1 e p) (l_bl (D 172).1 e p) g s W) 169)) rfl (by decide) ⟨Nat.le_refl _, Nat.le_refl _⟩ (Nat.le_of_ble_eq_true rfl) ?_
  show E 0 0 36 [(0, .ref 169), (1, .int 3), (2, .int (l_nv (D 172).1 e 0 3 p))] [] (y_mk n L (m_P D (l_di (D 172).1 e p) (l_bl (D 172).1 e p) g (s + 1) (l_em W s 3 (l_nv (D 172).1 e 0 3 p))))
  refine r_iload_n hE dX11_emitsOf_36 rfl ?_
  refine r_if_lt (tgt := 44) hE dX11_emitsOf_37 (by decide) (fun c37 => ?_) (fun c37 => ?_)
  · refine r_iconst (v := 0) hE dX11_emitsOf_44 (by decide) ?_
    refine r_ireturn hE dX11_emitsOf_45 rfl (by first | rfl | exact y_nb _) (Nat.zero_le _) (Nat.zero_le _) ?_
    exact ⟨by first | rw [y_b_t (by assumption)] | rw [y_b_f (fun z => z (by assumption))], rfl⟩
  · refine r_iconst (v := 1) hE dX11_emitsOf_40 (by decide) ?_
    refine r_goto (tgt := 45) hE dX11_emitsOf_41 (by decide) ?_
    refine r_ireturn hE dX11_emitsOf_45 rfl (by first | rfl | exact y_nb _) (Nat.zero_le _) (Nat.zero_le _) ?_
    exact ⟨by first | rw [y_b_t (by assumption)] | rw [y_b_f (fun z => z (by assumption))], rfl⟩
theorem c_emitsOf_4 {V : x_E} {n : Nat} {L : List Nat} {D : y_D} {p b g s : Nat} {W : Nat → Int32} (hL : y_ok L) (hs : s < 400) : x_Fn V yX11_emitsOf cX11_emitsOf 3 (some .boolean) 3 [.ref 169, .int 4] (y_mk n L (m_P D p b g s W)) (some (.int 1)) (y_mk n L (m_P D p b g (s + 1) (l_em W s 4 0))) := by
  refine x_fn (by decide) (Nat.le_of_ble_eq_true rfl) (fun E hE => ?_)
  change E 0 0 0 [(0, .ref 169), (1, .int 4)] [] (y_mk n L (m_P D p b g s W))
  refine r_iload_n hE dX11_emitsOf_0 rfl ?_
  refine r_if_eq (tgt := 19) hE dX11_emitsOf_1 (by decide) (fun c1 => by first | exact absurd c1 (by decide) | exact absurd (by decide) c1) (fun _ => ?_)
  refine r_iload_n hE dX11_emitsOf_4 rfl ?_
  refine r_iconst (v := 1) hE dX11_emitsOf_5 (by decide) ?_
  refine r_icmp_eq (tgt := 19) hE dX11_emitsOf_6 (by decide) (fun c6 => by first | exact absurd c6 (by decide) | exact absurd (by decide) c6) (fun _ => ?_)
  refine r_iload_n hE dX11_emitsOf_9 rfl ?_
  refine r_iconst (v := 4) hE dX11_emitsOf_10 (by decide) ?_
  refine r_icmp_eq (tgt := 19) hE dX11_emitsOf_11 (by decide) (fun _ => ?_) (fun c11 => by first | exact absurd c11 (by decide) | exact absurd (by decide) c11)
  refine r_iconst (v := 0) hE dX11_emitsOf_19 (by decide) ?_
  refine r_goto (tgt := 29) hE dX11_emitsOf_20 (by decide) ?_
  refine r_istore_n (ls2 := [(0, .ref 169), (1, .int 4), (2, .int 0)]) hE dX11_emitsOf_29 (by decide) rfl ?_
  refine r_aload_n hE dX11_emitsOf_30 rfl ?_
  refine r_iload_n hE dX11_emitsOf_31 rfl ?_
  refine r_iload_n hE dX11_emitsOf_32 rfl ?_
  refine t_invv (r := none) (S2 := (y_mk n L (m_P D p b g (s + 1) (l_em W s 4 0)))) hE [.int 4, .int 0] (c_emits hL (by omega)) v_yX11_emits m_X11_143 dX11_emitsOf_33 rfl (hL 169 (by decide)) (y_l_169 ((m_P D p b g s W) 169)) rfl (by decide) ⟨Nat.le_refl _, Nat.le_refl _⟩ (Nat.le_of_ble_eq_true rfl) ?_
  show E 0 0 36 [(0, .ref 169), (1, .int 4), (2, .int 0)] [] (y_mk n L (m_P D p b g (s + 1) (l_em W s 4 0)))
  refine r_iload_n hE dX11_emitsOf_36 rfl ?_
  refine r_if_lt (tgt := 44) hE dX11_emitsOf_37 (by decide) (fun c37 => by first | exact absurd c37 (by decide) | exact absurd (by decide) c37) (fun _ => ?_)
  refine r_iconst (v := 1) hE dX11_emitsOf_40 (by decide) ?_
  refine r_goto (tgt := 45) hE dX11_emitsOf_41 (by decide) ?_
  refine r_ireturn hE dX11_emitsOf_45 rfl (by first | rfl | exact y_nb _) (Nat.zero_le _) (Nat.zero_le _) ?_
  exact ⟨rfl, rfl⟩
theorem c_emitsOf_5 {V : x_E} {n : Nat} {L : List Nat} {D : y_D} {p b g s : Nat} {W : Nat → Int32} (hL : y_ok L) (hs : s < 400) : x_Fn V yX11_emitsOf cX11_emitsOf 3 (some .boolean) 3 [.ref 169, .int 5] (y_mk n L (m_P D p b g s W)) (some (.int 1)) (y_mk n L (m_P D p b g (s + 1) (l_em W s 5 0))) := by
  refine x_fn (by decide) (Nat.le_of_ble_eq_true rfl) (fun E hE => ?_)
  change E 0 0 0 [(0, .ref 169), (1, .int 5)] [] (y_mk n L (m_P D p b g s W))
  refine r_iload_n hE dX11_emitsOf_0 rfl ?_
  refine r_if_eq (tgt := 19) hE dX11_emitsOf_1 (by decide) (fun c1 => by first | exact absurd c1 (by decide) | exact absurd (by decide) c1) (fun _ => ?_)
  refine r_iload_n hE dX11_emitsOf_4 rfl ?_
  refine r_iconst (v := 1) hE dX11_emitsOf_5 (by decide) ?_
  refine r_icmp_eq (tgt := 19) hE dX11_emitsOf_6 (by decide) (fun c6 => by first | exact absurd c6 (by decide) | exact absurd (by decide) c6) (fun _ => ?_)
  refine r_iload_n hE dX11_emitsOf_9 rfl ?_
  refine r_iconst (v := 4) hE dX11_emitsOf_10 (by decide) ?_
  refine r_icmp_eq (tgt := 19) hE dX11_emitsOf_11 (by decide) (fun c11 => by first | exact absurd c11 (by decide) | exact absurd (by decide) c11) (fun _ => ?_)
  refine r_iload_n hE dX11_emitsOf_14 rfl ?_
  refine r_iconst (v := 5) hE dX11_emitsOf_15 (by decide) ?_
  refine r_icmp_ne (tgt := 23) hE dX11_emitsOf_16 (by decide) (fun c16 => by first | exact absurd c16 (by decide) | exact absurd (by decide) c16) (fun _ => ?_)
  refine r_iconst (v := 0) hE dX11_emitsOf_19 (by decide) ?_
  refine r_goto (tgt := 29) hE dX11_emitsOf_20 (by decide) ?_
  refine r_istore_n (ls2 := [(0, .ref 169), (1, .int 5), (2, .int 0)]) hE dX11_emitsOf_29 (by decide) rfl ?_
  refine r_aload_n hE dX11_emitsOf_30 rfl ?_
  refine r_iload_n hE dX11_emitsOf_31 rfl ?_
  refine r_iload_n hE dX11_emitsOf_32 rfl ?_
  refine t_invv (r := none) (S2 := (y_mk n L (m_P D p b g (s + 1) (l_em W s 5 0)))) hE [.int 5, .int 0] (c_emits hL (by omega)) v_yX11_emits m_X11_143 dX11_emitsOf_33 rfl (hL 169 (by decide)) (y_l_169 ((m_P D p b g s W) 169)) rfl (by decide) ⟨Nat.le_refl _, Nat.le_refl _⟩ (Nat.le_of_ble_eq_true rfl) ?_
  show E 0 0 36 [(0, .ref 169), (1, .int 5), (2, .int 0)] [] (y_mk n L (m_P D p b g (s + 1) (l_em W s 5 0)))
  refine r_iload_n hE dX11_emitsOf_36 rfl ?_
  refine r_if_lt (tgt := 44) hE dX11_emitsOf_37 (by decide) (fun c37 => by first | exact absurd c37 (by decide) | exact absurd (by decide) c37) (fun _ => ?_)
  refine r_iconst (v := 1) hE dX11_emitsOf_40 (by decide) ?_
  refine r_goto (tgt := 45) hE dX11_emitsOf_41 (by decide) ?_
  refine r_ireturn hE dX11_emitsOf_45 rfl (by first | rfl | exact y_nb _) (Nat.zero_le _) (Nat.zero_le _) ?_
  exact ⟨rfl, rfl⟩
theorem c_emitsOf_6 {V : x_E} {n : Nat} {L : List Nat} {D : y_D} {e p b g s : Nat} {W : Nat → Int32} (hL : y_ok L) (hen : (D 169).1 7 = nI e) (he : e ≤ 400) (hp : p ≤ e) (hs : s < 400) : x_Fn V yX11_emitsOf cX11_emitsOf 3 (some .boolean) 3 [.ref 169, .int 6] (y_mk n L (m_P D p b g s W)) (some (.int (y_b (¬ (l_nv (D 172).1 e 0 3 p) < 0)))) (y_mk n L (m_P D (l_di (D 172).1 e p) (l_bl (D 172).1 e p) g (s + 1) (l_em W s 6 (l_nv (D 172).1 e 0 3 p)))) := by
  refine x_fn (by decide) (Nat.le_of_ble_eq_true rfl) (fun E hE => ?_)
  change E 0 0 0 [(0, .ref 169), (1, .int 6)] [] (y_mk n L (m_P D p b g s W))
  refine r_iload_n hE dX11_emitsOf_0 rfl ?_
  refine r_if_eq (tgt := 19) hE dX11_emitsOf_1 (by decide) (fun c1 => by first | exact absurd c1 (by decide) | exact absurd (by decide) c1) (fun _ => ?_)
  refine r_iload_n hE dX11_emitsOf_4 rfl ?_
  refine r_iconst (v := 1) hE dX11_emitsOf_5 (by decide) ?_
  refine r_icmp_eq (tgt := 19) hE dX11_emitsOf_6 (by decide) (fun c6 => by first | exact absurd c6 (by decide) | exact absurd (by decide) c6) (fun _ => ?_)
  refine r_iload_n hE dX11_emitsOf_9 rfl ?_
  refine r_iconst (v := 4) hE dX11_emitsOf_10 (by decide) ?_
  refine r_icmp_eq (tgt := 19) hE dX11_emitsOf_11 (by decide) (fun c11 => by first | exact absurd c11 (by decide) | exact absurd (by decide) c11) (fun _ => ?_)
  refine r_iload_n hE dX11_emitsOf_14 rfl ?_
  refine r_iconst (v := 5) hE dX11_emitsOf_15 (by decide) ?_
  refine r_icmp_ne (tgt := 23) hE dX11_emitsOf_16 (by decide) (fun _ => ?_) (fun c16 => by first | exact absurd c16 (by decide) | exact absurd (by decide) c16)
  refine r_aload_n hE dX11_emitsOf_23 rfl ?_
  refine r_iconst (v := 0) hE dX11_emitsOf_24 (by decide) ?_
  refine r_iconst (v := 3) hE dX11_emitsOf_25 (by decide) ?_
  refine t_invv (r := (some (.int (l_nv (D 172).1 e 0 3 p)))) (S2 := (y_mk n L (m_P D (l_di (D 172).1 e p) (l_bl (D 172).1 e p) g s W))) hE [.int 0, .int 3] (c_number (lo := 0) (hi := 3) (by decide) (by decide) hL hen he (by omega)) v_yX11_number m_X11_140 dX11_emitsOf_26 rfl (hL 169 (by decide)) (y_l_169 ((m_P D p b g s W) 169)) rfl (by decide) ⟨Nat.le_refl _, Nat.le_refl _⟩ (Nat.le_of_ble_eq_true rfl) ?_
  show E 0 0 29 [(0, .ref 169), (1, .int 6)] [.int (l_nv (D 172).1 e 0 3 p)] (y_mk n L (m_P D (l_di (D 172).1 e p) (l_bl (D 172).1 e p) g s W))
  refine r_istore_n (ls2 := [(0, .ref 169), (1, .int 6), (2, .int (l_nv (D 172).1 e 0 3 p))]) hE dX11_emitsOf_29 (by decide) rfl ?_
  refine r_aload_n hE dX11_emitsOf_30 rfl ?_
  refine r_iload_n hE dX11_emitsOf_31 rfl ?_
  refine r_iload_n hE dX11_emitsOf_32 rfl ?_
  refine t_invv (r := none) (S2 := (y_mk n L (m_P D (l_di (D 172).1 e p) (l_bl (D 172).1 e p) g (s + 1) (l_em W s 6 (l_nv (D 172).1 e 0 3 p))))) hE [.int 6, .int (l_nv (D 172).1 e 0 3 p)] (c_emits hL (by omega)) v_yX11_emits m_X11_143 dX11_emitsOf_33 rfl (hL 169 (by decide)) (y_l_169 ((m_P D (l_di (D 172).1 e p) (l_bl (D 172).1 e p) g s W) 169)) rfl (by decide) ⟨Nat.le_refl _, Nat.le_refl _⟩ (Nat.le_of_ble_eq_true rfl) ?_
  show E 0 0 36 [(0, .ref 169), (1, .int 6), (2, .int (l_nv (D 172).1 e 0 3 p))] [] (y_mk n L (m_P D (l_di (D 172).1 e p) (l_bl (D 172).1 e p) g (s + 1) (l_em W s 6 (l_nv (D 172).1 e 0 3 p))))
  refine r_iload_n hE dX11_emitsOf_36 rfl ?_
  refine r_if_lt (tgt := 44) hE dX11_emitsOf_37 (by decide) (fun c37 => ?_) (fun c37 => ?_)
  · refine r_iconst (v := 0) hE dX11_emitsOf_44 (by decide) ?_
    refine r_ireturn hE dX11_emitsOf_45 rfl (by first | rfl | exact y_nb _) (Nat.zero_le _) (Nat.zero_le _) ?_
    exact ⟨by first | rw [y_b_t (by assumption)] | rw [y_b_f (fun z => z (by assumption))], rfl⟩
  · refine r_iconst (v := 1) hE dX11_emitsOf_40 (by decide) ?_
    refine r_goto (tgt := 45) hE dX11_emitsOf_41 (by decide) ?_
    refine r_ireturn hE dX11_emitsOf_45 rfl (by first | rfl | exact y_nb _) (Nat.zero_le _) (Nat.zero_le _) ?_
    exact ⟨by first | rw [y_b_t (by assumption)] | rw [y_b_f (fun z => z (by assumption))], rfl⟩
theorem c_emitsOf_7 {V : x_E} {n : Nat} {L : List Nat} {D : y_D} {e p b g s : Nat} {W : Nat → Int32} (hL : y_ok L) (hen : (D 169).1 7 = nI e) (he : e ≤ 400) (hp : p ≤ e) (hs : s < 400) : x_Fn V yX11_emitsOf cX11_emitsOf 3 (some .boolean) 3 [.ref 169, .int 7] (y_mk n L (m_P D p b g s W)) (some (.int (y_b (¬ (l_nv (D 172).1 e 0 3 p) < 0)))) (y_mk n L (m_P D (l_di (D 172).1 e p) (l_bl (D 172).1 e p) g (s + 1) (l_em W s 7 (l_nv (D 172).1 e 0 3 p)))) := by
  refine x_fn (by decide) (Nat.le_of_ble_eq_true rfl) (fun E hE => ?_)
  change E 0 0 0 [(0, .ref 169), (1, .int 7)] [] (y_mk n L (m_P D p b g s W))
  refine r_iload_n hE dX11_emitsOf_0 rfl ?_
  refine r_if_eq (tgt := 19) hE dX11_emitsOf_1 (by decide) (fun c1 => by first | exact absurd c1 (by decide) | exact absurd (by decide) c1) (fun _ => ?_)
  refine r_iload_n hE dX11_emitsOf_4 rfl ?_
  refine r_iconst (v := 1) hE dX11_emitsOf_5 (by decide) ?_
  refine r_icmp_eq (tgt := 19) hE dX11_emitsOf_6 (by decide) (fun c6 => by first | exact absurd c6 (by decide) | exact absurd (by decide) c6) (fun _ => ?_)
  refine r_iload_n hE dX11_emitsOf_9 rfl ?_
  refine r_iconst (v := 4) hE dX11_emitsOf_10 (by decide) ?_
  refine r_icmp_eq (tgt := 19) hE dX11_emitsOf_11 (by decide) (fun c11 => by first | exact absurd c11 (by decide) | exact absurd (by decide) c11) (fun _ => ?_)
  refine r_iload_n hE dX11_emitsOf_14 rfl ?_
  refine r_iconst (v := 5) hE dX11_emitsOf_15 (by decide) ?_
  refine r_icmp_ne (tgt := 23) hE dX11_emitsOf_16 (by decide) (fun _ => ?_) (fun c16 => by first | exact absurd c16 (by decide) | exact absurd (by decide) c16)
  refine r_aload_n hE dX11_emitsOf_23 rfl ?_
  refine r_iconst (v := 0) hE dX11_emitsOf_24 (by decide) ?_
  refine r_iconst (v := 3) hE dX11_emitsOf_25 (by decide) ?_
  refine t_invv (r := (some (.int (l_nv (D 172).1 e 0 3 p)))) (S2 := (y_mk n L (m_P D (l_di (D 172).1 e p) (l_bl (D 172).1 e p) g s W))) hE [.int 0, .int 3] (c_number (lo := 0) (hi := 3) (by decide) (by decide) hL hen he (by omega)) v_yX11_number m_X11_140 dX11_emitsOf_26 rfl (hL 169 (by decide)) (y_l_169 ((m_P D p b g s W) 169)) rfl (by decide) ⟨Nat.le_refl _, Nat.le_refl _⟩ (Nat.le_of_ble_eq_true rfl) ?_
  show E 0 0 29 [(0, .ref 169), (1, .int 7)] [.int (l_nv (D 172).1 e 0 3 p)] (y_mk n L (m_P D (l_di (D 172).1 e p) (l_bl (D 172).1 e p) g s W))
  refine r_istore_n (ls2 := [(0, .ref 169), (1, .int 7), (2, .int (l_nv (D 172).1 e 0 3 p))]) hE dX11_emitsOf_29 (by decide) rfl ?_
  refine r_aload_n hE dX11_emitsOf_30 rfl ?_
  refine r_iload_n hE dX11_emitsOf_31 rfl ?_
  refine r_iload_n hE dX11_emitsOf_32 rfl ?_
  refine t_invv (r := none) (S2 := (y_mk n L (m_P D (l_di (D 172).1 e p) (l_bl (D 172).1 e p) g (s + 1) (l_em W s 7 (l_nv (D 172).1 e 0 3 p))))) hE [.int 7, .int (l_nv (D 172).1 e 0 3 p)] (c_emits hL (by omega)) v_yX11_emits m_X11_143 dX11_emitsOf_33 rfl (hL 169 (by decide)) (y_l_169 ((m_P D (l_di (D 172).1 e p) (l_bl (D 172).1 e p) g s W) 169)) rfl (by decide) ⟨Nat.le_refl _, Nat.le_refl _⟩ (Nat.le_of_ble_eq_true rfl) ?_
  show E 0 0 36 [(0, .ref 169), (1, .int 7), (2, .int (l_nv (D 172).1 e 0 3 p))] [] (y_mk n L (m_P D (l_di (D 172).1 e p) (l_bl (D 172).1 e p) g (s + 1) (l_em W s 7 (l_nv (D 172).1 e 0 3 p))))
  refine r_iload_n hE dX11_emitsOf_36 rfl ?_
  refine r_if_lt (tgt := 44) hE dX11_emitsOf_37 (by decide) (fun c37 => ?_) (fun c37 => ?_)
  · refine r_iconst (v := 0) hE dX11_emitsOf_44 (by decide) ?_
    refine r_ireturn hE dX11_emitsOf_45 rfl (by first | rfl | exact y_nb _) (Nat.zero_le _) (Nat.zero_le _) ?_
    exact ⟨by first | rw [y_b_t (by assumption)] | rw [y_b_f (fun z => z (by assumption))], rfl⟩
  · refine r_iconst (v := 1) hE dX11_emitsOf_40 (by decide) ?_
    refine r_goto (tgt := 45) hE dX11_emitsOf_41 (by decide) ?_
    refine r_ireturn hE dX11_emitsOf_45 rfl (by first | rfl | exact y_nb _) (Nat.zero_le _) (Nat.zero_le _) ?_
    exact ⟨by first | rw [y_b_t (by assumption)] | rw [y_b_f (fun z => z (by assumption))], rfl⟩
theorem c_emitsOf_8 {V : x_E} {n : Nat} {L : List Nat} {D : y_D} {e p b g s : Nat} {W : Nat → Int32} (hL : y_ok L) (hen : (D 169).1 7 = nI e) (he : e ≤ 400) (hp : p ≤ e) (hs : s < 400) : x_Fn V yX11_emitsOf cX11_emitsOf 3 (some .boolean) 3 [.ref 169, .int 8] (y_mk n L (m_P D p b g s W)) (some (.int (y_b (¬ (l_nv (D 172).1 e 0 3 p) < 0)))) (y_mk n L (m_P D (l_di (D 172).1 e p) (l_bl (D 172).1 e p) g (s + 1) (l_em W s 8 (l_nv (D 172).1 e 0 3 p)))) := by
  refine x_fn (by decide) (Nat.le_of_ble_eq_true rfl) (fun E hE => ?_)
  change E 0 0 0 [(0, .ref 169), (1, .int 8)] [] (y_mk n L (m_P D p b g s W))
  refine r_iload_n hE dX11_emitsOf_0 rfl ?_
  refine r_if_eq (tgt := 19) hE dX11_emitsOf_1 (by decide) (fun c1 => by first | exact absurd c1 (by decide) | exact absurd (by decide) c1) (fun _ => ?_)
  refine r_iload_n hE dX11_emitsOf_4 rfl ?_
  refine r_iconst (v := 1) hE dX11_emitsOf_5 (by decide) ?_
  refine r_icmp_eq (tgt := 19) hE dX11_emitsOf_6 (by decide) (fun c6 => by first | exact absurd c6 (by decide) | exact absurd (by decide) c6) (fun _ => ?_)
  refine r_iload_n hE dX11_emitsOf_9 rfl ?_
  refine r_iconst (v := 4) hE dX11_emitsOf_10 (by decide) ?_
  refine r_icmp_eq (tgt := 19) hE dX11_emitsOf_11 (by decide) (fun c11 => by first | exact absurd c11 (by decide) | exact absurd (by decide) c11) (fun _ => ?_)
  refine r_iload_n hE dX11_emitsOf_14 rfl ?_
  refine r_iconst (v := 5) hE dX11_emitsOf_15 (by decide) ?_
  refine r_icmp_ne (tgt := 23) hE dX11_emitsOf_16 (by decide) (fun _ => ?_) (fun c16 => by first | exact absurd c16 (by decide) | exact absurd (by decide) c16)
  refine r_aload_n hE dX11_emitsOf_23 rfl ?_
  refine r_iconst (v := 0) hE dX11_emitsOf_24 (by decide) ?_
  refine r_iconst (v := 3) hE dX11_emitsOf_25 (by decide) ?_
  refine t_invv (r := (some (.int (l_nv (D 172).1 e 0 3 p)))) (S2 := (y_mk n L (m_P D (l_di (D 172).1 e p) (l_bl (D 172).1 e p) g s W))) hE [.int 0, .int 3] (c_number (lo := 0) (hi := 3) (by decide) (by decide) hL hen he (by omega)) v_yX11_number m_X11_140 dX11_emitsOf_26 rfl (hL 169 (by decide)) (y_l_169 ((m_P D p b g s W) 169)) rfl (by decide) ⟨Nat.le_refl _, Nat.le_refl _⟩ (Nat.le_of_ble_eq_true rfl) ?_
  show E 0 0 29 [(0, .ref 169), (1, .int 8)] [.int (l_nv (D 172).1 e 0 3 p)] (y_mk n L (m_P D (l_di (D 172).1 e p) (l_bl (D 172).1 e p) g s W))
  refine r_istore_n (ls2 := [(0, .ref 169), (1, .int 8), (2, .int (l_nv (D 172).1 e 0 3 p))]) hE dX11_emitsOf_29 (by decide) rfl ?_
  refine r_aload_n hE dX11_emitsOf_30 rfl ?_
  refine r_iload_n hE dX11_emitsOf_31 rfl ?_
  refine r_iload_n hE dX11_emitsOf_32 rfl ?_
  refine t_invv (r := none) (S2 := (y_mk n L (m_P D (l_di (D 172).1 e p) (l_bl (D 172).1 e p) g (s + 1) (l_em W s 8 (l_nv (D 172).1 e 0 3 p))))) hE [.int 8, .int (l_nv (D 172).1 e 0 3 p)] (c_emits hL (by omega)) v_yX11_emits m_X11_143 dX11_emitsOf_33 rfl (hL 169 (by decide)) (y_l_169 ((m_P D (l_di (D 172).1 e p) (l_bl (D 172).1 e p) g s W) 169)) rfl (by decide) ⟨Nat.le_refl _, Nat.le_refl _⟩ (Nat.le_of_ble_eq_true rfl) ?_
  show E 0 0 36 [(0, .ref 169), (1, .int 8), (2, .int (l_nv (D 172).1 e 0 3 p))] [] (y_mk n L (m_P D (l_di (D 172).1 e p) (l_bl (D 172).1 e p) g (s + 1) (l_em W s 8 (l_nv (D 172).1 e 0 3 p))))
  refine r_iload_n hE dX11_emitsOf_36 rfl ?_
  refine r_if_lt (tgt := 44) hE dX11_emitsOf_37 (by decide) (fun c37 => ?_) (fun c37 => ?_)
  · refine r_iconst (v := 0) hE dX11_emitsOf_44 (by decide) ?_
    refine r_ireturn hE dX11_emitsOf_45 rfl (by first | rfl | exact y_nb _) (Nat.zero_le _) (Nat.zero_le _) ?_
    exact ⟨by first | rw [y_b_t (by assumption)] | rw [y_b_f (fun z => z (by assumption))], rfl⟩
  · refine r_iconst (v := 1) hE dX11_emitsOf_40 (by decide) ?_
    refine r_goto (tgt := 45) hE dX11_emitsOf_41 (by decide) ?_
    refine r_ireturn hE dX11_emitsOf_45 rfl (by first | rfl | exact y_nb _) (Nat.zero_le _) (Nat.zero_le _) ?_
    exact ⟨by first | rw [y_b_t (by assumption)] | rw [y_b_f (fun z => z (by assumption))], rfl⟩
theorem c_emitsOf_9 {V : x_E} {n : Nat} {L : List Nat} {D : y_D} {e p b g s : Nat} {W : Nat → Int32} (hL : y_ok L) (hen : (D 169).1 7 = nI e) (he : e ≤ 400) (hp : p ≤ e) (hs : s < 400) : x_Fn V yX11_emitsOf cX11_emitsOf 3 (some .boolean) 3 [.ref 169, .int 9] (y_mk n L (m_P D p b g s W)) (some (.int (y_b (¬ (l_nv (D 172).1 e 0 3 p) < 0)))) (y_mk n L (m_P D (l_di (D 172).1 e p) (l_bl (D 172).1 e p) g (s + 1) (l_em W s 9 (l_nv (D 172).1 e 0 3 p)))) := by
  refine x_fn (by decide) (Nat.le_of_ble_eq_true rfl) (fun E hE => ?_)
  change E 0 0 0 [(0, .ref 169), (1, .int 9)] [] (y_mk n L (m_P D p b g s W))
  refine r_iload_n hE dX11_emitsOf_0 rfl ?_
  refine r_if_eq (tgt := 19) hE dX11_emitsOf_1 (by decide) (fun c1 => by first | exact absurd c1 (by decide) | exact absurd (by decide) c1) (fun _ => ?_)
  refine r_iload_n hE dX11_emitsOf_4 rfl ?_
  refine r_iconst (v := 1) hE dX11_emitsOf_5 (by decide) ?_
  refine r_icmp_eq (tgt := 19) hE dX11_emitsOf_6 (by decide) (fun c6 => by first | exact absurd c6 (by decide) | exact absurd (by decide) c6) (fun _ => ?_)
  refine r_iload_n hE dX11_emitsOf_9 rfl ?_
  refine r_iconst (v := 4) hE dX11_emitsOf_10 (by decide) ?_
  refine r_icmp_eq (tgt := 19) hE dX11_emitsOf_11 (by decide) (fun c11 => by first | exact absurd c11 (by decide) | exact absurd (by decide) c11) (fun _ => ?_)
  refine r_iload_n hE dX11_emitsOf_14 rfl ?_
  refine r_iconst (v := 5) hE dX11_emitsOf_15 (by decide) ?_
  refine r_icmp_ne (tgt := 23) hE dX11_emitsOf_16 (by decide) (fun _ => ?_) (fun c16 => by first | exact absurd c16 (by decide) | exact absurd (by decide) c16)
  refine r_aload_n hE dX11_emitsOf_23 rfl ?_
  refine r_iconst (v := 0) hE dX11_emitsOf_24 (by decide) ?_
  refine r_iconst (v := 3) hE dX11_emitsOf_25 (by decide) ?_
  refine t_invv (r := (some (.int (l_nv (D 172).1 e 0 3 p)))) (S2 := (y_mk n L (m_P D (l_di (D 172).1 e p) (l_bl (D 172).1 e p) g s W))) hE [.int 0, .int 3] (c_number (lo := 0) (hi := 3) (by decide) (by decide) hL hen he (by omega)) v_yX11_number m_X11_140 dX11_emitsOf_26 rfl (hL 169 (by decide)) (y_l_169 ((m_P D p b g s W) 169)) rfl (by decide) ⟨Nat.le_refl _, Nat.le_refl _⟩ (Nat.le_of_ble_eq_true rfl) ?_
  show E 0 0 29 [(0, .ref 169), (1, .int 9)] [.int (l_nv (D 172).1 e 0 3 p)] (y_mk n L (m_P D (l_di (D 172).1 e p) (l_bl (D 172).1 e p) g s W))
  refine r_istore_n (ls2 := [(0, .ref 169), (1, .int 9), (2, .int (l_nv (D 172).1 e 0 3 p))]) hE dX11_emitsOf_29 (by decide) rfl ?_
  refine r_aload_n hE dX11_emitsOf_30 rfl ?_
  refine r_iload_n hE dX11_emitsOf_31 rfl ?_
  refine r_iload_n hE dX11_emitsOf_32 rfl ?_
  refine t_invv (r := none) (S2 := (y_mk n L (m_P D (l_di (D 172).1 e p) (l_bl (D 172).1 e p) g (s + 1) (l_em W s 9 (l_nv (D 172).1 e 0 3 p))))) hE [.int 9, .int (l_nv (D 172).1 e 0 3 p)] (c_emits hL (by omega)) v_yX11_emits m_X11_143 dX11_emitsOf_33 rfl (hL 169 (by decide)) (y_l_169 ((m_P D (l_di (D 172).1 e p) (l_bl (D 172).1 e p) g s W) 169)) rfl (by decide) ⟨Nat.le_refl _, Nat.le_refl _⟩ (Nat.le_of_ble_eq_true rfl) ?_
  show E 0 0 36 [(0, .ref 169), (1, .int 9), (2, .int (l_nv (D 172).1 e 0 3 p))] [] (y_mk n L (m_P D (l_di (D 172).1 e p) (l_bl (D 172).1 e p) g (s + 1) (l_em W s 9 (l_nv (D 172).1 e 0 3 p))))
  refine r_iload_n hE dX11_emitsOf_36 rfl ?_
  refine r_if_lt (tgt := 44) hE dX11_emitsOf_37 (by decide) (fun c37 => ?_) (fun c37 => ?_)
  · refine r_iconst (v := 0) hE dX11_emitsOf_44 (by decide) ?_
    refine r_ireturn hE dX11_emitsOf_45 rfl (by first | rfl | exact y_nb _) (Nat.zero_le _) (Nat.zero_le _) ?_
    exact ⟨by first | rw [y_b_t (by assumption)] | rw [y_b_f (fun z => z (by assumption))], rfl⟩
  · refine r_iconst (v := 1) hE dX11_emitsOf_40 (by decide) ?_
    refine r_goto (tgt := 45) hE dX11_emitsOf_41 (by decide) ?_
    refine r_ireturn hE dX11_emitsOf_45 rfl (by first | rfl | exact y_nb _) (Nat.zero_le _) (Nat.zero_le _) ?_
    exact ⟨by first | rw [y_b_t (by assumption)] | rw [y_b_f (fun z => z (by assumption))], rfl⟩
theorem c_readPart {V : x_E} {n : Nat} {L : List Nat} {D : y_D} {e p b g s : Nat} {W : Nat → Int32} (hV : y_V V) (hF : y_fm V) (hL : y_ok L) (hen : (D 169).1 7 = nI e) (he : e ≤ 400) (hp : p ≤ e) (hs : s ≤ p) : y_Ri V yX11_readPart cX11_readPart 2 (some .boolean) 6 [.ref 169] n L (m_P D p b g s W) (l_R D e (l_part (D 172).1 e) p b g s W) := by
  refine y_ri (by decide) (Nat.le_of_ble_eq_true rfl) (fun E hE => ?_)
  change E 0 0 0 [(0, .ref 169)] [] (y_mk n L (m_P D p b g s W))
  have f1 := l_f (T := (D 172).1) hp
  have f2 := l_f (T := (D 172).1) f1.2.2.1
  refine r_aload_n hE dX11_readPart_0 rfl ?_
  refine t_invv (r := none) (S2 := (y_mk n L (m_P D (l_le (D 172).1 e p) (l_bl (D 172).1 e p) g s W))) hE [] (c_letters hL hen he (by omega)) v_yX11_letters m_X11_125 dX11_readPart_1 rfl (hL 169 (by decide)) (y_l_169 ((m_P D p b g s W) 169)) rfl (by decide) ⟨Nat.le_refl _, Nat.le_refl _⟩ (Nat.le_of_ble_eq_true rfl) ?_
  show E 0 0 4 [(0, .ref 169)] [] (y_mk n L (m_P D (l_le (D 172).1 e p) (l_bl (D 172).1 e p) g s W))
  refine r_aload_n hE dX11_readPart_4 rfl ?_
  refine t_geti hE f_X11_99 y_I_169_6 dX11_readPart_5 (hL 169 (by decide)) ?_
  refine r_top (y := (nI (l_le (D 172).1 e p))) rfl ?_
  refine r_aload_n hE dX11_readPart_8 rfl ?_
  refine t_geti hE f_X11_109 y_I_169_8 dX11_readPart_9 (hL 169 (by decide)) ?_
  refine r_top (y := (nI (l_bl (D 172).1 e p))) rfl ?_
  refine r_icmp_leN (a := (l_le (D 172).1 e p)) (b := (l_bl (D 172).1 e p)) (tgt := 87) hE dX11_readPart_12 (by decide) (by omega) (by omega) (fun c12 => ?_) (fun c12 => ?_)
  · refine r_aload_n hE dX11_readPart_87 rfl ?_
    refine r_iconst (v := 0) hE dX11_readPart_88 (by decide) ?_
    refine r_sipush (v := 999) hE dX11_readPart_89 (by decide) ?_
    refine t_invv (r := (some (.int (l_nv (D 172).1 e 0 999 (l_le (D 172).1 e p))))) (S2 := (y_mk n L (m_P D (l_di (D 172).1 e (l_le (D 172).1 e p)) (l_bl (D 172).1 e (l_le (D 172).1 e p)) g s W))) hE [.int 0, .int 999] (c_number (lo := 0) (hi := 999) (by decide) (by decide) hL hen he (by omega)) v_yX11_number m_X11_140 dX11_readPart_92 rfl (hL 169 (by decide)) (y_l_169 ((m_P D (l_le (D 172).1 e p) (l_bl (D 172).1 e p) g s W) 169)) rfl (by decide) ⟨Nat.le_refl _, Nat.le_refl _⟩ (Nat.le_of_ble_eq_true rfl) ?_
    show E 0 0 95 [(0, .ref 169)] [.int (l_nv (D 172).1 e 0 999 (l_le (D 172).1 e p))] (y_mk n L (m_P D (l_di (D 172).1 e (l_le (D 172).1 e p)) (l_bl (D 172).1 e (l_le (D 172).1 e p)) g s W))
    refine r_istore_n (ls2 := [(0, .ref 169), (1, .int (l_nv (D 172).1 e 0 999 (l_le (D 172).1 e p)))]) hE dX11_readPart_95 (by decide) rfl ?_
    refine r_iload_n hE dX11_readPart_96 rfl ?_
    refine r_if_ge (tgt := 102) hE dX11_readPart_97 (by decide) (fun c97 => ?_) (fun c97 => ?_)
    · have f3 := l_nv_lt c97
      refine r_aload_n hE dX11_readPart_102 rfl ?_
      refine r_bipush (v := 10) hE dX11_readPart_103 (by decide) ?_
      refine r_iload_n hE dX11_readPart_105 rfl ?_
      refine t_invv (r := none) (S2 := (y_mk n L (m_P D (l_di (D 172).1 e (l_le (D 172).1 e p)) (l_bl (D 172).1 e (l_le (D 172).1 e p)) g (s + 1) (l_em W s 10 (l_nv (D 172).1 e 0 999 (l_le (D 172).1 e p)))))) hE [.int 10, .int (l_nv (D 172).1 e 0 999 (l_le (D 172).1 e p))] (c_emits hL (by omega)) v_yX11_emits m_X11_143 dX11_readPart_106 rfl (hL 169 (by decide)) (y_l_169 ((m_P D (l_di (D 172).1 e (l_le (D 172).1 e p)) (l_bl (D 172).1 e (l_le (D 172).1 e p)) g s W) 169)) rfl (by decide) ⟨Nat.le_refl _, Nat.le_refl _⟩ (Nat.le_of_ble_eq_true rfl) ?_
      show E 0 0 109 [(0, .ref 169), (1, .int (l_nv (D 172).1 e 0 999 (l_le (D 172).1 e p)))] [] (y_mk n L (m_P D (l_di (D 172).1 e (l_le (D 172).1 e p)) (l_bl (D 172).1 e (l_le (D 172).1 e p)) g (s + 1) (l_em W s 10 (l_nv (D 172).1 e 0 999 (l_le (D 172).1 e p)))))
      refine r_iconst (v := 1) hE dX11_readPart_109 (by decide) ?_
      refine r_ireturn hE dX11_readPart_110 rfl (by first | rfl | exact y_nb _) (Nat.zero_le _) (Nat.zero_le _) ?_
      refine ⟨_, _, rfl, rfl, true, _, _, _, _, _, ?_, by decide, rfl, ?_, fun _ => rfl⟩
      · unfold l_part
        repeat first | rw [if_pos (by assumption)] | rw [if_neg (by assumption)] | rw [if_neg (by omega)] | rw [if_pos (by omega)]
      · unfold l_bd
        omega
    · refine r_iconst (v := 0) hE dX11_readPart_100 (by decide) ?_
      refine r_ireturn hE dX11_readPart_101 rfl (by first | rfl | exact y_nb _) (Nat.zero_le _) (Nat.zero_le _) ?_
      refine ⟨_, _, rfl, rfl, false, _, _, _, _, _, ?_, by decide, rfl, ?_, fun _ => rfl⟩
      · unfold l_part
        repeat first | rw [if_pos (by assumption)] | rw [if_neg (by assumption)] | rw [if_neg (by omega)] | rw [if_pos (by omega)]
      · unfold l_bd
        omega
  · refine r_aload_n hE dX11_readPart_15 rfl ?_
    refine r_ldcS (h := 23) hE (by decide) (sr_147 hV) dX11_readPart_16 ?_
    refine t_invv (r := (some (.int (y_b (l_w (D 172).1 (l_bl (D 172).1 e p) (l_le (D 172).1 e p) 23))))) (S2 := (y_mk n L (m_P D (l_le (D 172).1 e p) (l_bl (D 172).1 e p) g s W))) hE [.ref 23] (c_isWord (i := 23) hV hF (by first | decide | exact hi) hL hen he (by first | omega | exact l_to_le (l_to_le hp)) (by first | omega | exact l_to_ge)) v_yX11_isWord m_X11_128 dX11_readPart_18 rfl (hL 169 (by decide)) (y_l_169 ((m_P D (l_le (D 172).1 e p) (l_bl (D 172).1 e p) g s W) 169)) rfl (by decide) ⟨Nat.le_refl _, Nat.le_refl _⟩ (Nat.le_of_ble_eq_true rfl) ?_
    show E 0 0 21 [(0, .ref 169)] [.int (y_b (l_w (D 172).1 (l_bl (D 172).1 e p) (l_le (D 172).1 e p) 23))] (y_mk n L (m_P D (l_le (D 172).1 e p) (l_bl (D 172).1 e p) g s W))
    refine r_ifb_eq (tgt := 28) hE dX11_readPart_21 (by decide) (fun c21 => ?_) (fun c21 => ?_)
    · refine r_aload_n hE dX11_readPart_28 rfl ?_
      refine r_ldcS (h := 24) hE (by decide) (sr_149 hV) dX11_readPart_29 ?_
      refine t_invv (r := (some (.int (y_b (l_w (D 172).1 (l_bl (D 172).1 e p) (l_le (D 172).1 e p) 24))))) (S2 := (y_mk n L (m_P D (l_le (D 172).1 e p) (l_bl (D 172).1 e p) g s W))) hE [.ref 24] (c_isWord (i := 24) hV hF (by first | decide | exact hi) hL hen he (by first | omega | exact l_to_le (l_to_le hp)) (by first | omega | exact l_to_ge)) v_yX11_isWord m_X11_128 dX11_readPart_31 rfl (hL 169 (by decide)) (y_l_169 ((m_P D (l_le (D 172).1 e p) (l_bl (D 172).1 e p) g s W) 169)) rfl (by decide) ⟨Nat.le_refl _, Nat.le_refl _⟩ (Nat.le_of_ble_eq_true rfl) ?_
      show E 0 0 34 [(0, .ref 169)] [.int (y_b (l_w (D 172).1 (l_bl (D 172).1 e p) (l_le (D 172).1 e p) 24))] (y_mk n L (m_P D (l_le (D 172).1 e p) (l_bl (D 172).1 e p) g s W))
      refine r_ifb_eq (tgt := 41) hE dX11_readPart_34 (by decide) (fun c34 => ?_) (fun c34 => ?_)
      · refine r_aload_n hE dX11_readPart_41 rfl ?_
        refine r_ldcS (h := 25) hE (by decide) (sr_151 hV) dX11_readPart_42 ?_
        refine t_invv (r := (some (.int (y_b (l_w (D 172).1 (l_bl (D 172).1 e p) (l_le (D 172).1 e p) 25))))) (S2 := (y_mk n L (m_P D (l_le (D 172).1 e p) (l_bl (D 172).1 e p) g s W))) hE [.ref 25] (c_isWord (i := 25) hV hF (by first | decide | exact hi) hL hen he (by first | omega | exact l_to_le (l_to_le hp)) (by first | omega | exact l_to_ge)) v_yX11_isWord m_X11_128 dX11_readPart_44 rfl (hL 169 (by decide)) (y_l_169 ((m_P D (l_le (D 172).1 e p) (l_bl (D 172).1 e p) g s W) 169)) rfl (by decide) ⟨Nat.le_refl _, Nat.le_refl _⟩ (Nat.le_of_ble_eq_true rfl) ?_
        show E 0 0 47 [(0, .ref 169)] [.int (y_b (l_w (D 172).1 (l_bl (D 172).1 e p) (l_le (D 172).1 e p) 25))] (y_mk n L (m_P D (l_le (D 172).1 e p) (l_bl (D 172).1 e p) g s W))
        refine r_ifb_eq (tgt := 54) hE dX11_readPart_47 (by decide) (fun c47 => ?_) (fun c47 => ?_)
        · refine r_aload_n hE dX11_readPart_54 rfl ?_
          refine r_ldcS (h := 26) hE (by decide) (sr_153 hV) dX11_readPart_55 ?_
          refine t_invv (r := (some (.int (y_b (l_w (D 172).1 (l_bl (D 172).1 e p) (l_le (D 172).1 e p) 26))))) (S2 := (y_mk n L (m_P D (l_le (D 172).1 e p) (l_bl (D 172).1 e p) g s W))) hE [.ref 26] (c_isWord (i := 26) hV hF (by first | decide | exact hi) hL hen he (by first | omega | exact l_to_le (l_to_le hp)) (by first | omega | exact l_to_ge)) v_yX11_isWord m_X11_128 dX11_readPart_57 rfl (hL 169 (by decide)) (y_l_169 ((m_P D (l_le (D 172).1 e p) (l_bl (D 172).1 e p) g s W) 169)) rfl (by decide) ⟨Nat.le_refl _, Nat.le_refl _⟩ (Nat.le_of_ble_eq_true rfl) ?_
          show E 0 0 60 [(0, .ref 169)] [.int (y_b (l_w (D 172).1 (l_bl (D 172).1 e p) (l_le (D 172).1 e p) 26))] (y_mk n L (m_P D (l_le (D 172).1 e p) (l_bl (D 172).1 e p) g s W))
          refine r_ifb_eq (tgt := 67) hE dX11_readPart_60 (by decide) (fun c60 => ?_) (fun c60 => ?_)
          · refine r_iconst (v := (-1)) hE dX11_readPart_67 (by decide) ?_
            refine r_istore_n (ls2 := [(0, .ref 169), (1, .int (-1))]) hE dX11_readPart_68 (by decide) rfl ?_
            refine r_iload_n hE dX11_readPart_69 rfl ?_
            refine r_if_lt (tgt := 85) hE dX11_readPart_70 (by decide) (fun _ => ?_) (fun c70 => by first | exact absurd c70 (by decide) | exact absurd (by decide) c70)
            refine r_iconst (v := 0) hE dX11_readPart_85 (by decide) ?_
            refine r_ireturn hE dX11_readPart_86 rfl (by first | rfl | exact y_nb _) (Nat.zero_le _) (Nat.zero_le _) ?_
            refine ⟨_, _, rfl, rfl, false, _, _, _, _, _, ?_, by decide, rfl, ?_, fun _ => rfl⟩
            · unfold l_part
              repeat first | rw [if_pos (by assumption)] | rw [if_neg (by assumption)] | rw [if_neg (by omega)] | rw [if_pos (by omega)]
            · unfold l_bd
              omega
          · refine r_iconst (v := 3) hE dX11_readPart_63 (by decide) ?_
            refine r_goto (tgt := 68) hE dX11_readPart_64 (by decide) ?_
            refine r_istore_n (ls2 := [(0, .ref 169), (1, .int 3)]) hE dX11_readPart_68 (by decide) rfl ?_
            refine r_iload_n hE dX11_readPart_69 rfl ?_
            refine r_if_lt (tgt := 85) hE dX11_readPart_70 (by decide) (fun c70 => by first | exact absurd c70 (by decide) | exact absurd (by decide) c70) (fun _ => ?_)
            refine r_aload_n hE dX11_readPart_73 rfl ?_
            refine r_iload_n hE dX11_readPart_74 rfl ?_
            refine t_invv (r := (some (.int (y_b (¬ (l_nv (D 172).1 e 0 3 (l_le (D 172).1 e p)) < 0))))) (S2 := (y_mk n L (m_P D (l_di (D 172).1 e (l_le (D 172).1 e p)) (l_bl (D 172).1 e (l_le (D 172).1 e p)) g (s + 1) (l_em W s 3 (l_nv (D 172).1 e 0 3 (l_le (D 172).1 e p)))))) hE [.int 3] (c_emitsOf_3 hL hen he (by omega) (by omega)) v_yX11_emitsOf m_X11_155 dX11_readPart_75 rfl (hL 169 (by decide)) (y_l_169 ((m_P D (l_le (D 172).1 e p) (l_bl (D 172).1 e p) g s W) 169)) rfl (by decide) ⟨Nat.le_refl _, Nat.le_refl _⟩ (Nat.le_of_ble_eq_true rfl) ?_
            show E 0 0 78 [(0, .ref 169), (1, .int 3)] [.int (y_b (¬ (l_nv (D 172).1 e 0 3 (l_le (D 172).1 e p)) < 0))] (y_mk n L (m_P D (l_di (D 172).1 e (l_le (D 172).1 e p)) (l_bl (D 172).1 e (l_le (D 172).1 e p)) g (s + 1) (l_em W s 3 (l_nv (D 172).1 e 0 3 (l_le (D 172).1 e p)))))
            refine r_ifb_eq (tgt := 85) hE dX11_readPart_78 (by decide) (fun c78 => ?_) (fun c78 => ?_)
            · refine r_iconst (v := 0) hE dX11_readPart_85 (by decide) ?_
              refine r_ireturn hE dX11_readPart_86 rfl (by first | rfl | exact y_nb _) (Nat.zero_le _) (Nat.zero_le _) ?_
              refine ⟨_, _, rfl, rfl, false, _, _, _, _, _, ?_, by decide, rfl, ?_, fun _ => rfl⟩
              · unfold l_part
                repeat first | rw [if_pos (by assumption)] | rw [if_neg (by assumption)] | rw [if_neg (by omega)] | rw [if_pos (by omega)]
              · unfold l_bd
                omega
            · refine r_iconst (v := 1) hE dX11_readPart_81 (by decide) ?_
              refine r_goto (tgt := 86) hE dX11_readPart_82 (by decide) ?_
              refine r_ireturn hE dX11_readPart_86 rfl (by first | rfl | exact y_nb _) (Nat.zero_le _) (Nat.zero_le _) ?_
              refine ⟨_, _, rfl, rfl, true, _, _, _, _, _, ?_, by decide, rfl, ?_, fun _ => rfl⟩
              · unfold l_part
                repeat first | rw [if_pos (by assumption)] | rw [if_neg (by assumption)] | rw [if_neg (by omega)] | rw [if_pos (by omega)]
              · unfold l_bd
                omega
        · refine r_iconst (v := 2) hE dX11_readPart_50 (by decide) ?_
          refine r_goto (tgt := 68) hE dX11_readPart_51 (by decide) ?_
          refine r_istore_n (ls2 := [(0, .ref 169), (1, .int 2)]) hE dX11_readPart_68 (by decide) rfl ?_
          refine r_iload_n hE dX11_readPart_69 rfl ?_
          refine r_if_lt (tgt := 85) hE dX11_readPart_70 (by decide) (fun c70 => by first | exact absurd c70 (by decide) | exact absurd (by decide) c70) (fun _ => ?_)
          refine r_aload_n hE dX11_readPart_73 rfl ?_
          refine r_iload_n hE dX11_readPart_74 rfl ?_
          refine t_invv (r := (some (.int (y_b (¬ (l_nv (D 172).1 e 0 3 (l_le (D 172).1 e p)) < 0))))) (S2 := (y_mk n L (m_P D (l_di (D 172).1 e (l_le (D 172).1 e p)) (l_bl (D 172).1 e (l_le (D 172).1 e p)) g (s + 1) (l_em W s 2 (l_nv (D 172).1 e 0 3 (l_le (D 172).1 e p)))))) hE [.int 2] (c_emitsOf_2 hL hen he (by omega) (by omega)) v_yX11_emitsOf m_X11_155 dX11_readPart_75 rfl (hL 169 (by decide)) (y_l_169 ((m_P D (l_le (D 172).1 e p) (l_bl (D 172).1 e p) g s W) 169)) rfl (by decide) ⟨Nat.le_refl _, Nat.le_refl _⟩ (Nat.le_of_ble_eq_true rfl) ?_
          show E 0 0 78 [(0, .ref 169), (1, .int 2)] [.int (y_b (¬ (l_nv (D 172).1 e 0 3 (l_le (D 172).1 e p)) < 0))] (y_mk n L (m_P D (l_di (D 172).1 e (l_le (D 172).1 e p)) (l_bl (D 172).1 e (l_le (D 172).1 e p)) g (s + 1) (l_em W s 2 (l_nv (D 172).1 e 0 3 (l_le (D 172).1 e p)))))
          refine r_ifb_eq (tgt := 85) hE dX11_readPart_78 (by decide) (fun c78 => ?_) (fun c78 => ?_)
          · refine r_iconst (v := 0) hE dX11_readPart_85 (by decide) ?_
            refine r_ireturn hE dX11_readPart_86 rfl (by first | rfl | exact y_nb _) (Nat.zero_le _) (Nat.zero_le _) ?_
            refine ⟨_, _, rfl, rfl, false, _, _, _, _, _, ?_, by decide, rfl, ?_, fun _ => rfl⟩
            · unfold l_part
              repeat first | rw [if_pos (by assumption)] | rw [if_neg (by assumption)] | rw [if_neg (by omega)] | rw [if_pos (by omega)]
            · unfold l_bd
              omega
          · refine r_iconst (v := 1) hE dX11_readPart_81 (by decide) ?_
            refine r_goto (tgt := 86) hE dX11_readPart_82 (by decide) ?_
            refine r_ireturn hE dX11_readPart_86 rfl (by first | rfl | exact y_nb _) (Nat.zero_le _) (Nat.zero_le _) ?_
            refine ⟨_, _, rfl, rfl, true, _, _, _, _, _, ?_, by decide, rfl, ?_, fun _ => rfl⟩
            · unfold l_part
              repeat first | rw [if_pos (by assumption)] | rw [if_neg (by assumption)] | rw [if_neg (by omega)] | rw [if_pos (by omega)]
            · unfold l_bd
              omega
      · refine r_iconst (v := 1) hE dX11_readPart_37 (by decide) ?_
        refine r_goto (tgt := 68) hE dX11_readPart_38 (by decide) ?_
        refine r_istore_n (ls2 := [(0, .ref 169), (1, .int 1)]) hE dX11_readPart_68 (by decide) rfl ?_
        refine r_iload_n hE dX11_readPart_69 rfl ?_
        refine r_if_lt (tgt := 85) hE dX11_readPart_70 (by decide) (fun c70 => by first | exact absurd c70 (by decide) | exact absurd (by decide) c70) (fun _ => ?_)
        refine r_aload_n hE dX11_readPart_73 rfl ?_
        refine r_iload_n hE dX11_readPart_74 rfl ?_
        refine t_invv (r := (some (.int 1))) (S2 := (y_mk n L (m_P D (l_le (D 172).1 e p) (l_bl (D 172).1 e p) g (s + 1) (l_em W s 1 0)))) hE [.int 1] (c_emitsOf_1 hL (by omega)) v_yX11_emitsOf m_X11_155 dX11_readPart_75 rfl (hL 169 (by decide)) (y_l_169 ((m_P D (l_le (D 172).1 e p) (l_bl (D 172).1 e p) g s W) 169)) rfl (by decide) ⟨Nat.le_refl _, Nat.le_refl _⟩ (Nat.le_of_ble_eq_true rfl) ?_
        show E 0 0 78 [(0, .ref 169), (1, .int 1)] [.int 1] (y_mk n L (m_P D (l_le (D 172).1 e p) (l_bl (D 172).1 e p) g (s + 1) (l_em W s 1 0)))
        refine r_if_eq (tgt := 85) hE dX11_readPart_78 (by decide) (fun c78 => by first | exact absurd c78 (by decide) | exact absurd (by decide) c78) (fun _ => ?_)
        refine r_iconst (v := 1) hE dX11_readPart_81 (by decide) ?_
        refine r_goto (tgt := 86) hE dX11_readPart_82 (by decide) ?_
        refine r_ireturn hE dX11_readPart_86 rfl (by first | rfl | exact y_nb _) (Nat.zero_le _) (Nat.zero_le _) ?_
        refine ⟨_, _, rfl, rfl, true, _, _, _, _, _, ?_, by decide, rfl, ?_, fun _ => rfl⟩
        · unfold l_part
          repeat first | rw [if_pos (by assumption)] | rw [if_neg (by assumption)] | rw [if_neg (by omega)] | rw [if_pos (by omega)]
        · unfold l_bd
          omega
    · refine r_iconst (v := 0) hE dX11_readPart_24 (by decide) ?_
      refine r_goto (tgt := 68) hE dX11_readPart_25 (by decide) ?_
      refine r_istore_n (ls2 := [(0, .ref 169), (1, .int 0)]) hE dX11_readPart_68 (by decide) rfl ?_
      refine r_iload_n hE dX11_readPart_69 rfl ?_
      refine r_if_lt (tgt := 85) hE dX11_readPart_70 (by decide) (fun c70 => by first | exact absurd c70 (by decide) | exact absurd (by decide) c70) (fun _ => ?_)
      refine r_aload_n hE dX11_readPart_73 rfl ?_
      refine r_iload_n hE dX11_readPart_74 rfl ?_
      refine t_invv (r := (some (.int 1))) (S2 := (y_mk n L (m_P D (l_le (D 172).1 e p) (l_bl (D 172).1 e p) g (s + 1) (l_em W s 0 0)))) hE [.int 0] (c_emitsOf_0 hL (by omega)) v_yX11_emitsOf m_X11_155 dX11_readPart_75 rfl (hL 169 (by decide)) (y_l_169 ((m_P D (l_le (D 172).1 e p) (l_bl (D 172).1 e p) g s W) 169)) rfl (by decide) ⟨Nat.le_refl _, Nat.le_refl _⟩ (Nat.le_of_ble_eq_true rfl) ?_
      show E 0 0 78 [(0, .ref 169), (1, .int 0)] [.int 1] (y_mk n L (m_P D (l_le (D 172).1 e p) (l_bl (D 172).1 e p) g (s + 1) (l_em W s 0 0)))
      refine r_if_eq (tgt := 85) hE dX11_readPart_78 (by decide) (fun c78 => by first | exact absurd c78 (by decide) | exact absurd (by decide) c78) (fun _ => ?_)
      refine r_iconst (v := 1) hE dX11_readPart_81 (by decide) ?_
      refine r_goto (tgt := 86) hE dX11_readPart_82 (by decide) ?_
      refine r_ireturn hE dX11_readPart_86 rfl (by first | rfl | exact y_nb _) (Nat.zero_le _) (Nat.zero_le _) ?_
      refine ⟨_, _, rfl, rfl, true, _, _, _, _, _, ?_, by decide, rfl, ?_, fun _ => rfl⟩
      · unfold l_part
        repeat first | rw [if_pos (by assumption)] | rw [if_neg (by assumption)] | rw [if_neg (by omega)] | rw [if_pos (by omega)]
      · unfold l_bd
        omega
theorem c_readSum {V : x_E} {n : Nat} {L : List Nat} {D : y_D} {e p b g s : Nat} {W : Nat → Int32} (hV : y_V V) (hF : y_fm V) (hL : y_ok L) (hen : (D 169).1 7 = nI e) (he : e ≤ 400) (hp : p ≤ e) (hs : s ≤ p) : y_Ri V yX11_readSum cX11_readSum 1 (some .boolean) 7 [.ref 169] n L (m_P D p b g s W) (l_R D e (l_su (D 172).1 e) p b g s W) := by
  refine y_ri (by decide) (Nat.le_of_ble_eq_true rfl) (fun E hE => ?_)
  change E 0 0 0 [(0, .ref 169)] [] (y_mk n L (m_P D p b g s W))
  have l1 : ∀ (k p9 b9 g9 s9 : Nat) (W9 : Nat → Int32), e - p9 < k → l_bd e p s p9 s9 → g9 = g → l_suk (D 172).1 e k p9 b9 g9 s9 W9 = l_su (D 172).1 e p b g s W → E 0 0 9 [(0, .ref 169)] [] (y_mk n L (m_P D p9 b9 g9 s9 W9)) := by
    intro k p9 b9 g9 s9 W9
    induction hm9 : (k) using Nat.strongRecOn generalizing k p9 b9 g9 s9 W9 with
    | _ m9 ih =>
      intro hk hb9 hg9 hw
      subst hm9
      have f1 := hb9.all
      have f2 := l_sg_b (T := (D 172).1) (c := 43) f1.2.1
      have f4 := l_f (T := (D 172).1) f1.2.1
      refine r_aload_n hE dX11_readSum_9 rfl ?_
      refine r_bipush (v := 43) hE dX11_readSum_10 (by decide) ?_
      refine t_invv (r := (some (.int (y_b (l_is (D 172).1 e 43 p9))))) (S2 := (y_mk n L (m_P D (l_sg (D 172).1 e 43 p9) (l_bl (D 172).1 e p9) g9 s9 W9))) hE [.int 43] (c_sign hL hen he (by omega)) v_yX11_sign m_X11_163 dX11_readSum_12 rfl (hL 169 (by decide)) (y_l_169 ((m_P D p9 b9 g9 s9 W9) 169)) rfl (by decide) ⟨Nat.le_refl _, Nat.le_refl _⟩ (Nat.le_of_ble_eq_true rfl) ?_
      show E 0 0 15 [(0, .ref 169)] [.int (y_b (l_is (D 172).1 e 43 p9))] (y_mk n L (m_P D (l_sg (D 172).1 e 43 p9) (l_bl (D 172).1 e p9) g9 s9 W9))
      refine r_ifb_eq (tgt := 37) hE dX11_readSum_15 (by decide) (fun c15 => ?_) (fun c15 => ?_)
      · refine r_iconst (v := 1) hE dX11_readSum_37 (by decide) ?_
        refine r_ireturn hE dX11_readSum_38 rfl (by first | rfl | exact y_nb _) (Nat.zero_le _) (Nat.zero_le _) ?_
        refine ⟨_, _, rfl, rfl, true, _, _, _, _, _, ?_, by decide, rfl, ?_, fun _ => hg9⟩
        · rw [← hw, l_suk_e (by omega), if_neg c15]
        · unfold l_bd
          omega
      · have f3 := f2.2.2 c15
        refine r_aload_n hE dX11_readSum_18 rfl ?_
        refine t_invvRi hE [] (c_readPart hV hF hL hen he (by omega) (by omega)) v_yX11_readPart m_X11_159 dX11_readSum_19 rfl (hL 169 (by decide)) (y_l_169 ((m_P D (l_sg (D 172).1 e 43 p9) (l_bl (D 172).1 e p9) g9 s9 W9) 169)) rfl (by decide) ⟨Nat.le_refl _, Nat.le_refl _⟩ (Nat.le_of_ble_eq_true rfl) (fun r21 E21 q21 => ?_)
        obtain ⟨ok21, p21, b21, g21, s21, W21, hf21, rfl, rfl, hb21, hg21⟩ := q21
        have hz21 := hb21.all
        show E 0 0 22 [(0, .ref 169)] [.int (y_b (ok21 = true))] (y_mk n L (m_P D p21 b21 g21 s21 W21))
        refine r_ifb_ne (tgt := 27) hE dX11_readSum_22 (by decide) (fun c22 => ?_) (fun c22 => ?_)
        · have hk21 : ok21 = true := c22
          subst hk21
          have hh21 := hg21 rfl
          refine r_aload_n hE dX11_readSum_27 rfl ?_
          refine r_bipush (v := 11) hE dX11_readSum_28 (by decide) ?_
          refine r_iconst (v := 0) hE dX11_readSum_30 (by decide) ?_
          refine t_invv (r := none) (S2 := (y_mk n L (m_P D p21 b21 g21 (s21 + 1) (l_em W21 s21 11 0)))) hE [.int 11, .int 0] (c_emits hL (by omega)) v_yX11_emits m_X11_143 dX11_readSum_31 rfl (hL 169 (by decide)) (y_l_169 ((m_P D p21 b21 g21 s21 W21) 169)) rfl (by decide) ⟨Nat.le_refl _, Nat.le_refl _⟩ (Nat.le_of_ble_eq_true rfl) ?_
          show E 0 0 34 [(0, .ref 169)] [] (y_mk n L (m_P D p21 b21 g21 (s21 + 1) (l_em W21 s21 11 0)))
          refine r_goto (tgt := 9) hE dX11_readSum_34 (by decide) ?_
          exact ih (k - 1) (by omega) (k - 1) _ _ _ _ _ rfl (by omega) (by unfold l_bd; omega) (by omega) (by rw [← hw]; conv => rhs; rw [l_suk_e (by omega), if_pos c15, hf21, l_then_t])
        · refine r_iconst (v := 0) hE dX11_readSum_25 (by decide) ?_
          refine r_ireturn hE dX11_readSum_26 rfl (by first | rfl | exact y_nb _) (Nat.zero_le _) (Nat.zero_le _) ?_
          have hk21 : ok21 = false := by revert c22; cases ok21 <;> simp
          subst hk21
          refine ⟨_, _, rfl, rfl, false, _, _, _, _, _, ?_, by decide, rfl, ?_, fun c => absurd c (by decide)⟩
          · rw [← hw, l_suk_e (by omega), if_pos c15, hf21, l_then_f]
          · unfold l_bd
            omega
  refine r_aload_n hE dX11_readSum_0 rfl ?_
  refine t_invvRi hE [] (c_readPart hV hF hL hen he (by omega) (by omega)) v_yX11_readPart m_X11_159 dX11_readSum_1 rfl (hL 169 (by decide)) (y_l_169 ((m_P D p b g s W) 169)) rfl (by decide) ⟨Nat.le_refl _, Nat.le_refl _⟩ (Nat.le_of_ble_eq_true rfl) (fun r22 E22 q22 => ?_)
  obtain ⟨ok22, p22, b22, g22, s22, W22, hf22, rfl, rfl, hb22, hg22⟩ := q22
  have hz22 := hb22.all
  show E 0 0 4 [(0, .ref 169)] [.int (y_b (ok22 = true))] (y_mk n L (m_P D p22 b22 g22 s22 W22))
  refine r_ifb_ne (tgt := 9) hE dX11_readSum_4 (by decide) (fun c4 => ?_) (fun c4 => ?_)
  · have hk22 : ok22 = true := c4
    subst hk22
    exact l1 401 _ _ _ _ _ (by omega) hb22 (hg22 rfl) (by unfold l_su; rw [hf22, l_then_t])
  · refine r_iconst (v := 0) hE dX11_readSum_7 (by decide) ?_
    refine r_ireturn hE dX11_readSum_8 rfl (by first | rfl | exact y_nb _) (Nat.zero_le _) (Nat.zero_le _) ?_
    have hk22 : ok22 = false := by revert c4; cases ok22 <;> simp
    subst hk22
    refine ⟨_, _, rfl, rfl, false, _, _, _, _, _, ?_, by decide, rfl, hb22, fun c => absurd c (by decide)⟩
    unfold l_su
    rw [hf22, l_then_f]

/-! ===== the steps of a WAY in the class, on a stack ===== -/
def c_1 (Tg Pt : Nat → Nat → Int32) (hl : Int32) (z : Nat) (g : Int32 × Int32 × List Int32) : Int32 × Int32 × List Int32 :=
  if z / 1024 = 8 ∨ z / 1024 = 9 then (0, 0, y_cm (nI (z / 1024)) g.1 g.2.1 5 :: g.2.2)
  else if z / 1024 = 3 then (-g.1, -g.2.1, g.2.2)
  else if z / 1024 = 30 then (g.1, g.2.1 + 1, g.2.2)
  else if z / 1024 = 22 then (g.1, g.2.1, match g.2.2 with | a :: r => (a ^^^ 65535) :: r | [] => [])
  else if z / 1024 = 21 then (g.1, g.2.1, match g.2.2 with | b :: a :: r => (a &&& b) :: r | _ => [])
  else if z / 1024 = 20 then (g.1, g.2.1, match g.2.2 with | b :: a :: r => (a ||| b) :: r | _ => [])
  else if z / 1024 = 24 then (g.1, g.2.1, (if hl = 0 then 0 else 65535) :: g.2.2)
  else if 23 ≤ z / 1024 ∧ z / 1024 ≤ 28 then (g.1, g.2.1, Tg (z / 1024) (z % 1024) :: g.2.2)
  else (g.1 + Pt (z / 1024) (z % 1024), g.2.1, g.2.2)
def c_s (Tg Pt : Nat → Nat → Int32) (hl : Int32) : List Nat → Int32 × Int32 × List Int32 → Int32 × Int32 × List Int32
  | [], g => g
  | z :: r, g => c_s Tg Pt hl r (c_1 Tg Pt hl z g)
def c_h1 (z h : Nat) : Option Nat :=
  if z / 1024 = 8 ∨ z / 1024 = 9 ∨ (23 ≤ z / 1024 ∧ z / 1024 ≤ 28) then (if h < 24 then some (h + 1) else none)
  else if z / 1024 = 22 then (if 1 ≤ h then some h else none)
  else if z / 1024 = 21 ∨ z / 1024 = 20 then (if 2 ≤ h then some (h - 1) else none)
  else some h
def c_h : List Nat → Nat → Option Nat
  | [], h => some h
  | z :: r, h => match c_h1 z h with | some h2 => c_h r h2 | none => none
def c_sl (T : Nat → Int32) : Nat → Nat → List Nat
  | 0, _ => []
  | c + 1, i => (T i).toNatClampNeg :: c_sl T c (i + 1)
theorem c_h_cons {z : Nat} {r : List Nat} {h k : Nat} (c : c_h (z :: r) h = some k) : ∃ h2, c_h1 z h = some h2 ∧ c_h r h2 = some k := by
  unfold c_h at c
  cases e : c_h1 z h with
  | none => rw [e] at c; cases c
  | some h2 => rw [e] at c; exact ⟨h2, rfl, c⟩
def c_R (g : Int32 × Int32 × Nat × (Nat → Int32)) (l : Int32 × Int32 × List Int32) : Prop := g.1 = l.1 ∧ g.2.1 = l.2.1 ∧ g.2.2.1 + 1 = l.2.2.length ∧ stk g.2.2.2 l.2.2
theorem c_R_s {D : y_D} {x z h : Nat} {hl : Int32} {g : Int32 × Int32 × Nat × (Nat → Int32)} {l : Int32 × Int32 × List Int32} (a : c_R g l) (hh : c_h1 z l.2.2.length = some h) : c_R (y_ms D x hl g z) (c_1 (fun p q => K_tag D (nI p) q x) (fun p q => K_partOf D (nI p) q (nI x)) hl z l) ∧ (c_1 (fun p q => K_tag D (nI p) q x) (fun p q => K_partOf D (nI p) q (nI x)) hl z l).2.2.length = h := by
  obtain ⟨s, pl, st⟩ := l
  obtain ⟨gs, gp, gt, gr⟩ := g
  obtain ⟨e1, e2, e3, e4⟩ := a
  dsimp only at e1 e2 e3 e4 hh
  subst e1 e2
  unfold c_h1 at hh
  unfold y_ms c_1
  dsimp only
  by_cases k1 : z / 1024 = 8 ∨ z / 1024 = 9
  · rw [if_pos (by omega)] at hh
    by_cases q : st.length < 24
    · rw [if_pos q] at hh
      cases hh
      rw [if_pos k1, if_pos k1, show min (gt + 1) 23 = st.length by omega]
      exact ⟨⟨rfl, rfl, rfl, pk_us, stk_up e4 (Nat.le_refl _)⟩, rfl⟩
    · rw [if_neg q] at hh; cases hh
  · rw [if_neg k1, if_neg k1]
    by_cases k2 : z / 1024 = 3
    · rw [if_neg (by omega), if_neg (by omega), if_neg (by omega)] at hh
      cases hh
      rw [if_pos k2, if_pos k2]
      exact ⟨⟨rfl, rfl, e3, e4⟩, rfl⟩
    · rw [if_neg k2, if_neg k2]
      by_cases k3 : z / 1024 = 30
      · rw [if_neg (by omega), if_neg (by omega), if_neg (by omega)] at hh
        cases hh
        rw [if_pos k3, if_pos k3]
        exact ⟨⟨rfl, rfl, e3, e4⟩, rfl⟩
      · rw [if_neg k3, if_neg k3]
        by_cases k4 : z / 1024 = 22
        · rw [if_neg (by omega), if_pos k4] at hh
          rw [if_pos k4, if_pos k4]
          by_cases q : 1 ≤ st.length
          · rw [if_pos q] at hh
            cases hh
            obtain ⟨a, r, rfl⟩ := e_len1 q
            have hg : gt = r.length := by simpa using e3
            subst hg
            refine ⟨⟨rfl, rfl, rfl, ?_, stk_up e4.2 (Nat.le_refl _)⟩, rfl⟩
            show upd gr r.length (gr r.length ^^^ 65535) r.length = _
            rw [pk_us, e4.1]
          · rw [if_neg q] at hh; cases hh
        · rw [if_neg k4, if_neg k4]
          by_cases k5 : z / 1024 = 21
          · rw [if_neg (by omega), if_neg (by omega), if_pos (by omega)] at hh
            rw [if_pos k5, if_pos k5]
            by_cases q : 2 ≤ st.length
            · rw [if_pos q] at hh
              cases hh
              obtain ⟨b, a, r, rfl⟩ := e_len2 q
              have hg : gt = r.length + 1 := by simpa using e3
              subst hg
              refine ⟨⟨rfl, rfl, rfl, ?_, stk_up e4.2.2 (Nat.le_refl _)⟩, rfl⟩
              show upd gr r.length (gr r.length &&& gr (r.length + 1)) r.length = _
              rw [pk_us, e4.2.1, show gr (r.length + 1) = b from e4.1]
            · rw [if_neg q] at hh; cases hh
          · rw [if_neg k5, if_neg k5]
            by_cases k6 : z / 1024 = 20
            · rw [if_neg (by omega), if_neg (by omega), if_pos (by omega)] at hh
              rw [if_pos k6, if_pos k6]
              by_cases q : 2 ≤ st.length
              · rw [if_pos q] at hh
                cases hh
                obtain ⟨b, a, r, rfl⟩ := e_len2 q
                have hg : gt = r.length + 1 := by simpa using e3
                subst hg
                refine ⟨⟨rfl, rfl, rfl, ?_, stk_up e4.2.2 (Nat.le_refl _)⟩, rfl⟩
                show upd gr r.length (gr r.length ||| gr (r.length + 1)) r.length = _
                rw [pk_us, e4.2.1, show gr (r.length + 1) = b from e4.1]
              · rw [if_neg q] at hh; cases hh
            · rw [if_neg k6, if_neg k6]
              by_cases k7 : z / 1024 = 24
              · rw [if_pos (by omega)] at hh
                by_cases q : st.length < 24
                · rw [if_pos q] at hh
                  cases hh
                  rw [if_pos k7, if_pos k7, show min (gt + 1) 23 = st.length by omega]
                  exact ⟨⟨rfl, rfl, rfl, pk_us, stk_up e4 (Nat.le_refl _)⟩, rfl⟩
                · rw [if_neg q] at hh; cases hh
              · rw [if_neg k7, if_neg k7]
                by_cases k8 : 23 ≤ z / 1024 ∧ z / 1024 ≤ 28
                · rw [if_pos (by omega)] at hh
                  by_cases q : st.length < 24
                  · rw [if_pos q] at hh
                    cases hh
                    rw [if_pos k8, if_pos k8, show min (gt + 1) 23 = st.length by omega]
                    exact ⟨⟨rfl, rfl, rfl, pk_us, stk_up e4 (Nat.le_refl _)⟩, rfl⟩
                  · rw [if_neg q] at hh; cases hh
                · rw [if_neg (by omega), if_neg (by omega), if_neg (by omega)] at hh
                  cases hh
                  rw [if_neg k8, if_neg k8]
                  exact ⟨⟨rfl, rfl, e3, e4⟩, rfl⟩
theorem c_R_n {D : y_D} {T : Nat → Int32} {x : Nat} {hl : Int32} : ∀ (c i n : Nat) (l : Int32 × Int32 × List Int32), c_R (y_mf D T x hl i) l → c_h (c_sl T c i) l.2.2.length = some n → c_R (y_mf D T x hl (i + c)) (c_s (fun p q => K_tag D (nI p) q x) (fun p q => K_partOf D (nI p) q (nI x)) hl (c_sl T c i) l) ∧ (c_s (fun p q => K_tag D (nI p) q x) (fun p q => K_partOf D (nI p) q (nI x)) hl (c_sl T c i) l).2.2.length = n := by
  intro c
  induction c with
  | zero => intro i n l h hh; exact ⟨h, Option.some.inj hh⟩
  | succ c ih =>
    intro i n l h hh
    obtain ⟨h2, g1, g2⟩ := c_h_cons hh
    obtain ⟨r1, r2⟩ := c_R_s (D := D) (x := x) (hl := hl) h g1
    rw [← r2] at g2
    have := ih (i + 1) n _ (show c_R (y_mf D T x hl (i + 1)) _ from r1) g2
    rw [show i + (c + 1) = i + 1 + c by omega]
    exact this
/-- the sets with which all need LINES hold -/
def k_met (D : y_D) (T : Nat → Int32) (len x : Nat) (hl : Int32) : Int32 := ((c_s (fun p q => K_tag D (nI p) q x) (fun p q => K_partOf D (nI p) q (nI x)) hl (c_sl T len 0) (0, 0, [65535])).2.2).headD 0
theorem k_met_ok {D : y_D} {T : Nat → Int32} {len x : Nat} {hl : Int32} (hv : c_h (c_sl T len 0) 1 = some 1) : (y_mf D T x hl len).2.2.2 0 = k_met D T len x hl := by
  have h := c_R_n (D := D) (T := T) (x := x) (hl := hl) len 0 1 (0, 0, [65535]) ⟨rfl, rfl, rfl, (show upd (D 157).1 0 65535 0 = 65535 from pk_us), trivial⟩ hv
  rw [Nat.zero_add] at h
  obtain ⟨⟨-, -, h3, h4⟩, h5⟩ := h
  unfold k_met
  obtain ⟨a, r, hr⟩ := e_len1 (l := (c_s (fun p q => K_tag D (nI p) q x) (fun p q => K_partOf D (nI p) q (nI x)) hl (c_sl T len 0) (0, 0, [65535])).2.2) (by omega)
  rw [hr] at h4 h5 ⊢
  have : r.length = 0 := by simpa using h5
  rw [List.headD_cons, ← h4.1, this]
theorem k_met_eq {D D2 : y_D} (h : ∀ j, 153 ≤ j → j < 157 → D2 j = D j) (h1 : (D2 152).1 1 = (D 152).1 1) (h2 : (D2 152).1 2 = (D 152).1 2) : k_met D2 = k_met D := by
  funext T len x hl
  unfold k_met K_tag K_partOf
  rw [h1, h2, h 153 (by decide) (by decide), h 154 (by decide) (by decide), h 155 (by decide) (by decide), h 156 (by decide) (by decide)]
theorem k_met_su {D : y_D} {e : Int32} : k_met (y_si D 152 8 e) = k_met D := k_met_eq (fun j h1 _ => y_si_ne (by omega)) (y_si_o (by decide)) (y_si_o (by decide))
theorem y_al_su {D : y_D} {e : Int32} {k : Nat} : y_al (y_si D 152 8 e) k = y_al D k := by
  funext j
  unfold y_al
  rw [y_si_ne (by decide)]
theorem y_fx_su {hs : List Nat} {A B : y_D} {e e2 : Int32} (h : y_fx hs (y_si A 152 8 e) B) (hn : 152 ∉ hs) : y_fx hs (y_si A 152 8 e2) (y_si B 152 8 e2) := by
  refine ⟨fun j hj => ?_, fun j => ?_⟩
  · by_cases c : j = 152
    · subst c
      have h1 := h.1 152 hn
      have h2 : y_si (y_si A 152 8 e) 152 8 e2 152 = y_si B 152 8 e2 152 := by
        rw [y_si_s (D := B), h1, y_si_s]
      rw [← h2, y_si_si]
    · rw [y_si_ne c, y_si_ne c, h.1 j hj, y_si_ne c]
  · by_cases c : j = 152
    · subst c
      rw [y_si_2, y_si_2, h.2 152, y_si_2]
    · rw [y_si_ne c, y_si_ne c, h.2 j, y_si_ne c]
theorem c_F_su {D X : y_D} {T : Nat → Int32} {wo e : Int32} {kp i : Nat} (h : c_F D X T wo kp i) : c_F D (y_si X 152 8 e) T wo kp i := by
  obtain ⟨h1, h2, h3, h4, h5, h6, h7, h8, h9⟩ := h
  refine ⟨fun j hj => by rw [y_si_ne (by omega)]; exact h1 j hj, fun j => ?_, by rw [y_si_o (by decide)]; exact h3, fun s hs => by rw [y_si_ne (by decide)]; exact h4 s hs, by rw [y_si_o (by decide)]; exact h5, by rw [y_si_o (by decide)]; exact h6, fun l hl => by rw [y_si_ne (by decide)]; exact h7 l hl, fun l hl => by rw [y_si_ne (by decide)]; exact h8 l hl, fun l hl => by rw [y_si_ne (by decide)]; exact h9 l hl⟩
  by_cases c : j = 152
  · subst c; rw [y_si_2, h2]
  · rw [y_si_ne c, h2]
theorem s_by_bd {c : Nat} {p a b : Nat → Nat} {wo : Int32} {l : Nat} : ∀ m, (∀ i, i < m → b i ≤ 999) → y_bd (s_by c p a b wo l m) 1000
  | 0, _ => by show y_bd (-1) 1000; unfold y_bd; decide
  | m + 1, h => by
    rw [s_by]
    split
    · exact y_bd_n (Nat.le_trans (h m (by omega)) (by decide)) (by decide)
    · exact s_by_bd m (fun i hi => h i (by omega))
/-! ===== what the class's Book holds ===== -/
abbrev k_rh (D : y_D) (i : Nat) : Nat := ((D 76).2.2.1 i).getD 0
abbrev k_rr (D : y_D) (i : Nat) : Nat := ((D (k_rh D i)).2.2.1 0).getD 0
abbrev k_rt (D : y_D) (i : Nat) : Nat → Int32 := (D (k_rr D i)).1
abbrev k_rm (D : y_D) (i : Nat) : Nat := (D (k_rr D i)).2.2.2.2 / 3
abbrev k_wh (D : y_D) (i : Nat) : Nat := ((D 77).2.2.1 i).getD 0
abbrev k_wr (D : y_D) (i : Nat) : Nat := ((D (k_wh D i)).2.2.1 0).getD 0
abbrev k_wt (D : y_D) (i : Nat) : Nat → Int32 := (D (k_wr D i)).1
abbrev k_wl (D : y_D) (i : Nat) : Nat := (D (k_wr D i)).2.2.2.2
def k_RU (D : y_D) (L : List Nat) (i : Nat) : Prop := (D 76).2.2.1 i = some (k_rh D i) ∧ k_rh D i ∈ L ∧ y_dh (k_rh D i) ∧ (D (k_rh D i)).2.2.2.1 = 1 ∧ (D (k_rh D i)).2.2.1 0 = some (k_rr D i) ∧ k_rr D i ∈ L ∧ y_dh (k_rr D i) ∧ (D (k_rr D i)).2.2.2.1 = 0 ∧ (D (k_rr D i)).2.2.2.2 = 3 * k_rm D i ∧ k_rm D i ≤ 10 ∧ c_wl (k_rt D i) (k_rm D i)
def k_WA (D : y_D) (L : List Nat) (i : Nat) : Prop := (D 77).2.2.1 i = some (k_wh D i) ∧ k_wh D i ∈ L ∧ y_dh (k_wh D i) ∧ (D (k_wh D i)).2.2.2.1 = 2 ∧ (D (k_wh D i)).2.2.1 0 = some (k_wr D i) ∧ k_wr D i ∈ L ∧ y_dh (k_wr D i) ∧ (D (k_wr D i)).2.2.2.1 = 0 ∧ k_wl D i ≤ 800 ∧ y_wfs (k_wt D i) (k_wl D i) ∧ c_h (c_sl (k_wt D i) (k_wl D i) 0) 1 = some 1 ∧ q_ok (D (k_wh D i)).1 0 15 ∧ q_ok (D (k_wh D i)).1 1 60 ∧ 1 ≤ q_n (D (k_wh D i)).1 1 ∧ q_ok (D (k_wh D i)).1 2 9
/-- numbers that count: PERSONS, RULES, WAYS, THINGS, NOTES -/
def k_B (D : y_D) (L : List Nat) : Prop := q_ok (D 73).1 2 4 ∧ q_ok (D 73).1 4 6 ∧ (q_ok (D 74).1 2 8 ∧ (D 74).1 0 = nI 2) ∧ (q_ok (D 78).1 2 6 ∧ (D 78).1 0 = nI 3) ∧ (q_ok (D 80).1 2 10 ∧ (D 80).1 0 = nI 2) ∧ (∀ i, i < 4 → k_RU D L i) ∧ (∀ i, i < 6 → k_WA D L i) ∧ (∀ i, i < q_n (D 80).1 2 → q_ok (D 81).1 (i * 2 + 0) 5 ∧ q_ok (D 81).1 (i * 2 + 1) 300) ∧ (∀ i, i < q_n (D 74).1 2 → q_ok (D 75).1 (i * 2 + 0) 400) ∧ ∀ i, i < q_n (D 78).1 2 → q_ok (D 79).1 (i * 3 + 0) 2 ∧ q_ok (D 79).1 (i * 3 + 1) 2
theorem k_th {D : y_D} {L : List Nat} (h : k_B D L) : ∀ th c, c < 2 → ∃ a, a ≤ 2 ∧ y_tg D (q_n (D 78).1 2) th c = nI a := by
  intro th c hc
  unfold y_tg
  by_cases q : th < q_n (D 78).1 2
  · have z := h.2.2.2.2.2.2.2.2.2 th q
    rw [if_pos ⟨q, by omega⟩]
    rcases (show c = 0 ∨ c = 1 by omega) with rfl | rfl
    · exact ⟨_, z.1.2, z.1.1⟩
    · exact ⟨_, z.2.2, z.2.1⟩
  · rw [if_neg (fun z => q z.1)]
    exact ⟨0, by decide, rfl⟩
theorem k_pkn {D : y_D} {L : List Nat} (h : k_B D L) (x : Int32) : y_bd (c_per D (q_n (D 74).1 2) x 0) 1000 := by
  unfold c_per y_pg
  split
  · exact y_bd_0
  · split
    · next q =>
      have z := h.2.2.2.2.2.2.2.2.1 _ q.1
      rw [z.1]
      exact y_bd_n (Nat.le_trans z.2 (by decide)) (by decide)
    · exact y_bd_0
theorem k_B_rq {D : y_D} {L : List Nat} (h : k_B D L) : y_rq D L 77 6 2 := fun i hi => by
  obtain ⟨h1, h2, h3, h4, -⟩ := h.2.2.2.2.2.2.1 i hi
  exact ⟨_, h1, h2, h3, h4⟩
theorem k_w_eq {D : y_D} {L : List Nat} {i c : Nat} (h : k_WA D L i) : y_w D i c = (D (k_wh D i)).1 c := (y_w_ok h.1).symm
/-- the sets that a WAY changes -/
abbrev k_chg (D : y_D) (i : Nat) : Int32 := 65535 &&& (y_sc ((D (k_wh D i)).1 0) 4 ^^^ (-1))
/-- with which sets a WAY can go at a second -/
def k_Z (D DS : y_D) (hl : Int32) (i x : Nat) : Int32 := k_chg D i &&& k_met DS (k_wt D i) (k_wl D i) x hl
abbrev k_last (D : y_D) (t : Nat) (wo : Int32) : Nat := s_last (c_p (k_rt D t)) (c_a (k_rt D t)) wo (k_rm D t)
theorem k_last_b {D : y_D} {L : List Nat} {t : Nat} {wo : Int32} (h : k_RU D L t) : k_last D t wo ≤ 300 := s_last_b (fun i hi c => ((h.2.2.2.2.2.2.2.2.2.2 i hi).2.2.2.2.2.2.2.1 c).2)
/-- what prepare leaves: DS the RULE settled -/
def k_PR (D DS D2 : y_D) (t : Nat) (wo u hl : Int32) : Prop := c_F D DS (k_rt D t) wo (q_n (D 74).1 2) (k_rm D t) ∧ y_fx [157, 158, 160] DS D2 ∧ (∀ x, x ≤ k_last D t wo → (D2 160).1 x = y_al DS (k_last D t wo) x) ∧ ∀ i, i < q_n (D 73).1 4 → y_bit u i → ∀ x, x < k_last D t wo → (D2 158).1 (i * 301 + x) = k_Z D DS hl i x
theorem y_dh_ne {r : Nat} (h : y_dh r) : r ∉ [157, 158, 160] ∧ ¬ (152 ≤ r ∧ r < 157) ∧ r ∉ [152, 153, 154, 155, 156, 157, 158, 159, 160, 161, 162, 190] := by
  unfold y_dh at h
  simp only [List.mem_cons, List.not_mem_nil, or_false]
  omega
theorem k_prepare {V : x_E} {n : Nat} {L : List Nat} {D : y_D} (hV : y_V V) {t : Nat} {wo u hl : Int32} (hL : y_ok L) (hB : k_B D L) (ht : t < 4) : y_Rv V yX1_prepare cX1_prepare 10 none 3 [.ref 151, .int (nI t), .int wo, .int u, .int hl] n L D (fun D2 => ∃ DS, k_PR D DS D2 t wo u hl) := by
  refine y_rv (by decide) (Nat.le_of_ble_eq_true rfl) (fun E hE => ?_)
  change E 0 0 0 [(0, .ref 151), (1, .int (nI t)), (2, .int wo), (3, .int u), (4, .int hl)] [] (y_mk n L D)
  have hRU := hB.2.2.2.2.2.1 t ht
  have hk3 : k_last D t wo ≤ 300 := k_last_b hRU
  obtain ⟨r, hr9⟩ : ∃ z, z = k_rh D t := ⟨_, rfl⟩
  obtain ⟨s, hs9⟩ : ∃ z, z = k_rr D t := ⟨_, rfl⟩
  have g1 : (D 76).2.2.1 t = some r := by rw [hr9]; exact hRU.1
  have hm_r : r ∈ L := by rw [hr9]; exact hRU.2.1
  have hd_r : y_dh r := by rw [hr9]; exact hRU.2.2.1
  have hk_r : (D r).2.2.2.1 = 1 := by rw [hr9]; exact hRU.2.2.2.1
  have hs_r : (D r).2.2.1 0 = some s := by rw [hr9, hs9]; exact hRU.2.2.2.2.1
  have hm_s : s ∈ L := by rw [hs9]; exact hRU.2.2.2.2.2.1
  have hd_s : y_dh s := by rw [hs9]; exact hRU.2.2.2.2.2.2.1
  have hk_s : (D s).2.2.2.1 = 0 := by rw [hs9]; exact hRU.2.2.2.2.2.2.2.1
  have hl_s : (D s).2.2.2.2 = 3 * k_rm D t := by rw [hs9]; exact hRU.2.2.2.2.2.2.2.2.1
  have hwl : c_wl (D s).1 (k_rm D t) := by rw [hs9]; exact hRU.2.2.2.2.2.2.2.2.2.2
  refine r_aload_n hE dX1_prepare_0 rfl ?_
  refine t_getr hE f_X1_12 y_R_151_1 dX1_prepare_1 (hL 151 (by decide)) ?_
  refine r_aload_n hE dX1_prepare_4 rfl ?_
  refine t_getr hE f_X1_37 y_R_151_0 dX1_prepare_5 (hL 151 (by decide)) ?_
  refine t_getr hE f_X1_47 y_R_73_1 dX1_prepare_8 (hL 73 (by decide)) ?_
  refine r_iload_n hE dX1_prepare_11 rfl ?_
  refine t_aaldN (e := t) (h2 := r) hE y_Q_76 (by decide) dX1_prepare_12 (hL 76 (by decide)) (by omega) (by decide) g1 ?_
  refine r_iload_n hE dX1_prepare_13 rfl ?_
  refine r_aload_n hE dX1_prepare_14 rfl ?_
  refine t_getr hE f_X1_37 y_R_151_0 dX1_prepare_15 (hL 151 (by decide)) ?_
  refine t_getr hE f_X1_53 y_R_73_0 dX1_prepare_18 (hL 73 (by decide)) ?_
  refine t_invv (r := none) (S2 := (y_mk n L (y_stl (y_st0 D) (D s).1 wo (q_n (D 74).1 2) (k_rm D t)))) hE [.ref r, .int wo, .ref 74] (k_settle (D := D) (k := q_n (D 74).1 2) (m := k_rm D t) (r := r) (s := s) (wo := wo) hL hB.2.2.1.1.1 hB.2.2.1.2 hB.2.2.1.1.2 hm_r hd_r hk_r hs_r hm_s hd_s hk_s hl_s hRU.2.2.2.2.2.2.2.2.2.1 (c_wl_wf hwl)) v_yX6_settle m_X1_57 dX1_prepare_21 rfl (hL 152 (by decide)) (y_l_152 (D 152)) rfl (by decide) ⟨Nat.le_refl _, Nat.le_refl _⟩ (Nat.le_of_ble_eq_true rfl) ?_
  show E 0 0 24 [(0, .ref 151), (1, .int (nI t)), (2, .int wo), (3, .int u), (4, .int hl)] [] (y_mk n L (y_stl (y_st0 D) (D s).1 wo (q_n (D 74).1 2) (k_rm D t)))
  obtain ⟨DS, hDS⟩ : ∃ Z, Z = y_stl (y_st0 D) (k_rt D t) wo (q_n (D 74).1 2) (k_rm D t) := ⟨_, rfl⟩
  rw [show y_stl (y_st0 D) (D s).1 wo (q_n (D 74).1 2) (k_rm D t) = DS by rw [hDS, hs9]]
  have hF : c_F D DS (k_rt D t) wo (q_n (D 74).1 2) (k_rm D t) := by rw [hDS]; exact c_F_stl hRU.2.2.2.2.2.2.2.2.2.2 _ (Nat.le_refl _)
  refine r_aload_n hE dX1_prepare_24 rfl ?_
  refine t_invv (r := none) (S2 := (y_mk n L (y_sw DS 160 (y_cp (y_al DS (k_last D t wo)) (DS 160).1 (k_last D t wo + 1))))) hE [] (k_allowUnseen (D := DS) (k := k_last D t wo) hL hF.2.2.1 hk3) v_yX1_allowUnseen m_X1_61 dX1_prepare_25 rfl (hL 151 (by decide)) (y_l_151 (DS 151)) rfl (by decide) ⟨Nat.le_refl _, Nat.le_refl _⟩ (Nat.le_of_ble_eq_true rfl) ?_
  show E 0 0 28 [(0, .ref 151), (1, .int (nI t)), (2, .int wo), (3, .int u), (4, .int hl)] [] (y_mk n L (y_sw DS 160 (y_cp (y_al DS (k_last D t wo)) (DS 160).1 (k_last D t wo + 1))))
  refine r_iconst (v := 0) hE dX1_prepare_28 (by decide) ?_
  refine r_istore (ls2 := [(0, .ref 151), (1, .int (nI t)), (2, .int wo), (3, .int u), (4, .int hl), (5, .int 0)]) hE dX1_prepare_29 (by decide) rfl ?_
  have hkw6 : q_n (D 73).1 4 ≤ 6 := hB.2.1.2
  clear hr9 hs9 hm_r hd_r hk_r hs_r hm_s hd_s hk_s hl_s
  have b154 : ∀ q, q < 4 → y_bd ((DS 154).1 q) 1000 := fun q hq => by rw [hF.2.2.2.2.2.2.1 q hq]; exact k_pkn hB _
  have b156 : ∀ q, q < 4 → y_bd ((DS 156).1 q) 1000 := fun q hq => by
    rw [hF.2.2.2.2.2.2.2.2 q hq]
    split
    · exact y_bd_n (a := 99) (by decide) (by decide)
    · exact s_by_bd _ (fun i hi => (hRU.2.2.2.2.2.2.2.2.2.2 i hi).2.2.2.1)
  have l1 : ∀ (w : Nat) (D8 : y_D) (e8 : Int32), w ≤ q_n (D 73).1 4 → y_fx [157, 158, 160] (y_si DS 152 8 e8) D8 → (∀ x, x ≤ k_last D t wo → (D8 160).1 x = y_al DS (k_last D t wo) x) → (∀ i, i < w → y_bit u i → ∀ x, x < k_last D t wo → (D8 158).1 (i * 301 + x) = k_Z D DS hl i x) → E 0 0 31 [(0, .ref 151), (1, .int (nI t)), (2, .int wo), (3, .int u), (4, .int hl), (5, .int (nI w))] [] (y_mk n L D8) := by
    intro w D8 e8
    induction hm9 : (q_n (D 73).1 4 - w) using Nat.strongRecOn generalizing w D8 e8 with
    | _ m9 ih =>
      intro hw fr al zw
      subst hm9
      refine r_iload hE dX1_prepare_31 rfl ?_
      refine r_aload_n hE dX1_prepare_33 rfl ?_
      refine t_getr hE f_X1_37 y_R_151_0 dX1_prepare_34 (hL 151 (by decide)) ?_
      refine t_geti hE f_X1_64 y_I_73_4 dX1_prepare_37 (hL 73 (by decide)) ?_
      refine r_top (y := (nI (q_n (D 73).1 4))) (by rw [fr.1 73 (by decide), y_si_ne (by decide), hF.1 73 (by decide)]; exact hB.2.1.1) ?_
      refine r_icmp_geN (a := w) (b := q_n (D 73).1 4) (tgt := 173) hE dX1_prepare_40 (by decide) (by omega) (by omega) (fun c40 => ?_) (fun c40 => ?_)
      · refine r_return hE dX1_prepare_173 rfl (Nat.zero_le _) (Nat.zero_le _) ?_
        exact ⟨_, rfl, rfl, y_si DS 152 8 e8, c_F_su hF, fr, fun x hx => by rw [y_al_su]; exact al x hx, by rw [show q_n (D 73).1 4 = w by omega]; intro i hi hb x hx; rw [zw i hi hb x hx]; unfold k_Z; rw [k_met_su]⟩
      · obtain ⟨g1, g2, g3, g4, g5, g6, g7, g8, g9, g10, g11, -⟩ := hB.2.2.2.2.2.2.1 w (by omega)
        obtain ⟨r, hr9⟩ : ∃ z, z = k_wh D w := ⟨_, rfl⟩
        obtain ⟨s, hs9⟩ : ∃ z, z = k_wr D w := ⟨_, rfl⟩
        rw [← hr9] at g1 g2 g3 g4 g5
        rw [← hs9] at g5 g6 g7 g8
        have hm_r := g2
        have hd_r := g3
        have hm_s := g6
        have hd_s := g7
        have hr152 : r ≠ 152 := by unfold y_dh at hd_r; omega
        have hs152 : s ≠ 152 := by unfold y_dh at hd_s; omega
        have ihw := ih
        have l2 : ∀ (x : Nat) (g v : Int32) (su : Nat) (D8 : y_D) (e8 : Int32), x ≤ k_last D t wo → y_fx [157, 158, 160] (y_si DS 152 8 e8) D8 → (∀ x, x ≤ k_last D t wo → (D8 160).1 x = y_al DS (k_last D t wo) x) → (∀ i, i < w → y_bit u i → ∀ x, x < k_last D t wo → (D8 158).1 (i * 301 + x) = k_Z D DS hl i x) → (∀ y, y < x → (D8 158).1 (w * 301 + y) = g &&& k_met DS (k_wt D w) (k_wl D w) y hl) → (∀ y, x ≤ y → y < su → g &&& k_met DS (k_wt D w) (k_wl D w) y hl = v) → su ≤ 301 → (y_bit u w → g = k_chg D w) → E 0 0 91 [(0, .ref 151), (1, .int (nI t)), (2, .int wo), (3, .int u), (4, .int hl), (5, .int (nI w)), (6, .int g), (7, .int v), (8, .int (nI su)), (9, .int (nI x))] [] (y_mk n L D8) := by
          intro x g v su D8 e8
          induction hm9 : (k_last D t wo - x) using Nat.strongRecOn generalizing x g v su D8 e8 with
          | _ m9 ih =>
            intro hx fr al zw zx hsv hsu hgc
            subst hm9
            have er : D8 r = D r := by rw [fr.1 r (y_dh_ne hd_r).1, y_si_ne hr152, hF.1 r (y_dh_ne hd_r).2.1]
            have es : D8 s = D s := by rw [fr.1 s (y_dh_ne hd_s).1, y_si_ne hs152, hF.1 s (y_dh_ne hd_s).2.1]
            have hk_r : (D8 r).2.2.2.1 = 2 := by rw [er]; exact g4
            have hs_r : (D8 r).2.2.1 0 = some s := by rw [er]; exact g5
            have hk_s : (D8 s).2.2.2.1 = 0 := by rw [es]; exact g8
            have hl_s : (D8 s).2.2.2.2 = k_wl D w := by rw [es, hs9]
            have emet : k_met D8 = k_met DS := (k_met_eq (D := y_si DS 152 8 e8) (fun j h1 h2 => fr.1 j (by simp only [List.mem_cons, List.not_mem_nil, or_false]; omega)) (by rw [fr.1 152 (by decide)]) (by rw [fr.1 152 (by decide)])).trans k_met_su
            have em : ∀ y, (y_mf D8 (D8 s).1 y hl (k_wl D w)).2.2.2 0 = k_met DS (k_wt D w) (k_wl D w) y hl := fun y => by rw [es, hs9, k_met_ok g11, emet]
            refine r_iload hE dX1_prepare_91 rfl ?_
            refine r_aload_n hE dX1_prepare_93 rfl ?_
            refine t_getr hE f_X1_12 y_R_151_1 dX1_prepare_94 (hL 151 (by decide)) ?_
            refine t_geti hE f_X1_82 y_I_152_0 dX1_prepare_97 (hL 152 (by decide)) ?_
            refine r_top (y := (nI (k_last D t wo))) (by rw [fr.1 152 (by decide), y_si_o (by decide)]; exact hF.2.2.1) ?_
            refine r_icmp_geN (a := x) (b := k_last D t wo) (tgt := 167) hE dX1_prepare_100 (by decide) (by omega) (by omega) (fun c100 => ?_) (fun c100 => ?_)
            · refine r_iincN (a := w) (b := 1) (ls2 := [(0, .ref 151), (1, .int (nI t)), (2, .int wo), (3, .int u), (4, .int hl), (5, .int (nI (w + 1))), (6, .int g), (7, .int v), (8, .int (nI su)), (9, .int (nI x))]) hE dX1_prepare_167 rfl rfl (by decide) rfl ?_
              refine r_goto (tgt := 31) hE dX1_prepare_170 (by decide) ?_
              refine r_locs hE (ls2 := [(0, .ref 151), (1, .int (nI t)), (2, .int wo), (3, .int u), (4, .int hl), (5, .int (nI (w + 1)))]) ?_ (ihw (q_n (D 73).1 4 - (w + 1)) (by omega) (w + 1) _ e8 rfl (by omega) fr al (fun i hi hb y hy => ?_))
              · simp [x_lk]
              · by_cases c : i = w
                · rw [c, zx y (by omega), hgc (by rw [← c]; exact hb)]
                  rfl
                · exact zw i (by omega) hb y hy
            · refine r_iload hE dX1_prepare_103 rfl ?_
              refine r_iload hE dX1_prepare_105 rfl ?_
              refine r_icmp_ltN (a := x) (b := su) (tgt := 145) hE dX1_prepare_107 (by decide) (by omega) (by omega) (fun c107 => ?_) (fun c107 => ?_)
              · refine r_aload_n hE dX1_prepare_145 rfl ?_
                refine t_getr hE f_X1_18 y_R_151_2 dX1_prepare_146 (hL 151 (by decide)) ?_
                refine r_iload hE dX1_prepare_149 rfl ?_
                refine r_sipush (v := 301) hE dX1_prepare_151 (by decide) ?_
                refine r_imulN (a := w) (b := 301) hE dX1_prepare_154 ?_
                refine r_iload hE dX1_prepare_155 rfl ?_
                refine r_iaddN (a := w * 301) (b := x) hE dX1_prepare_157 ?_
                refine r_iload hE dX1_prepare_158 rfl ?_
                refine t_iastN (e := (w * 301) + x) hE y_A_158 dX1_prepare_160 (hL 158 (by decide)) (by omega) (by decide) ?_
                refine r_iincN (a := x) (b := 1) (ls2 := [(0, .ref 151), (1, .int (nI t)), (2, .int wo), (3, .int u), (4, .int hl), (5, .int (nI w)), (6, .int g), (7, .int v), (8, .int (nI su)), (9, .int (nI (x + 1)))]) hE dX1_prepare_161 rfl rfl (by decide) rfl ?_
                refine r_goto (tgt := 91) hE dX1_prepare_164 (by decide) ?_
                refine r_locs hE (ls2 := [(0, .ref 151), (1, .int (nI t)), (2, .int wo), (3, .int u), (4, .int hl), (5, .int (nI w)), (6, .int g), (7, .int v), (8, .int (nI su)), (9, .int (nI (x + 1)))]) ?_ (ih (k_last D t wo - (x + 1)) (by omega) (x + 1) g _ su _ e8 rfl (by omega) (y_fx_s fr (by decide)) (fun y hy => by rw [y_si_ne (by decide)]; exact al y hy) (fun i hi hb y hy => ?_) (fun y hy => ?_) (fun y h1 h2 => ?_) (by omega) hgc)
                · simp [x_lk]
                · rw [y_si_1, if_neg (by omega)]
                  exact zw i hi hb y hy
                · rw [y_si_1]
                  by_cases c : y = x
                  · rw [c, if_pos rfl, hsv x (Nat.le_refl _) c107]
                  · rw [if_neg (by omega)]
                    exact zx y (by omega)
                · exact hsv y (by omega) h2
              · refine r_iload hE dX1_prepare_110 rfl ?_
                refine r_aload_n hE dX1_prepare_112 rfl ?_
                refine t_getr hE f_X1_12 y_R_151_1 dX1_prepare_113 (hL 151 (by decide)) ?_
                refine r_aload_n hE dX1_prepare_116 rfl ?_
                refine t_getr hE f_X1_37 y_R_151_0 dX1_prepare_117 (hL 151 (by decide)) ?_
                refine t_getr hE f_X1_72 y_R_73_3 dX1_prepare_120 (hL 73 (by decide)) ?_
                refine r_iload hE dX1_prepare_123 rfl ?_
                refine t_aaldN (e := w) (h2 := r) hE y_Q_77 (by decide) dX1_prepare_125 (hL 77 (by decide)) (by omega) (by decide) (by rw [fr.1 77 (by decide), y_si_ne (by decide), hF.1 77 (by decide)]; exact g1) ?_
                refine r_iload hE dX1_prepare_126 rfl ?_
                refine r_iload hE dX1_prepare_128 rfl ?_
                refine t_invvRi hE [.ref r, .int (nI x), .int hl] (k_setsThatMeet (D := D8) (x := x) (w := r) (s := s) (len := k_wl D w) (hl := hl) hV hL (by omega) hm_r hd_r hk_r hs_r hm_s hd_s hk_s hl_s g9 (by rw [es, hs9]; exact g10) (fun q hq => by rw [fr.1 154 (by decide), y_si_ne (by decide)]; exact b154 q hq) (fun q hq => by rw [fr.1 156 (by decide), y_si_ne (by decide)]; exact b156 q hq)) v_yX6_setsThatMeet m_X1_85 dX1_prepare_130 rfl (hL 152 (by decide)) (y_l_152 (D8 152)) rfl (by decide) ⟨Nat.le_refl _, Nat.le_refl _⟩ (Nat.le_of_ble_eq_true rfl) (fun r130 D130 q130 => ?_)
                obtain ⟨rfl, U, f, hxU, hU, rfl, hm⟩ := q130
                rw [em]
                have hm2 : ∀ d, x + d < U → k_met DS (k_wt D w) (k_wl D w) (x + d) hl = k_met DS (k_wt D w) (k_wl D w) x hl := fun d hd => by rw [← em, ← em]; exact hm d hd
                show E 0 0 133 [(0, .ref 151), (1, .int (nI t)), (2, .int wo), (3, .int u), (4, .int hl), (5, .int (nI w)), (6, .int g), (7, .int v), (8, .int (nI su)), (9, .int (nI x))] [.int (k_met DS (k_wt D w) (k_wl D w) x hl), .int g] (y_mk n L (y_si (y_sw D8 157 f) 152 8 (nI U)))
                refine r_iand hE dX1_prepare_133 ?_
                refine r_istore (ls2 := [(0, .ref 151), (1, .int (nI t)), (2, .int wo), (3, .int u), (4, .int hl), (5, .int (nI w)), (6, .int g), (7, .int (g &&& (k_met DS (k_wt D w) (k_wl D w) x hl))), (8, .int (nI su)), (9, .int (nI x))]) hE dX1_prepare_134 (by decide) rfl ?_
                refine r_aload_n hE dX1_prepare_136 rfl ?_
                refine t_getr hE f_X1_12 y_R_151_1 dX1_prepare_137 (hL 151 (by decide)) ?_
                refine t_geti hE f_X1_89 y_I_152_8 dX1_prepare_140 (hL 152 (by decide)) ?_
                refine r_top (y := (nI U)) rfl ?_
                refine r_istore (ls2 := [(0, .ref 151), (1, .int (nI t)), (2, .int wo), (3, .int u), (4, .int hl), (5, .int (nI w)), (6, .int g), (7, .int (g &&& (k_met DS (k_wt D w) (k_wl D w) x hl))), (8, .int (nI U)), (9, .int (nI x))]) hE dX1_prepare_143 (by decide) rfl ?_
                refine r_aload_n hE dX1_prepare_145 rfl ?_
                refine t_getr hE f_X1_18 y_R_151_2 dX1_prepare_146 (hL 151 (by decide)) ?_
                refine r_iload hE dX1_prepare_149 rfl ?_
                refine r_sipush (v := 301) hE dX1_prepare_151 (by decide) ?_
                refine r_imulN (a := w) (b := 301) hE dX1_prepare_154 ?_
                refine r_iload hE dX1_prepare_155 rfl ?_
                refine r_iaddN (a := w * 301) (b := x) hE dX1_prepare_157 ?_
                refine r_iload hE dX1_prepare_158 rfl ?_
                refine t_iastN (e := (w * 301) + x) hE y_A_158 dX1_prepare_160 (hL 158 (by decide)) (by omega) (by decide) ?_
                refine r_iincN (a := x) (b := 1) (ls2 := [(0, .ref 151), (1, .int (nI t)), (2, .int wo), (3, .int u), (4, .int hl), (5, .int (nI w)), (6, .int g), (7, .int (g &&& (k_met DS (k_wt D w) (k_wl D w) x hl))), (8, .int (nI U)), (9, .int (nI (x + 1)))]) hE dX1_prepare_161 rfl rfl (by decide) rfl ?_
                refine r_goto (tgt := 91) hE dX1_prepare_164 (by decide) ?_
                refine r_locs hE (ls2 := [(0, .ref 151), (1, .int (nI t)), (2, .int wo), (3, .int u), (4, .int hl), (5, .int (nI w)), (6, .int g), (7, .int (g &&& (k_met DS (k_wt D w) (k_wl D w) x hl))), (8, .int (nI U)), (9, .int (nI (x + 1)))]) ?_ (ih (k_last D t wo - (x + 1)) (by omega) (x + 1) g _ U _ (nI U) rfl (by omega) (y_fx_s (y_fx_su (y_fx_w fr (by decide)) (by decide)) (by decide)) (fun y hy => by rw [y_si_ne (by decide), y_si_ne (by decide), y_sw_ne (by decide)]; exact al y hy) (fun i hi hb y hy => ?_) (fun y hy => ?_) (fun y h1 h2 => ?_) (by omega) hgc)
                · simp [x_lk]
                · rw [y_si_1, if_neg (by omega), y_si_ne (by decide), y_sw_ne (by decide)]
                  exact zw i hi hb y hy
                · rw [y_si_1, y_si_ne (by decide), y_sw_ne (by decide)]
                  by_cases c : y = x
                  · rw [c, if_pos rfl]
                  · rw [if_neg (by omega)]
                    exact zx y (by omega)
                · rw [show y = x + (y - x) by omega, hm2 (y - x) (by omega)]
        have er : D8 r = D r := by rw [fr.1 r (y_dh_ne hd_r).1, y_si_ne hr152, hF.1 r (y_dh_ne hd_r).2.1]
        have es : D8 s = D s := by rw [fr.1 s (y_dh_ne hd_s).1, y_si_ne hs152, hF.1 s (y_dh_ne hd_s).2.1]
        have hk_r : (D8 r).2.2.2.1 = 2 := by rw [er]; exact g4
        have hs_r : (D8 r).2.2.1 0 = some s := by rw [er]; exact g5
        have hk_s : (D8 s).2.2.2.1 = 0 := by rw [es]; exact g8
        have hl_s : (D8 s).2.2.2.2 = k_wl D w := by rw [es, hs9]
        refine r_iload_n hE dX1_prepare_43 rfl ?_
        refine r_iload hE dX1_prepare_44 rfl ?_
        refine t_invsN (r := (some (.int (y_b (y_bit u w))))) (S2 := (y_mk n L D8)) hE [.int u, .int (nI w)] (k_hasBit) s_yX10_hasBit (hN_X1_68 hV) dX1_prepare_46 rfl (by decide) ⟨Nat.le_refl _, Nat.le_refl _⟩ (Nat.le_of_ble_eq_true rfl) ?_
        show E 0 0 49 [(0, .ref 151), (1, .int (nI t)), (2, .int wo), (3, .int u), (4, .int hl), (5, .int (nI w))] [.int (y_b (y_bit u w))] (y_mk n L D8)
        refine r_ifb_eq (tgt := 68) hE dX1_prepare_49 (by decide) (fun c49 => ?_) (fun c49 => ?_)
        · refine r_iconst (v := 0) hE dX1_prepare_68 (by decide) ?_
          refine r_istore (ls2 := [(0, .ref 151), (1, .int (nI t)), (2, .int wo), (3, .int u), (4, .int hl), (5, .int (nI w)), (6, .int 0)]) hE dX1_prepare_69 (by decide) rfl ?_
          refine r_iconst (v := 0) hE dX1_prepare_71 (by decide) ?_
          refine r_istore (ls2 := [(0, .ref 151), (1, .int (nI t)), (2, .int wo), (3, .int u), (4, .int hl), (5, .int (nI w)), (6, .int 0), (7, .int 0)]) hE dX1_prepare_72 (by decide) rfl ?_
          refine r_iload hE dX1_prepare_74 rfl ?_
          refine r_if_ne (tgt := 85) hE dX1_prepare_76 (by decide) (fun c76 => by first | exact absurd c76 (by decide) | exact absurd (by decide) c76) (fun _ => ?_)
          refine r_sipush (v := 301) hE dX1_prepare_79 (by decide) ?_
          refine r_goto (tgt := 86) hE dX1_prepare_82 (by decide) ?_
          refine r_istore (ls2 := [(0, .ref 151), (1, .int (nI t)), (2, .int wo), (3, .int u), (4, .int hl), (5, .int (nI w)), (6, .int 0), (7, .int 0), (8, .int 301)]) hE dX1_prepare_86 (by decide) rfl ?_
          refine r_iconst (v := 0) hE dX1_prepare_88 (by decide) ?_
          refine r_istore (ls2 := [(0, .ref 151), (1, .int (nI t)), (2, .int wo), (3, .int u), (4, .int hl), (5, .int (nI w)), (6, .int 0), (7, .int 0), (8, .int 301), (9, .int 0)]) hE dX1_prepare_89 (by decide) rfl ?_
          exact l2 0 0 0 301 D8 e8 (by omega) fr al zw (fun y hy => absurd hy (by omega)) (fun y _ _ => Int32.zero_and) (by decide) (fun hb => absurd hb c49)
        · refine r_aload_n hE dX1_prepare_52 rfl ?_
          refine t_getr hE f_X1_37 y_R_151_0 dX1_prepare_53 (hL 151 (by decide)) ?_
          refine t_getr hE f_X1_72 y_R_73_3 dX1_prepare_56 (hL 73 (by decide)) ?_
          refine r_iload hE dX1_prepare_59 rfl ?_
          refine t_aaldN (e := w) (h2 := r) hE y_Q_77 (by decide) dX1_prepare_61 (hL 77 (by decide)) (by omega) (by decide) (by rw [fr.1 77 (by decide), y_si_ne (by decide), hF.1 77 (by decide)]; exact g1) ?_
          refine t_invv (r := (some (.int (65535 &&& (y_sc ((D8 r).1 0) 4 ^^^ (-1)))))) (S2 := (y_mk n L D8)) hE [] (k_setsItChanges (D := D8) hV hm_r hd_r hk_r) v_yX9_setsItChanges m_X1_76 dX1_prepare_62 rfl hm_r (y_way_lay hd_r (show ((D8) r).2.2.2.1 = _ from hk_r)) rfl (by decide) ⟨Nat.le_refl _, Nat.le_refl _⟩ (Nat.le_of_ble_eq_true rfl) ?_
          show E 0 0 65 [(0, .ref 151), (1, .int (nI t)), (2, .int wo), (3, .int u), (4, .int hl), (5, .int (nI w))] [.int (65535 &&& (y_sc ((D8 r).1 0) 4 ^^^ (-1)))] (y_mk n L D8)
          refine r_top (y := (k_chg D w)) (by rw [er, hr9]) ?_
          refine r_goto (tgt := 69) hE dX1_prepare_65 (by decide) ?_
          refine r_istore (ls2 := [(0, .ref 151), (1, .int (nI t)), (2, .int wo), (3, .int u), (4, .int hl), (5, .int (nI w)), (6, .int (k_chg D w))]) hE dX1_prepare_69 (by decide) rfl ?_
          refine r_iconst (v := 0) hE dX1_prepare_71 (by decide) ?_
          refine r_istore (ls2 := [(0, .ref 151), (1, .int (nI t)), (2, .int wo), (3, .int u), (4, .int hl), (5, .int (nI w)), (6, .int (k_chg D w)), (7, .int 0)]) hE dX1_prepare_72 (by decide) rfl ?_
          refine r_iload hE dX1_prepare_74 rfl ?_
          refine r_if_ne (tgt := 85) hE dX1_prepare_76 (by decide) (fun c76 => ?_) (fun c76 => ?_)
          · refine r_iconst (v := 0) hE dX1_prepare_85 (by decide) ?_
            refine r_istore (ls2 := [(0, .ref 151), (1, .int (nI t)), (2, .int wo), (3, .int u), (4, .int hl), (5, .int (nI w)), (6, .int (k_chg D w)), (7, .int 0), (8, .int 0)]) hE dX1_prepare_86 (by decide) rfl ?_
            refine r_iconst (v := 0) hE dX1_prepare_88 (by decide) ?_
            refine r_istore (ls2 := [(0, .ref 151), (1, .int (nI t)), (2, .int wo), (3, .int u), (4, .int hl), (5, .int (nI w)), (6, .int (k_chg D w)), (7, .int 0), (8, .int 0), (9, .int 0)]) hE dX1_prepare_89 (by decide) rfl ?_
            exact l2 0 (k_chg D w) 0 0 D8 e8 (by omega) fr al zw (fun y hy => absurd hy (by omega)) (fun y _ h2 => absurd h2 (by omega)) (by decide) (fun _ => rfl)
          · refine r_sipush (v := 301) hE dX1_prepare_79 (by decide) ?_
            refine r_goto (tgt := 86) hE dX1_prepare_82 (by decide) ?_
            refine r_istore (ls2 := [(0, .ref 151), (1, .int (nI t)), (2, .int wo), (3, .int u), (4, .int hl), (5, .int (nI w)), (6, .int (k_chg D w)), (7, .int 0), (8, .int 301)]) hE dX1_prepare_86 (by decide) rfl ?_
            refine r_iconst (v := 0) hE dX1_prepare_88 (by decide) ?_
            refine r_istore (ls2 := [(0, .ref 151), (1, .int (nI t)), (2, .int wo), (3, .int u), (4, .int hl), (5, .int (nI w)), (6, .int (k_chg D w)), (7, .int 0), (8, .int 301), (9, .int 0)]) hE dX1_prepare_89 (by decide) rfl ?_
            exact l2 0 (k_chg D w) 0 301 D8 e8 (by omega) fr al zw (fun y hy => absurd hy (by omega)) (fun y _ _ => by rw [show k_chg D w = 0 by first | exact c76 | exact Decidable.not_not.mp c76]; exact Int32.zero_and) (by decide) (fun _ => rfl)
  refine l1 0 _ ((DS 152).1 8) (by omega) (by rw [y_si_self rfl]; exact y_fx_w y_fx_r (by decide)) (fun x hx => ?_) (fun i hi => absurd hi (by omega))
  rw [y_sw_1]
  unfold y_cp
  rw [if_pos (by omega)]

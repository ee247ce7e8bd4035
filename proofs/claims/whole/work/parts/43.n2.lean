/-! the reference: steps of a need LINE on a stack -/
theorem y_m1 {a : Nat} (h : 1 ≤ a) : nI a + Int32.ofInt (-1) = nI (a - 1) := by
  obtain ⟨b, rfl⟩ : ∃ b, a = b + 1 := ⟨a - 1, by omega⟩
  exact pk_m1 b
def stk (v : Nat → Int32) : List Int32 → Prop
  | [] => True
  | x :: r => v r.length = x ∧ stk v r
theorem stk_up {v : Nat → Int32} {k : Nat} {x : Int32} : ∀ {l : List Int32}, stk v l → l.length ≤ k → stk (upd v k x) l
  | [], _, _ => trivial
  | y :: r, h, hk => by
    have hk2 : r.length + 1 ≤ k := hk
    exact ⟨by rw [pk_un (by omega)]; exact h.1, stk_up h.2 (by omega)⟩
def e_bin (p : Nat) (a b : Int32) : Int32 := if p = 11 then a + b else if p = 12 then y_b (a < b) else if p = 13 then y_b (b < a) else if p = 15 then y_b (a + b = 2) else y_b (0 < a + b)
def e_1 (A : Nat → Nat → Int32) (z : Nat × Nat) (l : List Int32) : List Int32 := if z.1 ≤ 10 then A z.1 z.2 :: l else if z.1 = 14 then (match l with | a :: r => (1 - a) :: r | [] => []) else (match l with | b :: a :: r => e_bin z.1 a b :: r | _ => [])
def e_s (A : Nat → Nat → Int32) : List (Nat × Nat) → List Int32 → List Int32
  | [], l => l
  | z :: r, l => e_s A r (e_1 A z l)
def e_h1 (z : Nat × Nat) (h : Nat) : Option Nat := if z.1 ≤ 10 then (if h < 400 then some (h + 1) else none) else if z.1 = 14 then (if 1 ≤ h then some h else none) else (if 2 ≤ h then some (h - 1) else none)
/-- how high the stack is behind steps; none where they take too many or are too high -/
def e_h : List (Nat × Nat) → Nat → Option Nat
  | [], h => some h
  | z :: r, h => match e_h1 z h with | some h2 => e_h r h2 | none => none
/-- c steps of the text t from the step i on -/
def m_sl (W : Nat → Int32) (t : Nat) : Nat → Nat → List (Nat × Nat)
  | 0, _ => []
  | c + 1, i => (q_n W (237 + 851 * t + 51 + 2 * i), q_n W (237 + 851 * t + 51 + 2 * i + 1)) :: m_sl W t c (i + 1)
def m_ws (W : Nat → Int32) (t i : Nat) : Prop := q_ok W (237 + 851 * t + 51 + 2 * i) 16 ∧ q_ok W (237 + 851 * t + 51 + 2 * i + 1) 999 ∧ (q_n W (237 + 851 * t + 51 + 2 * i) ≠ 0 ∧ q_n W (237 + 851 * t + 51 + 2 * i) ≠ 1 ∧ q_n W (237 + 851 * t + 51 + 2 * i) ≠ 4 ∧ q_n W (237 + 851 * t + 51 + 2 * i) ≠ 5 ∧ q_n W (237 + 851 * t + 51 + 2 * i) ≠ 10 → q_n W (237 + 851 * t + 51 + 2 * i) ≤ 10 → q_n W (237 + 851 * t + 51 + 2 * i + 1) < 4)
/-- the LINE i of the text t is a need LINE -/
def m_wn (W : Nat → Int32) (t i : Nat) : Prop := q_ok W (237 + 851 * t + 1 + 5 * i + 3) 400 ∧ q_ok W (237 + 851 * t + 1 + 5 * i + 4) 400 ∧ m_o W t i 3 ≤ m_o W t i 4 ∧ (∀ j, m_o W t i 3 ≤ j → j < m_o W t i 4 → m_ws W t j) ∧ e_h (m_sl W t (m_o W t i 4 - m_o W t i 3) (m_o W t i 3)) 0 = some 1
/-- the text t is a WAY -/
def m_ww (W : Nat → Int32) (t : Nat) : Prop := q_ok W (237 + 851 * t) 10 ∧ ∀ i, i < m_k W t → q_ok W (237 + 851 * t + 1 + 5 * i) 3 ∧ q_ok W (237 + 851 * t + 1 + 5 * i + 1) 999 ∧ (m_o W t i 0 = 0 → m_o W t i 1 < 4) ∧ (m_o W t i 0 = 1 → 1 ≤ m_o W t i 1 ∧ m_o W t i 1 ≤ 60) ∧ (m_o W t i 0 = 2 → m_o W t i 1 ≤ 9) ∧ (m_o W t i 0 = 3 → m_wn W t i)
/-- all as it was but for the row h -/
def y_o1 (h : Nat) (D D2 : y_D) : Prop := (∀ j, j ≠ h → D2 j = D j) ∧ (D2 h).2 = (D h).2
theorem y_o1_r {h : Nat} {D : y_D} : y_o1 h D D := ⟨fun _ _ => rfl, rfl⟩
theorem y_o1_s {h k : Nat} {D D2 : y_D} {v : Int32} (a : y_o1 h D D2) : y_o1 h D (y_si D2 h k v) := ⟨fun j hj => by rw [y_si_ne hj, a.1 j hj], by rw [y_si_2, a.2]⟩
theorem y_o1_t {h : Nat} {D D2 D3 : y_D} (a : y_o1 h D D2) (b : y_o1 h D2 D3) : y_o1 h D D3 := ⟨fun j hj => by rw [b.1 j hj, a.1 j hj], by rw [b.2, a.2]⟩
theorem m_ask_fr {D D2 : y_D} (a : y_o1 177 D D2) : m_ask D2 = m_ask D := by
  funext p q x f hl
  unfold m_ask
  rw [a.1 170 (by decide), a.1 174 (by decide), a.1 175 (by decide), a.1 176 (by decide)]
theorem e_h_cons {z : Nat × Nat} {r : List (Nat × Nat)} {h k : Nat} (c : e_h (z :: r) h = some k) : ∃ h2, e_h1 z h = some h2 ∧ e_h r h2 = some k := by
  unfold e_h at c
  cases e : e_h1 z h with
  | none => rw [e] at c; cases c
  | some h2 => rw [e] at c; exact ⟨h2, rfl, c⟩
theorem e_len1 : ∀ {l : List Int32}, 1 ≤ l.length → ∃ a r, l = a :: r
  | a :: r, _ => ⟨a, r, rfl⟩
theorem e_len2 : ∀ {l : List Int32}, 2 ≤ l.length → ∃ b a r, l = b :: a :: r
  | b :: a :: r, _ => ⟨b, a, r, rfl⟩
/-- what the need LINE i of the text t comes to -/
def m_line (D : y_D) (t i x f : Nat) (hl : Int32) : List Int32 := e_s (fun p q => m_ask D p q x f hl) (m_sl (D 170).1 t (m_o (D 170).1 t i 4 - m_o (D 170).1 t i 3) (m_o (D 170).1 t i 3)) []
theorem c_holdsLine {V : x_E} {n : Nat} {L : List Nat} {D : y_D} {t ln x f : Nat} {hl : Int32} (hL : y_ok L) (ht : t < 10) (hln : ln < 10) (hwn : m_wn (D 170).1 t ln) (hx : x < 301) (hf : f < 16) (hh : ∀ l, l < 4 → m_hd ((D 175).1 l)) : y_Ri V yX11_holdsLine cX11_holdsLine 12 (some .boolean) 4 [.ref 169, .int (nI t), .int (nI ln), .int (nI x), .int (nI f), .int hl] n L D (fun v D2 => v = y_b (m_line D t ln x f hl = [1]) ∧ y_o1 177 D D2) := by
  refine y_ri (by decide) (Nat.le_of_ble_eq_true rfl) (fun E hE => ?_)
  change E 0 0 0 [(0, .ref 169), (1, .int (nI t)), (2, .int (nI ln)), (3, .int (nI x)), (4, .int (nI f)), (5, .int hl)] [] (y_mk n L D)
  have lp : ∀ (i tp : Nat) (l : List Int32) (D8 : y_D), m_o (D 170).1 t ln 3 ≤ i ∧ i ≤ m_o (D 170).1 t ln 4 → tp = l.length → tp ≤ 400 → e_s (fun p q => m_ask D p q x f hl) (m_sl (D 170).1 t (m_o (D 170).1 t ln 4 - i) i) l = m_line D t ln x f hl → e_h (m_sl (D 170).1 t (m_o (D 170).1 t ln 4 - i) i) l.length = some 1 → stk (D8 177).1 l → y_o1 177 D D8 → E 0 0 12 [(0, .ref 169), (1, .int (nI t)), (2, .int (nI ln)), (3, .int (nI x)), (4, .int (nI f)), (5, .int hl), (6, .int (nI tp)), (7, .int (nI i))] [] (y_mk n L D8) := by
    intro i tp l D8
    induction hm9 : (m_o (D 170).1 t ln 4 - i) using Nat.strongRecOn generalizing i tp l D8 with
    | _ m9 ih =>
      intro hi htp htb hg hE2 hsk fr
      subst hm9
      have hF4 : m_o (D 170).1 t ln 4 ≤ 400 := hwn.2.1.2
      refine r_iload hE dX11_holdsLine_12 rfl ?_
      refine r_aload_n hE dX11_holdsLine_14 rfl ?_
      refine r_iload_n hE dX11_holdsLine_15 rfl ?_
      refine r_iload_n hE dX11_holdsLine_16 rfl ?_
      refine r_iconst (v := 4) hE dX11_holdsLine_17 (by decide) ?_
      refine t_invv (r := (some (.int ((D8 170).1 (237 + 851 * t + 1 + 5 * ln + 4))))) (S2 := (y_mk n L D8)) hE [.int (nI t), .int (nI ln), .int 4] (c_of hL (by omega) (by omega) (by decide)) v_yX11_of m_X11_255 dX11_holdsLine_18 rfl (hL 169 (by decide)) (y_l_169 (D8 169)) rfl (by decide) ⟨Nat.le_refl _, Nat.le_refl _⟩ (Nat.le_of_ble_eq_true rfl) ?_
      show E 0 0 21 [(0, .ref 169), (1, .int (nI t)), (2, .int (nI ln)), (3, .int (nI x)), (4, .int (nI f)), (5, .int hl), (6, .int (nI tp)), (7, .int (nI i))] [.int ((D8 170).1 (237 + 851 * t + 1 + 5 * ln + 4)), .int (nI i)] (y_mk n L D8)
      refine r_top (y := (nI (m_o (D 170).1 t ln 4))) (by rw [fr.1 170 (by decide)]; exact hwn.2.1.1) ?_
      refine r_icmp_geN (a := i) (b := m_o (D 170).1 t ln 4) (tgt := 269) hE dX11_holdsLine_21 (by decide) (by omega) (by omega) (fun c21 => ?_) (fun c21 => ?_)
      · refine r_aload_n hE dX11_holdsLine_269 rfl ?_
        refine t_getr hE f_X11_40 y_R_169_17 dX11_holdsLine_270 (hL 169 (by decide)) ?_
        refine r_iconst (v := 0) hE dX11_holdsLine_273 (by decide) ?_
        refine t_ialdN (e := 0) hE y_A_177 dX11_holdsLine_274 (hL 177 (by decide)) (by omega) (by decide) ?_
        refine r_iconst (v := 1) hE dX11_holdsLine_275 (by decide) ?_
        refine r_icmp_ne (tgt := 283) hE dX11_holdsLine_276 (by decide) (fun c276 => ?_) (fun c276 => ?_)
        · refine r_iconst (v := 0) hE dX11_holdsLine_283 (by decide) ?_
          refine r_ireturn hE dX11_holdsLine_284 rfl (by decide) (Nat.zero_le _) (Nat.zero_le _) ?_
          have hi9 : i = m_o (D 170).1 t ln 4 := by omega
          rw [hi9, Nat.sub_self] at hg hE2
          have hl1 : l.length = 1 := Option.some.inj hE2
          obtain ⟨a, r, hl9⟩ := e_len1 (l := l) (by omega)
          have hr0 : r = [] := by rw [hl9] at hl1; exact List.length_eq_zero_iff.mp (by simpa using hl1)
          rw [hl9, hr0] at hg hsk
          have hv : (D8 177).1 0 = a := hsk.1
          refine ⟨_, _, rfl, rfl, ?_, fr⟩
          rw [← hg]
          show _ = y_b ([a] = [1])
          first | (rw [y_b_t (by rw [← hv, c276])]) | (rw [y_b_f (fun q => c276 (by rw [hv]; simpa using q))])
        · refine r_iconst (v := 1) hE dX11_holdsLine_279 (by decide) ?_
          refine r_goto (tgt := 284) hE dX11_holdsLine_280 (by decide) ?_
          refine r_ireturn hE dX11_holdsLine_284 rfl (by decide) (Nat.zero_le _) (Nat.zero_le _) ?_
          have hi9 : i = m_o (D 170).1 t ln 4 := by omega
          rw [hi9, Nat.sub_self] at hg hE2
          have hl1 : l.length = 1 := Option.some.inj hE2
          obtain ⟨a, r, hl9⟩ := e_len1 (l := l) (by omega)
          have hr0 : r = [] := by rw [hl9] at hl1; exact List.length_eq_zero_iff.mp (by simpa using hl1)
          rw [hl9, hr0] at hg hsk
          have hv : (D8 177).1 0 = a := hsk.1
          refine ⟨_, _, rfl, rfl, ?_, fr⟩
          rw [← hg]
          show _ = y_b ([a] = [1])
          first | (rw [y_b_t (by rw [← hv, c276])]) | (rw [y_b_f (fun q => c276 (by rw [hv]; simpa using q))])
      · refine r_aload_n hE dX11_holdsLine_24 rfl ?_
        refine t_getr hE f_X11_13 y_R_169_1 dX11_holdsLine_25 (hL 169 (by decide)) ?_
        refine r_iload_n hE dX11_holdsLine_28 rfl ?_
        refine t_invs (r := (some (.int (nI (237 + 851 * t))))) (S2 := (y_mk n L D8)) hE [.int (nI t)] (c_textAt) s_yX11_textAt m_X11_132 dX11_holdsLine_29 rfl (by decide) ⟨Nat.le_refl _, Nat.le_refl _⟩ (Nat.le_of_ble_eq_true rfl) ?_
        show E 0 0 32 [(0, .ref 169), (1, .int (nI t)), (2, .int (nI ln)), (3, .int (nI x)), (4, .int (nI f)), (5, .int hl), (6, .int (nI tp)), (7, .int (nI i))] [.int (nI (237 + 851 * t)), .ref 170] (y_mk n L D8)
        refine r_bipush (v := 51) hE dX11_holdsLine_32 (by decide) ?_
        refine r_iaddN (a := 237 + 851 * t) (b := 51) hE dX11_holdsLine_34 ?_
        refine r_iconst (v := 2) hE dX11_holdsLine_35 (by decide) ?_
        refine r_iload hE dX11_holdsLine_36 rfl ?_
        refine r_imulN (a := 2) (b := i) hE dX11_holdsLine_38 ?_
        refine r_iaddN (a := (237 + 851 * t) + 51) (b := 2 * i) hE dX11_holdsLine_39 ?_
        refine t_ialdN (e := ((237 + 851 * t) + 51) + (2 * i)) hE y_A_170 dX11_holdsLine_40 (hL 170 (by decide)) (by omega) (by decide) ?_
        refine r_top (y := (nI (q_n (D 170).1 (237 + 851 * t + 51 + 2 * i)))) (by rw [fr.1 170 (by decide)]; exact (hwn.2.2.2.1 i (by omega) (by omega)).1.1) ?_
        refine r_istore (ls2 := [(0, .ref 169), (1, .int (nI t)), (2, .int (nI ln)), (3, .int (nI x)), (4, .int (nI f)), (5, .int hl), (6, .int (nI tp)), (7, .int (nI i)), (8, .int (nI (q_n (D 170).1 (237 + 851 * t + 51 + 2 * i))))]) hE dX11_holdsLine_41 (by decide) rfl ?_
        have hws := hwn.2.2.2.1 i (by omega) (by omega)
        have hst9 := hws.1.2
        have hc2 : m_o (D 170).1 t ln 4 - i = (m_o (D 170).1 t ln 4 - (i + 1)) + 1 := by omega
        rw [hc2] at hg hE2
        obtain ⟨h2, g1, g2⟩ := e_h_cons hE2
        refine r_iload hE dX11_holdsLine_43 rfl ?_
        refine r_bipush (v := 10) hE dX11_holdsLine_45 (by decide) ?_
        refine r_icmp_gtN (a := q_n (D 170).1 (237 + 851 * t + 51 + 2 * i)) (b := 10) (tgt := 93) hE dX11_holdsLine_47 (by decide) (by omega) (by decide) (fun c47 => ?_) (fun c47 => ?_)
        · refine r_iload hE dX11_holdsLine_93 rfl ?_
          refine r_bipush (v := 14) hE dX11_holdsLine_95 (by decide) ?_
          refine r_icmp_neN (a := q_n (D 170).1 (237 + 851 * t + 51 + 2 * i)) (b := 14) (tgt := 123) hE dX11_holdsLine_97 (by decide) (by omega) (by decide) (fun c97 => ?_) (fun c97 => ?_)
          · have k9 : 2 ≤ tp ∧ h2 = tp - 1 := by
              unfold e_h1 at g1
              rw [if_neg (by show ¬ q_n (D 170).1 (237 + 851 * t + 51 + 2 * i) ≤ 10; omega), if_neg (by show ¬ q_n (D 170).1 (237 + 851 * t + 51 + 2 * i) = 14; omega), ← htp] at g1
              by_cases c : 2 ≤ tp
              · rw [if_pos c] at g1; cases g1; exact ⟨c, rfl⟩
              · rw [if_neg c] at g1; cases g1
            obtain ⟨b, a, r, hl9⟩ := e_len2 (l := l) (by omega)
            rw [hl9] at hsk htp hg
            have hlr : tp - 1 - 1 = r.length := by rw [htp]; rfl
            have hlr2 : tp - 1 = r.length + 1 := by rw [htp]; rfl
            obtain ⟨hs1, hs0, hs2⟩ := hsk
            refine r_iinc (v := nI (tp - 1)) (ls2 := [(0, .ref 169), (1, .int (nI t)), (2, .int (nI ln)), (3, .int (nI x)), (4, .int (nI f)), (5, .int hl), (6, .int (nI (tp - 1))), (7, .int (nI i)), (8, .int (nI (q_n (D 170).1 (237 + 851 * t + 51 + 2 * i))))]) hE dX11_holdsLine_123 rfl (y_m1 (by omega)) (by decide) rfl ?_
            refine r_aload_n hE dX11_holdsLine_126 rfl ?_
            refine t_getr hE f_X11_40 y_R_169_17 dX11_holdsLine_127 (hL 169 (by decide)) ?_
            refine r_iload hE dX11_holdsLine_130 rfl ?_
            refine r_iconst (v := 1) hE dX11_holdsLine_132 (by decide) ?_
            refine r_isubN (a := tp - 1) (b := 1) hE dX11_holdsLine_133 (by omega) ?_
            refine t_ialdN (e := (tp - 1) - 1) hE y_A_177 dX11_holdsLine_134 (hL 177 (by decide)) (by omega) (by decide) ?_
            refine r_top (y := a) (by rw [hlr]; exact hs0) ?_
            refine r_istore (ls2 := [(0, .ref 169), (1, .int (nI t)), (2, .int (nI ln)), (3, .int (nI x)), (4, .int (nI f)), (5, .int hl), (6, .int (nI (tp - 1))), (7, .int (nI i)), (8, .int (nI (q_n (D 170).1 (237 + 851 * t + 51 + 2 * i)))), (9, .int a)]) hE dX11_holdsLine_135 (by decide) rfl ?_
            refine r_aload_n hE dX11_holdsLine_137 rfl ?_
            refine t_getr hE f_X11_40 y_R_169_17 dX11_holdsLine_138 (hL 169 (by decide)) ?_
            refine r_iload hE dX11_holdsLine_141 rfl ?_
            refine t_ialdN (e := tp - 1) hE y_A_177 dX11_holdsLine_143 (hL 177 (by decide)) (by omega) (by decide) ?_
            refine r_top (y := b) (by rw [hlr2]; exact hs1) ?_
            refine r_istore (ls2 := [(0, .ref 169), (1, .int (nI t)), (2, .int (nI ln)), (3, .int (nI x)), (4, .int (nI f)), (5, .int hl), (6, .int (nI (tp - 1))), (7, .int (nI i)), (8, .int (nI (q_n (D 170).1 (237 + 851 * t + 51 + 2 * i)))), (9, .int a), (10, .int b)]) hE dX11_holdsLine_144 (by decide) rfl ?_
            refine r_iload hE dX11_holdsLine_146 rfl ?_
            refine r_bipush (v := 12) hE dX11_holdsLine_148 (by decide) ?_
            refine r_icmp_neN (a := q_n (D 170).1 (237 + 851 * t + 51 + 2 * i)) (b := 12) (tgt := 168) hE dX11_holdsLine_150 (by decide) (by omega) (by decide) (fun c150 => ?_) (fun c150 => ?_)
            · refine r_iload hE dX11_holdsLine_168 rfl ?_
              refine r_bipush (v := 13) hE dX11_holdsLine_170 (by decide) ?_
              refine r_icmp_neN (a := q_n (D 170).1 (237 + 851 * t + 51 + 2 * i)) (b := 13) (tgt := 190) hE dX11_holdsLine_172 (by decide) (by omega) (by decide) (fun c172 => ?_) (fun c172 => ?_)
              · refine r_iload hE dX11_holdsLine_190 rfl ?_
                refine r_bipush (v := 15) hE dX11_holdsLine_192 (by decide) ?_
                refine r_icmp_neN (a := q_n (D 170).1 (237 + 851 * t + 51 + 2 * i)) (b := 15) (tgt := 214) hE dX11_holdsLine_194 (by decide) (by omega) (by decide) (fun c194 => ?_) (fun c194 => ?_)
                · refine r_iload hE dX11_holdsLine_214 rfl ?_
                  refine r_iload hE dX11_holdsLine_216 rfl ?_
                  refine r_iadd hE dX11_holdsLine_218 ?_
                  refine r_if_le (tgt := 226) hE dX11_holdsLine_219 (by decide) (fun c219 => ?_) (fun c219 => ?_)
                  · refine r_iconst (v := 0) hE dX11_holdsLine_226 (by decide) ?_
                    refine r_istore (ls2 := [(0, .ref 169), (1, .int (nI t)), (2, .int (nI ln)), (3, .int (nI x)), (4, .int (nI f)), (5, .int hl), (6, .int (nI (tp - 1))), (7, .int (nI i)), (8, .int (nI (q_n (D 170).1 (237 + 851 * t + 51 + 2 * i)))), (9, .int a), (10, .int b), (11, .int 0)]) hE dX11_holdsLine_227 (by decide) rfl ?_
                    refine r_aload_n hE dX11_holdsLine_229 rfl ?_
                    refine t_getr hE f_X11_40 y_R_169_17 dX11_holdsLine_230 (hL 169 (by decide)) ?_
                    refine r_iload hE dX11_holdsLine_233 rfl ?_
                    refine r_iconst (v := 1) hE dX11_holdsLine_235 (by decide) ?_
                    refine r_isubN (a := tp - 1) (b := 1) hE dX11_holdsLine_236 (by omega) ?_
                    refine r_iload hE dX11_holdsLine_237 rfl ?_
                    refine r_bipush (v := 11) hE dX11_holdsLine_239 (by decide) ?_
                    refine r_icmp_neN (a := q_n (D 170).1 (237 + 851 * t + 51 + 2 * i)) (b := 11) (tgt := 252) hE dX11_holdsLine_241 (by decide) (by omega) (by decide) (fun c241 => ?_) (fun c241 => ?_)
                    · refine r_iload hE dX11_holdsLine_252 rfl ?_
                      refine r_if_eq (tgt := 261) hE dX11_holdsLine_254 (by decide) (fun _ => ?_) (fun c254 => by first | exact absurd c254 (by decide) | exact absurd (by decide) c254)
                      refine r_iconst (v := 0) hE dX11_holdsLine_261 (by decide) ?_
                      refine t_iastN (e := (tp - 1) - 1) hE y_A_177 dX11_holdsLine_262 (hL 177 (by decide)) (by omega) (by decide) ?_
                      refine r_iincN (a := i) (b := 1) (ls2 := [(0, .ref 169), (1, .int (nI t)), (2, .int (nI ln)), (3, .int (nI x)), (4, .int (nI f)), (5, .int hl), (6, .int (nI (tp - 1))), (7, .int (nI (i + 1))), (8, .int (nI (q_n (D 170).1 (237 + 851 * t + 51 + 2 * i)))), (9, .int a), (10, .int b), (11, .int 0)]) hE dX11_holdsLine_263 rfl rfl (by decide) rfl ?_
                      refine r_goto (tgt := 12) hE dX11_holdsLine_266 (by decide) ?_
                      first
                      | (exfalso; omega)
                      | (refine r_locs hE (ls2 := [(0, .ref 169), (1, .int (nI t)), (2, .int (nI ln)), (3, .int (nI x)), (4, .int (nI f)), (5, .int hl), (6, .int (nI (tp - 1))), (7, .int (nI (i + 1)))]) ?_ (ih (m_o (D 170).1 t ln 4 - (i + 1)) (by omega) (i + 1) (tp - 1) (0 :: r) _ rfl (by omega) (by show tp - 1 = r.length + 1; omega) (by omega) (by rw [← hg]; show e_s _ _ _ = e_s _ _ (e_1 _ _ _); unfold e_1; rw [if_neg (by show ¬ q_n (D 170).1 (237 + 851 * t + 51 + 2 * i) ≤ 10; omega), if_neg (by show ¬ q_n (D 170).1 (237 + 851 * t + 51 + 2 * i) = 14; omega)]; show e_s _ _ (0 :: r) = e_s _ _ (e_bin (q_n (D 170).1 (237 + 851 * t + 51 + 2 * i)) a b :: r); rw [show e_bin (q_n (D 170).1 (237 + 851 * t + 51 + 2 * i)) a b = 0 by simp only [e_bin, y_b]; grind]) (by rw [← g2]; exact congrArg _ (by rw [k9.2, hlr2]; rfl)) (by rw [hlr]; refine ⟨?_, ?_⟩; rw [y_si_1, if_pos rfl]; rw [y_si_s]; exact stk_up hs2 (by omega)) (y_o1_s fr))
                         simp [x_lk])
                    · refine r_iload hE dX11_holdsLine_244 rfl ?_
                      refine r_iload hE dX11_holdsLine_246 rfl ?_
                      refine r_iadd hE dX11_holdsLine_248 ?_
                      refine r_goto (tgt := 262) hE dX11_holdsLine_249 (by decide) ?_
                      refine t_iastN (e := (tp - 1) - 1) hE y_A_177 dX11_holdsLine_262 (hL 177 (by decide)) (by omega) (by decide) ?_
                      refine r_iincN (a := i) (b := 1) (ls2 := [(0, .ref 169), (1, .int (nI t)), (2, .int (nI ln)), (3, .int (nI x)), (4, .int (nI f)), (5, .int hl), (6, .int (nI (tp - 1))), (7, .int (nI (i + 1))), (8, .int (nI (q_n (D 170).1 (237 + 851 * t + 51 + 2 * i)))), (9, .int a), (10, .int b), (11, .int 0)]) hE dX11_holdsLine_263 rfl rfl (by decide) rfl ?_
                      refine r_goto (tgt := 12) hE dX11_holdsLine_266 (by decide) ?_
                      first
                      | (exfalso; omega)
                      | (refine r_locs hE (ls2 := [(0, .ref 169), (1, .int (nI t)), (2, .int (nI ln)), (3, .int (nI x)), (4, .int (nI f)), (5, .int hl), (6, .int (nI (tp - 1))), (7, .int (nI (i + 1)))]) ?_ (ih (m_o (D 170).1 t ln 4 - (i + 1)) (by omega) (i + 1) (tp - 1) ((a + b) :: r) _ rfl (by omega) (by show tp - 1 = r.length + 1; omega) (by omega) (by rw [← hg]; show e_s _ _ _ = e_s _ _ (e_1 _ _ _); unfold e_1; rw [if_neg (by show ¬ q_n (D 170).1 (237 + 851 * t + 51 + 2 * i) ≤ 10; omega), if_neg (by show ¬ q_n (D 170).1 (237 + 851 * t + 51 + 2 * i) = 14; omega)]; show e_s _ _ ((a + b) :: r) = e_s _ _ (e_bin (q_n (D 170).1 (237 + 851 * t + 51 + 2 * i)) a b :: r); rw [show e_bin (q_n (D 170).1 (237 + 851 * t + 51 + 2 * i)) a b = (a + b) by simp only [e_bin, y_b]; grind]) (by rw [← g2]; exact congrArg _ (by rw [k9.2, hlr2]; rfl)) (by rw [hlr]; refine ⟨?_, ?_⟩; rw [y_si_1, if_pos rfl]; rw [y_si_s]; exact stk_up hs2 (by omega)) (y_o1_s fr))
                         simp [x_lk])
                  · refine r_iconst (v := 1) hE dX11_holdsLine_222 (by decide) ?_
                    refine r_goto (tgt := 227) hE dX11_holdsLine_223 (by decide) ?_
                    refine r_istore (ls2 := [(0, .ref 169), (1, .int (nI t)), (2, .int (nI ln)), (3, .int (nI x)), (4, .int (nI f)), (5, .int hl), (6, .int (nI (tp - 1))), (7, .int (nI i)), (8, .int (nI (q_n (D 170).1 (237 + 851 * t + 51 + 2 * i)))), (9, .int a), (10, .int b), (11, .int 1)]) hE dX11_holdsLine_227 (by decide) rfl ?_
                    refine r_aload_n hE dX11_holdsLine_229 rfl ?_
                    refine t_getr hE f_X11_40 y_R_169_17 dX11_holdsLine_230 (hL 169 (by decide)) ?_
                    refine r_iload hE dX11_holdsLine_233 rfl ?_
                    refine r_iconst (v := 1) hE dX11_holdsLine_235 (by decide) ?_
                    refine r_isubN (a := tp - 1) (b := 1) hE dX11_holdsLine_236 (by omega) ?_
                    refine r_iload hE dX11_holdsLine_237 rfl ?_
                    refine r_bipush (v := 11) hE dX11_holdsLine_239 (by decide) ?_
                    refine r_icmp_neN (a := q_n (D 170).1 (237 + 851 * t + 51 + 2 * i)) (b := 11) (tgt := 252) hE dX11_holdsLine_241 (by decide) (by omega) (by decide) (fun c241 => ?_) (fun c241 => ?_)
                    · refine r_iload hE dX11_holdsLine_252 rfl ?_
                      refine r_if_eq (tgt := 261) hE dX11_holdsLine_254 (by decide) (fun c254 => by first | exact absurd c254 (by decide) | exact absurd (by decide) c254) (fun _ => ?_)
                      refine r_iconst (v := 1) hE dX11_holdsLine_257 (by decide) ?_
                      refine r_goto (tgt := 262) hE dX11_holdsLine_258 (by decide) ?_
                      refine t_iastN (e := (tp - 1) - 1) hE y_A_177 dX11_holdsLine_262 (hL 177 (by decide)) (by omega) (by decide) ?_
                      refine r_iincN (a := i) (b := 1) (ls2 := [(0, .ref 169), (1, .int (nI t)), (2, .int (nI ln)), (3, .int (nI x)), (4, .int (nI f)), (5, .int hl), (6, .int (nI (tp - 1))), (7, .int (nI (i + 1))), (8, .int (nI (q_n (D 170).1 (237 + 851 * t + 51 + 2 * i)))), (9, .int a), (10, .int b), (11, .int 1)]) hE dX11_holdsLine_263 rfl rfl (by decide) rfl ?_
                      refine r_goto (tgt := 12) hE dX11_holdsLine_266 (by decide) ?_
                      first
                      | (exfalso; omega)
                      | (refine r_locs hE (ls2 := [(0, .ref 169), (1, .int (nI t)), (2, .int (nI ln)), (3, .int (nI x)), (4, .int (nI f)), (5, .int hl), (6, .int (nI (tp - 1))), (7, .int (nI (i + 1)))]) ?_ (ih (m_o (D 170).1 t ln 4 - (i + 1)) (by omega) (i + 1) (tp - 1) (1 :: r) _ rfl (by omega) (by show tp - 1 = r.length + 1; omega) (by omega) (by rw [← hg]; show e_s _ _ _ = e_s _ _ (e_1 _ _ _); unfold e_1; rw [if_neg (by show ¬ q_n (D 170).1 (237 + 851 * t + 51 + 2 * i) ≤ 10; omega), if_neg (by show ¬ q_n (D 170).1 (237 + 851 * t + 51 + 2 * i) = 14; omega)]; show e_s _ _ (1 :: r) = e_s _ _ (e_bin (q_n (D 170).1 (237 + 851 * t + 51 + 2 * i)) a b :: r); rw [show e_bin (q_n (D 170).1 (237 + 851 * t + 51 + 2 * i)) a b = 1 by simp only [e_bin, y_b]; grind]) (by rw [← g2]; exact congrArg _ (by rw [k9.2, hlr2]; rfl)) (by rw [hlr]; refine ⟨?_, ?_⟩; rw [y_si_1, if_pos rfl]; rw [y_si_s]; exact stk_up hs2 (by omega)) (y_o1_s fr))
                         simp [x_lk])
                    · refine r_iload hE dX11_holdsLine_244 rfl ?_
                      refine r_iload hE dX11_holdsLine_246 rfl ?_
                      refine r_iadd hE dX11_holdsLine_248 ?_
                      refine r_goto (tgt := 262) hE dX11_holdsLine_249 (by decide) ?_
                      refine t_iastN (e := (tp - 1) - 1) hE y_A_177 dX11_holdsLine_262 (hL 177 (by decide)) (by omega) (by decide) ?_
                      refine r_iincN (a := i) (b := 1) (ls2 := [(0, .ref 169), (1, .int (nI t)), (2, .int (nI ln)), (3, .int (nI x)), (4, .int (nI f)), (5, .int hl), (6, .int (nI (tp - 1))), (7, .int (nI (i + 1))), (8, .int (nI (q_n (D 170).1 (237 + 851 * t + 51 + 2 * i)))), (9, .int a), (10, .int b), (11, .int 1)]) hE dX11_holdsLine_263 rfl rfl (by decide) rfl ?_
                      refine r_goto (tgt := 12) hE dX11_holdsLine_266 (by decide) ?_
                      first
                      | (exfalso; omega)
                      | (refine r_locs hE (ls2 := [(0, .ref 169), (1, .int (nI t)), (2, .int (nI ln)), (3, .int (nI x)), (4, .int (nI f)), (5, .int hl), (6, .int (nI (tp - 1))), (7, .int (nI (i + 1)))]) ?_ (ih (m_o (D 170).1 t ln 4 - (i + 1)) (by omega) (i + 1) (tp - 1) ((a + b) :: r) _ rfl (by omega) (by show tp - 1 = r.length + 1; omega) (by omega) (by rw [← hg]; show e_s _ _ _ = e_s _ _ (e_1 _ _ _); unfold e_1; rw [if_neg (by show ¬ q_n (D 170).1 (237 + 851 * t + 51 + 2 * i) ≤ 10; omega), if_neg (by show ¬ q_n (D 170).1 (237 + 851 * t + 51 + 2 * i) = 14; omega)]; show e_s _ _ ((a + b) :: r) = e_s _ _ (e_bin (q_n (D 170).1 (237 + 851 * t + 51 + 2 * i)) a b :: r); rw [show e_bin (q_n (D 170).1 (237 + 851 * t + 51 + 2 * i)) a b = (a + b) by simp only [e_bin, y_b]; grind]) (by rw [← g2]; exact congrArg _ (by rw [k9.2, hlr2]; rfl)) (by rw [hlr]; refine ⟨?_, ?_⟩; rw [y_si_1, if_pos rfl]; rw [y_si_s]; exact stk_up hs2 (by omega)) (y_o1_s fr))
                         simp [x_lk])
                · refine r_iload hE dX11_holdsLine_197 rfl ?_
                  refine r_iload hE dX11_holdsLine_199 rfl ?_
                  refine r_iadd hE dX11_holdsLine_201 ?_
                  refine r_iconst (v := 2) hE dX11_holdsLine_202 (by decide) ?_
                  refine r_icmp_ne (tgt := 210) hE dX11_holdsLine_203 (by decide) (fun c203 => ?_) (fun c203 => ?_)
                  · refine r_iconst (v := 0) hE dX11_holdsLine_210 (by decide) ?_
                    refine r_goto (tgt := 227) hE dX11_holdsLine_211 (by decide) ?_
                    refine r_istore (ls2 := [(0, .ref 169), (1, .int (nI t)), (2, .int (nI ln)), (3, .int (nI x)), (4, .int (nI f)), (5, .int hl), (6, .int (nI (tp - 1))), (7, .int (nI i)), (8, .int (nI (q_n (D 170).1 (237 + 851 * t + 51 + 2 * i)))), (9, .int a), (10, .int b), (11, .int 0)]) hE dX11_holdsLine_227 (by decide) rfl ?_
                    refine r_aload_n hE dX11_holdsLine_229 rfl ?_
                    refine t_getr hE f_X11_40 y_R_169_17 dX11_holdsLine_230 (hL 169 (by decide)) ?_
                    refine r_iload hE dX11_holdsLine_233 rfl ?_
                    refine r_iconst (v := 1) hE dX11_holdsLine_235 (by decide) ?_
                    refine r_isubN (a := tp - 1) (b := 1) hE dX11_holdsLine_236 (by omega) ?_
                    refine r_iload hE dX11_holdsLine_237 rfl ?_
                    refine r_bipush (v := 11) hE dX11_holdsLine_239 (by decide) ?_
                    refine r_icmp_neN (a := q_n (D 170).1 (237 + 851 * t + 51 + 2 * i)) (b := 11) (tgt := 252) hE dX11_holdsLine_241 (by decide) (by omega) (by decide) (fun c241 => ?_) (fun c241 => ?_)
                    · refine r_iload hE dX11_holdsLine_252 rfl ?_
                      refine r_if_eq (tgt := 261) hE dX11_holdsLine_254 (by decide) (fun _ => ?_) (fun c254 => by first | exact absurd c254 (by decide) | exact absurd (by decide) c254)
                      refine r_iconst (v := 0) hE dX11_holdsLine_261 (by decide) ?_
                      refine t_iastN (e := (tp - 1) - 1) hE y_A_177 dX11_holdsLine_262 (hL 177 (by decide)) (by omega) (by decide) ?_
                      refine r_iincN (a := i) (b := 1) (ls2 := [(0, .ref 169), (1, .int (nI t)), (2, .int (nI ln)), (3, .int (nI x)), (4, .int (nI f)), (5, .int hl), (6, .int (nI (tp - 1))), (7, .int (nI (i + 1))), (8, .int (nI (q_n (D 170).1 (237 + 851 * t + 51 + 2 * i)))), (9, .int a), (10, .int b), (11, .int 0)]) hE dX11_holdsLine_263 rfl rfl (by decide) rfl ?_
                      refine r_goto (tgt := 12) hE dX11_holdsLine_266 (by decide) ?_
                      first
                      | (exfalso; omega)
                      | (refine r_locs hE (ls2 := [(0, .ref 169), (1, .int (nI t)), (2, .int (nI ln)), (3, .int (nI x)), (4, .int (nI f)), (5, .int hl), (6, .int (nI (tp - 1))), (7, .int (nI (i + 1)))]) ?_ (ih (m_o (D 170).1 t ln 4 - (i + 1)) (by omega) (i + 1) (tp - 1) (0 :: r) _ rfl (by omega) (by show tp - 1 = r.length + 1; omega) (by omega) (by rw [← hg]; show e_s _ _ _ = e_s _ _ (e_1 _ _ _); unfold e_1; rw [if_neg (by show ¬ q_n (D 170).1 (237 + 851 * t + 51 + 2 * i) ≤ 10; omega), if_neg (by show ¬ q_n (D 170).1 (237 + 851 * t + 51 + 2 * i) = 14; omega)]; show e_s _ _ (0 :: r) = e_s _ _ (e_bin (q_n (D 170).1 (237 + 851 * t + 51 + 2 * i)) a b :: r); rw [show e_bin (q_n (D 170).1 (237 + 851 * t + 51 + 2 * i)) a b = 0 by simp only [e_bin, y_b]; grind]) (by rw [← g2]; exact congrArg _ (by rw [k9.2, hlr2]; rfl)) (by rw [hlr]; refine ⟨?_, ?_⟩; rw [y_si_1, if_pos rfl]; rw [y_si_s]; exact stk_up hs2 (by omega)) (y_o1_s fr))
                         simp [x_lk])
                    · refine r_iload hE dX11_holdsLine_244 rfl ?_
                      refine r_iload hE dX11_holdsLine_246 rfl ?_
                      refine r_iadd hE dX11_holdsLine_248 ?_
                      refine r_goto (tgt := 262) hE dX11_holdsLine_249 (by decide) ?_
                      refine t_iastN (e := (tp - 1) - 1) hE y_A_177 dX11_holdsLine_262 (hL 177 (by decide)) (by omega) (by decide) ?_
                      refine r_iincN (a := i) (b := 1) (ls2 := [(0, .ref 169), (1, .int (nI t)), (2, .int (nI ln)), (3, .int (nI x)), (4, .int (nI f)), (5, .int hl), (6, .int (nI (tp - 1))), (7, .int (nI (i + 1))), (8, .int (nI (q_n (D 170).1 (237 + 851 * t + 51 + 2 * i)))), (9, .int a), (10, .int b), (11, .int 0)]) hE dX11_holdsLine_263 rfl rfl (by decide) rfl ?_
                      refine r_goto (tgt := 12) hE dX11_holdsLine_266 (by decide) ?_
                      first
                      | (exfalso; omega)
                      | (refine r_locs hE (ls2 := [(0, .ref 169), (1, .int (nI t)), (2, .int (nI ln)), (3, .int (nI x)), (4, .int (nI f)), (5, .int hl), (6, .int (nI (tp - 1))), (7, .int (nI (i + 1)))]) ?_ (ih (m_o (D 170).1 t ln 4 - (i + 1)) (by omega) (i + 1) (tp - 1) ((a + b) :: r) _ rfl (by omega) (by show tp - 1 = r.length + 1; omega) (by omega) (by rw [← hg]; show e_s _ _ _ = e_s _ _ (e_1 _ _ _); unfold e_1; rw [if_neg (by show ¬ q_n (D 170).1 (237 + 851 * t + 51 + 2 * i) ≤ 10; omega), if_neg (by show ¬ q_n (D 170).1 (237 + 851 * t + 51 + 2 * i) = 14; omega)]; show e_s _ _ ((a + b) :: r) = e_s _ _ (e_bin (q_n (D 170).1 (237 + 851 * t + 51 + 2 * i)) a b :: r); rw [show e_bin (q_n (D 170).1 (237 + 851 * t + 51 + 2 * i)) a b = (a + b) by simp only [e_bin, y_b]; grind]) (by rw [← g2]; exact congrArg _ (by rw [k9.2, hlr2]; rfl)) (by rw [hlr]; refine ⟨?_, ?_⟩; rw [y_si_1, if_pos rfl]; rw [y_si_s]; exact stk_up hs2 (by omega)) (y_o1_s fr))
                         simp [x_lk])
                  · refine r_iconst (v := 1) hE dX11_holdsLine_206 (by decide) ?_
                    refine r_goto (tgt := 227) hE dX11_holdsLine_207 (by decide) ?_
                    refine r_istore (ls2 := [(0, .ref 169), (1, .int (nI t)), (2, .int (nI ln)), (3, .int (nI x)), (4, .int (nI f)), (5, .int hl), (6, .int (nI (tp - 1))), (7, .int (nI i)), (8, .int (nI (q_n (D 170).1 (237 + 851 * t + 51 + 2 * i)))), (9, .int a), (10, .int b), (11, .int 1)]) hE dX11_holdsLine_227 (by decide) rfl ?_
                    refine r_aload_n hE dX11_holdsLine_229 rfl ?_
                    refine t_getr hE f_X11_40 y_R_169_17 dX11_holdsLine_230 (hL 169 (by decide)) ?_
                    refine r_iload hE dX11_holdsLine_233 rfl ?_
                    refine r_iconst (v := 1) hE dX11_holdsLine_235 (by decide) ?_
                    refine r_isubN (a := tp - 1) (b := 1) hE dX11_holdsLine_236 (by omega) ?_
                    refine r_iload hE dX11_holdsLine_237 rfl ?_
                    refine r_bipush (v := 11) hE dX11_holdsLine_239 (by decide) ?_
                    refine r_icmp_neN (a := q_n (D 170).1 (237 + 851 * t + 51 + 2 * i)) (b := 11) (tgt := 252) hE dX11_holdsLine_241 (by decide) (by omega) (by decide) (fun c241 => ?_) (fun c241 => ?_)
                    · refine r_iload hE dX11_holdsLine_252 rfl ?_
                      refine r_if_eq (tgt := 261) hE dX11_holdsLine_254 (by decide) (fun c254 => by first | exact absurd c254 (by decide) | exact absurd (by decide) c254) (fun _ => ?_)
                      refine r_iconst (v := 1) hE dX11_holdsLine_257 (by decide) ?_
                      refine r_goto (tgt := 262) hE dX11_holdsLine_258 (by decide) ?_
                      refine t_iastN (e := (tp - 1) - 1) hE y_A_177 dX11_holdsLine_262 (hL 177 (by decide)) (by omega) (by decide) ?_
                      refine r_iincN (a := i) (b := 1) (ls2 := [(0, .ref 169), (1, .int (nI t)), (2, .int (nI ln)), (3, .int (nI x)), (4, .int (nI f)), (5, .int hl), (6, .int (nI (tp - 1))), (7, .int (nI (i + 1))), (8, .int (nI (q_n (D 170).1 (237 + 851 * t + 51 + 2 * i)))), (9, .int a), (10, .int b), (11, .int 1)]) hE dX11_holdsLine_263 rfl rfl (by decide) rfl ?_
                      refine r_goto (tgt := 12) hE dX11_holdsLine_266 (by decide) ?_
                      first
                      | (exfalso; omega)
                      | (refine r_locs hE (ls2 := [(0, .ref 169), (1, .int (nI t)), (2, .int (nI ln)), (3, .int (nI x)), (4, .int (nI f)), (5, .int hl), (6, .int (nI (tp - 1))), (7, .int (nI (i + 1)))]) ?_ (ih (m_o (D 170).1 t ln 4 - (i + 1)) (by omega) (i + 1) (tp - 1) (1 :: r) _ rfl (by omega) (by show tp - 1 = r.length + 1; omega) (by omega) (by rw [← hg]; show e_s _ _ _ = e_s _ _ (e_1 _ _ _); unfold e_1; rw [if_neg (by show ¬ q_n (D 170).1 (237 + 851 * t + 51 + 2 * i) ≤ 10; omega), if_neg (by show ¬ q_n (D 170).1 (237 + 851 * t + 51 + 2 * i) = 14; omega)]; show e_s _ _ (1 :: r) = e_s _ _ (e_bin (q_n (D 170).1 (237 + 851 * t + 51 + 2 * i)) a b :: r); rw [show e_bin (q_n (D 170).1 (237 + 851 * t + 51 + 2 * i)) a b = 1 by simp only [e_bin, y_b]; grind]) (by rw [← g2]; exact congrArg _ (by rw [k9.2, hlr2]; rfl)) (by rw [hlr]; refine ⟨?_, ?_⟩; rw [y_si_1, if_pos rfl]; rw [y_si_s]; exact stk_up hs2 (by omega)) (y_o1_s fr))
                         simp [x_lk])
                    · refine r_iload hE dX11_holdsLine_244 rfl ?_
                      refine r_iload hE dX11_holdsLine_246 rfl ?_
                      refine r_iadd hE dX11_holdsLine_248 ?_
                      refine r_goto (tgt := 262) hE dX11_holdsLine_249 (by decide) ?_
                      refine t_iastN (e := (tp - 1) - 1) hE y_A_177 dX11_holdsLine_262 (hL 177 (by decide)) (by omega) (by decide) ?_
                      refine r_iincN (a := i) (b := 1) (ls2 := [(0, .ref 169), (1, .int (nI t)), (2, .int (nI ln)), (3, .int (nI x)), (4, .int (nI f)), (5, .int hl), (6, .int (nI (tp - 1))), (7, .int (nI (i + 1))), (8, .int (nI (q_n (D 170).1 (237 + 851 * t + 51 + 2 * i)))), (9, .int a), (10, .int b), (11, .int 1)]) hE dX11_holdsLine_263 rfl rfl (by decide) rfl ?_
                      refine r_goto (tgt := 12) hE dX11_holdsLine_266 (by decide) ?_
                      first
                      | (exfalso; omega)
                      | (refine r_locs hE (ls2 := [(0, .ref 169), (1, .int (nI t)), (2, .int (nI ln)), (3, .int (nI x)), (4, .int (nI f)), (5, .int hl), (6, .int (nI (tp - 1))), (7, .int (nI (i + 1)))]) ?_ (ih (m_o (D 170).1 t ln 4 - (i + 1)) (by omega) (i + 1) (tp - 1) ((a + b) :: r) _ rfl (by omega) (by show tp - 1 = r.length + 1; omega) (by omega) (by rw [← hg]; show e_s _ _ _ = e_s _ _ (e_1 _ _ _); unfold e_1; rw [if_neg (by show ¬ q_n (D 170).1 (237 + 851 * t + 51 + 2 * i) ≤ 10; omega), if_neg (by show ¬ q_n (D 170).1 (237 + 851 * t + 51 + 2 * i) = 14; omega)]; show e_s _ _ ((a + b) :: r) = e_s _ _ (e_bin (q_n (D 170).1 (237 + 851 * t + 51 + 2 * i)) a b :: r); rw [show e_bin (q_n (D 170).1 (237 + 851 * t + 51 + 2 * i)) a b = (a + b) by simp only [e_bin, y_b]; grind]) (by rw [← g2]; exact congrArg _ (by rw [k9.2, hlr2]; rfl)) (by rw [hlr]; refine ⟨?_, ?_⟩; rw [y_si_1, if_pos rfl]; rw [y_si_s]; exact stk_up hs2 (by omega)) (y_o1_s fr))
                         simp [x_lk])
              · refine r_iload hE dX11_holdsLine_175 rfl ?_
                refine r_iload hE dX11_holdsLine_177 rfl ?_
                refine r_icmp_le (tgt := 186) hE dX11_holdsLine_179 (by decide) (fun c179 => ?_) (fun c179 => ?_)
                · refine r_iconst (v := 0) hE dX11_holdsLine_186 (by decide) ?_
                  refine r_goto (tgt := 227) hE dX11_holdsLine_187 (by decide) ?_
                  refine r_istore (ls2 := [(0, .ref 169), (1, .int (nI t)), (2, .int (nI ln)), (3, .int (nI x)), (4, .int (nI f)), (5, .int hl), (6, .int (nI (tp - 1))), (7, .int (nI i)), (8, .int (nI (q_n (D 170).1 (237 + 851 * t + 51 + 2 * i)))), (9, .int a), (10, .int b), (11, .int 0)]) hE dX11_holdsLine_227 (by decide) rfl ?_
                  refine r_aload_n hE dX11_holdsLine_229 rfl ?_
                  refine t_getr hE f_X11_40 y_R_169_17 dX11_holdsLine_230 (hL 169 (by decide)) ?_
                  refine r_iload hE dX11_holdsLine_233 rfl ?_
                  refine r_iconst (v := 1) hE dX11_holdsLine_235 (by decide) ?_
                  refine r_isubN (a := tp - 1) (b := 1) hE dX11_holdsLine_236 (by omega) ?_
                  refine r_iload hE dX11_holdsLine_237 rfl ?_
                  refine r_bipush (v := 11) hE dX11_holdsLine_239 (by decide) ?_
                  refine r_icmp_neN (a := q_n (D 170).1 (237 + 851 * t + 51 + 2 * i)) (b := 11) (tgt := 252) hE dX11_holdsLine_241 (by decide) (by omega) (by decide) (fun c241 => ?_) (fun c241 => ?_)
                  · refine r_iload hE dX11_holdsLine_252 rfl ?_
                    refine r_if_eq (tgt := 261) hE dX11_holdsLine_254 (by decide) (fun _ => ?_) (fun c254 => by first | exact absurd c254 (by decide) | exact absurd (by decide) c254)
                    refine r_iconst (v := 0) hE dX11_holdsLine_261 (by decide) ?_
                    refine t_iastN (e := (tp - 1) - 1) hE y_A_177 dX11_holdsLine_262 (hL 177 (by decide)) (by omega) (by decide) ?_
                    refine r_iincN (a := i) (b := 1) (ls2 := [(0, .ref 169), (1, .int (nI t)), (2, .int (nI ln)), (3, .int (nI x)), (4, .int (nI f)), (5, .int hl), (6, .int (nI (tp - 1))), (7, .int (nI (i + 1))), (8, .int (nI (q_n (D 170).1 (237 + 851 * t + 51 + 2 * i)))), (9, .int a), (10, .int b), (11, .int 0)]) hE dX11_holdsLine_263 rfl rfl (by decide) rfl ?_
                    refine r_goto (tgt := 12) hE dX11_holdsLine_266 (by decide) ?_
                    first
                    | (exfalso; omega)
                    | (refine r_locs hE (ls2 := [(0, .ref 169), (1, .int (nI t)), (2, .int (nI ln)), (3, .int (nI x)), (4, .int (nI f)), (5, .int hl), (6, .int (nI (tp - 1))), (7, .int (nI (i + 1)))]) ?_ (ih (m_o (D 170).1 t ln 4 - (i + 1)) (by omega) (i + 1) (tp - 1) (0 :: r) _ rfl (by omega) (by show tp - 1 = r.length + 1; omega) (by omega) (by rw [← hg]; show e_s _ _ _ = e_s _ _ (e_1 _ _ _); unfold e_1; rw [if_neg (by show ¬ q_n (D 170).1 (237 + 851 * t + 51 + 2 * i) ≤ 10; omega), if_neg (by show ¬ q_n (D 170).1 (237 + 851 * t + 51 + 2 * i) = 14; omega)]; show e_s _ _ (0 :: r) = e_s _ _ (e_bin (q_n (D 170).1 (237 + 851 * t + 51 + 2 * i)) a b :: r); rw [show e_bin (q_n (D 170).1 (237 + 851 * t + 51 + 2 * i)) a b = 0 by simp only [e_bin, y_b]; grind]) (by rw [← g2]; exact congrArg _ (by rw [k9.2, hlr2]; rfl)) (by rw [hlr]; refine ⟨?_, ?_⟩; rw [y_si_1, if_pos rfl]; rw [y_si_s]; exact stk_up hs2 (by omega)) (y_o1_s fr))
                       simp [x_lk])
                  · refine r_iload hE dX11_holdsLine_244 rfl ?_
                    refine r_iload hE dX11_holdsLine_246 rfl ?_
                    refine r_iadd hE dX11_holdsLine_248 ?_
                    refine r_goto (tgt := 262) hE dX11_holdsLine_249 (by decide) ?_
                    refine t_iastN (e := (tp - 1) - 1) hE y_A_177 dX11_holdsLine_262 (hL 177 (by decide)) (by omega) (by decide) ?_
                    refine r_iincN (a := i) (b := 1) (ls2 := [(0, .ref 169), (1, .int (nI t)), (2, .int (nI ln)), (3, .int (nI x)), (4, .int (nI f)), (5, .int hl), (6, .int (nI (tp - 1))), (7, .int (nI (i + 1))), (8, .int (nI (q_n (D 170).1 (237 + 851 * t + 51 + 2 * i)))), (9, .int a), (10, .int b), (11, .int 0)]) hE dX11_holdsLine_263 rfl rfl (by decide) rfl ?_
                    refine r_goto (tgt := 12) hE dX11_holdsLine_266 (by decide) ?_
                    first
                    | (exfalso; omega)
                    | (refine r_locs hE (ls2 := [(0, .ref 169), (1, .int (nI t)), (2, .int (nI ln)), (3, .int (nI x)), (4, .int (nI f)), (5, .int hl), (6, .int (nI (tp - 1))), (7, .int (nI (i + 1)))]) ?_ (ih (m_o (D 170).1 t ln 4 - (i + 1)) (by omega) (i + 1) (tp - 1) ((a + b) :: r) _ rfl (by omega) (by show tp - 1 = r.length + 1; omega) (by omega) (by rw [← hg]; show e_s _ _ _ = e_s _ _ (e_1 _ _ _); unfold e_1; rw [if_neg (by show ¬ q_n (D 170).1 (237 + 851 * t + 51 + 2 * i) ≤ 10; omega), if_neg (by show ¬ q_n (D 170).1 (237 + 851 * t + 51 + 2 * i) = 14; omega)]; show e_s _ _ ((a + b) :: r) = e_s _ _ (e_bin (q_n (D 170).1 (237 + 851 * t + 51 + 2 * i)) a b :: r); rw [show e_bin (q_n (D 170).1 (237 + 851 * t + 51 + 2 * i)) a b = (a + b) by simp only [e_bin, y_b]; grind]) (by rw [← g2]; exact congrArg _ (by rw [k9.2, hlr2]; rfl)) (by rw [hlr]; refine ⟨?_, ?_⟩; rw [y_si_1, if_pos rfl]; rw [y_si_s]; exact stk_up hs2 (by omega)) (y_o1_s fr))
                       simp [x_lk])
                · refine r_iconst (v := 1) hE dX11_holdsLine_182 (by decide) ?_
                  refine r_goto (tgt := 227) hE dX11_holdsLine_183 (by decide) ?_
                  refine r_istore (ls2 := [(0, .ref 169), (1, .int (nI t)), (2, .int (nI ln)), (3, .int (nI x)), (4, .int (nI f)), (5, .int hl), (6, .int (nI (tp - 1))), (7, .int (nI i)), (8, .int (nI (q_n (D 170).1 (237 + 851 * t + 51 + 2 * i)))), (9, .int a), (10, .int b), (11, .int 1)]) hE dX11_holdsLine_227 (by decide) rfl ?_
                  refine r_aload_n hE dX11_holdsLine_229 rfl ?_
                  refine t_getr hE f_X11_40 y_R_169_17 dX11_holdsLine_230 (hL 169 (by decide)) ?_
                  refine r_iload hE dX11_holdsLine_233 rfl ?_
                  refine r_iconst (v := 1) hE dX11_holdsLine_235 (by decide) ?_
                  refine r_isubN (a := tp - 1) (b := 1) hE dX11_holdsLine_236 (by omega) ?_
                  refine r_iload hE dX11_holdsLine_237 rfl ?_
                  refine r_bipush (v := 11) hE dX11_holdsLine_239 (by decide) ?_
                  refine r_icmp_neN (a := q_n (D 170).1 (237 + 851 * t + 51 + 2 * i)) (b := 11) (tgt := 252) hE dX11_holdsLine_241 (by decide) (by omega) (by decide) (fun c241 => ?_) (fun c241 => ?_)
                  · refine r_iload hE dX11_holdsLine_252 rfl ?_
                    refine r_if_eq (tgt := 261) hE dX11_holdsLine_254 (by decide) (fun c254 => by first | exact absurd c254 (by decide) | exact absurd (by decide) c254) (fun _ => ?_)
                    refine r_iconst (v := 1) hE dX11_holdsLine_257 (by decide) ?_
                    refine r_goto (tgt := 262) hE dX11_holdsLine_258 (by decide) ?_
                    refine t_iastN (e := (tp - 1) - 1) hE y_A_177 dX11_holdsLine_262 (hL 177 (by decide)) (by omega) (by decide) ?_
                    refine r_iincN (a := i) (b := 1) (ls2 := [(0, .ref 169), (1, .int (nI t)), (2, .int (nI ln)), (3, .int (nI x)), (4, .int (nI f)), (5, .int hl), (6, .int (nI (tp - 1))), (7, .int (nI (i + 1))), (8, .int (nI (q_n (D 170).1 (237 + 851 * t + 51 + 2 * i)))), (9, .int a), (10, .int b), (11, .int 1)]) hE dX11_holdsLine_263 rfl rfl (by decide) rfl ?_
                    refine r_goto (tgt := 12) hE dX11_holdsLine_266 (by decide) ?_
                    first
                    | (exfalso; omega)
                    | (refine r_locs hE (ls2 := [(0, .ref 169), (1, .int (nI t)), (2, .int (nI ln)), (3, .int (nI x)), (4, .int (nI f)), (5, .int hl), (6, .int (nI (tp - 1))), (7, .int (nI (i + 1)))]) ?_ (ih (m_o (D 170).1 t ln 4 - (i + 1)) (by omega) (i + 1) (tp - 1) (1 :: r) _ rfl (by omega) (by show tp - 1 = r.length + 1; omega) (by omega) (by rw [← hg]; show e_s _ _ _ = e_s _ _ (e_1 _ _ _); unfold e_1; rw [if_neg (by show ¬ q_n (D 170).1 (237 + 851 * t + 51 + 2 * i) ≤ 10; omega), if_neg (by show ¬ q_n (D 170).1 (237 + 851 * t + 51 + 2 * i) = 14; omega)]; show e_s _ _ (1 :: r) = e_s _ _ (e_bin (q_n (D 170).1 (237 + 851 * t + 51 + 2 * i)) a b :: r); rw [show e_bin (q_n (D 170).1 (237 + 851 * t + 51 + 2 * i)) a b = 1 by simp only [e_bin, y_b]; grind]) (by rw [← g2]; exact congrArg _ (by rw [k9.2, hlr2]; rfl)) (by rw [hlr]; refine ⟨?_, ?_⟩; rw [y_si_1, if_pos rfl]; rw [y_si_s]; exact stk_up hs2 (by omega)) (y_o1_s fr))
                       simp [x_lk])
                  · refine r_iload hE dX11_holdsLine_244 rfl ?_
                    refine r_iload hE dX11_holdsLine_246 rfl ?_
                    refine r_iadd hE dX11_holdsLine_248 ?_
                    refine r_goto (tgt := 262) hE dX11_holdsLine_249 (by decide) ?_
                    refine t_iastN (e := (tp - 1) - 1) hE y_A_177 dX11_holdsLine_262 (hL 177 (by decide)) (by omega) (by decide) ?_
                    refine r_iincN (a := i) (b := 1) (ls2 := [(0, .ref 169), (1, .int (nI t)), (2, .int (nI ln)), (3, .int (nI x)), (4, .int (nI f)), (5, .int hl), (6, .int (nI (tp - 1))), (7, .int (nI (i + 1))), (8, .int (nI (q_n (D 170).1 (237 + 851 * t + 51 + 2 * i)))), (9, .int a), (10, .int b), (11, .int 1)]) hE dX11_holdsLine_263 rfl rfl (by decide) rfl ?_
                    refine r_goto (tgt := 12) hE dX11_holdsLine_266 (by decide) ?_
                    first
                    | (exfalso; omega)
                    | (refine r_locs hE (ls2 := [(0, .ref 169), (1, .int (nI t)), (2, .int (nI ln)), (3, .int (nI x)), (4, .int (nI f)), (5, .int hl), (6, .int (nI (tp - 1))), (7, .int (nI (i + 1)))]) ?_ (ih (m_o (D 170).1 t ln 4 - (i + 1)) (by omega) (i + 1) (tp - 1) ((a + b) :: r) _ rfl (by omega) (by show tp - 1 = r.length + 1; omega) (by omega) (by rw [← hg]; show e_s _ _ _ = e_s _ _ (e_1 _ _ _); unfold e_1; rw [if_neg (by show ¬ q_n (D 170).1 (237 + 851 * t + 51 + 2 * i) ≤ 10; omega), if_neg (by show ¬ q_n (D 170).1 (237 + 851 * t + 51 + 2 * i) = 14; omega)]; show e_s _ _ ((a + b) :: r) = e_s _ _ (e_bin (q_n (D 170).1 (237 + 851 * t + 51 + 2 * i)) a b :: r); rw [show e_bin (q_n (D 170).1 (237 + 851 * t + 51 + 2 * i)) a b = (a + b) by simp only [e_bin, y_b]; grind]) (by rw [← g2]; exact congrArg _ (by rw [k9.2, hlr2]; rfl)) (by rw [hlr]; refine ⟨?_, ?_⟩; rw [y_si_1, if_pos rfl]; rw [y_si_s]; exact stk_up hs2 (by omega)) (y_o1_s fr))
                       simp [x_lk])
            · refine r_iload hE dX11_holdsLine_153 rfl ?_
              refine r_iload hE dX11_holdsLine_155 rfl ?_
              refine r_icmp_ge (tgt := 164) hE dX11_holdsLine_157 (by decide) (fun c157 => ?_) (fun c157 => ?_)
              · refine r_iconst (v := 0) hE dX11_holdsLine_164 (by decide) ?_
                refine r_goto (tgt := 227) hE dX11_holdsLine_165 (by decide) ?_
                refine r_istore (ls2 := [(0, .ref 169), (1, .int (nI t)), (2, .int (nI ln)), (3, .int (nI x)), (4, .int (nI f)), (5, .int hl), (6, .int (nI (tp - 1))), (7, .int (nI i)), (8, .int (nI (q_n (D 170).1 (237 + 851 * t + 51 + 2 * i)))), (9, .int a), (10, .int b), (11, .int 0)]) hE dX11_holdsLine_227 (by decide) rfl ?_
                refine r_aload_n hE dX11_holdsLine_229 rfl ?_
                refine t_getr hE f_X11_40 y_R_169_17 dX11_holdsLine_230 (hL 169 (by decide)) ?_
                refine r_iload hE dX11_holdsLine_233 rfl ?_
                refine r_iconst (v := 1) hE dX11_holdsLine_235 (by decide) ?_
                refine r_isubN (a := tp - 1) (b := 1) hE dX11_holdsLine_236 (by omega) ?_
                refine r_iload hE dX11_holdsLine_237 rfl ?_
                refine r_bipush (v := 11) hE dX11_holdsLine_239 (by decide) ?_
                refine r_icmp_neN (a := q_n (D 170).1 (237 + 851 * t + 51 + 2 * i)) (b := 11) (tgt := 252) hE dX11_holdsLine_241 (by decide) (by omega) (by decide) (fun c241 => ?_) (fun c241 => ?_)
                · refine r_iload hE dX11_holdsLine_252 rfl ?_
                  refine r_if_eq (tgt := 261) hE dX11_holdsLine_254 (by decide) (fun _ => ?_) (fun c254 => by first | exact absurd c254 (by decide) | exact absurd (by decide) c254)
                  refine r_iconst (v := 0) hE dX11_holdsLine_261 (by decide) ?_
                  refine t_iastN (e := (tp - 1) - 1) hE y_A_177 dX11_holdsLine_262 (hL 177 (by decide)) (by omega) (by decide) ?_
                  refine r_iincN (a := i) (b := 1) (ls2 := [(0, .ref 169), (1, .int (nI t)), (2, .int (nI ln)), (3, .int (nI x)), (4, .int (nI f)), (5, .int hl), (6, .int (nI (tp - 1))), (7, .int (nI (i + 1))), (8, .int (nI (q_n (D 170).1 (237 + 851 * t + 51 + 2 * i)))), (9, .int a), (10, .int b), (11, .int 0)]) hE dX11_holdsLine_263 rfl rfl (by decide) rfl ?_
                  refine r_goto (tgt := 12) hE dX11_holdsLine_266 (by decide) ?_
                  first
                  | (exfalso; omega)
                  | (refine r_locs hE (ls2 := [(0, .ref 169), (1, .int (nI t)), (2, .int (nI ln)), (3, .int (nI x)), (4, .int (nI f)), (5, .int hl), (6, .int (nI (tp - 1))), (7, .int (nI (i + 1)))]) ?_ (ih (m_o (D 170).1 t ln 4 - (i + 1)) (by omega) (i + 1) (tp - 1) (0 :: r) _ rfl (by omega) (by show tp - 1 = r.length + 1; omega) (by omega) (by rw [← hg]; show e_s _ _ _ = e_s _ _ (e_1 _ _ _); unfold e_1; rw [if_neg (by show ¬ q_n (D 170).1 (237 + 851 * t + 51 + 2 * i) ≤ 10; omega), if_neg (by show ¬ q_n (D 170).1 (237 + 851 * t + 51 + 2 * i) = 14; omega)]; show e_s _ _ (0 :: r) = e_s _ _ (e_bin (q_n (D 170).1 (237 + 851 * t + 51 + 2 * i)) a b :: r); rw [show e_bin (q_n (D 170).1 (237 + 851 * t + 51 + 2 * i)) a b = 0 by simp only [e_bin, y_b]; grind]) (by rw [← g2]; exact congrArg _ (by rw [k9.2, hlr2]; rfl)) (by rw [hlr]; refine ⟨?_, ?_⟩; rw [y_si_1, if_pos rfl]; rw [y_si_s]; exact stk_up hs2 (by omega)) (y_o1_s fr))
                     simp [x_lk])
                · refine r_iload hE dX11_holdsLine_244 rfl ?_
                  refine r_iload hE dX11_holdsLine_246 rfl ?_
                  refine r_iadd hE dX11_holdsLine_248 ?_
                  refine r_goto (tgt := 262) hE dX11_holdsLine_249 (by decide) ?_
                  refine t_iastN (e := (tp - 1) - 1) hE y_A_177 dX11_holdsLine_262 (hL 177 (by decide)) (by omega) (by decide) ?_
                  refine r_iincN (a := i) (b := 1) (ls2 := [(0, .ref 169), (1, .int (nI t)), (2, .int (nI ln)), (3, .int (nI x)), (4, .int (nI f)), (5, .int hl), (6, .int (nI (tp - 1))), (7, .int (nI (i + 1))), (8, .int (nI (q_n (D 170).1 (237 + 851 * t + 51 + 2 * i)))), (9, .int a), (10, .int b), (11, .int 0)]) hE dX11_holdsLine_263 rfl rfl (by decide) rfl ?_
                  refine r_goto (tgt := 12) hE dX11_holdsLine_266 (by decide) ?_
                  first
                  | (exfalso; omega)
                  | (refine r_locs hE (ls2 := [(0, .ref 169), (1, .int (nI t)), (2, .int (nI ln)), (3, .int (nI x)), (4, .int (nI f)), (5, .int hl), (6, .int (nI (tp - 1))), (7, .int (nI (i + 1)))]) ?_ (ih (m_o (D 170).1 t ln 4 - (i + 1)) (by omega) (i + 1) (tp - 1) ((a + b) :: r) _ rfl (by omega) (by show tp - 1 = r.length + 1; omega) (by omega) (by rw [← hg]; show e_s _ _ _ = e_s _ _ (e_1 _ _ _); unfold e_1; rw [if_neg (by show ¬ q_n (D 170).1 (237 + 851 * t + 51 + 2 * i) ≤ 10; omega), if_neg (by show ¬ q_n (D 170).1 (237 + 851 * t + 51 + 2 * i) = 14; omega)]; show e_s _ _ ((a + b) :: r) = e_s _ _ (e_bin (q_n (D 170).1 (237 + 851 * t + 51 + 2 * i)) a b :: r); rw [show e_bin (q_n (D 170).1 (237 + 851 * t + 51 + 2 * i)) a b = (a + b) by simp only [e_bin, y_b]; grind]) (by rw [← g2]; exact congrArg _ (by rw [k9.2, hlr2]; rfl)) (by rw [hlr]; refine ⟨?_, ?_⟩; rw [y_si_1, if_pos rfl]; rw [y_si_s]; exact stk_up hs2 (by omega)) (y_o1_s fr))
                     simp [x_lk])
              · refine r_iconst (v := 1) hE dX11_holdsLine_160 (by decide) ?_
                refine r_goto (tgt := 227) hE dX11_holdsLine_161 (by decide) ?_
                refine r_istore (ls2 := [(0, .ref 169), (1, .int (nI t)), (2, .int (nI ln)), (3, .int (nI x)), (4, .int (nI f)), (5, .int hl), (6, .int (nI (tp - 1))), (7, .int (nI i)), (8, .int (nI (q_n (D 170).1 (237 + 851 * t + 51 + 2 * i)))), (9, .int a), (10, .int b), (11, .int 1)]) hE dX11_holdsLine_227 (by decide) rfl ?_
                refine r_aload_n hE dX11_holdsLine_229 rfl ?_
                refine t_getr hE f_X11_40 y_R_169_17 dX11_holdsLine_230 (hL 169 (by decide)) ?_
                refine r_iload hE dX11_holdsLine_233 rfl ?_
                refine r_iconst (v := 1) hE dX11_holdsLine_235 (by decide) ?_
                refine r_isubN (a := tp - 1) (b := 1) hE dX11_holdsLine_236 (by omega) ?_
                refine r_iload hE dX11_holdsLine_237 rfl ?_
                refine r_bipush (v := 11) hE dX11_holdsLine_239 (by decide) ?_
                refine r_icmp_neN (a := q_n (D 170).1 (237 + 851 * t + 51 + 2 * i)) (b := 11) (tgt := 252) hE dX11_holdsLine_241 (by decide) (by omega) (by decide) (fun c241 => ?_) (fun c241 => ?_)
                · refine r_iload hE dX11_holdsLine_252 rfl ?_
                  refine r_if_eq (tgt := 261) hE dX11_holdsLine_254 (by decide) (fun c254 => by first | exact absurd c254 (by decide) | exact absurd (by decide) c254) (fun _ => ?_)
                  refine r_iconst (v := 1) hE dX11_holdsLine_257 (by decide) ?_
                  refine r_goto (tgt := 262) hE dX11_holdsLine_258 (by decide) ?_
                  refine t_iastN (e := (tp - 1) - 1) hE y_A_177 dX11_holdsLine_262 (hL 177 (by decide)) (by omega) (by decide) ?_
                  refine r_iincN (a := i) (b := 1) (ls2 := [(0, .ref 169), (1, .int (nI t)), (2, .int (nI ln)), (3, .int (nI x)), (4, .int (nI f)), (5, .int hl), (6, .int (nI (tp - 1))), (7, .int (nI (i + 1))), (8, .int (nI (q_n (D 170).1 (237 + 851 * t + 51 + 2 * i)))), (9, .int a), (10, .int b), (11, .int 1)]) hE dX11_holdsLine_263 rfl rfl (by decide) rfl ?_
                  refine r_goto (tgt := 12) hE dX11_holdsLine_266 (by decide) ?_
                  first
                  | (exfalso; omega)
                  | (refine r_locs hE (ls2 := [(0, .ref 169), (1, .int (nI t)), (2, .int (nI ln)), (3, .int (nI x)), (4, .int (nI f)), (5, .int hl), (6, .int (nI (tp - 1))), (7, .int (nI (i + 1)))]) ?_ (ih (m_o (D 170).1 t ln 4 - (i + 1)) (by omega) (i + 1) (tp - 1) (1 :: r) _ rfl (by omega) (by show tp - 1 = r.length + 1; omega) (by omega) (by rw [← hg]; show e_s _ _ _ = e_s _ _ (e_1 _ _ _); unfold e_1; rw [if_neg (by show ¬ q_n (D 170).1 (237 + 851 * t + 51 + 2 * i) ≤ 10; omega), if_neg (by show ¬ q_n (D 170).1 (237 + 851 * t + 51 + 2 * i) = 14; omega)]; show e_s _ _ (1 :: r) = e_s _ _ (e_bin (q_n (D 170).1 (237 + 851 * t + 51 + 2 * i)) a b :: r); rw [show e_bin (q_n (D 170).1 (237 + 851 * t + 51 + 2 * i)) a b = 1 by simp only [e_bin, y_b]; grind]) (by rw [← g2]; exact congrArg _ (by rw [k9.2, hlr2]; rfl)) (by rw [hlr]; refine ⟨?_, ?_⟩; rw [y_si_1, if_pos rfl]; rw [y_si_s]; exact stk_up hs2 (by omega)) (y_o1_s fr))
                     simp [x_lk])
                · refine r_iload hE dX11_holdsLine_244 rfl ?_
                  refine r_iload hE dX11_holdsLine_246 rfl ?_
                  refine r_iadd hE dX11_holdsLine_248 ?_
                  refine r_goto (tgt := 262) hE dX11_holdsLine_249 (by decide) ?_
                  refine t_iastN (e := (tp - 1) - 1) hE y_A_177 dX11_holdsLine_262 (hL 177 (by decide)) (by omega) (by decide) ?_
                  refine r_iincN (a := i) (b := 1) (ls2 := [(0, .ref 169), (1, .int (nI t)), (2, .int (nI ln)), (3, .int (nI x)), (4, .int (nI f)), (5, .int hl), (6, .int (nI (tp - 1))), (7, .int (nI (i + 1))), (8, .int (nI (q_n (D 170).1 (237 + 851 * t + 51 + 2 * i)))), (9, .int a), (10, .int b), (11, .int 1)]) hE dX11_holdsLine_263 rfl rfl (by decide) rfl ?_
                  refine r_goto (tgt := 12) hE dX11_holdsLine_266 (by decide) ?_
                  first
                  | (exfalso; omega)
                  | (refine r_locs hE (ls2 := [(0, .ref 169), (1, .int (nI t)), (2, .int (nI ln)), (3, .int (nI x)), (4, .int (nI f)), (5, .int hl), (6, .int (nI (tp - 1))), (7, .int (nI (i + 1)))]) ?_ (ih (m_o (D 170).1 t ln 4 - (i + 1)) (by omega) (i + 1) (tp - 1) ((a + b) :: r) _ rfl (by omega) (by show tp - 1 = r.length + 1; omega) (by omega) (by rw [← hg]; show e_s _ _ _ = e_s _ _ (e_1 _ _ _); unfold e_1; rw [if_neg (by show ¬ q_n (D 170).1 (237 + 851 * t + 51 + 2 * i) ≤ 10; omega), if_neg (by show ¬ q_n (D 170).1 (237 + 851 * t + 51 + 2 * i) = 14; omega)]; show e_s _ _ ((a + b) :: r) = e_s _ _ (e_bin (q_n (D 170).1 (237 + 851 * t + 51 + 2 * i)) a b :: r); rw [show e_bin (q_n (D 170).1 (237 + 851 * t + 51 + 2 * i)) a b = (a + b) by simp only [e_bin, y_b]; grind]) (by rw [← g2]; exact congrArg _ (by rw [k9.2, hlr2]; rfl)) (by rw [hlr]; refine ⟨?_, ?_⟩; rw [y_si_1, if_pos rfl]; rw [y_si_s]; exact stk_up hs2 (by omega)) (y_o1_s fr))
                     simp [x_lk])
          · have k9 : 1 ≤ tp ∧ h2 = tp := by
              unfold e_h1 at g1
              rw [if_neg (by show ¬ q_n (D 170).1 (237 + 851 * t + 51 + 2 * i) ≤ 10; omega), if_pos (by show q_n (D 170).1 (237 + 851 * t + 51 + 2 * i) = 14; omega), ← htp] at g1
              by_cases c : 1 ≤ tp
              · rw [if_pos c] at g1; cases g1; exact ⟨c, rfl⟩
              · rw [if_neg c] at g1; cases g1
            obtain ⟨a, r, hl9⟩ := e_len1 (l := l) (by omega)
            rw [hl9] at hsk htp hg
            have hlr : tp - 1 = r.length := by rw [htp]; rfl
            obtain ⟨hs1, hs2⟩ := hsk
            refine r_aload_n hE dX11_holdsLine_100 rfl ?_
            refine t_getr hE f_X11_40 y_R_169_17 dX11_holdsLine_101 (hL 169 (by decide)) ?_
            refine r_iload hE dX11_holdsLine_104 rfl ?_
            refine r_iconst (v := 1) hE dX11_holdsLine_106 (by decide) ?_
            refine r_isubN (a := tp) (b := 1) hE dX11_holdsLine_107 (by omega) ?_
            refine r_iconst (v := 1) hE dX11_holdsLine_108 (by decide) ?_
            refine r_aload_n hE dX11_holdsLine_109 rfl ?_
            refine t_getr hE f_X11_40 y_R_169_17 dX11_holdsLine_110 (hL 169 (by decide)) ?_
            refine r_iload hE dX11_holdsLine_113 rfl ?_
            refine r_iconst (v := 1) hE dX11_holdsLine_115 (by decide) ?_
            refine r_isubN (a := tp) (b := 1) hE dX11_holdsLine_116 (by omega) ?_
            refine t_ialdN (e := tp - 1) hE y_A_177 dX11_holdsLine_117 (hL 177 (by decide)) (by omega) (by decide) ?_
            refine r_top (y := a) (by rw [hlr]; exact hs1) ?_
            refine r_isub hE dX11_holdsLine_118 ?_
            refine t_iastN (e := tp - 1) hE y_A_177 dX11_holdsLine_119 (hL 177 (by decide)) (by omega) (by decide) ?_
            refine r_goto (tgt := 263) hE dX11_holdsLine_120 (by decide) ?_
            refine r_iincN (a := i) (b := 1) (ls2 := [(0, .ref 169), (1, .int (nI t)), (2, .int (nI ln)), (3, .int (nI x)), (4, .int (nI f)), (5, .int hl), (6, .int (nI tp)), (7, .int (nI (i + 1))), (8, .int (nI (q_n (D 170).1 (237 + 851 * t + 51 + 2 * i))))]) hE dX11_holdsLine_263 rfl rfl (by decide) rfl ?_
            refine r_goto (tgt := 12) hE dX11_holdsLine_266 (by decide) ?_
            first
            | (exfalso; omega)
            | (refine r_locs hE (ls2 := [(0, .ref 169), (1, .int (nI t)), (2, .int (nI ln)), (3, .int (nI x)), (4, .int (nI f)), (5, .int hl), (6, .int (nI tp)), (7, .int (nI (i + 1)))]) ?_ (ih (m_o (D 170).1 t ln 4 - (i + 1)) (by omega) (i + 1) (tp) ((1 - a) :: r) _ rfl (by omega) (by rw [htp]; rfl) (by omega) (by rw [← hg]; show e_s _ _ _ = e_s _ _ (e_1 _ _ _); unfold e_1; rw [if_neg (by show ¬ q_n (D 170).1 (237 + 851 * t + 51 + 2 * i) ≤ 10; omega), if_pos (by show q_n (D 170).1 (237 + 851 * t + 51 + 2 * i) = 14; omega)]) (by rw [← g2]; exact congrArg _ (by rw [k9.2, htp]; rfl)) (by rw [hlr]; refine ⟨?_, ?_⟩; rw [y_si_1, if_pos rfl]; rw [y_si_s]; exact stk_up hs2 (by omega)) (y_o1_s fr))
               simp [x_lk])
        · have k9 : tp < 400 ∧ h2 = tp + 1 := by
            unfold e_h1 at g1
            rw [if_pos (by show q_n (D 170).1 (237 + 851 * t + 51 + 2 * i) ≤ 10; omega), ← htp] at g1
            by_cases c : tp < 400
            · rw [if_pos c] at g1; cases g1; exact ⟨c, rfl⟩
            · rw [if_neg c] at g1; cases g1
          refine r_aload_n hE dX11_holdsLine_50 rfl ?_
          refine t_getr hE f_X11_40 y_R_169_17 dX11_holdsLine_51 (hL 169 (by decide)) ?_
          refine r_iload hE dX11_holdsLine_54 rfl ?_
          refine r_aload_n hE dX11_holdsLine_56 rfl ?_
          refine r_iload hE dX11_holdsLine_57 rfl ?_
          refine r_aload_n hE dX11_holdsLine_59 rfl ?_
          refine t_getr hE f_X11_13 y_R_169_1 dX11_holdsLine_60 (hL 169 (by decide)) ?_
          refine r_iload_n hE dX11_holdsLine_63 rfl ?_
          refine t_invs (r := (some (.int (nI (237 + 851 * t))))) (S2 := (y_mk n L D8)) hE [.int (nI t)] (c_textAt) s_yX11_textAt m_X11_132 dX11_holdsLine_64 rfl (by decide) ⟨Nat.le_refl _, Nat.le_refl _⟩ (Nat.le_of_ble_eq_true rfl) ?_
          show E 0 0 67 [(0, .ref 169), (1, .int (nI t)), (2, .int (nI ln)), (3, .int (nI x)), (4, .int (nI f)), (5, .int hl), (6, .int (nI tp)), (7, .int (nI i)), (8, .int (nI (q_n (D 170).1 (237 + 851 * t + 51 + 2 * i))))] [.int (nI (237 + 851 * t)), .ref 170, .int (nI (q_n (D 170).1 (237 + 851 * t + 51 + 2 * i))), .ref 169, .int (nI tp), .ref 177] (y_mk n L D8)
          refine r_bipush (v := 51) hE dX11_holdsLine_67 (by decide) ?_
          refine r_iaddN (a := 237 + 851 * t) (b := 51) hE dX11_holdsLine_69 ?_
          refine r_iconst (v := 2) hE dX11_holdsLine_70 (by decide) ?_
          refine r_iload hE dX11_holdsLine_71 rfl ?_
          refine r_imulN (a := 2) (b := i) hE dX11_holdsLine_73 ?_
          refine r_iaddN (a := (237 + 851 * t) + 51) (b := 2 * i) hE dX11_holdsLine_74 ?_
          refine r_iconst (v := 1) hE dX11_holdsLine_75 (by decide) ?_
          refine r_iaddN (a := ((237 + 851 * t) + 51) + (2 * i)) (b := 1) hE dX11_holdsLine_76 ?_
          refine t_ialdN (e := (((237 + 851 * t) + 51) + (2 * i)) + 1) hE y_A_170 dX11_holdsLine_77 (hL 170 (by decide)) (by omega) (by decide) ?_
          refine r_top (y := (nI (q_n (D 170).1 (237 + 851 * t + 51 + 2 * i + 1)))) (by rw [fr.1 170 (by decide)]; exact hws.2.1.1) ?_
          refine r_iload_n hE dX11_holdsLine_78 rfl ?_
          refine r_iload hE dX11_holdsLine_79 rfl ?_
          refine r_iload hE dX11_holdsLine_81 rfl ?_
          refine t_invv (r := (some (.int (m_ask D8 (q_n (D 170).1 (237 + 851 * t + 51 + 2 * i)) (q_n (D 170).1 (237 + 851 * t + 51 + 2 * i + 1)) x f hl)))) (S2 := (y_mk n L D8)) hE [.int (nI (q_n (D 170).1 (237 + 851 * t + 51 + 2 * i))), .int (nI (q_n (D 170).1 (237 + 851 * t + 51 + 2 * i + 1))), .int (nI x), .int (nI f), .int hl] (c_asked (D := D8) (p := q_n (D 170).1 (237 + 851 * t + 51 + 2 * i)) (q := q_n (D 170).1 (237 + 851 * t + 51 + 2 * i + 1)) hL (by omega) (fun h9 => hws.2.2 h9 (by omega)) (by have := hws.2.1.2; omega) hx hf (fun h9 => by rw [fr.1 175 (by decide)]; exact hh _ h9)) v_yX11_asked m_X11_276 dX11_holdsLine_83 rfl (hL 169 (by decide)) (y_l_169 (D8 169)) rfl (by decide) ⟨Nat.le_refl _, Nat.le_refl _⟩ (Nat.le_of_ble_eq_true rfl) ?_
          show E 0 0 86 [(0, .ref 169), (1, .int (nI t)), (2, .int (nI ln)), (3, .int (nI x)), (4, .int (nI f)), (5, .int hl), (6, .int (nI tp)), (7, .int (nI i)), (8, .int (nI (q_n (D 170).1 (237 + 851 * t + 51 + 2 * i))))] [.int (m_ask D8 (q_n (D 170).1 (237 + 851 * t + 51 + 2 * i)) (q_n (D 170).1 (237 + 851 * t + 51 + 2 * i + 1)) x f hl), .int (nI tp), .ref 177] (y_mk n L D8)
          refine t_iastN (e := tp) hE y_A_177 dX11_holdsLine_86 (hL 177 (by decide)) (by omega) (by decide) ?_
          refine r_iincN (a := tp) (b := 1) (ls2 := [(0, .ref 169), (1, .int (nI t)), (2, .int (nI ln)), (3, .int (nI x)), (4, .int (nI f)), (5, .int hl), (6, .int (nI (tp + 1))), (7, .int (nI i)), (8, .int (nI (q_n (D 170).1 (237 + 851 * t + 51 + 2 * i))))]) hE dX11_holdsLine_87 rfl rfl (by decide) rfl ?_
          refine r_goto (tgt := 263) hE dX11_holdsLine_90 (by decide) ?_
          refine r_iincN (a := i) (b := 1) (ls2 := [(0, .ref 169), (1, .int (nI t)), (2, .int (nI ln)), (3, .int (nI x)), (4, .int (nI f)), (5, .int hl), (6, .int (nI (tp + 1))), (7, .int (nI (i + 1))), (8, .int (nI (q_n (D 170).1 (237 + 851 * t + 51 + 2 * i))))]) hE dX11_holdsLine_263 rfl rfl (by decide) rfl ?_
          refine r_goto (tgt := 12) hE dX11_holdsLine_266 (by decide) ?_
          first
          | (exfalso; omega)
          | (refine r_locs hE (ls2 := [(0, .ref 169), (1, .int (nI t)), (2, .int (nI ln)), (3, .int (nI x)), (4, .int (nI f)), (5, .int hl), (6, .int (nI (tp + 1))), (7, .int (nI (i + 1)))]) ?_ (ih (m_o (D 170).1 t ln 4 - (i + 1)) (by omega) (i + 1) (tp + 1) (m_ask D (q_n (D 170).1 (237 + 851 * t + 51 + 2 * i)) (q_n (D 170).1 (237 + 851 * t + 51 + 2 * i + 1)) x f hl :: l) _ rfl (by omega) (by rw [htp]; rfl) (by omega) (by rw [← hg]; show e_s _ _ _ = e_s _ _ (e_1 _ _ _); unfold e_1; rw [if_pos (by show q_n (D 170).1 (237 + 851 * t + 51 + 2 * i) ≤ 10; omega)]) (by rw [← g2]; exact congrArg _ (by rw [k9.2, htp]; rfl)) (by rw [htp, m_ask_fr fr]; refine ⟨?_, ?_⟩; rw [y_si_1, if_pos rfl]; rw [y_si_s]; exact stk_up hsk (by omega)) (y_o1_s fr))
             simp [x_lk])
  refine r_iconst (v := 0) hE dX11_holdsLine_0 (by decide) ?_
  refine r_istore (ls2 := [(0, .ref 169), (1, .int (nI t)), (2, .int (nI ln)), (3, .int (nI x)), (4, .int (nI f)), (5, .int hl), (6, .int 0)]) hE dX11_holdsLine_1 (by decide) rfl ?_
  refine r_aload_n hE dX11_holdsLine_3 rfl ?_
  refine r_iload_n hE dX11_holdsLine_4 rfl ?_
  refine r_iload_n hE dX11_holdsLine_5 rfl ?_
  refine r_iconst (v := 3) hE dX11_holdsLine_6 (by decide) ?_
  refine t_invv (r := (some (.int ((D 170).1 (237 + 851 * t + 1 + 5 * ln + 3))))) (S2 := (y_mk n L D)) hE [.int (nI t), .int (nI ln), .int 3] (c_of hL (by omega) (by omega) (by decide)) v_yX11_of m_X11_255 dX11_holdsLine_7 rfl (hL 169 (by decide)) (y_l_169 (D 169)) rfl (by decide) ⟨Nat.le_refl _, Nat.le_refl _⟩ (Nat.le_of_ble_eq_true rfl) ?_
  show E 0 0 10 [(0, .ref 169), (1, .int (nI t)), (2, .int (nI ln)), (3, .int (nI x)), (4, .int (nI f)), (5, .int hl), (6, .int 0)] [.int ((D 170).1 (237 + 851 * t + 1 + 5 * ln + 3))] (y_mk n L D)
  refine r_top (y := (nI (m_o (D 170).1 t ln 3))) (hwn.1.1) ?_
  refine r_istore (ls2 := [(0, .ref 169), (1, .int (nI t)), (2, .int (nI ln)), (3, .int (nI x)), (4, .int (nI f)), (5, .int hl), (6, .int 0), (7, .int (nI (m_o (D 170).1 t ln 3)))]) hE dX11_holdsLine_10 (by decide) rfl ?_
  exact lp (m_o (D 170).1 t ln 3) 0 [] _ ⟨Nat.le_refl _, hwn.2.2.1⟩ rfl (by omega) rfl hwn.2.2.2.2 trivial y_o1_r

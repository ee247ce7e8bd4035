/-! a whole WAY is read alike -/
section P23
variable {T : Nat → Int32} {e m : Nat} {K B C : Nat → Int32}
theorem v_mlt {W W2 : Nat → Int32} {t t2 : Nat} : ∀ (a i : Nat), (∀ o, 51 + 2 * i ≤ o → o < 51 + 2 * (i + a) → W2 (237 + 851 * t2 + o) = W (237 + 851 * t + o)) → m_sl W2 t2 a i = m_sl W t a i
  | 0, _, _ => rfl
  | a + 1, i, h => by
    have e1 : q_n W2 (237 + 851 * t2 + 51 + 2 * i) = q_n W (237 + 851 * t + 51 + 2 * i) := by
      unfold q_n
      rw [show 237 + 851 * t2 + 51 + 2 * i = 237 + 851 * t2 + (51 + 2 * i) by omega, show 237 + 851 * t + 51 + 2 * i = 237 + 851 * t + (51 + 2 * i) by omega, h _ (Nat.le_refl _) (by omega)]
    have e2 : q_n W2 (237 + 851 * t2 + 51 + 2 * i + 1) = q_n W (237 + 851 * t + 51 + 2 * i + 1) := by
      unfold q_n
      rw [show 237 + 851 * t2 + 51 + 2 * i + 1 = 237 + 851 * t2 + (51 + 2 * i + 1) by omega, show 237 + 851 * t + 51 + 2 * i + 1 = 237 + 851 * t + (51 + 2 * i + 1) by omega, h _ (by omega) (by omega)]
    show (q_n W2 (237 + 851 * t2 + 51 + 2 * i), q_n W2 (237 + 851 * t2 + 51 + 2 * i + 1)) :: m_sl W2 t2 a (i + 1) = (q_n W (237 + 851 * t + 51 + 2 * i), q_n W (237 + 851 * t + 51 + 2 * i + 1)) :: m_sl W t a (i + 1)
    rw [e1, e2, v_mlt a (i + 1) (fun o h1 h2 => h o (by omega) (by omega))]
theorem v_mo {W W2 : Nat → Int32} {t t2 i j : Nat} (h : W2 (237 + 851 * t2 + (1 + 5 * i + j)) = W (237 + 851 * t + (1 + 5 * i + j))) : W2 (237 + 851 * t2 + 1 + 5 * i + j) = W (237 + 851 * t + 1 + 5 * i + j) ∧ m_o W2 t2 i j = m_o W t i j := by
  have e : W2 (237 + 851 * t2 + 1 + 5 * i + j) = W (237 + 851 * t + 1 + 5 * i + j) := by
    rw [show 237 + 851 * t2 + 1 + 5 * i + j = 237 + 851 * t2 + (1 + 5 * i + j) by omega, show 237 + 851 * t + 1 + 5 * i + j = 237 + 851 * t + (1 + 5 * i + j) by omega, h]
  exact ⟨e, by unfold m_o q_n; rw [e]⟩
theorem m_lst_c {W W2 : Nat → Int32} {t t2 c d : Nat} : ∀ k, (∀ i, i < k → m_o W2 t2 i 0 = m_o W t i 0 ∧ m_o W2 t2 i 1 = m_o W t i 1) → m_lst W2 t2 c d k = m_lst W t c d k
  | 0, _ => rfl
  | k + 1, h => by
    unfold m_lst
    rw [(h k (by omega)).1, (h k (by omega)).2, m_lst_c k (fun i hi => h i (by omega))]
theorem m_fb_c {W W2 : Nat → Int32} {t t2 : Nat} : ∀ k, (∀ i, i < k → m_o W2 t2 i 0 = m_o W t i 0 ∧ m_o W2 t2 i 1 = m_o W t i 1) → m_fb W2 t2 k = m_fb W t k
  | 0, _ => rfl
  | k + 1, h => by
    unfold m_fb
    rw [(h k (by omega)).1, (h k (by omega)).2, m_fb_c k (fun i hi => h i (by omega))]
/-- a LINE of a WAY is well formed, its steps end at s or before -/
def t_w1 (W : Nat → Int32) (t s i : Nat) : Prop := q_ok W (237 + 851 * t + 1 + 5 * i) 3 ∧ q_ok W (237 + 851 * t + 1 + 5 * i + 1) 999 ∧ (m_o W t i 0 = 0 → m_o W t i 1 < 4) ∧ (m_o W t i 0 = 1 → 1 ≤ m_o W t i 1 ∧ m_o W t i 1 ≤ 60) ∧ (m_o W t i 0 = 2 → m_o W t i 1 ≤ 9) ∧ (m_o W t i 0 = 3 → W (237 + 851 * t + 1 + 5 * i + 3) = nI (m_o W t i 3) ∧ W (237 + 851 * t + 1 + 5 * i + 4) = nI (m_o W t i 4) ∧ m_o W t i 3 ≤ m_o W t i 4 ∧ m_o W t i 4 ≤ s ∧ e_h (m_sl W t (m_o W t i 4 - m_o W t i 3) (m_o W t i 3)) 0 = some 1)
/-- the need LINES among the first n hold -/
def t_nd (W : Nat → Int32) (t n : Nat) (DL : y_D) (x f : Nat) (hl : Int32) : Prop := ∀ i, i < n → m_o W t i 0 = 3 → v_e DL x f hl (m_sl W t (m_o W t i 4 - m_o W t i 3) (m_o W t i 3)) [] = [1]
/-- the first n LINES of a WAY: the text t of the reference, the class's numbers and steps -/
def t_WY (W : Nat → Int32) (t n s sc : Nat) (ST : Nat → Int32) (fr tk rc : Int32) : Prop :=
  fr = nI (m_fb W t n) ∧ m_fb W t n ≤ 15 ∧ tk = nI (m_lst W t 1 1 n) ∧ rc = nI (m_lst W t 2 0 n) ∧ (∀ i, i < n → t_w1 W t s i) ∧ (∀ j, j < s → m_ws W t j) ∧ (∀ j, j < sc → v_z (ST j)) ∧ c_h (c_sl ST sc 0) 1 = some 1 ∧
  ∀ (DS DL : y_D) (x : Nat) (hl : Int32), q_E DS DL → x < 301 → ∃ X, v_c DS x hl (c_sl ST sc 0) (0, 0, [65535]) = (0, 0, [X]) ∧ ∀ f, f < 16 → (y_bit X f ↔ t_nd W t n DL x f hl)
theorem t_WY_c {W W2 : Nat → Int32} {t t2 n s sc : Nat} {ST : Nat → Int32} {fr tk rc : Int32} (a : t_WY W t n s sc ST fr tk rc) (h : ∀ o, (1 ≤ o ∧ o < 1 + 5 * n) ∨ (51 ≤ o ∧ o < 51 + 2 * s) → W2 (237 + 851 * t2 + o) = W (237 + 851 * t + o)) : t_WY W2 t2 n s sc ST fr tk rc := by
  obtain ⟨a1, a2, a3, a4, a5, a6, a7, a8, a9⟩ := a
  have ho : ∀ i j, i < n → j < 5 → W2 (237 + 851 * t2 + 1 + 5 * i + j) = W (237 + 851 * t + 1 + 5 * i + j) ∧ m_o W2 t2 i j = m_o W t i j := fun i j hi hj => v_mo (h _ (Or.inl ⟨by omega, by omega⟩))
  have h01 : ∀ i, i < n → m_o W2 t2 i 0 = m_o W t i 0 ∧ m_o W2 t2 i 1 = m_o W t i 1 := fun i hi => ⟨(ho i 0 hi (by decide)).2, (ho i 1 hi (by decide)).2⟩
  have hs : ∀ i, i < n → m_o W t i 0 = 3 → m_sl W2 t2 (m_o W2 t2 i 4 - m_o W2 t2 i 3) (m_o W2 t2 i 3) = m_sl W t (m_o W t i 4 - m_o W t i 3) (m_o W t i 3) := by
    intro i hi h3
    obtain ⟨-, -, -, -, -, b6⟩ := a5 i hi
    obtain ⟨-, -, c3, c4, -⟩ := b6 h3
    rw [(ho i 4 hi (by decide)).2, (ho i 3 hi (by decide)).2]
    exact v_mlt _ _ (fun o o1 o2 => h o (Or.inr ⟨by omega, by omega⟩))
  refine ⟨?_, ?_, ?_, ?_, fun i hi => ?_, fun j hj => ?_, a7, a8, fun DS DL x hl hE hx => ?_⟩
  · rw [m_fb_c n h01]
    exact a1
  · rw [m_fb_c n h01]
    exact a2
  · rw [m_lst_c n h01]
    exact a3
  · rw [m_lst_c n h01]
    exact a4
  · obtain ⟨b1, b2, b3, b4, b5, b6⟩ := a5 i hi
    have z0 := ho i 0 hi (by decide)
    have z1 := ho i 1 hi (by decide)
    unfold t_w1 q_ok
    unfold q_ok at b1 b2
    refine ⟨?_, ?_, ?_, ?_, ?_, ?_⟩
    · unfold q_n at b1 ⊢
      rw [show 237 + 851 * t2 + 1 + 5 * i = 237 + 851 * t2 + 1 + 5 * i + 0 by omega, z0.1]
      exact b1
    · unfold q_n at b2 ⊢
      rw [z1.1]
      exact b2
    · rw [z0.2, z1.2]
      exact b3
    · rw [z0.2, z1.2]
      exact b4
    · rw [z0.2, z1.2]
      exact b5
    · intro q3
      rw [z0.2] at q3
      rw [hs i hi q3, (ho i 3 hi (by decide)).1, (ho i 3 hi (by decide)).2, (ho i 4 hi (by decide)).1, (ho i 4 hi (by decide)).2]
      exact b6 q3
  · have := a6 j hj
    have w1 : W2 (237 + 851 * t2 + 51 + 2 * j) = W (237 + 851 * t + 51 + 2 * j) := by
      rw [show 237 + 851 * t2 + 51 + 2 * j = 237 + 851 * t2 + (51 + 2 * j) by omega, h _ (Or.inr ⟨by omega, by omega⟩), show 237 + 851 * t + (51 + 2 * j) = 237 + 851 * t + 51 + 2 * j by omega]
    have w2 : W2 (237 + 851 * t2 + 51 + 2 * j + 1) = W (237 + 851 * t + 51 + 2 * j + 1) := by
      rw [show 237 + 851 * t2 + 51 + 2 * j + 1 = 237 + 851 * t2 + (51 + 2 * j + 1) by omega, h _ (Or.inr ⟨by omega, by omega⟩), show 237 + 851 * t + (51 + 2 * j + 1) = 237 + 851 * t + 51 + 2 * j + 1 by omega]
    unfold m_ws q_ok q_n at this ⊢
    rw [w1, w2]
    exact this
  · obtain ⟨X, x1, x2⟩ := a9 DS DL x hl hE hx
    refine ⟨X, x1, fun f hf => (x2 f hf).trans ?_⟩
    unfold t_nd
    constructor
    · intro q i hi h3
      rw [(ho i 0 hi (by decide)).2] at h3
      rw [hs i hi h3]
      exact q i hi h3
    · intro q i hi h3
      have := q i hi (by rw [(ho i 0 hi (by decide)).2]; exact h3)
      rw [hs i hi h3] at this
      exact this
theorem v_nor (a b : Nat) : nI a ||| nI b = nI (a ||| b) := by
  apply Int32.toBitVec_inj.1
  show BitVec.ofNat 32 a ||| BitVec.ofNat 32 b = BitVec.ofNat 32 (a ||| b)
  apply BitVec.eq_of_getLsbD_eq
  intro i hi
  simp [hi]
theorem v_shl : ∀ a, a < 4 → (1 : Int32) <<< (nI a &&& 31) = nI (2 ^ a) := by decide
theorem v_or15 : ∀ x, x < 16 → ∀ a, a < 4 → x ||| 2 ^ a < 16 := by decide +kernel
theorem t_nd_s {W : Nat → Int32} {t n x f : Nat} {DL : y_D} {hl : Int32} : t_nd W t (n + 1) DL x f hl ↔ t_nd W t n DL x f hl ∧ (m_o W t n 0 = 3 → v_e DL x f hl (m_sl W t (m_o W t n 4 - m_o W t n 3) (m_o W t n 3)) [] = [1]) := by
  constructor
  · intro q
    exact ⟨fun i hi => q i (by omega), q n (by omega)⟩
  · rintro ⟨q1, q2⟩ i hi
    by_cases z : i = n
    · rw [z]
      exact q2
    · exact q1 i (by omega)
theorem t_w1_s {W : Nat → Int32} {t s s2 i : Nat} (h : t_w1 W t s i) (hs : s ≤ s2) : t_w1 W t s2 i := ⟨h.1, h.2.1, h.2.2.1, h.2.2.2.1, h.2.2.2.2.1, fun q => by
  obtain ⟨a1, a2, a3, a4, a5⟩ := h.2.2.2.2.2 q
  exact ⟨a1, a2, a3, by omega, a5⟩⟩
/-- a LINE without steps more -/
theorem t_WY_1 {W : Nat → Int32} {i s sc : Nat} {ST : Nat → Int32} {fr tk rc fr2 tk2 rc2 : Int32} {so a : Nat} (h : t_WY W 10 i s sc ST fr tk rc) (h0 : W (t_kk i) = nI so) (h1 : W (t_kk i + 1) = nI a) (hc : (so = 0 ∧ a < 4 ∧ fr2 = fr ||| (1 <<< (nI a &&& 31)) ∧ tk2 = tk ∧ rc2 = rc) ∨ (so = 1 ∧ 1 ≤ a ∧ a ≤ 60 ∧ fr2 = fr ∧ tk2 = nI a ∧ rc2 = rc) ∨ (so = 2 ∧ a ≤ 9 ∧ fr2 = fr ∧ tk2 = tk ∧ rc2 = nI a)) : t_WY W 10 (i + 1) s sc ST fr2 tk2 rc2 := by
  obtain ⟨a1, a2, a3, a4, a5, a6, a7, a8, a9⟩ := h
  have q0 := q_mk (B := 3) h0 (by omega) (by omega)
  have q1 := q_mk (B := 999) h1 (by omega) (by omega)
  have o0 : m_o W 10 i 0 = so := q0.2
  have o1 : m_o W 10 i 1 = a := q1.2
  have f1 : m_fb W 10 (i + 1) = if so = 0 then m_fb W 10 i ||| 2 ^ a else m_fb W 10 i := by
    show (if m_o W 10 i 0 = 0 then m_fb W 10 i ||| 2 ^ m_o W 10 i 1 else m_fb W 10 i) = _
    rw [o0, o1]
  have f2 : ∀ c d, m_lst W 10 c d (i + 1) = if so = c then a else m_lst W 10 c d i := by
    intro c d
    show (if m_o W 10 i 0 = c then m_o W 10 i 1 else m_lst W 10 c d i) = _
    rw [o0, o1]
  have hw : t_w1 W 10 s i := by
    refine ⟨q0.1, q1.1, ?_, ?_, ?_, ?_⟩ <;> rw [o0] <;> first | (rw [o1]; omega) | (intro q; omega)
  have hl : ∀ j, j < i + 1 → t_w1 W 10 s j := by
    intro j hj
    by_cases z : j = i
    · rw [z]
      exact hw
    · exact a5 j (by omega)
  have hm : ∀ (DS DL : y_D) (x : Nat) (hl : Int32), q_E DS DL → x < 301 → ∃ X, v_c DS x hl (c_sl ST sc 0) (0, 0, [65535]) = (0, 0, [X]) ∧ ∀ f, f < 16 → (y_bit X f ↔ t_nd W 10 (i + 1) DL x f hl) := by
    intro DS DL x hl hE hx
    obtain ⟨X, x1, x2⟩ := a9 DS DL x hl hE hx
    refine ⟨X, x1, fun f hf => (x2 f hf).trans ?_⟩
    rw [t_nd_s]
    exact ⟨fun q => ⟨q, fun q3 => absurd (o0.symm.trans q3) (by omega)⟩, fun q => q.1⟩
  refine ⟨?_, ?_, ?_, ?_, hl, a6, a7, a8, hm⟩
  · rw [f1]
    rcases hc with ⟨rfl, c2, c3, c4, c5⟩ | ⟨rfl, c2, c3, c4, c5⟩ | ⟨rfl, c2, c3, c4, c5⟩
    · rw [if_pos rfl, c3, v_shl a c2, a1, v_nor]
    · rw [if_neg (by decide), c4]
      exact a1
    · rw [if_neg (by decide), c3]
      exact a1
  · rw [f1]
    rcases hc with ⟨rfl, c2, c3, c4, c5⟩ | ⟨rfl, c2, c3, c4, c5⟩ | ⟨rfl, c2, c3, c4, c5⟩
    · rw [if_pos rfl]
      have := v_or15 (m_fb W 10 i) (by omega) a c2
      omega
    · rw [if_neg (by decide)]
      exact a2
    · rw [if_neg (by decide)]
      exact a2
  · rw [f2]
    rcases hc with ⟨rfl, c2, c3, c4, c5⟩ | ⟨rfl, c2, c3, c4, c5, c6⟩ | ⟨rfl, c2, c3, c4, c5⟩
    · rw [if_neg (by decide), c4]
      exact a3
    · rw [if_pos rfl]
      exact c5
    · rw [if_neg (by decide), c4]
      exact a3
  · rw [f2]
    rcases hc with ⟨rfl, c2, c3, c4, c5⟩ | ⟨rfl, c2, c3, c4, c5, c6⟩ | ⟨rfl, c2, c3, c4, c5⟩
    · rw [if_neg (by decide), c5]
      exact a4
    · rw [if_neg (by decide), c6]
      exact a4
    · rw [if_pos rfl]
      exact c5
/-- a need LINE more -/
theorem t_WY_n {W : Nat → Int32} {i s s2 sc sc1 : Nat} {ST ST1 : Nat → Int32} {fr tk rc : Int32} {cs : List Nat} {rs : List (Nat × Nat)} (h : t_WY W 10 i s sc ST fr tk rc) (h2 : s2 < 2 ^ 31) (hs : s ≤ s2) (hsc : sc ≤ sc1) (h0 : W (t_kk i) = nI 3) (h1 : W (t_kk i + 1) = nI 0) (h3 : W (t_kk i + 3) = nI s) (h4 : W (t_kk i + 4) = nI s2) (hST : ∀ j, j < sc → ST1 j = ST j) (hz : ∀ j, sc ≤ j → j < sc1 → v_z (ST1 j)) (hws : ∀ j, s ≤ j → j < s2 → m_ws W 10 j) (hcs : cs = c_sl ST1 (sc1 - sc) sc) (hrs : rs = m_sl W 10 (s2 - s) s) (hq : q_cf 15 cs rs) : t_WY W 10 (i + 1) s2 (sc1 + 1) (upd ST1 sc1 (nI (21 * 1024 + 0))) fr tk rc := by
  obtain ⟨a1, a2, a3, a4, a5, a6, a7, a8, a9⟩ := h
  have q0 := q_mk (B := 3) h0 (by omega) (by omega)
  have q1 := q_mk (B := 999) h1 (by omega) (by omega)
  have o0 : m_o W 10 i 0 = 3 := q0.2
  have o1 : m_o W 10 i 1 = 0 := q1.2
  have o3 : m_o W 10 i 3 = s := by
    show (W (t_kk i + 3)).toNatClampNeg = s
    rw [h3, nI_cl (by omega)]
  have o4 : m_o W 10 i 4 = s2 := by
    show (W (t_kk i + 4)).toNatClampNeg = s2
    rw [h4, nI_cl (by omega)]
  have f1 : m_fb W 10 (i + 1) = m_fb W 10 i := by
    show (if m_o W 10 i 0 = 0 then m_fb W 10 i ||| 2 ^ m_o W 10 i 1 else m_fb W 10 i) = _
    rw [o0, if_neg (by decide)]
  have f2 : ∀ c d, c ≠ 3 → m_lst W 10 c d (i + 1) = m_lst W 10 c d i := by
    intro c d hc
    show (if m_o W 10 i 0 = c then m_o W 10 i 1 else m_lst W 10 c d i) = _
    rw [o0, if_neg (fun q => hc q.symm)]
  have hcl : c_sl (upd ST1 sc1 (nI (21 * 1024 + 0))) (sc1 + 1) 0 = c_sl ST sc 0 ++ (cs ++ [21 * 1024 + 0]) := by
    rw [show sc1 + 1 = sc + ((sc1 - sc) + 1) by omega, v_sl_ap, v_sl_ap, Nat.zero_add, show sc + (sc1 - sc) = sc1 by omega, v_sl_1 (by decide), hcs]
    rw [v_sl_c (T := upd ST1 sc1 (nI (21 * 1024 + 0))) (T2 := ST) sc 0 (fun j _ hj => by rw [y_updn (by omega), hST j (by omega)])]
    rw [v_sl_c (T := upd ST1 sc1 (nI (21 * 1024 + 0))) (T2 := ST1) (sc1 - sc) sc (fun j _ hj => y_updn (by omega))]
  refine ⟨by rw [f1]; exact a1, by rw [f1]; exact a2, by rw [f2 1 1 (by decide)]; exact a3, by rw [f2 2 0 (by decide)]; exact a4, fun j hj => ?_, fun j hj => ?_, fun j hj => ?_, ?_, fun DS DL x hl hE hx => ?_⟩
  · by_cases z : j = i
    · rw [z]
      refine ⟨q0.1, q1.1, fun q => ?_, fun q => ?_, fun q => ?_, fun _ => ⟨?_, ?_, by omega, by omega, ?_⟩⟩
      · rw [o0] at q
        omega
      · rw [o0] at q
        omega
      · rw [o0] at q
        omega
      · rw [o3]
        exact h3
      · rw [o4]
        exact h4
      · rw [o3, o4, ← hrs]
        exact hq.2.2 0 (by omega)
    · exact t_w1_s (a5 j (by omega)) hs
  · by_cases z : j < s
    · exact a6 j z
    · exact hws j (by omega) hj
  · by_cases z1 : j = sc1
    · rw [z1, y_upds]
      exact ⟨21 * 1024 + 0, rfl, by decide, fun q => absurd q (by decide)⟩
    · rw [y_updn z1]
      by_cases z : j < sc
      · rw [hST j z]
        exact a7 j z
      · exact hz j (by omega) (by omega)
  · rw [hcl, v_ch_ap a8, v_ch_ap (hq.2.1 1 (by omega)), v_ch_1]
    rfl
  · obtain ⟨X, x1, x2⟩ := a9 DS DL x hl hE hx
    obtain ⟨Y, y1, y2⟩ := hq.1 DS DL x hl hE hx
    refine ⟨X &&& Y, ?_, fun f hf => ?_⟩
    · rw [hcl, v_c_ap, x1, v_c_ap, y1, v_c_1]
      rfl
    · rw [y_bit_and (by omega), x2 f hf, t_nd_s, o3, o4, ← hrs, y2 f hf]
      constructor
      · rintro ⟨q1, q2⟩
        refine ⟨q1, fun _ => ?_⟩
        rw [y_b_t q2]
      · rintro ⟨q1, q2⟩
        refine ⟨q1, ?_⟩
        have := q2 o0
        apply Classical.byContradiction
        intro q
        rw [y_b_f q] at this
        injection this with h9
        exact absurd h9 (by decide)
end P23

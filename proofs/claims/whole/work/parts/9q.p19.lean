/-! rows of steps as lists -/
theorem v_sl_ap {T : Nat → Int32} : ∀ (a b i : Nat), c_sl T (a + b) i = c_sl T a i ++ c_sl T b (i + a)
  | 0, b, i => by
    rw [Nat.zero_add, Nat.add_zero]
    rfl
  | a + 1, b, i => by
    rw [show a + 1 + b = (a + b) + 1 by omega]
    show (T i).toNatClampNeg :: c_sl T (a + b) (i + 1) = (T i).toNatClampNeg :: (c_sl T a (i + 1) ++ c_sl T b (i + (a + 1)))
    rw [v_sl_ap a b (i + 1), show i + 1 + a = i + (a + 1) by omega]
theorem v_sl_c {T T2 : Nat → Int32} : ∀ (a i : Nat), (∀ j, i ≤ j → j < i + a → T j = T2 j) → c_sl T a i = c_sl T2 a i
  | 0, _, _ => rfl
  | a + 1, i, h => by
    show (T i).toNatClampNeg :: c_sl T a (i + 1) = (T2 i).toNatClampNeg :: c_sl T2 a (i + 1)
    rw [h i (Nat.le_refl _) (by omega), v_sl_c a (i + 1) (fun j h1 h2 => h j (by omega) (by omega))]
theorem v_sl_1 {ST : Nat → Int32} {sc z : Nat} (hz : z < 2 ^ 31) : c_sl (upd ST sc (nI z)) 1 sc = [z] := by
  show [(upd ST sc (nI z) sc).toNatClampNeg] = [z]
  rw [y_upds, nI_cl hz]
theorem v_ml_ap {W : Nat → Int32} {t : Nat} : ∀ (a b i : Nat), m_sl W t (a + b) i = m_sl W t a i ++ m_sl W t b (i + a)
  | 0, b, i => by
    rw [Nat.zero_add, Nat.add_zero]
    rfl
  | a + 1, b, i => by
    rw [show a + 1 + b = (a + b) + 1 by omega]
    show (q_n W (237 + 851 * t + 51 + 2 * i), q_n W (237 + 851 * t + 51 + 2 * i + 1)) :: m_sl W t (a + b) (i + 1) = (q_n W (237 + 851 * t + 51 + 2 * i), q_n W (237 + 851 * t + 51 + 2 * i + 1)) :: (m_sl W t a (i + 1) ++ m_sl W t b (i + (a + 1)))
    rw [v_ml_ap a b (i + 1), show i + 1 + a = i + (a + 1) by omega]
theorem v_ml_c {W W2 : Nat → Int32} {t : Nat} : ∀ (a i : Nat), (∀ j, 237 + 851 * t + 51 + 2 * i ≤ j → j < 237 + 851 * t + 51 + 2 * (i + a) → W j = W2 j) → m_sl W t a i = m_sl W2 t a i
  | 0, _, _ => rfl
  | a + 1, i, h => by
    have e1 : q_n W (237 + 851 * t + 51 + 2 * i) = q_n W2 (237 + 851 * t + 51 + 2 * i) := by
      unfold q_n
      rw [h _ (Nat.le_refl _) (by omega)]
    have e2 : q_n W (237 + 851 * t + 51 + 2 * i + 1) = q_n W2 (237 + 851 * t + 51 + 2 * i + 1) := by
      unfold q_n
      rw [h _ (by omega) (by omega)]
    show (q_n W (237 + 851 * t + 51 + 2 * i), q_n W (237 + 851 * t + 51 + 2 * i + 1)) :: m_sl W t a (i + 1) = (q_n W2 (237 + 851 * t + 51 + 2 * i), q_n W2 (237 + 851 * t + 51 + 2 * i + 1)) :: m_sl W2 t a (i + 1)
    rw [e1, e2, v_ml_c a (i + 1) (fun j h1 h2 => h j (by omega) (by omega))]
theorem v_ml_1 {W : Nat → Int32} {s r n : Nat} (hr : r < 2 ^ 31) (hn : n < 2 ^ 31) : m_sl (l_em W s (nI r) (nI n)) 10 1 s = [(r, n)] := by
  have e0 : 237 + 851 * 10 + 51 + 2 * s = 8798 + 2 * s := by omega
  have e1 : q_n (l_em W s (nI r) (nI n)) (237 + 851 * 10 + 51 + 2 * s) = r := by
    unfold q_n l_em
    rw [e0, y_updn (by omega), y_upds, nI_cl hr]
  have e2 : q_n (l_em W s (nI r) (nI n)) (237 + 851 * 10 + 51 + 2 * s + 1) = n := by
    unfold q_n l_em
    rw [e0, y_upds, nI_cl hn]
  show [(q_n (l_em W s (nI r) (nI n)) (237 + 851 * 10 + 51 + 2 * s), q_n (l_em W s (nI r) (nI n)) (237 + 851 * 10 + 51 + 2 * s + 1))] = [(r, n)]
  rw [e1, e2]

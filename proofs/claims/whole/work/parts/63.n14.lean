/-! ===== weighing: the same for class and reference ===== -/
def o_th (c came : Nat → Bool) : Nat → Nat
  | 0 => 1
  | i + 1 => o_th c came i * (if c i then (if came i then 7 else 3) else (if came i then 1 else 9))
def o_tr (set spr : Nat → Bool) (often : Nat → Nat) (b : Nat) : Nat → Nat
  | 0 => b
  | i + 1 => if set i then o_tr set spr often b i * (if spr i then often i else 10 - often i) else o_tr set spr often b i
theorem o_th_b {c came : Nat → Bool} : ∀ {n}, 1 ≤ o_th c came n ∧ o_th c came n ≤ 9 ^ n
  | 0 => ⟨Nat.le_refl _, Nat.le_refl _⟩
  | n + 1 => by
    have h := o_th_b (c := c) (came := came) (n := n)
    have e : 1 ≤ (if c n then (if came n then 7 else 3) else (if came n then 1 else 9)) ∧ (if c n then (if came n then 7 else 3) else (if came n then 1 else 9)) ≤ 9 := by
      cases c n <;> cases came n <;> decide
    refine ⟨?_, ?_⟩
    · exact Nat.mul_le_mul h.1 e.1
    · rw [Nat.pow_succ]; exact Nat.mul_le_mul h.2 e.2
theorem o_tr_b {set spr : Nat → Bool} {often : Nat → Nat} {b : Nat} : ∀ {n}, (∀ t, t < n → 1 ≤ often t ∧ often t ≤ 9) → 1 ≤ b → 1 ≤ o_tr set spr often b n ∧ o_tr set spr often b n ≤ b * 9 ^ n
  | 0, _, hb => ⟨hb, by show b ≤ b * 9 ^ 0; omega⟩
  | n + 1, ho, hb => by
    have h := o_tr_b (set := set) (spr := spr) (n := n) (fun t ht => ho t (by omega)) hb
    have e := ho n (by omega)
    have e2 : 1 ≤ (if spr n then often n else 10 - often n) ∧ (if spr n then often n else 10 - often n) ≤ 9 := by
      cases spr n <;> simp <;> omega
    have p9 : b * 9 ^ (n + 1) = b * 9 ^ n * 9 := by rw [Nat.pow_succ, Nat.mul_assoc]
    unfold o_tr
    cases set n
    · refine ⟨h.1, ?_⟩
      show o_tr set spr often b n ≤ _
      omega
    · refine ⟨Nat.mul_le_mul h.1 e2.1, ?_⟩
      rw [p9]
      exact Nat.mul_le_mul h.2 e2.2
theorem o_tr_1 {set spr : Nat → Bool} {often : Nat → Nat} {b : Nat} : ∀ {n}, o_tr set spr often b n = b * o_tr set spr often 1 n
  | 0 => (Nat.mul_one b).symm
  | n + 1 => by
    unfold o_tr
    rw [o_tr_1 (n := n)]
    cases set n
    · rfl
    · show b * _ * _ = b * (_ * _)
      rw [Nat.mul_assoc]
def o_sum (b : Nat → Nat) : Nat → Nat
  | 0 => 0
  | i + 1 => o_sum b i + b i
def o_mx (b : Nat → Nat) : Nat → Nat
  | 0 => 0
  | i + 1 => if b (o_mx b i) < b i then i else o_mx b i
def o_sh (b : Nat → Nat) (n k : Nat) : Nat := 10000 * b k / o_sum b n + (if k = o_mx b n then 10000 - o_sum (fun j => 10000 * b j / o_sum b n) n else 0)
theorem o_mx_b {b : Nat → Nat} : ∀ {n}, 1 ≤ n → o_mx b n < n
  | 0, h => absurd h (by omega)
  | n + 1, _ => by
    unfold o_mx
    split
    · omega
    · by_cases c : 1 ≤ n
      · have := o_mx_b (b := b) c; omega
      · have : n = 0 := by omega
        subst this
        show 0 < 1
        omega
theorem o_sum_ge {b : Nat → Nat} {k : Nat} : ∀ {n}, k < n → b k ≤ o_sum b n
  | 0, h => absurd h (by omega)
  | n + 1, h => by
    unfold o_sum
    by_cases c : k = n
    · rw [c]; omega
    · have := o_sum_ge (b := b) (k := k) (n := n) (by omega); omega
theorem o_sum_mono {b : Nat → Nat} {m n : Nat} (h : m ≤ n) : o_sum b m ≤ o_sum b n := by
  induction n with
  | zero => rw [show m = 0 by omega]; exact Nat.le_refl _
  | succ n ih =>
    by_cases c : m = n + 1
    · rw [c]; exact Nat.le_refl _
    · show _ ≤ o_sum b n + b n
      have := ih (by omega); omega
theorem o_sumq {b : Nat → Nat} {A : Nat} (hA : 0 < A) : ∀ n, o_sum (fun j => 10000 * b j / A) n * A ≤ 10000 * o_sum b n
  | 0 => by show 0 * A ≤ _; omega
  | n + 1 => by
    show (o_sum _ n + 10000 * b n / A) * A ≤ 10000 * (o_sum b n + b n)
    have := o_sumq (b := b) hA n
    have := Nat.div_mul_le_self (10000 * b n) A
    rw [Nat.add_mul, Nat.mul_add]
    omega
theorem o_sumq_le {b : Nat → Nat} {n m : Nat} (hA : 0 < o_sum b n) (hm : m ≤ n) : o_sum (fun j => 10000 * b j / o_sum b n) m ≤ 10000 := by
  have h := o_sumq (b := b) hA m
  have h2 : 10000 * o_sum b m ≤ 10000 * o_sum b n := Nat.mul_le_mul_left _ (o_sum_mono hm)
  exact Nat.le_of_mul_le_mul_right (Nat.le_trans h h2) hA
theorem o_sum_up {g : Nat → Nat} {x k : Nat} : ∀ n, o_sum (fun j => g j + (if j = k then x else 0)) n = o_sum g n + (if k < n then x else 0)
  | 0 => rfl
  | n + 1 => by
    show o_sum (fun j => g j + (if j = k then x else 0)) n + (g n + (if n = k then x else 0)) = o_sum g n + g n + _
    rw [o_sum_up n]
    by_cases c : k = n
    · subst c
      rw [if_pos rfl, if_neg (show ¬ k < k by omega), if_pos (show k < k + 1 by omega)]; omega
    · rw [if_neg (show ¬ n = k from fun z => c z.symm)]
      by_cases c2 : k < n
      · rw [if_pos c2, if_pos (show k < n + 1 by omega)]; omega
      · rw [if_neg c2, if_neg (show ¬ k < n + 1 by omega)]; omega
theorem o_sh_sum {b : Nat → Nat} {n : Nat} (hn : 1 ≤ n) (hA : 0 < o_sum b n) : o_sum (o_sh b n) n = 10000 := by
  have := o_sum_up (g := fun j => 10000 * b j / o_sum b n) (x := 10000 - o_sum (fun j => 10000 * b j / o_sum b n) n) (k := o_mx b n) n
  rw [if_pos (o_mx_b hn)] at this
  show o_sum (fun j => 10000 * b j / o_sum b n + (if j = o_mx b n then 10000 - o_sum (fun j => 10000 * b j / o_sum b n) n else 0)) n = 10000
  rw [this]
  have := o_sumq_le (b := b) hA (Nat.le_refl n)
  omega
theorem o_sum_c {a b : Nat → Nat} : ∀ {n}, (∀ k, k < n → a k = b k) → o_sum a n = o_sum b n
  | 0, _ => rfl
  | n + 1, h => by unfold o_sum; rw [h n (by omega), o_sum_c (fun k hk => h k (by omega))]
theorem o_mx_c {a b : Nat → Nat} : ∀ {n}, (∀ k, k < n → a k = b k) → o_mx a n = o_mx b n
  | 0, _ => rfl
  | n + 1, h => by
    have ih := o_mx_c (n := n) (fun k hk => h k (by omega))
    unfold o_mx
    rw [ih, h n (by omega)]
    by_cases c : 1 ≤ n
    · rw [h (o_mx b n) (by have := o_mx_b (b := b) c; omega)]
    · rw [show n = 0 by omega]
      show (if a 0 < b 0 then 0 else 0) = (if b 0 < b 0 then 0 else 0)
      split <;> split <;> rfl
theorem o_sh_c {a b : Nat → Nat} {n k : Nat} (h : ∀ k, k < n → a k = b k) (hk : k < n) : o_sh a n k = o_sh b n k := by
  unfold o_sh
  rw [o_sum_c h, o_mx_c h, h k hk, o_sum_c (a := fun j => 10000 * a j / o_sum b n) (b := fun j => 10000 * b j / o_sum b n) (fun j hj => by rw [h j hj])]
/-- the odds behind so many NIGHTS -/
def o_od (wt : Nat → Nat) (F : Nat → Nat → Nat) (n : Nat) : Nat → Nat → Nat
  | 0, k => o_sh wt n k
  | i + 1, k => o_sh (fun k => o_od wt F n i k * F k i) n k
theorem o_od_c {wt wt2 : Nat → Nat} {F G : Nat → Nat → Nat} {n : Nat} (hw : ∀ k, k < n → wt k = wt2 k) : ∀ i, (∀ k, k < n → ∀ j, j < i → F k j = G k j) → ∀ k, k < n → o_od wt F n i k = o_od wt2 G n i k
  | 0, _, k, hk => o_sh_c hw hk
  | i + 1, h, k, hk => o_sh_c (fun k2 hk2 => by rw [o_od_c hw i (fun k hk j hj => h k hk j (by omega)) k2 hk2, h k2 hk2 i (by omega)]) hk
theorem o_od_sum {wt : Nat → Nat} {F : Nat → Nat → Nat} {n : Nat} (hn : 1 ≤ n) (hw : ∀ k, k < n → 1 ≤ wt k) : ∀ i, (∀ k, k < n → ∀ j, j < i → 1 ≤ F k j) → o_sum (o_od wt F n i) n = 10000 ∧ 0 < o_sum (fun k => match i with | 0 => wt k | i + 1 => o_od wt F n i k * F k i) n
  | 0, _ => by
    have h : 0 < o_sum wt n := by have := o_sum_ge (b := wt) (k := 0) (n := n) (by omega); have := hw 0 (by omega); omega
    exact ⟨o_sh_sum hn h, h⟩
  | i + 1, hF => by
    have ih := (o_od_sum hn hw i (fun k hk j hj => hF k hk j (by omega))).1
    have key : ∀ m, m ≤ n → o_sum (o_od wt F n i) m ≤ o_sum (fun k => o_od wt F n i k * F k i) m := by
      intro m
      induction m with
      | zero => intro _; exact Nat.le_refl _
      | succ m ihm =>
        intro hm
        have h1 := ihm (by omega)
        have h2 := hF m (by omega) i (by omega)
        have h3 : o_od wt F n i m * 1 ≤ o_od wt F n i m * F m i := Nat.mul_le_mul_left _ h2
        show o_sum (o_od wt F n i) m + o_od wt F n i m ≤ o_sum (fun k => o_od wt F n i k * F k i) m + o_od wt F n i m * F m i
        omega
    have h := key n (Nat.le_refl _)
    have hp : 0 < o_sum (fun k => o_od wt F n i k * F k i) n := by omega
    exact ⟨o_sh_sum hn hp, hp⟩
theorem o_od_b {wt : Nat → Nat} {F : Nat → Nat → Nat} {n i k : Nat} (hn : 1 ≤ n) (hw : ∀ k, k < n → 1 ≤ wt k) (hF : ∀ k, k < n → ∀ j, j < i → 1 ≤ F k j) (hk : k < n) : o_od wt F n i k ≤ 10000 := by
  have := (o_od_sum hn hw i hF).1
  have := o_sum_ge (b := o_od wt F n i) hk
  omega
def o_say (od sp : Nat → Nat) (m : Int64) : Nat → Int64
  | 0 => 0
  | i + 1 => o_say od sp m i + lN (od i) * (if 0 < lN (10000 * sp i) - m then lN (10000 * sp i) - m else -(lN (10000 * sp i) - m))
/-- ===== the reference ===== -/
def m_hp (W : Nat → Int32) (k n : Nat) : Prop := ¬ W (78 + 3 * k + 2) < 0 ∧ y_bit (W (93 + 5 * n + 1)) (q_n W (78 + 3 * k + 2))
/-- f is how much the NIGHT n speaks for the STORY k -/
def m_FAC (W : Nat → Int32) (k n f : Nat) : Prop := ∃ us h v, us < 2 ^ q_n W 2 ∧ W (78 + 3 * k + 1) &&& (nI (2 ^ q_n W 2) - 1) = nI us ∧ ((h = 1 ∧ m_hp W k n) ∨ (h = 0 ∧ ¬ m_hp W k n)) ∧ m_cbe W (q_n W (93 + 5 * n)) us h v ∧ f = o_tr (fun t => decide (y_bit (W (93 + 5 * n + 3)) t)) (fun t => decide (y_bit (W (93 + 5 * n + 4)) t)) (m_spr W k) (o_th (fun th => decide (y_bit v th)) (fun th => decide (y_bit (W (93 + 5 * n + 2)) th)) (q_n W 3)) (q_n W 5)
theorem m_FAC_b {W : Nat → Int32} {k n f : Nat} (hW : m_W W) (hO : m_WO W) (h : m_FAC W k n f) : 1 ≤ f ∧ f ≤ 3486784401 := by
  obtain ⟨us, h, v, -, -, -, -, rfl⟩ := h
  have a := o_th_b (c := fun th => decide (y_bit v th)) (came := fun th => decide (y_bit (W (93 + 5 * n + 2)) th)) (n := q_n W 3)
  have b := o_tr_b (set := fun t => decide (y_bit (W (93 + 5 * n + 3)) t)) (spr := fun t => decide (y_bit (W (93 + 5 * n + 4)) t)) (often := m_spr W k) (n := q_n W 5) (fun t ht => m_spr_b hO ht) a.1
  have c1 : 9 ^ q_n W 3 ≤ 9 ^ 6 := Nat.pow_le_pow_right (by decide) hW.2.2.2.1.2
  have c2 : 9 ^ q_n W 5 ≤ 9 ^ 4 := Nat.pow_le_pow_right (by decide) hO.1.2
  refine ⟨b.1, Nat.le_trans b.2 ?_⟩
  exact Nat.le_trans (Nat.mul_le_mul (Nat.le_trans a.2 c1) c2) (by decide)
theorem c_factorOf {V : x_E} {n : Nat} {L : List Nat} {D : y_D} {k n9 : Nat} (hL : y_ok L) (hW : m_W (D 170).1) (hO : m_WO (D 170).1) (hKI : m_KI (D 170).1 D) (hk : k < q_n (D 170).1 6) (hn : n9 < q_n (D 170).1 7) : y_Rj V yX11_factorOf cX11_factorOf 10 (some .long) 9 [.ref 169, .int (nI k), .int (nI n9)] n L D (fun v D2 => m_fA D D2 ∧ m_KI (D 170).1 D2 ∧ ∃ f, v = lN f ∧ m_FAC (D 170).1 k n9 f) := by
  refine y_rj (by decide) (Nat.le_of_ble_eq_true rfl) (fun E hE => ?_)
  change E 0 0 0 [(0, .ref 169), (1, .int (nI k)), (2, .int (nI n9))] [] (y_mk n L D)
  have hn12 : (q_n (D 170).1 7) ≤ 12 := hO.2.2.1.2
  have hs5 : (q_n (D 170).1 6) ≤ 5 := hO.2.1.2
  have hr4 : q_n (D 170).1 1 ≤ 4 := hW.2.1.2
  rcases (hO.2.2.2.2.1 k hk).2 with hh | hh
  · refine r_bipush (v := 93) hE dX11_factorOf_0 (by decide) ?_
    refine r_iconst (v := 5) hE dX11_factorOf_2 (by decide) ?_
    refine r_iload_n hE dX11_factorOf_3 rfl ?_
    refine r_imulN (a := 5) (b := n9) hE dX11_factorOf_4 ?_
    refine r_iaddN (a := 93) (b := 5 * n9) hE dX11_factorOf_5 ?_
    refine r_istore_n (ls2 := [(0, .ref 169), (1, .int (nI k)), (2, .int (nI n9)), (3, .int (nI (93 + (5 * n9))))]) hE dX11_factorOf_6 (by decide) rfl ?_
    refine r_aload_n hE dX11_factorOf_7 rfl ?_
    refine t_getr hE f_X11_13 y_R_169_1 dX11_factorOf_8 (hL 169 (by decide)) ?_
    refine r_bipush (v := 78) hE dX11_factorOf_11 (by decide) ?_
    refine r_iconst (v := 3) hE dX11_factorOf_13 (by decide) ?_
    refine r_iload_n hE dX11_factorOf_14 rfl ?_
    refine r_imulN (a := 3) (b := k) hE dX11_factorOf_15 ?_
    refine r_iaddN (a := 78) (b := 3 * k) hE dX11_factorOf_16 ?_
    refine r_iconst (v := 2) hE dX11_factorOf_17 (by decide) ?_
    refine r_iaddN (a := 78 + (3 * k)) (b := 2) hE dX11_factorOf_18 ?_
    refine t_ialdN (e := (78 + (3 * k)) + 2) hE y_A_170 dX11_factorOf_19 (hL 170 (by decide)) (by omega) (by decide) ?_
    refine r_top (y := (-1)) hh ?_
    refine r_istore (ls2 := [(0, .ref 169), (1, .int (nI k)), (2, .int (nI n9)), (3, .int (nI (93 + (5 * n9)))), (4, .int (-1))]) hE dX11_factorOf_20 (by decide) rfl ?_
    refine r_aload_n hE dX11_factorOf_22 rfl ?_
    refine r_aload_n hE dX11_factorOf_23 rfl ?_
    refine t_getr hE f_X11_13 y_R_169_1 dX11_factorOf_24 (hL 169 (by decide)) ?_
    refine r_iload_n hE dX11_factorOf_27 rfl ?_
    refine t_ialdN (e := 93 + (5 * n9)) hE y_A_170 dX11_factorOf_28 (hL 170 (by decide)) (by omega) (by decide) ?_
    refine r_top (y := (nI (q_n (D 170).1 (93 + 5 * n9)))) (hO.2.2.2.2.2 n9 hn).1 ?_
    refine r_aload_n hE dX11_factorOf_29 rfl ?_
    refine t_getr hE f_X11_13 y_R_169_1 dX11_factorOf_30 (hL 169 (by decide)) ?_
    refine r_bipush (v := 78) hE dX11_factorOf_33 (by decide) ?_
    refine r_iconst (v := 3) hE dX11_factorOf_35 (by decide) ?_
    refine r_iload_n hE dX11_factorOf_36 rfl ?_
    refine r_imulN (a := 3) (b := k) hE dX11_factorOf_37 ?_
    refine r_iaddN (a := 78) (b := 3 * k) hE dX11_factorOf_38 ?_
    refine r_iconst (v := 1) hE dX11_factorOf_39 (by decide) ?_
    refine r_iaddN (a := 78 + (3 * k)) (b := 1) hE dX11_factorOf_40 ?_
    refine t_ialdN (e := (78 + (3 * k)) + 1) hE y_A_170 dX11_factorOf_41 (hL 170 (by decide)) (by omega) (by decide) ?_
    refine r_iload hE dX11_factorOf_42 rfl ?_
    refine r_if_lt (tgt := 68) hE dX11_factorOf_44 (by decide) (fun _ => ?_) (fun c44 => by first | exact absurd c44 (by decide) | exact absurd (by decide) c44)
    refine r_iconst (v := 0) hE dX11_factorOf_68 (by decide) ?_
    refine t_invvRi hE [.int (nI (q_n (D 170).1 (93 + 5 * n9))), .int ((D 170).1 ((78 + (3 * k)) + 1)), .int 0] (c_canBe0 (t := q_n (D 170).1 (93 + 5 * n9)) (u := ((D 170).1 (78 + 3 * k + 1))) hL hW hKI (hO.2.2.2.2.2 n9 hn).2) v_yX11_canBe m_X11_343 dX11_factorOf_69 rfl (hL 169 (by decide)) (y_l_169 (D 169)) rfl (by decide) ⟨Nat.le_refl _, Nat.le_refl _⟩ (Nat.le_of_ble_eq_true rfl) (fun v1 D1 q1 => ?_)
    obtain ⟨fA1, KI1, us, hus, eus, cb1⟩ := q1
    show E 0 0 72 [(0, .ref 169), (1, .int (nI k)), (2, .int (nI n9)), (3, .int (nI (93 + (5 * n9)))), (4, .int (-1))] [.int v1] (y_mk n L D1)
    refine r_istore (ls2 := [(0, .ref 169), (1, .int (nI k)), (2, .int (nI n9)), (3, .int (nI (93 + (5 * n9)))), (4, .int (-1)), (5, .int v1)]) hE dX11_factorOf_72 (by decide) rfl ?_
    refine r_lconst (v := 1) hE dX11_factorOf_74 (by decide) ?_
    refine r_lstore (ls2 := [(0, .ref 169), (1, .int (nI k)), (2, .int (nI n9)), (3, .int (nI (93 + (5 * n9)))), (4, .int (-1)), (5, .int v1), (6, .long 1)]) hE dX11_factorOf_75 (by decide) rfl ?_
    refine r_iconst (v := 0) hE dX11_factorOf_77 (by decide) ?_
    refine r_istore (ls2 := [(0, .ref 169), (1, .int (nI k)), (2, .int (nI n9)), (3, .int (nI (93 + (5 * n9)))), (4, .int (-1)), (5, .int v1), (6, .long 1), (8, .int 0)]) hE dX11_factorOf_78 (by decide) rfl ?_
    have hhl : (0 = 1 ∧ m_hp (D 170).1 k n9) ∨ (0 = 0 ∧ ¬ m_hp (D 170).1 k n9) := Or.inr ⟨rfl, fun q => q.1 (by rw [hh]; decide)⟩
    have hn6 : (q_n (D 170).1 3) ≤ 6 := hW.2.2.2.1.2
    have l1 : ∀ (i : Nat), i ≤ (q_n (D 170).1 3) → E 0 0 80 [(0, .ref 169), (1, .int (nI k)), (2, .int (nI n9)), (3, .int (nI (93 + 5 * n9))), (4, .int (-1)), (5, .int v1), (6, .long (lN (o_th (fun th => decide (y_bit v1 th)) (fun th => decide (y_bit ((D 170).1 (93 + 5 * n9 + 2)) th)) i))), (8, .int (nI i))] [] (y_mk n L D1) := by
      intro i
      induction hm9 : ((q_n (D 170).1 3) - i) using Nat.strongRecOn generalizing i with
      | _ m9 ih =>
        intro hi
        subst hm9
        refine r_iload hE dX11_factorOf_80 rfl ?_
        refine r_aload_n hE dX11_factorOf_82 rfl ?_
        refine t_getr hE f_X11_13 y_R_169_1 dX11_factorOf_83 (hL 169 (by decide)) ?_
        refine r_iconst (v := 3) hE dX11_factorOf_86 (by decide) ?_
        refine t_ialdN (e := 3) hE y_A_170 dX11_factorOf_87 (hL 170 (by decide)) (by omega) (by decide) ?_
        refine r_top (y := (nI (q_n (D 170).1 3))) (by rw [fA1.1 170 (by decide)]; exact hW.2.2.2.1.1) ?_
        refine r_icmp_geN (a := i) (b := (q_n (D 170).1 3)) (tgt := 166) hE dX11_factorOf_88 (by decide) (by omega) (by omega) (fun c88 => ?_) (fun c88 => ?_)
        · refine r_iconst (v := 0) hE dX11_factorOf_166 (by decide) ?_
          refine r_istore (ls2 := [(0, .ref 169), (1, .int (nI k)), (2, .int (nI n9)), (3, .int (nI (93 + 5 * n9))), (4, .int (-1)), (5, .int v1), (6, .long (lN (o_th (fun th => decide (y_bit v1 th)) (fun th => decide (y_bit ((D 170).1 (93 + 5 * n9 + 2)) th)) i))), (8, .int 0)]) hE dX11_factorOf_167 (by decide) rfl ?_
          have hn4 : (q_n (D 170).1 5) ≤ 4 := hO.1.2
          rw [show i = (q_n (D 170).1 3) by omega]
          have l2 : ∀ (i : Nat), i ≤ (q_n (D 170).1 5) → E 0 0 169 [(0, .ref 169), (1, .int (nI k)), (2, .int (nI n9)), (3, .int (nI (93 + 5 * n9))), (4, .int (-1)), (5, .int v1), (6, .long (lN (o_tr (fun t => decide (y_bit ((D 170).1 (93 + 5 * n9 + 3)) t)) (fun t => decide (y_bit ((D 170).1 (93 + 5 * n9 + 4)) t)) (m_spr (D 170).1 k) (o_th (fun th => decide (y_bit v1 th)) (fun th => decide (y_bit ((D 170).1 (93 + 5 * n9 + 2)) th)) (q_n (D 170).1 3)) i))), (8, .int (nI i))] [] (y_mk n L D1) := by
            intro i
            induction hm9 : ((q_n (D 170).1 5) - i) using Nat.strongRecOn generalizing i with
            | _ m9 ih =>
              intro hi
              subst hm9
              refine r_iload hE dX11_factorOf_169 rfl ?_
              refine r_aload_n hE dX11_factorOf_171 rfl ?_
              refine t_getr hE f_X11_13 y_R_169_1 dX11_factorOf_172 (hL 169 (by decide)) ?_
              refine r_iconst (v := 5) hE dX11_factorOf_175 (by decide) ?_
              refine t_ialdN (e := 5) hE y_A_170 dX11_factorOf_176 (hL 170 (by decide)) (by omega) (by decide) ?_
              refine r_top (y := (nI (q_n (D 170).1 5))) (by rw [fA1.1 170 (by decide)]; exact hO.1.1) ?_
              refine r_icmp_geN (a := i) (b := (q_n (D 170).1 5)) (tgt := 248) hE dX11_factorOf_177 (by decide) (by omega) (by omega) (fun c177 => ?_) (fun c177 => ?_)
              · refine r_lload hE dX11_factorOf_248 rfl ?_
                refine r_lreturn hE dX11_factorOf_250 rfl (Nat.zero_le _) (Nat.zero_le _) ?_
                rw [show i = (q_n (D 170).1 5) by omega]
                exact ⟨_, _, rfl, rfl, fA1, KI1, _, rfl, ⟨us, 0, v1, hus, eus, hhl, cb1, rfl⟩⟩
              · refine r_aload_n hE dX11_factorOf_180 rfl ?_
                refine t_getr hE f_X11_13 y_R_169_1 dX11_factorOf_181 (hL 169 (by decide)) ?_
                refine r_iload_n hE dX11_factorOf_184 rfl ?_
                refine r_iconst (v := 3) hE dX11_factorOf_185 (by decide) ?_
                refine r_iaddN (a := 93 + 5 * n9) (b := 3) hE dX11_factorOf_186 ?_
                refine t_ialdN (e := (93 + 5 * n9) + 3) hE y_A_170 dX11_factorOf_187 (hL 170 (by decide)) (by omega) (by decide) ?_
                refine r_top (y := ((D 170).1 (93 + 5 * n9 + 3))) (by rw [fA1.1 170 (by decide)]) ?_
                refine r_iload hE dX11_factorOf_188 rfl ?_
                refine r_ishr hE dX11_factorOf_190 ?_
                refine r_iconst (v := 1) hE dX11_factorOf_191 (by decide) ?_
                refine r_iand hE dX11_factorOf_192 ?_
                refine r_if_ne (tgt := 199) hE dX11_factorOf_193 (by decide) (fun c193 => ?_) (fun c193 => ?_)
                · refine r_aload_n hE dX11_factorOf_199 rfl ?_
                  refine r_iload_n hE dX11_factorOf_200 rfl ?_
                  refine r_iload hE dX11_factorOf_201 rfl ?_
                  refine t_invv (r := (some (.int (nI (m_spr (D1 170).1 k i))))) (S2 := (y_mk n L D1)) hE [.int (nI k), .int (nI i)] (c_springs (D := D1) (k := k) (t := i) hL (by rw [fA1.1 170 (by decide)]; exact hO) (by rw [fA1.1 170 (by decide)]; exact hk) (by rw [fA1.1 170 (by decide)]; omega)) v_yX11_springs m_X11_353 dX11_factorOf_203 rfl (hL 169 (by decide)) (y_l_169 (D1 169)) rfl (by decide) ⟨Nat.le_refl _, Nat.le_refl _⟩ (Nat.le_of_ble_eq_true rfl) ?_
                  show E 0 0 206 [(0, .ref 169), (1, .int (nI k)), (2, .int (nI n9)), (3, .int (nI (93 + 5 * n9))), (4, .int (-1)), (5, .int v1), (6, .long (lN (o_tr (fun t => decide (y_bit ((D 170).1 (93 + 5 * n9 + 3)) t)) (fun t => decide (y_bit ((D 170).1 (93 + 5 * n9 + 4)) t)) (m_spr (D 170).1 k) (o_th (fun th => decide (y_bit v1 th)) (fun th => decide (y_bit ((D 170).1 (93 + 5 * n9 + 2)) th)) (q_n (D 170).1 3)) i))), (8, .int (nI i))] [.int (nI (m_spr (D1 170).1 k i))] (y_mk n L D1)
                  refine r_top (y := (nI (m_spr (D 170).1 k i))) (by rw [fA1.1 170 (by decide)]) ?_
                  have hs9 := m_spr_b (k := k) hO (t := i) (by omega)
                  refine r_istore (ls2 := [(0, .ref 169), (1, .int (nI k)), (2, .int (nI n9)), (3, .int (nI (93 + 5 * n9))), (4, .int (-1)), (5, .int v1), (6, .long (lN (o_tr (fun t => decide (y_bit ((D 170).1 (93 + 5 * n9 + 3)) t)) (fun t => decide (y_bit ((D 170).1 (93 + 5 * n9 + 4)) t)) (m_spr (D 170).1 k) (o_th (fun th => decide (y_bit v1 th)) (fun th => decide (y_bit ((D 170).1 (93 + 5 * n9 + 2)) th)) (q_n (D 170).1 3)) i))), (8, .int (nI i)), (9, .int (nI (m_spr (D 170).1 k i)))]) hE dX11_factorOf_206 (by decide) rfl ?_
                  refine r_lload hE dX11_factorOf_208 rfl ?_
                  refine r_aload_n hE dX11_factorOf_210 rfl ?_
                  refine t_getr hE f_X11_13 y_R_169_1 dX11_factorOf_211 (hL 169 (by decide)) ?_
                  refine r_iload_n hE dX11_factorOf_214 rfl ?_
                  refine r_iconst (v := 4) hE dX11_factorOf_215 (by decide) ?_
                  refine r_iaddN (a := 93 + 5 * n9) (b := 4) hE dX11_factorOf_216 ?_
                  refine t_ialdN (e := (93 + 5 * n9) + 4) hE y_A_170 dX11_factorOf_217 (hL 170 (by decide)) (by omega) (by decide) ?_
                  refine r_top (y := ((D 170).1 (93 + 5 * n9 + 4))) (by rw [fA1.1 170 (by decide)]) ?_
                  refine r_iload hE dX11_factorOf_218 rfl ?_
                  refine r_ishr hE dX11_factorOf_220 ?_
                  refine r_iconst (v := 1) hE dX11_factorOf_221 (by decide) ?_
                  refine r_iand hE dX11_factorOf_222 ?_
                  refine r_iconst (v := 1) hE dX11_factorOf_223 (by decide) ?_
                  refine r_icmp_ne (tgt := 233) hE dX11_factorOf_224 (by decide) (fun c224 => ?_) (fun c224 => ?_)
                  · refine r_bipush (v := 10) hE dX11_factorOf_233 (by decide) ?_
                    refine r_iload hE dX11_factorOf_235 rfl ?_
                    refine r_isubN (a := 10) (b := m_spr (D 170).1 k i) hE dX11_factorOf_237 (by omega) ?_
                    refine r_i2l hE dX11_factorOf_238 ?_
                    refine r_topL (y := lN (10 - (m_spr (D 170).1 k i))) (nI_l (by omega)) ?_
                    refine r_lmul hE dX11_factorOf_239 ?_
                    refine r_topL (y := lN ((o_tr (fun t => decide (y_bit ((D 170).1 (93 + 5 * n9 + 3)) t)) (fun t => decide (y_bit ((D 170).1 (93 + 5 * n9 + 4)) t)) (m_spr (D 170).1 k) (o_th (fun th => decide (y_bit v1 th)) (fun th => decide (y_bit ((D 170).1 (93 + 5 * n9 + 2)) th)) (q_n (D 170).1 3)) i) * (10 - (m_spr (D 170).1 k i)))) (lN_mul (o_tr (fun t => decide (y_bit ((D 170).1 (93 + 5 * n9 + 3)) t)) (fun t => decide (y_bit ((D 170).1 (93 + 5 * n9 + 4)) t)) (m_spr (D 170).1 k) (o_th (fun th => decide (y_bit v1 th)) (fun th => decide (y_bit ((D 170).1 (93 + 5 * n9 + 2)) th)) (q_n (D 170).1 3)) i) (10 - (m_spr (D 170).1 k i))) ?_
                    refine r_lstore (ls2 := [(0, .ref 169), (1, .int (nI k)), (2, .int (nI n9)), (3, .int (nI (93 + 5 * n9))), (4, .int (-1)), (5, .int v1), (6, .long (lN ((o_tr (fun t => decide (y_bit ((D 170).1 (93 + 5 * n9 + 3)) t)) (fun t => decide (y_bit ((D 170).1 (93 + 5 * n9 + 4)) t)) (m_spr (D 170).1 k) (o_th (fun th => decide (y_bit v1 th)) (fun th => decide (y_bit ((D 170).1 (93 + 5 * n9 + 2)) th)) (q_n (D 170).1 3)) i) * (10 - (m_spr (D 170).1 k i))))), (8, .int (nI i)), (9, .int (nI (m_spr (D 170).1 k i)))]) hE dX11_factorOf_240 (by decide) rfl ?_
                    refine r_iincN (a := i) (b := 1) (ls2 := [(0, .ref 169), (1, .int (nI k)), (2, .int (nI n9)), (3, .int (nI (93 + 5 * n9))), (4, .int (-1)), (5, .int v1), (6, .long (lN ((o_tr (fun t => decide (y_bit ((D 170).1 (93 + 5 * n9 + 3)) t)) (fun t => decide (y_bit ((D 170).1 (93 + 5 * n9 + 4)) t)) (m_spr (D 170).1 k) (o_th (fun th => decide (y_bit v1 th)) (fun th => decide (y_bit ((D 170).1 (93 + 5 * n9 + 2)) th)) (q_n (D 170).1 3)) i) * (10 - (m_spr (D 170).1 k i))))), (8, .int (nI (i + 1))), (9, .int (nI (m_spr (D 170).1 k i)))]) hE dX11_factorOf_242 rfl rfl (by decide) rfl ?_
                    refine r_goto (tgt := 169) hE dX11_factorOf_245 (by decide) ?_
                    have e9 : o_tr (fun t => decide (y_bit ((D 170).1 (93 + 5 * n9 + 3)) t)) (fun t => decide (y_bit ((D 170).1 (93 + 5 * n9 + 4)) t)) (m_spr (D 170).1 k) (o_th (fun th => decide (y_bit v1 th)) (fun th => decide (y_bit ((D 170).1 (93 + 5 * n9 + 2)) th)) (q_n (D 170).1 3)) (i + 1) = (o_tr (fun t => decide (y_bit ((D 170).1 (93 + 5 * n9 + 3)) t)) (fun t => decide (y_bit ((D 170).1 (93 + 5 * n9 + 4)) t)) (m_spr (D 170).1 k) (o_th (fun th => decide (y_bit v1 th)) (fun th => decide (y_bit ((D 170).1 (93 + 5 * n9 + 2)) th)) (q_n (D 170).1 3)) i) * (10 - (m_spr (D 170).1 k i)) := by
                      show (if (fun t => decide (y_bit ((D 170).1 (93 + 5 * n9 + 3)) t)) i then o_tr (fun t => decide (y_bit ((D 170).1 (93 + 5 * n9 + 3)) t)) (fun t => decide (y_bit ((D 170).1 (93 + 5 * n9 + 4)) t)) (m_spr (D 170).1 k) (o_th (fun th => decide (y_bit v1 th)) (fun th => decide (y_bit ((D 170).1 (93 + 5 * n9 + 2)) th)) (q_n (D 170).1 3)) i * (if (fun t => decide (y_bit ((D 170).1 (93 + 5 * n9 + 4)) t)) i then m_spr (D 170).1 k i else 10 - m_spr (D 170).1 k i) else o_tr (fun t => decide (y_bit ((D 170).1 (93 + 5 * n9 + 3)) t)) (fun t => decide (y_bit ((D 170).1 (93 + 5 * n9 + 4)) t)) (m_spr (D 170).1 k) (o_th (fun th => decide (y_bit v1 th)) (fun th => decide (y_bit ((D 170).1 (93 + 5 * n9 + 2)) th)) (q_n (D 170).1 3)) i) = _
                      rw [if_pos (decide_eq_true (y_bit_y c193))]
                      rw [if_neg (fun q => c224 (of_decide_eq_true q))]
                    refine r_locs hE (ls2 := [(0, .ref 169), (1, .int (nI k)), (2, .int (nI n9)), (3, .int (nI (93 + 5 * n9))), (4, .int (-1)), (5, .int v1), (6, .long (lN (o_tr (fun t => decide (y_bit ((D 170).1 (93 + 5 * n9 + 3)) t)) (fun t => decide (y_bit ((D 170).1 (93 + 5 * n9 + 4)) t)) (m_spr (D 170).1 k) (o_th (fun th => decide (y_bit v1 th)) (fun th => decide (y_bit ((D 170).1 (93 + 5 * n9 + 2)) th)) (q_n (D 170).1 3)) (i + 1)))), (8, .int (nI (i + 1)))]) ?_ (ih ((q_n (D 170).1 5) - (i + 1)) (by omega) (i + 1) rfl (by omega))
                    rw [e9]
                    simp [x_lk]
                  · refine r_iload hE dX11_factorOf_227 rfl ?_
                    refine r_i2l hE dX11_factorOf_229 ?_
                    refine r_topL (y := lN (m_spr (D 170).1 k i)) (nI_l (by omega)) ?_
                    refine r_goto (tgt := 239) hE dX11_factorOf_230 (by decide) ?_
                    refine r_lmul hE dX11_factorOf_239 ?_
                    refine r_topL (y := lN ((o_tr (fun t => decide (y_bit ((D 170).1 (93 + 5 * n9 + 3)) t)) (fun t => decide (y_bit ((D 170).1 (93 + 5 * n9 + 4)) t)) (m_spr (D 170).1 k) (o_th (fun th => decide (y_bit v1 th)) (fun th => decide (y_bit ((D 170).1 (93 + 5 * n9 + 2)) th)) (q_n (D 170).1 3)) i) * (m_spr (D 170).1 k i))) (lN_mul (o_tr (fun t => decide (y_bit ((D 170).1 (93 + 5 * n9 + 3)) t)) (fun t => decide (y_bit ((D 170).1 (93 + 5 * n9 + 4)) t)) (m_spr (D 170).1 k) (o_th (fun th => decide (y_bit v1 th)) (fun th => decide (y_bit ((D 170).1 (93 + 5 * n9 + 2)) th)) (q_n (D 170).1 3)) i) (m_spr (D 170).1 k i)) ?_
                    refine r_lstore (ls2 := [(0, .ref 169), (1, .int (nI k)), (2, .int (nI n9)), (3, .int (nI (93 + 5 * n9))), (4, .int (-1)), (5, .int v1), (6, .long (lN ((o_tr (fun t => decide (y_bit ((D 170).1 (93 + 5 * n9 + 3)) t)) (fun t => decide (y_bit ((D 170).1 (93 + 5 * n9 + 4)) t)) (m_spr (D 170).1 k) (o_th (fun th => decide (y_bit v1 th)) (fun th => decide (y_bit ((D 170).1 (93 + 5 * n9 + 2)) th)) (q_n (D 170).1 3)) i) * (m_spr (D 170).1 k i)))), (8, .int (nI i)), (9, .int (nI (m_spr (D 170).1 k i)))]) hE dX11_factorOf_240 (by decide) rfl ?_
                    refine r_iincN (a := i) (b := 1) (ls2 := [(0, .ref 169), (1, .int (nI k)), (2, .int (nI n9)), (3, .int (nI (93 + 5 * n9))), (4, .int (-1)), (5, .int v1), (6, .long (lN ((o_tr (fun t => decide (y_bit ((D 170).1 (93 + 5 * n9 + 3)) t)) (fun t => decide (y_bit ((D 170).1 (93 + 5 * n9 + 4)) t)) (m_spr (D 170).1 k) (o_th (fun th => decide (y_bit v1 th)) (fun th => decide (y_bit ((D 170).1 (93 + 5 * n9 + 2)) th)) (q_n (D 170).1 3)) i) * (m_spr (D 170).1 k i)))), (8, .int (nI (i + 1))), (9, .int (nI (m_spr (D 170).1 k i)))]) hE dX11_factorOf_242 rfl rfl (by decide) rfl ?_
                    refine r_goto (tgt := 169) hE dX11_factorOf_245 (by decide) ?_
                    have e9 : o_tr (fun t => decide (y_bit ((D 170).1 (93 + 5 * n9 + 3)) t)) (fun t => decide (y_bit ((D 170).1 (93 + 5 * n9 + 4)) t)) (m_spr (D 170).1 k) (o_th (fun th => decide (y_bit v1 th)) (fun th => decide (y_bit ((D 170).1 (93 + 5 * n9 + 2)) th)) (q_n (D 170).1 3)) (i + 1) = (o_tr (fun t => decide (y_bit ((D 170).1 (93 + 5 * n9 + 3)) t)) (fun t => decide (y_bit ((D 170).1 (93 + 5 * n9 + 4)) t)) (m_spr (D 170).1 k) (o_th (fun th => decide (y_bit v1 th)) (fun th => decide (y_bit ((D 170).1 (93 + 5 * n9 + 2)) th)) (q_n (D 170).1 3)) i) * (m_spr (D 170).1 k i) := by
                      show (if (fun t => decide (y_bit ((D 170).1 (93 + 5 * n9 + 3)) t)) i then o_tr (fun t => decide (y_bit ((D 170).1 (93 + 5 * n9 + 3)) t)) (fun t => decide (y_bit ((D 170).1 (93 + 5 * n9 + 4)) t)) (m_spr (D 170).1 k) (o_th (fun th => decide (y_bit v1 th)) (fun th => decide (y_bit ((D 170).1 (93 + 5 * n9 + 2)) th)) (q_n (D 170).1 3)) i * (if (fun t => decide (y_bit ((D 170).1 (93 + 5 * n9 + 4)) t)) i then m_spr (D 170).1 k i else 10 - m_spr (D 170).1 k i) else o_tr (fun t => decide (y_bit ((D 170).1 (93 + 5 * n9 + 3)) t)) (fun t => decide (y_bit ((D 170).1 (93 + 5 * n9 + 4)) t)) (m_spr (D 170).1 k) (o_th (fun th => decide (y_bit v1 th)) (fun th => decide (y_bit ((D 170).1 (93 + 5 * n9 + 2)) th)) (q_n (D 170).1 3)) i) = _
                      rw [if_pos (decide_eq_true (y_bit_y c193))]
                      rw [if_pos (decide_eq_true c224)]
                    refine r_locs hE (ls2 := [(0, .ref 169), (1, .int (nI k)), (2, .int (nI n9)), (3, .int (nI (93 + 5 * n9))), (4, .int (-1)), (5, .int v1), (6, .long (lN (o_tr (fun t => decide (y_bit ((D 170).1 (93 + 5 * n9 + 3)) t)) (fun t => decide (y_bit ((D 170).1 (93 + 5 * n9 + 4)) t)) (m_spr (D 170).1 k) (o_th (fun th => decide (y_bit v1 th)) (fun th => decide (y_bit ((D 170).1 (93 + 5 * n9 + 2)) th)) (q_n (D 170).1 3)) (i + 1)))), (8, .int (nI (i + 1)))]) ?_ (ih ((q_n (D 170).1 5) - (i + 1)) (by omega) (i + 1) rfl (by omega))
                    rw [e9]
                    simp [x_lk]
                · refine r_goto (tgt := 242) hE dX11_factorOf_196 (by decide) ?_
                  refine r_iincN (a := i) (b := 1) (ls2 := [(0, .ref 169), (1, .int (nI k)), (2, .int (nI n9)), (3, .int (nI (93 + 5 * n9))), (4, .int (-1)), (5, .int v1), (6, .long (lN (o_tr (fun t => decide (y_bit ((D 170).1 (93 + 5 * n9 + 3)) t)) (fun t => decide (y_bit ((D 170).1 (93 + 5 * n9 + 4)) t)) (m_spr (D 170).1 k) (o_th (fun th => decide (y_bit v1 th)) (fun th => decide (y_bit ((D 170).1 (93 + 5 * n9 + 2)) th)) (q_n (D 170).1 3)) i))), (8, .int (nI (i + 1)))]) hE dX11_factorOf_242 rfl rfl (by decide) rfl ?_
                  refine r_goto (tgt := 169) hE dX11_factorOf_245 (by decide) ?_
                  have e9 : o_tr (fun t => decide (y_bit ((D 170).1 (93 + 5 * n9 + 3)) t)) (fun t => decide (y_bit ((D 170).1 (93 + 5 * n9 + 4)) t)) (m_spr (D 170).1 k) (o_th (fun th => decide (y_bit v1 th)) (fun th => decide (y_bit ((D 170).1 (93 + 5 * n9 + 2)) th)) (q_n (D 170).1 3)) (i + 1) = o_tr (fun t => decide (y_bit ((D 170).1 (93 + 5 * n9 + 3)) t)) (fun t => decide (y_bit ((D 170).1 (93 + 5 * n9 + 4)) t)) (m_spr (D 170).1 k) (o_th (fun th => decide (y_bit v1 th)) (fun th => decide (y_bit ((D 170).1 (93 + 5 * n9 + 2)) th)) (q_n (D 170).1 3)) i := by
                    show (if (fun t => decide (y_bit ((D 170).1 (93 + 5 * n9 + 3)) t)) i then o_tr (fun t => decide (y_bit ((D 170).1 (93 + 5 * n9 + 3)) t)) (fun t => decide (y_bit ((D 170).1 (93 + 5 * n9 + 4)) t)) (m_spr (D 170).1 k) (o_th (fun th => decide (y_bit v1 th)) (fun th => decide (y_bit ((D 170).1 (93 + 5 * n9 + 2)) th)) (q_n (D 170).1 3)) i * (if (fun t => decide (y_bit ((D 170).1 (93 + 5 * n9 + 4)) t)) i then m_spr (D 170).1 k i else 10 - m_spr (D 170).1 k i) else o_tr (fun t => decide (y_bit ((D 170).1 (93 + 5 * n9 + 3)) t)) (fun t => decide (y_bit ((D 170).1 (93 + 5 * n9 + 4)) t)) (m_spr (D 170).1 k) (o_th (fun th => decide (y_bit v1 th)) (fun th => decide (y_bit ((D 170).1 (93 + 5 * n9 + 2)) th)) (q_n (D 170).1 3)) i) = _
                    rw [if_neg (fun q => by have := of_decide_eq_true q; exact absurd ((show _ = (1 : Int32) from this).symm.trans c193) (by decide))]
                  refine r_locs hE (ls2 := [(0, .ref 169), (1, .int (nI k)), (2, .int (nI n9)), (3, .int (nI (93 + 5 * n9))), (4, .int (-1)), (5, .int v1), (6, .long (lN (o_tr (fun t => decide (y_bit ((D 170).1 (93 + 5 * n9 + 3)) t)) (fun t => decide (y_bit ((D 170).1 (93 + 5 * n9 + 4)) t)) (m_spr (D 170).1 k) (o_th (fun th => decide (y_bit v1 th)) (fun th => decide (y_bit ((D 170).1 (93 + 5 * n9 + 2)) th)) (q_n (D 170).1 3)) (i + 1)))), (8, .int (nI (i + 1)))]) ?_ (ih ((q_n (D 170).1 5) - (i + 1)) (by omega) (i + 1) rfl (by omega))
                  rw [e9]
                  simp [x_lk]
          exact l2 0 (by omega)
        · refine r_aload_n hE dX11_factorOf_91 rfl ?_
          refine t_getr hE f_X11_13 y_R_169_1 dX11_factorOf_92 (hL 169 (by decide)) ?_
          refine r_iload_n hE dX11_factorOf_95 rfl ?_
          refine r_iconst (v := 2) hE dX11_factorOf_96 (by decide) ?_
          refine r_iaddN (a := 93 + 5 * n9) (b := 2) hE dX11_factorOf_97 ?_
          refine t_ialdN (e := (93 + 5 * n9) + 2) hE y_A_170 dX11_factorOf_98 (hL 170 (by decide)) (by omega) (by decide) ?_
          refine r_top (y := ((D 170).1 (93 + 5 * n9 + 2))) (by rw [fA1.1 170 (by decide)]) ?_
          refine r_iload hE dX11_factorOf_99 rfl ?_
          refine r_ishr hE dX11_factorOf_101 ?_
          refine r_iconst (v := 1) hE dX11_factorOf_102 (by decide) ?_
          refine r_iand hE dX11_factorOf_103 ?_
          refine r_iconst (v := 1) hE dX11_factorOf_104 (by decide) ?_
          refine r_icmp_ne (tgt := 112) hE dX11_factorOf_105 (by decide) (fun c105 => ?_) (fun c105 => ?_)
          · refine r_iconst (v := 0) hE dX11_factorOf_112 (by decide) ?_
            refine r_istore (ls2 := [(0, .ref 169), (1, .int (nI k)), (2, .int (nI n9)), (3, .int (nI (93 + 5 * n9))), (4, .int (-1)), (5, .int v1), (6, .long (lN (o_th (fun th => decide (y_bit v1 th)) (fun th => decide (y_bit ((D 170).1 (93 + 5 * n9 + 2)) th)) i))), (8, .int (nI i)), (9, .int 0)]) hE dX11_factorOf_113 (by decide) rfl ?_
            refine r_lload hE dX11_factorOf_115 rfl ?_
            refine r_iload hE dX11_factorOf_117 rfl ?_
            refine r_iload hE dX11_factorOf_119 rfl ?_
            refine r_ishr hE dX11_factorOf_121 ?_
            refine r_iconst (v := 1) hE dX11_factorOf_122 (by decide) ?_
            refine r_iand hE dX11_factorOf_123 ?_
            refine r_iconst (v := 1) hE dX11_factorOf_124 (by decide) ?_
            refine r_icmp_ne (tgt := 145) hE dX11_factorOf_125 (by decide) (fun c125 => ?_) (fun c125 => ?_)
            · refine r_iload hE dX11_factorOf_145 rfl ?_
              refine r_if_eq (tgt := 154) hE dX11_factorOf_147 (by decide) (fun _ => ?_) (fun c147 => by first | exact absurd c147 (by decide) | exact absurd (by decide) c147)
              refine r_ldc2 (v := 9) hE dX11_factorOf_154 (x_gin (List.mem_append_right _ (tb_8 _ (List.mem_of_getElem? (i := 6) rfl))) rfl) ?_
              refine r_lmul hE dX11_factorOf_157 ?_
              refine r_topL (y := lN ((o_th (fun th => decide (y_bit v1 th)) (fun th => decide (y_bit ((D 170).1 (93 + 5 * n9 + 2)) th)) i) * 9)) (lN_mul (o_th (fun th => decide (y_bit v1 th)) (fun th => decide (y_bit ((D 170).1 (93 + 5 * n9 + 2)) th)) i) 9) ?_
              refine r_lstore (ls2 := [(0, .ref 169), (1, .int (nI k)), (2, .int (nI n9)), (3, .int (nI (93 + 5 * n9))), (4, .int (-1)), (5, .int v1), (6, .long (lN ((o_th (fun th => decide (y_bit v1 th)) (fun th => decide (y_bit ((D 170).1 (93 + 5 * n9 + 2)) th)) i) * 9))), (8, .int (nI i)), (9, .int 0)]) hE dX11_factorOf_158 (by decide) rfl ?_
              refine r_iincN (a := i) (b := 1) (ls2 := [(0, .ref 169), (1, .int (nI k)), (2, .int (nI n9)), (3, .int (nI (93 + 5 * n9))), (4, .int (-1)), (5, .int v1), (6, .long (lN ((o_th (fun th => decide (y_bit v1 th)) (fun th => decide (y_bit ((D 170).1 (93 + 5 * n9 + 2)) th)) i) * 9))), (8, .int (nI (i + 1))), (9, .int 0)]) hE dX11_factorOf_160 rfl rfl (by decide) rfl ?_
              refine r_goto (tgt := 80) hE dX11_factorOf_163 (by decide) ?_
              have e9 : o_th (fun th => decide (y_bit v1 th)) (fun th => decide (y_bit ((D 170).1 (93 + 5 * n9 + 2)) th)) (i + 1) = (o_th (fun th => decide (y_bit v1 th)) (fun th => decide (y_bit ((D 170).1 (93 + 5 * n9 + 2)) th)) i) * 9 := by
                show o_th (fun th => decide (y_bit v1 th)) (fun th => decide (y_bit ((D 170).1 (93 + 5 * n9 + 2)) th)) i * (if (fun th => decide (y_bit v1 th)) i then (if (fun th => decide (y_bit ((D 170).1 (93 + 5 * n9 + 2)) th)) i then 7 else 3) else (if (fun th => decide (y_bit ((D 170).1 (93 + 5 * n9 + 2)) th)) i then 1 else 9)) = _
                rw [if_neg (fun q => c125 (of_decide_eq_true q))]
                rw [if_neg (fun q => c105 (of_decide_eq_true q))]
              refine r_locs hE (ls2 := [(0, .ref 169), (1, .int (nI k)), (2, .int (nI n9)), (3, .int (nI (93 + 5 * n9))), (4, .int (-1)), (5, .int v1), (6, .long (lN (o_th (fun th => decide (y_bit v1 th)) (fun th => decide (y_bit ((D 170).1 (93 + 5 * n9 + 2)) th)) (i + 1)))), (8, .int (nI (i + 1)))]) ?_ (ih ((q_n (D 170).1 3) - (i + 1)) (by omega) (i + 1) rfl (by omega))
              rw [e9]
              simp [x_lk]
            · refine r_iload hE dX11_factorOf_128 rfl ?_
              refine r_if_eq (tgt := 139) hE dX11_factorOf_130 (by decide) (fun _ => ?_) (fun c130 => by first | exact absurd c130 (by decide) | exact absurd (by decide) c130)
              refine r_ldc2 (v := 3) hE dX11_factorOf_139 (x_gin (List.mem_append_right _ (tb_8 _ (List.mem_of_getElem? (i := 5) rfl))) rfl) ?_
              refine r_goto (tgt := 157) hE dX11_factorOf_142 (by decide) ?_
              refine r_lmul hE dX11_factorOf_157 ?_
              refine r_topL (y := lN ((o_th (fun th => decide (y_bit v1 th)) (fun th => decide (y_bit ((D 170).1 (93 + 5 * n9 + 2)) th)) i) * 3)) (lN_mul (o_th (fun th => decide (y_bit v1 th)) (fun th => decide (y_bit ((D 170).1 (93 + 5 * n9 + 2)) th)) i) 3) ?_
              refine r_lstore (ls2 := [(0, .ref 169), (1, .int (nI k)), (2, .int (nI n9)), (3, .int (nI (93 + 5 * n9))), (4, .int (-1)), (5, .int v1), (6, .long (lN ((o_th (fun th => decide (y_bit v1 th)) (fun th => decide (y_bit ((D 170).1 (93 + 5 * n9 + 2)) th)) i) * 3))), (8, .int (nI i)), (9, .int 0)]) hE dX11_factorOf_158 (by decide) rfl ?_
              refine r_iincN (a := i) (b := 1) (ls2 := [(0, .ref 169), (1, .int (nI k)), (2, .int (nI n9)), (3, .int (nI (93 + 5 * n9))), (4, .int (-1)), (5, .int v1), (6, .long (lN ((o_th (fun th => decide (y_bit v1 th)) (fun th => decide (y_bit ((D 170).1 (93 + 5 * n9 + 2)) th)) i) * 3))), (8, .int (nI (i + 1))), (9, .int 0)]) hE dX11_factorOf_160 rfl rfl (by decide) rfl ?_
              refine r_goto (tgt := 80) hE dX11_factorOf_163 (by decide) ?_
              have e9 : o_th (fun th => decide (y_bit v1 th)) (fun th => decide (y_bit ((D 170).1 (93 + 5 * n9 + 2)) th)) (i + 1) = (o_th (fun th => decide (y_bit v1 th)) (fun th => decide (y_bit ((D 170).1 (93 + 5 * n9 + 2)) th)) i) * 3 := by
                show o_th (fun th => decide (y_bit v1 th)) (fun th => decide (y_bit ((D 170).1 (93 + 5 * n9 + 2)) th)) i * (if (fun th => decide (y_bit v1 th)) i then (if (fun th => decide (y_bit ((D 170).1 (93 + 5 * n9 + 2)) th)) i then 7 else 3) else (if (fun th => decide (y_bit ((D 170).1 (93 + 5 * n9 + 2)) th)) i then 1 else 9)) = _
                rw [if_pos (decide_eq_true c125)]
                rw [if_neg (fun q => c105 (of_decide_eq_true q))]
              refine r_locs hE (ls2 := [(0, .ref 169), (1, .int (nI k)), (2, .int (nI n9)), (3, .int (nI (93 + 5 * n9))), (4, .int (-1)), (5, .int v1), (6, .long (lN (o_th (fun th => decide (y_bit v1 th)) (fun th => decide (y_bit ((D 170).1 (93 + 5 * n9 + 2)) th)) (i + 1)))), (8, .int (nI (i + 1)))]) ?_ (ih ((q_n (D 170).1 3) - (i + 1)) (by omega) (i + 1) rfl (by omega))
              rw [e9]
              simp [x_lk]
          · refine r_iconst (v := 1) hE dX11_factorOf_108 (by decide) ?_
            refine r_goto (tgt := 113) hE dX11_factorOf_109 (by decide) ?_
            refine r_istore (ls2 := [(0, .ref 169), (1, .int (nI k)), (2, .int (nI n9)), (3, .int (nI (93 + 5 * n9))), (4, .int (-1)), (5, .int v1), (6, .long (lN (o_th (fun th => decide (y_bit v1 th)) (fun th => decide (y_bit ((D 170).1 (93 + 5 * n9 + 2)) th)) i))), (8, .int (nI i)), (9, .int 1)]) hE dX11_factorOf_113 (by decide) rfl ?_
            refine r_lload hE dX11_factorOf_115 rfl ?_
            refine r_iload hE dX11_factorOf_117 rfl ?_
            refine r_iload hE dX11_factorOf_119 rfl ?_
            refine r_ishr hE dX11_factorOf_121 ?_
            refine r_iconst (v := 1) hE dX11_factorOf_122 (by decide) ?_
            refine r_iand hE dX11_factorOf_123 ?_
            refine r_iconst (v := 1) hE dX11_factorOf_124 (by decide) ?_
            refine r_icmp_ne (tgt := 145) hE dX11_factorOf_125 (by decide) (fun c125 => ?_) (fun c125 => ?_)
            · refine r_iload hE dX11_factorOf_145 rfl ?_
              refine r_if_eq (tgt := 154) hE dX11_factorOf_147 (by decide) (fun c147 => by first | exact absurd c147 (by decide) | exact absurd (by decide) c147) (fun _ => ?_)
              refine r_lconst (v := 1) hE dX11_factorOf_150 (by decide) ?_
              refine r_goto (tgt := 157) hE dX11_factorOf_151 (by decide) ?_
              refine r_lmul hE dX11_factorOf_157 ?_
              refine r_topL (y := lN ((o_th (fun th => decide (y_bit v1 th)) (fun th => decide (y_bit ((D 170).1 (93 + 5 * n9 + 2)) th)) i) * 1)) (lN_mul (o_th (fun th => decide (y_bit v1 th)) (fun th => decide (y_bit ((D 170).1 (93 + 5 * n9 + 2)) th)) i) 1) ?_
              refine r_lstore (ls2 := [(0, .ref 169), (1, .int (nI k)), (2, .int (nI n9)), (3, .int (nI (93 + 5 * n9))), (4, .int (-1)), (5, .int v1), (6, .long (lN ((o_th (fun th => decide (y_bit v1 th)) (fun th => decide (y_bit ((D 170).1 (93 + 5 * n9 + 2)) th)) i) * 1))), (8, .int (nI i)), (9, .int 1)]) hE dX11_factorOf_158 (by decide) rfl ?_
              refine r_iincN (a := i) (b := 1) (ls2 := [(0, .ref 169), (1, .int (nI k)), (2, .int (nI n9)), (3, .int (nI (93 + 5 * n9))), (4, .int (-1)), (5, .int v1), (6, .long (lN ((o_th (fun th => decide (y_bit v1 th)) (fun th => decide (y_bit ((D 170).1 (93 + 5 * n9 + 2)) th)) i) * 1))), (8, .int (nI (i + 1))), (9, .int 1)]) hE dX11_factorOf_160 rfl rfl (by decide) rfl ?_
              refine r_goto (tgt := 80) hE dX11_factorOf_163 (by decide) ?_
              have e9 : o_th (fun th => decide (y_bit v1 th)) (fun th => decide (y_bit ((D 170).1 (93 + 5 * n9 + 2)) th)) (i + 1) = (o_th (fun th => decide (y_bit v1 th)) (fun th => decide (y_bit ((D 170).1 (93 + 5 * n9 + 2)) th)) i) * 1 := by
                show o_th (fun th => decide (y_bit v1 th)) (fun th => decide (y_bit ((D 170).1 (93 + 5 * n9 + 2)) th)) i * (if (fun th => decide (y_bit v1 th)) i then (if (fun th => decide (y_bit ((D 170).1 (93 + 5 * n9 + 2)) th)) i then 7 else 3) else (if (fun th => decide (y_bit ((D 170).1 (93 + 5 * n9 + 2)) th)) i then 1 else 9)) = _
                rw [if_neg (fun q => c125 (of_decide_eq_true q))]
                rw [if_pos (decide_eq_true c105)]
              refine r_locs hE (ls2 := [(0, .ref 169), (1, .int (nI k)), (2, .int (nI n9)), (3, .int (nI (93 + 5 * n9))), (4, .int (-1)), (5, .int v1), (6, .long (lN (o_th (fun th => decide (y_bit v1 th)) (fun th => decide (y_bit ((D 170).1 (93 + 5 * n9 + 2)) th)) (i + 1)))), (8, .int (nI (i + 1)))]) ?_ (ih ((q_n (D 170).1 3) - (i + 1)) (by omega) (i + 1) rfl (by omega))
              rw [e9]
              simp [x_lk]
            · refine r_iload hE dX11_factorOf_128 rfl ?_
              refine r_if_eq (tgt := 139) hE dX11_factorOf_130 (by decide) (fun c130 => by first | exact absurd c130 (by decide) | exact absurd (by decide) c130) (fun _ => ?_)
              refine r_ldc2 (v := 7) hE dX11_factorOf_133 (x_gin (List.mem_append_right _ (tb_8 _ (List.mem_of_getElem? (i := 4) rfl))) rfl) ?_
              refine r_goto (tgt := 157) hE dX11_factorOf_136 (by decide) ?_
              refine r_lmul hE dX11_factorOf_157 ?_
              refine r_topL (y := lN ((o_th (fun th => decide (y_bit v1 th)) (fun th => decide (y_bit ((D 170).1 (93 + 5 * n9 + 2)) th)) i) * 7)) (lN_mul (o_th (fun th => decide (y_bit v1 th)) (fun th => decide (y_bit ((D 170).1 (93 + 5 * n9 + 2)) th)) i) 7) ?_
              refine r_lstore (ls2 := [(0, .ref 169), (1, .int (nI k)), (2, .int (nI n9)), (3, .int (nI (93 + 5 * n9))), (4, .int (-1)), (5, .int v1), (6, .long (lN ((o_th (fun th => decide (y_bit v1 th)) (fun th => decide (y_bit ((D 170).1 (93 + 5 * n9 + 2)) th)) i) * 7))), (8, .int (nI i)), (9, .int 1)]) hE dX11_factorOf_158 (by decide) rfl ?_
              refine r_iincN (a := i) (b := 1) (ls2 := [(0, .ref 169), (1, .int (nI k)), (2, .int (nI n9)), (3, .int (nI (93 + 5 * n9))), (4, .int (-1)), (5, .int v1), (6, .long (lN ((o_th (fun th => decide (y_bit v1 th)) (fun th => decide (y_bit ((D 170).1 (93 + 5 * n9 + 2)) th)) i) * 7))), (8, .int (nI (i + 1))), (9, .int 1)]) hE dX11_factorOf_160 rfl rfl (by decide) rfl ?_
              refine r_goto (tgt := 80) hE dX11_factorOf_163 (by decide) ?_
              have e9 : o_th (fun th => decide (y_bit v1 th)) (fun th => decide (y_bit ((D 170).1 (93 + 5 * n9 + 2)) th)) (i + 1) = (o_th (fun th => decide (y_bit v1 th)) (fun th => decide (y_bit ((D 170).1 (93 + 5 * n9 + 2)) th)) i) * 7 := by
                show o_th (fun th => decide (y_bit v1 th)) (fun th => decide (y_bit ((D 170).1 (93 + 5 * n9 + 2)) th)) i * (if (fun th => decide (y_bit v1 th)) i then (if (fun th => decide (y_bit ((D 170).1 (93 + 5 * n9 + 2)) th)) i then 7 else 3) else (if (fun th => decide (y_bit ((D 170).1 (93 + 5 * n9 + 2)) th)) i then 1 else 9)) = _
                rw [if_pos (decide_eq_true c125)]
                rw [if_pos (decide_eq_true c105)]
              refine r_locs hE (ls2 := [(0, .ref 169), (1, .int (nI k)), (2, .int (nI n9)), (3, .int (nI (93 + 5 * n9))), (4, .int (-1)), (5, .int v1), (6, .long (lN (o_th (fun th => decide (y_bit v1 th)) (fun th => decide (y_bit ((D 170).1 (93 + 5 * n9 + 2)) th)) (i + 1)))), (8, .int (nI (i + 1)))]) ?_ (ih ((q_n (D 170).1 3) - (i + 1)) (by omega) (i + 1) rfl (by omega))
              rw [e9]
              simp [x_lk]
    exact l1 0 (by omega)
  · have hh7 : q_n (D 170).1 (78 + 3 * k + 2) ≤ 7 := hh.2
    refine r_bipush (v := 93) hE dX11_factorOf_0 (by decide) ?_
    refine r_iconst (v := 5) hE dX11_factorOf_2 (by decide) ?_
    refine r_iload_n hE dX11_factorOf_3 rfl ?_
    refine r_imulN (a := 5) (b := n9) hE dX11_factorOf_4 ?_
    refine r_iaddN (a := 93) (b := 5 * n9) hE dX11_factorOf_5 ?_
    refine r_istore_n (ls2 := [(0, .ref 169), (1, .int (nI k)), (2, .int (nI n9)), (3, .int (nI (93 + (5 * n9))))]) hE dX11_factorOf_6 (by decide) rfl ?_
    refine r_aload_n hE dX11_factorOf_7 rfl ?_
    refine t_getr hE f_X11_13 y_R_169_1 dX11_factorOf_8 (hL 169 (by decide)) ?_
    refine r_bipush (v := 78) hE dX11_factorOf_11 (by decide) ?_
    refine r_iconst (v := 3) hE dX11_factorOf_13 (by decide) ?_
    refine r_iload_n hE dX11_factorOf_14 rfl ?_
    refine r_imulN (a := 3) (b := k) hE dX11_factorOf_15 ?_
    refine r_iaddN (a := 78) (b := 3 * k) hE dX11_factorOf_16 ?_
    refine r_iconst (v := 2) hE dX11_factorOf_17 (by decide) ?_
    refine r_iaddN (a := 78 + (3 * k)) (b := 2) hE dX11_factorOf_18 ?_
    refine t_ialdN (e := (78 + (3 * k)) + 2) hE y_A_170 dX11_factorOf_19 (hL 170 (by decide)) (by omega) (by decide) ?_
    refine r_top (y := (nI (q_n (D 170).1 (78 + 3 * k + 2)))) hh.1 ?_
    refine r_istore (ls2 := [(0, .ref 169), (1, .int (nI k)), (2, .int (nI n9)), (3, .int (nI (93 + (5 * n9)))), (4, .int (nI (q_n (D 170).1 (78 + 3 * k + 2))))]) hE dX11_factorOf_20 (by decide) rfl ?_
    refine r_aload_n hE dX11_factorOf_22 rfl ?_
    refine r_aload_n hE dX11_factorOf_23 rfl ?_
    refine t_getr hE f_X11_13 y_R_169_1 dX11_factorOf_24 (hL 169 (by decide)) ?_
    refine r_iload_n hE dX11_factorOf_27 rfl ?_
    refine t_ialdN (e := 93 + (5 * n9)) hE y_A_170 dX11_factorOf_28 (hL 170 (by decide)) (by omega) (by decide) ?_
    refine r_top (y := (nI (q_n (D 170).1 (93 + 5 * n9)))) (hO.2.2.2.2.2 n9 hn).1 ?_
    refine r_aload_n hE dX11_factorOf_29 rfl ?_
    refine t_getr hE f_X11_13 y_R_169_1 dX11_factorOf_30 (hL 169 (by decide)) ?_
    refine r_bipush (v := 78) hE dX11_factorOf_33 (by decide) ?_
    refine r_iconst (v := 3) hE dX11_factorOf_35 (by decide) ?_
    refine r_iload_n hE dX11_factorOf_36 rfl ?_
    refine r_imulN (a := 3) (b := k) hE dX11_factorOf_37 ?_
    refine r_iaddN (a := 78) (b := 3 * k) hE dX11_factorOf_38 ?_
    refine r_iconst (v := 1) hE dX11_factorOf_39 (by decide) ?_
    refine r_iaddN (a := 78 + (3 * k)) (b := 1) hE dX11_factorOf_40 ?_
    refine t_ialdN (e := (78 + (3 * k)) + 1) hE y_A_170 dX11_factorOf_41 (hL 170 (by decide)) (by omega) (by decide) ?_
    refine r_iload hE dX11_factorOf_42 rfl ?_
    refine r_if_lt (tgt := 68) hE dX11_factorOf_44 (by decide) (fun c44 => absurd c44 (nI_pos (by omega))) (fun _ => ?_)
    refine r_aload_n hE dX11_factorOf_47 rfl ?_
    refine t_getr hE f_X11_13 y_R_169_1 dX11_factorOf_48 (hL 169 (by decide)) ?_
    refine r_iload_n hE dX11_factorOf_51 rfl ?_
    refine r_iconst (v := 1) hE dX11_factorOf_52 (by decide) ?_
    refine r_iaddN (a := 93 + (5 * n9)) (b := 1) hE dX11_factorOf_53 ?_
    refine t_ialdN (e := (93 + (5 * n9)) + 1) hE y_A_170 dX11_factorOf_54 (hL 170 (by decide)) (by omega) (by decide) ?_
    refine r_iload hE dX11_factorOf_55 rfl ?_
    refine r_ishr hE dX11_factorOf_57 ?_
    refine r_iconst (v := 1) hE dX11_factorOf_58 (by decide) ?_
    refine r_iand hE dX11_factorOf_59 ?_
    refine r_iconst (v := 1) hE dX11_factorOf_60 (by decide) ?_
    refine r_icmp_ne (tgt := 68) hE dX11_factorOf_61 (by decide) (fun c61 => ?_) (fun c61 => ?_)
    · refine r_iconst (v := 0) hE dX11_factorOf_68 (by decide) ?_
      refine t_invvRi hE [.int (nI (q_n (D 170).1 (93 + 5 * n9))), .int ((D 170).1 ((78 + (3 * k)) + 1)), .int 0] (c_canBe0 (t := q_n (D 170).1 (93 + 5 * n9)) (u := ((D 170).1 (78 + 3 * k + 1))) hL hW hKI (hO.2.2.2.2.2 n9 hn).2) v_yX11_canBe m_X11_343 dX11_factorOf_69 rfl (hL 169 (by decide)) (y_l_169 (D 169)) rfl (by decide) ⟨Nat.le_refl _, Nat.le_refl _⟩ (Nat.le_of_ble_eq_true rfl) (fun v1 D1 q1 => ?_)
      obtain ⟨fA1, KI1, us, hus, eus, cb1⟩ := q1
      show E 0 0 72 [(0, .ref 169), (1, .int (nI k)), (2, .int (nI n9)), (3, .int (nI (93 + (5 * n9)))), (4, .int (nI (q_n (D 170).1 (78 + 3 * k + 2))))] [.int v1] (y_mk n L D1)
      refine r_istore (ls2 := [(0, .ref 169), (1, .int (nI k)), (2, .int (nI n9)), (3, .int (nI (93 + (5 * n9)))), (4, .int (nI (q_n (D 170).1 (78 + 3 * k + 2)))), (5, .int v1)]) hE dX11_factorOf_72 (by decide) rfl ?_
      refine r_lconst (v := 1) hE dX11_factorOf_74 (by decide) ?_
      refine r_lstore (ls2 := [(0, .ref 169), (1, .int (nI k)), (2, .int (nI n9)), (3, .int (nI (93 + (5 * n9)))), (4, .int (nI (q_n (D 170).1 (78 + 3 * k + 2)))), (5, .int v1), (6, .long 1)]) hE dX11_factorOf_75 (by decide) rfl ?_
      refine r_iconst (v := 0) hE dX11_factorOf_77 (by decide) ?_
      refine r_istore (ls2 := [(0, .ref 169), (1, .int (nI k)), (2, .int (nI n9)), (3, .int (nI (93 + (5 * n9)))), (4, .int (nI (q_n (D 170).1 (78 + 3 * k + 2)))), (5, .int v1), (6, .long 1), (8, .int 0)]) hE dX11_factorOf_78 (by decide) rfl ?_
      have hhl : (0 = 1 ∧ m_hp (D 170).1 k n9) ∨ (0 = 0 ∧ ¬ m_hp (D 170).1 k n9) := Or.inr ⟨rfl, fun q => c61 q.2⟩
      have hn6 : (q_n (D 170).1 3) ≤ 6 := hW.2.2.2.1.2
      have l1 : ∀ (i : Nat), i ≤ (q_n (D 170).1 3) → E 0 0 80 [(0, .ref 169), (1, .int (nI k)), (2, .int (nI n9)), (3, .int (nI (93 + 5 * n9))), (4, .int (nI (q_n (D 170).1 (78 + 3 * k + 2)))), (5, .int v1), (6, .long (lN (o_th (fun th => decide (y_bit v1 th)) (fun th => decide (y_bit ((D 170).1 (93 + 5 * n9 + 2)) th)) i))), (8, .int (nI i))] [] (y_mk n L D1) := by
        intro i
        induction hm9 : ((q_n (D 170).1 3) - i) using Nat.strongRecOn generalizing i with
        | _ m9 ih =>
          intro hi
          subst hm9
          refine r_iload hE dX11_factorOf_80 rfl ?_
          refine r_aload_n hE dX11_factorOf_82 rfl ?_
          refine t_getr hE f_X11_13 y_R_169_1 dX11_factorOf_83 (hL 169 (by decide)) ?_
          refine r_iconst (v := 3) hE dX11_factorOf_86 (by decide) ?_
          refine t_ialdN (e := 3) hE y_A_170 dX11_factorOf_87 (hL 170 (by decide)) (by omega) (by decide) ?_
          refine r_top (y := (nI (q_n (D 170).1 3))) (by rw [fA1.1 170 (by decide)]; exact hW.2.2.2.1.1) ?_
          refine r_icmp_geN (a := i) (b := (q_n (D 170).1 3)) (tgt := 166) hE dX11_factorOf_88 (by decide) (by omega) (by omega) (fun c88 => ?_) (fun c88 => ?_)
          · refine r_iconst (v := 0) hE dX11_factorOf_166 (by decide) ?_
            refine r_istore (ls2 := [(0, .ref 169), (1, .int (nI k)), (2, .int (nI n9)), (3, .int (nI (93 + 5 * n9))), (4, .int (nI (q_n (D 170).1 (78 + 3 * k + 2)))), (5, .int v1), (6, .long (lN (o_th (fun th => decide (y_bit v1 th)) (fun th => decide (y_bit ((D 170).1 (93 + 5 * n9 + 2)) th)) i))), (8, .int 0)]) hE dX11_factorOf_167 (by decide) rfl ?_
            have hn4 : (q_n (D 170).1 5) ≤ 4 := hO.1.2
            rw [show i = (q_n (D 170).1 3) by omega]
            have l2 : ∀ (i : Nat), i ≤ (q_n (D 170).1 5) → E 0 0 169 [(0, .ref 169), (1, .int (nI k)), (2, .int (nI n9)), (3, .int (nI (93 + 5 * n9))), (4, .int (nI (q_n (D 170).1 (78 + 3 * k + 2)))), (5, .int v1), (6, .long (lN (o_tr (fun t => decide (y_bit ((D 170).1 (93 + 5 * n9 + 3)) t)) (fun t => decide (y_bit ((D 170).1 (93 + 5 * n9 + 4)) t)) (m_spr (D 170).1 k) (o_th (fun th => decide (y_bit v1 th)) (fun th => decide (y_bit ((D 170).1 (93 + 5 * n9 + 2)) th)) (q_n (D 170).1 3)) i))), (8, .int (nI i))] [] (y_mk n L D1) := by
              intro i
              induction hm9 : ((q_n (D 170).1 5) - i) using Nat.strongRecOn generalizing i with
              | _ m9 ih =>
                intro hi
                subst hm9
                refine r_iload hE dX11_factorOf_169 rfl ?_
                refine r_aload_n hE dX11_factorOf_171 rfl ?_
                refine t_getr hE f_X11_13 y_R_169_1 dX11_factorOf_172 (hL 169 (by decide)) ?_
                refine r_iconst (v := 5) hE dX11_factorOf_175 (by decide) ?_
                refine t_ialdN (e := 5) hE y_A_170 dX11_factorOf_176 (hL 170 (by decide)) (by omega) (by decide) ?_
                refine r_top (y := (nI (q_n (D 170).1 5))) (by rw [fA1.1 170 (by decide)]; exact hO.1.1) ?_
                refine r_icmp_geN (a := i) (b := (q_n (D 170).1 5)) (tgt := 248) hE dX11_factorOf_177 (by decide) (by omega) (by omega) (fun c177 => ?_) (fun c177 => ?_)
                · refine r_lload hE dX11_factorOf_248 rfl ?_
                  refine r_lreturn hE dX11_factorOf_250 rfl (Nat.zero_le _) (Nat.zero_le _) ?_
                  rw [show i = (q_n (D 170).1 5) by omega]
                  exact ⟨_, _, rfl, rfl, fA1, KI1, _, rfl, ⟨us, 0, v1, hus, eus, hhl, cb1, rfl⟩⟩
                · refine r_aload_n hE dX11_factorOf_180 rfl ?_
                  refine t_getr hE f_X11_13 y_R_169_1 dX11_factorOf_181 (hL 169 (by decide)) ?_
                  refine r_iload_n hE dX11_factorOf_184 rfl ?_
                  refine r_iconst (v := 3) hE dX11_factorOf_185 (by decide) ?_
                  refine r_iaddN (a := 93 + 5 * n9) (b := 3) hE dX11_factorOf_186 ?_
                  refine t_ialdN (e := (93 + 5 * n9) + 3) hE y_A_170 dX11_factorOf_187 (hL 170 (by decide)) (by omega) (by decide) ?_
                  refine r_top (y := ((D 170).1 (93 + 5 * n9 + 3))) (by rw [fA1.1 170 (by decide)]) ?_
                  refine r_iload hE dX11_factorOf_188 rfl ?_
                  refine r_ishr hE dX11_factorOf_190 ?_
                  refine r_iconst (v := 1) hE dX11_factorOf_191 (by decide) ?_
                  refine r_iand hE dX11_factorOf_192 ?_
                  refine r_if_ne (tgt := 199) hE dX11_factorOf_193 (by decide) (fun c193 => ?_) (fun c193 => ?_)
                  · refine r_aload_n hE dX11_factorOf_199 rfl ?_
                    refine r_iload_n hE dX11_factorOf_200 rfl ?_
                    refine r_iload hE dX11_factorOf_201 rfl ?_
                    refine t_invv (r := (some (.int (nI (m_spr (D1 170).1 k i))))) (S2 := (y_mk n L D1)) hE [.int (nI k), .int (nI i)] (c_springs (D := D1) (k := k) (t := i) hL (by rw [fA1.1 170 (by decide)]; exact hO) (by rw [fA1.1 170 (by decide)]; exact hk) (by rw [fA1.1 170 (by decide)]; omega)) v_yX11_springs m_X11_353 dX11_factorOf_203 rfl (hL 169 (by decide)) (y_l_169 (D1 169)) rfl (by decide) ⟨Nat.le_refl _, Nat.le_refl _⟩ (Nat.le_of_ble_eq_true rfl) ?_
                    show E 0 0 206 [(0, .ref 169), (1, .int (nI k)), (2, .int (nI n9)), (3, .int (nI (93 + 5 * n9))), (4, .int (nI (q_n (D 170).1 (78 + 3 * k + 2)))), (5, .int v1), (6, .long (lN (o_tr (fun t => decide (y_bit ((D 170).1 (93 + 5 * n9 + 3)) t)) (fun t => decide (y_bit ((D 170).1 (93 + 5 * n9 + 4)) t)) (m_spr (D 170).1 k) (o_th (fun th => decide (y_bit v1 th)) (fun th => decide (y_bit ((D 170).1 (93 + 5 * n9 + 2)) th)) (q_n (D 170).1 3)) i))), (8, .int (nI i))] [.int (nI (m_spr (D1 170).1 k i))] (y_mk n L D1)
                    refine r_top (y := (nI (m_spr (D 170).1 k i))) (by rw [fA1.1 170 (by decide)]) ?_
                    have hs9 := m_spr_b (k := k) hO (t := i) (by omega)
                    refine r_istore (ls2 := [(0, .ref 169), (1, .int (nI k)), (2, .int (nI n9)), (3, .int (nI (93 + 5 * n9))), (4, .int (nI (q_n (D 170).1 (78 + 3 * k + 2)))), (5, .int v1), (6, .long (lN (o_tr (fun t => decide (y_bit ((D 170).1 (93 + 5 * n9 + 3)) t)) (fun t => decide (y_bit ((D 170).1 (93 + 5 * n9 + 4)) t)) (m_spr (D 170).1 k) (o_th (fun th => decide (y_bit v1 th)) (fun th => decide (y_bit ((D 170).1 (93 + 5 * n9 + 2)) th)) (q_n (D 170).1 3)) i))), (8, .int (nI i)), (9, .int (nI (m_spr (D 170).1 k i)))]) hE dX11_factorOf_206 (by decide) rfl ?_
                    refine r_lload hE dX11_factorOf_208 rfl ?_
                    refine r_aload_n hE dX11_factorOf_210 rfl ?_
                    refine t_getr hE f_X11_13 y_R_169_1 dX11_factorOf_211 (hL 169 (by decide)) ?_
                    refine r_iload_n hE dX11_factorOf_214 rfl ?_
                    refine r_iconst (v := 4) hE dX11_factorOf_215 (by decide) ?_
                    refine r_iaddN (a := 93 + 5 * n9) (b := 4) hE dX11_factorOf_216 ?_
                    refine t_ialdN (e := (93 + 5 * n9) + 4) hE y_A_170 dX11_factorOf_217 (hL 170 (by decide)) (by omega) (by decide) ?_
                    refine r_top (y := ((D 170).1 (93 + 5 * n9 + 4))) (by rw [fA1.1 170 (by decide)]) ?_
                    refine r_iload hE dX11_factorOf_218 rfl ?_
                    refine r_ishr hE dX11_factorOf_220 ?_
                    refine r_iconst (v := 1) hE dX11_factorOf_221 (by decide) ?_
                    refine r_iand hE dX11_factorOf_222 ?_
                    refine r_iconst (v := 1) hE dX11_factorOf_223 (by decide) ?_
                    refine r_icmp_ne (tgt := 233) hE dX11_factorOf_224 (by decide) (fun c224 => ?_) (fun c224 => ?_)
                    · refine r_bipush (v := 10) hE dX11_factorOf_233 (by decide) ?_
                      refine r_iload hE dX11_factorOf_235 rfl ?_
                      refine r_isubN (a := 10) (b := m_spr (D 170).1 k i) hE dX11_factorOf_237 (by omega) ?_
                      refine r_i2l hE dX11_factorOf_238 ?_
                      refine r_topL (y := lN (10 - (m_spr (D 170).1 k i))) (nI_l (by omega)) ?_
                      refine r_lmul hE dX11_factorOf_239 ?_
                      refine r_topL (y := lN ((o_tr (fun t => decide (y_bit ((D 170).1 (93 + 5 * n9 + 3)) t)) (fun t => decide (y_bit ((D 170).1 (93 + 5 * n9 + 4)) t)) (m_spr (D 170).1 k) (o_th (fun th => decide (y_bit v1 th)) (fun th => decide (y_bit ((D 170).1 (93 + 5 * n9 + 2)) th)) (q_n (D 170).1 3)) i) * (10 - (m_spr (D 170).1 k i)))) (lN_mul (o_tr (fun t => decide (y_bit ((D 170).1 (93 + 5 * n9 + 3)) t)) (fun t => decide (y_bit ((D 170).1 (93 + 5 * n9 + 4)) t)) (m_spr (D 170).1 k) (o_th (fun th => decide (y_bit v1 th)) (fun th => decide (y_bit ((D 170).1 (93 + 5 * n9 + 2)) th)) (q_n (D 170).1 3)) i) (10 - (m_spr (D 170).1 k i))) ?_
                      refine r_lstore (ls2 := [(0, .ref 169), (1, .int (nI k)), (2, .int (nI n9)), (3, .int (nI (93 + 5 * n9))), (4, .int (nI (q_n (D 170).1 (78 + 3 * k + 2)))), (5, .int v1), (6, .long (lN ((o_tr (fun t => decide (y_bit ((D 170).1 (93 + 5 * n9 + 3)) t)) (fun t => decide (y_bit ((D 170).1 (93 + 5 * n9 + 4)) t)) (m_spr (D 170).1 k) (o_th (fun th => decide (y_bit v1 th)) (fun th => decide (y_bit ((D 170).1 (93 + 5 * n9 + 2)) th)) (q_n (D 170).1 3)) i) * (10 - (m_spr (D 170).1 k i))))), (8, .int (nI i)), (9, .int (nI (m_spr (D 170).1 k i)))]) hE dX11_factorOf_240 (by decide) rfl ?_
                      refine r_iincN (a := i) (b := 1) (ls2 := [(0, .ref 169), (1, .int (nI k)), (2, .int (nI n9)), (3, .int (nI (93 + 5 * n9))), (4, .int (nI (q_n (D 170).1 (78 + 3 * k + 2)))), (5, .int v1), (6, .long (lN ((o_tr (fun t => decide (y_bit ((D 170).1 (93 + 5 * n9 + 3)) t)) (fun t => decide (y_bit ((D 170).1 (93 + 5 * n9 + 4)) t)) (m_spr (D 170).1 k) (o_th (fun th => decide (y_bit v1 th)) (fun th => decide (y_bit ((D 170).1 (93 + 5 * n9 + 2)) th)) (q_n (D 170).1 3)) i) * (10 - (m_spr (D 170).1 k i))))), (8, .int (nI (i + 1))), (9, .int (nI (m_spr (D 170).1 k i)))]) hE dX11_factorOf_242 rfl rfl (by decide) rfl ?_
                      refine r_goto (tgt := 169) hE dX11_factorOf_245 (by decide) ?_
                      have e9 : o_tr (fun t => decide (y_bit ((D 170).1 (93 + 5 * n9 + 3)) t)) (fun t => decide (y_bit ((D 170).1 (93 + 5 * n9 + 4)) t)) (m_spr (D 170).1 k) (o_th (fun th => decide (y_bit v1 th)) (fun th => decide (y_bit ((D 170).1 (93 + 5 * n9 + 2)) th)) (q_n (D 170).1 3)) (i + 1) = (o_tr (fun t => decide (y_bit ((D 170).1 (93 + 5 * n9 + 3)) t)) (fun t => decide (y_bit ((D 170).1 (93 + 5 * n9 + 4)) t)) (m_spr (D 170).1 k) (o_th (fun th => decide (y_bit v1 th)) (fun th => decide (y_bit ((D 170).1 (93 + 5 * n9 + 2)) th)) (q_n (D 170).1 3)) i) * (10 - (m_spr (D 170).1 k i)) := by
                        show (if (fun t => decide (y_bit ((D 170).1 (93 + 5 * n9 + 3)) t)) i then o_tr (fun t => decide (y_bit ((D 170).1 (93 + 5 * n9 + 3)) t)) (fun t => decide (y_bit ((D 170).1 (93 + 5 * n9 + 4)) t)) (m_spr (D 170).1 k) (o_th (fun th => decide (y_bit v1 th)) (fun th => decide (y_bit ((D 170).1 (93 + 5 * n9 + 2)) th)) (q_n (D 170).1 3)) i * (if (fun t => decide (y_bit ((D 170).1 (93 + 5 * n9 + 4)) t)) i then m_spr (D 170).1 k i else 10 - m_spr (D 170).1 k i) else o_tr (fun t => decide (y_bit ((D 170).1 (93 + 5 * n9 + 3)) t)) (fun t => decide (y_bit ((D 170).1 (93 + 5 * n9 + 4)) t)) (m_spr (D 170).1 k) (o_th (fun th => decide (y_bit v1 th)) (fun th => decide (y_bit ((D 170).1 (93 + 5 * n9 + 2)) th)) (q_n (D 170).1 3)) i) = _
                        rw [if_pos (decide_eq_true (y_bit_y c193))]
                        rw [if_neg (fun q => c224 (of_decide_eq_true q))]
                      refine r_locs hE (ls2 := [(0, .ref 169), (1, .int (nI k)), (2, .int (nI n9)), (3, .int (nI (93 + 5 * n9))), (4, .int (nI (q_n (D 170).1 (78 + 3 * k + 2)))), (5, .int v1), (6, .long (lN (o_tr (fun t => decide (y_bit ((D 170).1 (93 + 5 * n9 + 3)) t)) (fun t => decide (y_bit ((D 170).1 (93 + 5 * n9 + 4)) t)) (m_spr (D 170).1 k) (o_th (fun th => decide (y_bit v1 th)) (fun th => decide (y_bit ((D 170).1 (93 + 5 * n9 + 2)) th)) (q_n (D 170).1 3)) (i + 1)))), (8, .int (nI (i + 1)))]) ?_ (ih ((q_n (D 170).1 5) - (i + 1)) (by omega) (i + 1) rfl (by omega))
                      rw [e9]
                      simp [x_lk]
                    · refine r_iload hE dX11_factorOf_227 rfl ?_
                      refine r_i2l hE dX11_factorOf_229 ?_
                      refine r_topL (y := lN (m_spr (D 170).1 k i)) (nI_l (by omega)) ?_
                      refine r_goto (tgt := 239) hE dX11_factorOf_230 (by decide) ?_
                      refine r_lmul hE dX11_factorOf_239 ?_
                      refine r_topL (y := lN ((o_tr (fun t => decide (y_bit ((D 170).1 (93 + 5 * n9 + 3)) t)) (fun t => decide (y_bit ((D 170).1 (93 + 5 * n9 + 4)) t)) (m_spr (D 170).1 k) (o_th (fun th => decide (y_bit v1 th)) (fun th => decide (y_bit ((D 170).1 (93 + 5 * n9 + 2)) th)) (q_n (D 170).1 3)) i) * (m_spr (D 170).1 k i))) (lN_mul (o_tr (fun t => decide (y_bit ((D 170).1 (93 + 5 * n9 + 3)) t)) (fun t => decide (y_bit ((D 170).1 (93 + 5 * n9 + 4)) t)) (m_spr (D 170).1 k) (o_th (fun th => decide (y_bit v1 th)) (fun th => decide (y_bit ((D 170).1 (93 + 5 * n9 + 2)) th)) (q_n (D 170).1 3)) i) (m_spr (D 170).1 k i)) ?_
                      refine r_lstore (ls2 := [(0, .ref 169), (1, .int (nI k)), (2, .int (nI n9)), (3, .int (nI (93 + 5 * n9))), (4, .int (nI (q_n (D 170).1 (78 + 3 * k + 2)))), (5, .int v1), (6, .long (lN ((o_tr (fun t => decide (y_bit ((D 170).1 (93 + 5 * n9 + 3)) t)) (fun t => decide (y_bit ((D 170).1 (93 + 5 * n9 + 4)) t)) (m_spr (D 170).1 k) (o_th (fun th => decide (y_bit v1 th)) (fun th => decide (y_bit ((D 170).1 (93 + 5 * n9 + 2)) th)) (q_n (D 170).1 3)) i) * (m_spr (D 170).1 k i)))), (8, .int (nI i)), (9, .int (nI (m_spr (D 170).1 k i)))]) hE dX11_factorOf_240 (by decide) rfl ?_
                      refine r_iincN (a := i) (b := 1) (ls2 := [(0, .ref 169), (1, .int (nI k)), (2, .int (nI n9)), (3, .int (nI (93 + 5 * n9))), (4, .int (nI (q_n (D 170).1 (78 + 3 * k + 2)))), (5, .int v1), (6, .long (lN ((o_tr (fun t => decide (y_bit ((D 170).1 (93 + 5 * n9 + 3)) t)) (fun t => decide (y_bit ((D 170).1 (93 + 5 * n9 + 4)) t)) (m_spr (D 170).1 k) (o_th (fun th => decide (y_bit v1 th)) (fun th => decide (y_bit ((D 170).1 (93 + 5 * n9 + 2)) th)) (q_n (D 170).1 3)) i) * (m_spr (D 170).1 k i)))), (8, .int (nI (i + 1))), (9, .int (nI (m_spr (D 170).1 k i)))]) hE dX11_factorOf_242 rfl rfl (by decide) rfl ?_
                      refine r_goto (tgt := 169) hE dX11_factorOf_245 (by decide) ?_
                      have e9 : o_tr (fun t => decide (y_bit ((D 170).1 (93 + 5 * n9 + 3)) t)) (fun t => decide (y_bit ((D 170).1 (93 + 5 * n9 + 4)) t)) (m_spr (D 170).1 k) (o_th (fun th => decide (y_bit v1 th)) (fun th => decide (y_bit ((D 170).1 (93 + 5 * n9 + 2)) th)) (q_n (D 170).1 3)) (i + 1) = (o_tr (fun t => decide (y_bit ((D 170).1 (93 + 5 * n9 + 3)) t)) (fun t => decide (y_bit ((D 170).1 (93 + 5 * n9 + 4)) t)) (m_spr (D 170).1 k) (o_th (fun th => decide (y_bit v1 th)) (fun th => decide (y_bit ((D 170).1 (93 + 5 * n9 + 2)) th)) (q_n (D 170).1 3)) i) * (m_spr (D 170).1 k i) := by
                        show (if (fun t => decide (y_bit ((D 170).1 (93 + 5 * n9 + 3)) t)) i then o_tr (fun t => decide (y_bit ((D 170).1 (93 + 5 * n9 + 3)) t)) (fun t => decide (y_bit ((D 170).1 (93 + 5 * n9 + 4)) t)) (m_spr (D 170).1 k) (o_th (fun th => decide (y_bit v1 th)) (fun th => decide (y_bit ((D 170).1 (93 + 5 * n9 + 2)) th)) (q_n (D 170).1 3)) i * (if (fun t => decide (y_bit ((D 170).1 (93 + 5 * n9 + 4)) t)) i then m_spr (D 170).1 k i else 10 - m_spr (D 170).1 k i) else o_tr (fun t => decide (y_bit ((D 170).1 (93 + 5 * n9 + 3)) t)) (fun t => decide (y_bit ((D 170).1 (93 + 5 * n9 + 4)) t)) (m_spr (D 170).1 k) (o_th (fun th => decide (y_bit v1 th)) (fun th => decide (y_bit ((D 170).1 (93 + 5 * n9 + 2)) th)) (q_n (D 170).1 3)) i) = _
                        rw [if_pos (decide_eq_true (y_bit_y c193))]
                        rw [if_pos (decide_eq_true c224)]
                      refine r_locs hE (ls2 := [(0, .ref 169), (1, .int (nI k)), (2, .int (nI n9)), (3, .int (nI (93 + 5 * n9))), (4, .int (nI (q_n (D 170).1 (78 + 3 * k + 2)))), (5, .int v1), (6, .long (lN (o_tr (fun t => decide (y_bit ((D 170).1 (93 + 5 * n9 + 3)) t)) (fun t => decide (y_bit ((D 170).1 (93 + 5 * n9 + 4)) t)) (m_spr (D 170).1 k) (o_th (fun th => decide (y_bit v1 th)) (fun th => decide (y_bit ((D 170).1 (93 + 5 * n9 + 2)) th)) (q_n (D 170).1 3)) (i + 1)))), (8, .int (nI (i + 1)))]) ?_ (ih ((q_n (D 170).1 5) - (i + 1)) (by omega) (i + 1) rfl (by omega))
                      rw [e9]
                      simp [x_lk]
                  · refine r_goto (tgt := 242) hE dX11_factorOf_196 (by decide) ?_
                    refine r_iincN (a := i) (b := 1) (ls2 := [(0, .ref 169), (1, .int (nI k)), (2, .int (nI n9)), (3, .int (nI (93 + 5 * n9))), (4, .int (nI (q_n (D 170).1 (78 + 3 * k + 2)))), (5, .int v1), (6, .long (lN (o_tr (fun t => decide (y_bit ((D 170).1 (93 + 5 * n9 + 3)) t)) (fun t => decide (y_bit ((D 170).1 (93 + 5 * n9 + 4)) t)) (m_spr (D 170).1 k) (o_th (fun th => decide (y_bit v1 th)) (fun th => decide (y_bit ((D 170).1 (93 + 5 * n9 + 2)) th)) (q_n (D 170).1 3)) i))), (8, .int (nI (i + 1)))]) hE dX11_factorOf_242 rfl rfl (by decide) rfl ?_
                    refine r_goto (tgt := 169) hE dX11_factorOf_245 (by decide) ?_
                    have e9 : o_tr (fun t => decide (y_bit ((D 170).1 (93 + 5 * n9 + 3)) t)) (fun t => decide (y_bit ((D 170).1 (93 + 5 * n9 + 4)) t)) (m_spr (D 170).1 k) (o_th (fun th => decide (y_bit v1 th)) (fun th => decide (y_bit ((D 170).1 (93 + 5 * n9 + 2)) th)) (q_n (D 170).1 3)) (i + 1) = o_tr (fun t => decide (y_bit ((D 170).1 (93 + 5 * n9 + 3)) t)) (fun t => decide (y_bit ((D 170).1 (93 + 5 * n9 + 4)) t)) (m_spr (D 170).1 k) (o_th (fun th => decide (y_bit v1 th)) (fun th => decide (y_bit ((D 170).1 (93 + 5 * n9 + 2)) th)) (q_n (D 170).1 3)) i := by
                      show (if (fun t => decide (y_bit ((D 170).1 (93 + 5 * n9 + 3)) t)) i then o_tr (fun t => decide (y_bit ((D 170).1 (93 + 5 * n9 + 3)) t)) (fun t => decide (y_bit ((D 170).1 (93 + 5 * n9 + 4)) t)) (m_spr (D 170).1 k) (o_th (fun th => decide (y_bit v1 th)) (fun th => decide (y_bit ((D 170).1 (93 + 5 * n9 + 2)) th)) (q_n (D 170).1 3)) i * (if (fun t => decide (y_bit ((D 170).1 (93 + 5 * n9 + 4)) t)) i then m_spr (D 170).1 k i else 10 - m_spr (D 170).1 k i) else o_tr (fun t => decide (y_bit ((D 170).1 (93 + 5 * n9 + 3)) t)) (fun t => decide (y_bit ((D 170).1 (93 + 5 * n9 + 4)) t)) (m_spr (D 170).1 k) (o_th (fun th => decide (y_bit v1 th)) (fun th => decide (y_bit ((D 170).1 (93 + 5 * n9 + 2)) th)) (q_n (D 170).1 3)) i) = _
                      rw [if_neg (fun q => by have := of_decide_eq_true q; exact absurd ((show _ = (1 : Int32) from this).symm.trans c193) (by decide))]
                    refine r_locs hE (ls2 := [(0, .ref 169), (1, .int (nI k)), (2, .int (nI n9)), (3, .int (nI (93 + 5 * n9))), (4, .int (nI (q_n (D 170).1 (78 + 3 * k + 2)))), (5, .int v1), (6, .long (lN (o_tr (fun t => decide (y_bit ((D 170).1 (93 + 5 * n9 + 3)) t)) (fun t => decide (y_bit ((D 170).1 (93 + 5 * n9 + 4)) t)) (m_spr (D 170).1 k) (o_th (fun th => decide (y_bit v1 th)) (fun th => decide (y_bit ((D 170).1 (93 + 5 * n9 + 2)) th)) (q_n (D 170).1 3)) (i + 1)))), (8, .int (nI (i + 1)))]) ?_ (ih ((q_n (D 170).1 5) - (i + 1)) (by omega) (i + 1) rfl (by omega))
                    rw [e9]
                    simp [x_lk]
            exact l2 0 (by omega)
          · refine r_aload_n hE dX11_factorOf_91 rfl ?_
            refine t_getr hE f_X11_13 y_R_169_1 dX11_factorOf_92 (hL 169 (by decide)) ?_
            refine r_iload_n hE dX11_factorOf_95 rfl ?_
            refine r_iconst (v := 2) hE dX11_factorOf_96 (by decide) ?_
            refine r_iaddN (a := 93 + 5 * n9) (b := 2) hE dX11_factorOf_97 ?_
            refine t_ialdN (e := (93 + 5 * n9) + 2) hE y_A_170 dX11_factorOf_98 (hL 170 (by decide)) (by omega) (by decide) ?_
            refine r_top (y := ((D 170).1 (93 + 5 * n9 + 2))) (by rw [fA1.1 170 (by decide)]) ?_
            refine r_iload hE dX11_factorOf_99 rfl ?_
            refine r_ishr hE dX11_factorOf_101 ?_
            refine r_iconst (v := 1) hE dX11_factorOf_102 (by decide) ?_
            refine r_iand hE dX11_factorOf_103 ?_
            refine r_iconst (v := 1) hE dX11_factorOf_104 (by decide) ?_
            refine r_icmp_ne (tgt := 112) hE dX11_factorOf_105 (by decide) (fun c105 => ?_) (fun c105 => ?_)
            · refine r_iconst (v := 0) hE dX11_factorOf_112 (by decide) ?_
              refine r_istore (ls2 := [(0, .ref 169), (1, .int (nI k)), (2, .int (nI n9)), (3, .int (nI (93 + 5 * n9))), (4, .int (nI (q_n (D 170).1 (78 + 3 * k + 2)))), (5, .int v1), (6, .long (lN (o_th (fun th => decide (y_bit v1 th)) (fun th => decide (y_bit ((D 170).1 (93 + 5 * n9 + 2)) th)) i))), (8, .int (nI i)), (9, .int 0)]) hE dX11_factorOf_113 (by decide) rfl ?_
              refine r_lload hE dX11_factorOf_115 rfl ?_
              refine r_iload hE dX11_factorOf_117 rfl ?_
              refine r_iload hE dX11_factorOf_119 rfl ?_
              refine r_ishr hE dX11_factorOf_121 ?_
              refine r_iconst (v := 1) hE dX11_factorOf_122 (by decide) ?_
              refine r_iand hE dX11_factorOf_123 ?_
              refine r_iconst (v := 1) hE dX11_factorOf_124 (by decide) ?_
              refine r_icmp_ne (tgt := 145) hE dX11_factorOf_125 (by decide) (fun c125 => ?_) (fun c125 => ?_)
              · refine r_iload hE dX11_factorOf_145 rfl ?_
                refine r_if_eq (tgt := 154) hE dX11_factorOf_147 (by decide) (fun _ => ?_) (fun c147 => by first | exact absurd c147 (by decide) | exact absurd (by decide) c147)
                refine r_ldc2 (v := 9) hE dX11_factorOf_154 (x_gin (List.mem_append_right _ (tb_8 _ (List.mem_of_getElem? (i := 6) rfl))) rfl) ?_
                refine r_lmul hE dX11_factorOf_157 ?_
                refine r_topL (y := lN ((o_th (fun th => decide (y_bit v1 th)) (fun th => decide (y_bit ((D 170).1 (93 + 5 * n9 + 2)) th)) i) * 9)) (lN_mul (o_th (fun th => decide (y_bit v1 th)) (fun th => decide (y_bit ((D 170).1 (93 + 5 * n9 + 2)) th)) i) 9) ?_
                refine r_lstore (ls2 := [(0, .ref 169), (1, .int (nI k)), (2, .int (nI n9)), (3, .int (nI (93 + 5 * n9))), (4, .int (nI (q_n (D 170).1 (78 + 3 * k + 2)))), (5, .int v1), (6, .long (lN ((o_th (fun th => decide (y_bit v1 th)) (fun th => decide (y_bit ((D 170).1 (93 + 5 * n9 + 2)) th)) i) * 9))), (8, .int (nI i)), (9, .int 0)]) hE dX11_factorOf_158 (by decide) rfl ?_
                refine r_iincN (a := i) (b := 1) (ls2 := [(0, .ref 169), (1, .int (nI k)), (2, .int (nI n9)), (3, .int (nI (93 + 5 * n9))), (4, .int (nI (q_n (D 170).1 (78 + 3 * k + 2)))), (5, .int v1), (6, .long (lN ((o_th (fun th => decide (y_bit v1 th)) (fun th => decide (y_bit ((D 170).1 (93 + 5 * n9 + 2)) th)) i) * 9))), (8, .int (nI (i + 1))), (9, .int 0)]) hE dX11_factorOf_160 rfl rfl (by decide) rfl ?_
                refine r_goto (tgt := 80) hE dX11_factorOf_163 (by decide) ?_
                have e9 : o_th (fun th => decide (y_bit v1 th)) (fun th => decide (y_bit ((D 170).1 (93 + 5 * n9 + 2)) th)) (i + 1) = (o_th (fun th => decide (y_bit v1 th)) (fun th => decide (y_bit ((D 170).1 (93 + 5 * n9 + 2)) th)) i) * 9 := by
                  show o_th (fun th => decide (y_bit v1 th)) (fun th => decide (y_bit ((D 170).1 (93 + 5 * n9 + 2)) th)) i * (if (fun th => decide (y_bit v1 th)) i then (if (fun th => decide (y_bit ((D 170).1 (93 + 5 * n9 + 2)) th)) i then 7 else 3) else (if (fun th => decide (y_bit ((D 170).1 (93 + 5 * n9 + 2)) th)) i then 1 else 9)) = _
                  rw [if_neg (fun q => c125 (of_decide_eq_true q))]
                  rw [if_neg (fun q => c105 (of_decide_eq_true q))]
                refine r_locs hE (ls2 := [(0, .ref 169), (1, .int (nI k)), (2, .int (nI n9)), (3, .int (nI (93 + 5 * n9))), (4, .int (nI (q_n (D 170).1 (78 + 3 * k + 2)))), (5, .int v1), (6, .long (lN (o_th (fun th => decide (y_bit v1 th)) (fun th => decide (y_bit ((D 170).1 (93 + 5 * n9 + 2)) th)) (i + 1)))), (8, .int (nI (i + 1)))]) ?_ (ih ((q_n (D 170).1 3) - (i + 1)) (by omega) (i + 1) rfl (by omega))
                rw [e9]
                simp [x_lk]
              · refine r_iload hE dX11_factorOf_128 rfl ?_
                refine r_if_eq (tgt := 139) hE dX11_factorOf_130 (by decide) (fun _ => ?_) (fun c130 => by first | exact absurd c130 (by decide) | exact absurd (by decide) c130)
                refine r_ldc2 (v := 3) hE dX11_factorOf_139 (x_gin (List.mem_append_right _ (tb_8 _ (List.mem_of_getElem? (i := 5) rfl))) rfl) ?_
                refine r_goto (tgt := 157) hE dX11_factorOf_142 (by decide) ?_
                refine r_lmul hE dX11_factorOf_157 ?_
                refine r_topL (y := lN ((o_th (fun th => decide (y_bit v1 th)) (fun th => decide (y_bit ((D 170).1 (93 + 5 * n9 + 2)) th)) i) * 3)) (lN_mul (o_th (fun th => decide (y_bit v1 th)) (fun th => decide (y_bit ((D 170).1 (93 + 5 * n9 + 2)) th)) i) 3) ?_
                refine r_lstore (ls2 := [(0, .ref 169), (1, .int (nI k)), (2, .int (nI n9)), (3, .int (nI (93 + 5 * n9))), (4, .int (nI (q_n (D 170).1 (78 + 3 * k + 2)))), (5, .int v1), (6, .long (lN ((o_th (fun th => decide (y_bit v1 th)) (fun th => decide (y_bit ((D 170).1 (93 + 5 * n9 + 2)) th)) i) * 3))), (8, .int (nI i)), (9, .int 0)]) hE dX11_factorOf_158 (by decide) rfl ?_
                refine r_iincN (a := i) (b := 1) (ls2 := [(0, .ref 169), (1, .int (nI k)), (2, .int (nI n9)), (3, .int (nI (93 + 5 * n9))), (4, .int (nI (q_n (D 170).1 (78 + 3 * k + 2)))), (5, .int v1), (6, .long (lN ((o_th (fun th => decide (y_bit v1 th)) (fun th => decide (y_bit ((D 170).1 (93 + 5 * n9 + 2)) th)) i) * 3))), (8, .int (nI (i + 1))), (9, .int 0)]) hE dX11_factorOf_160 rfl rfl (by decide) rfl ?_
                refine r_goto (tgt := 80) hE dX11_factorOf_163 (by decide) ?_
                have e9 : o_th (fun th => decide (y_bit v1 th)) (fun th => decide (y_bit ((D 170).1 (93 + 5 * n9 + 2)) th)) (i + 1) = (o_th (fun th => decide (y_bit v1 th)) (fun th => decide (y_bit ((D 170).1 (93 + 5 * n9 + 2)) th)) i) * 3 := by
                  show o_th (fun th => decide (y_bit v1 th)) (fun th => decide (y_bit ((D 170).1 (93 + 5 * n9 + 2)) th)) i * (if (fun th => decide (y_bit v1 th)) i then (if (fun th => decide (y_bit ((D 170).1 (93 + 5 * n9 + 2)) th)) i then 7 else 3) else (if (fun th => decide (y_bit ((D 170).1 (93 + 5 * n9 + 2)) th)) i then 1 else 9)) = _
                  rw [if_pos (decide_eq_true c125)]
                  rw [if_neg (fun q => c105 (of_decide_eq_true q))]
                refine r_locs hE (ls2 := [(0, .ref 169), (1, .int (nI k)), (2, .int (nI n9)), (3, .int (nI (93 + 5 * n9))), (4, .int (nI (q_n (D 170).1 (78 + 3 * k + 2)))), (5, .int v1), (6, .long (lN (o_th (fun th => decide (y_bit v1 th)) (fun th => decide (y_bit ((D 170).1 (93 + 5 * n9 + 2)) th)) (i + 1)))), (8, .int (nI (i + 1)))]) ?_ (ih ((q_n (D 170).1 3) - (i + 1)) (by omega) (i + 1) rfl (by omega))
                rw [e9]
                simp [x_lk]
            · refine r_iconst (v := 1) hE dX11_factorOf_108 (by decide) ?_
              refine r_goto (tgt := 113) hE dX11_factorOf_109 (by decide) ?_
              refine r_istore (ls2 := [(0, .ref 169), (1, .int (nI k)), (2, .int (nI n9)), (3, .int (nI (93 + 5 * n9))), (4, .int (nI (q_n (D 170).1 (78 + 3 * k + 2)))), (5, .int v1), (6, .long (lN (o_th (fun th => decide (y_bit v1 th)) (fun th => decide (y_bit ((D 170).1 (93 + 5 * n9 + 2)) th)) i))), (8, .int (nI i)), (9, .int 1)]) hE dX11_factorOf_113 (by decide) rfl ?_
              refine r_lload hE dX11_factorOf_115 rfl ?_
              refine r_iload hE dX11_factorOf_117 rfl ?_
              refine r_iload hE dX11_factorOf_119 rfl ?_
              refine r_ishr hE dX11_factorOf_121 ?_
              refine r_iconst (v := 1) hE dX11_factorOf_122 (by decide) ?_
              refine r_iand hE dX11_factorOf_123 ?_
              refine r_iconst (v := 1) hE dX11_factorOf_124 (by decide) ?_
              refine r_icmp_ne (tgt := 145) hE dX11_factorOf_125 (by decide) (fun c125 => ?_) (fun c125 => ?_)
              · refine r_iload hE dX11_factorOf_145 rfl ?_
                refine r_if_eq (tgt := 154) hE dX11_factorOf_147 (by decide) (fun c147 => by first | exact absurd c147 (by decide) | exact absurd (by decide) c147) (fun _ => ?_)
                refine r_lconst (v := 1) hE dX11_factorOf_150 (by decide) ?_
                refine r_goto (tgt := 157) hE dX11_factorOf_151 (by decide) ?_
                refine r_lmul hE dX11_factorOf_157 ?_
                refine r_topL (y := lN ((o_th (fun th => decide (y_bit v1 th)) (fun th => decide (y_bit ((D 170).1 (93 + 5 * n9 + 2)) th)) i) * 1)) (lN_mul (o_th (fun th => decide (y_bit v1 th)) (fun th => decide (y_bit ((D 170).1 (93 + 5 * n9 + 2)) th)) i) 1) ?_
                refine r_lstore (ls2 := [(0, .ref 169), (1, .int (nI k)), (2, .int (nI n9)), (3, .int (nI (93 + 5 * n9))), (4, .int (nI (q_n (D 170).1 (78 + 3 * k + 2)))), (5, .int v1), (6, .long (lN ((o_th (fun th => decide (y_bit v1 th)) (fun th => decide (y_bit ((D 170).1 (93 + 5 * n9 + 2)) th)) i) * 1))), (8, .int (nI i)), (9, .int 1)]) hE dX11_factorOf_158 (by decide) rfl ?_
                refine r_iincN (a := i) (b := 1) (ls2 := [(0, .ref 169), (1, .int (nI k)), (2, .int (nI n9)), (3, .int (nI (93 + 5 * n9))), (4, .int (nI (q_n (D 170).1 (78 + 3 * k + 2)))), (5, .int v1), (6, .long (lN ((o_th (fun th => decide (y_bit v1 th)) (fun th => decide (y_bit ((D 170).1 (93 + 5 * n9 + 2)) th)) i) * 1))), (8, .int (nI (i + 1))), (9, .int 1)]) hE dX11_factorOf_160 rfl rfl (by decide) rfl ?_
                refine r_goto (tgt := 80) hE dX11_factorOf_163 (by decide) ?_
                have e9 : o_th (fun th => decide (y_bit v1 th)) (fun th => decide (y_bit ((D 170).1 (93 + 5 * n9 + 2)) th)) (i + 1) = (o_th (fun th => decide (y_bit v1 th)) (fun th => decide (y_bit ((D 170).1 (93 + 5 * n9 + 2)) th)) i) * 1 := by
                  show o_th (fun th => decide (y_bit v1 th)) (fun th => decide (y_bit ((D 170).1 (93 + 5 * n9 + 2)) th)) i * (if (fun th => decide (y_bit v1 th)) i then (if (fun th => decide (y_bit ((D 170).1 (93 + 5 * n9 + 2)) th)) i then 7 else 3) else (if (fun th => decide (y_bit ((D 170).1 (93 + 5 * n9 + 2)) th)) i then 1 else 9)) = _
                  rw [if_neg (fun q => c125 (of_decide_eq_true q))]
                  rw [if_pos (decide_eq_true c105)]
                refine r_locs hE (ls2 := [(0, .ref 169), (1, .int (nI k)), (2, .int (nI n9)), (3, .int (nI (93 + 5 * n9))), (4, .int (nI (q_n (D 170).1 (78 + 3 * k + 2)))), (5, .int v1), (6, .long (lN (o_th (fun th => decide (y_bit v1 th)) (fun th => decide (y_bit ((D 170).1 (93 + 5 * n9 + 2)) th)) (i + 1)))), (8, .int (nI (i + 1)))]) ?_ (ih ((q_n (D 170).1 3) - (i + 1)) (by omega) (i + 1) rfl (by omega))
                rw [e9]
                simp [x_lk]
              · refine r_iload hE dX11_factorOf_128 rfl ?_
                refine r_if_eq (tgt := 139) hE dX11_factorOf_130 (by decide) (fun c130 => by first | exact absurd c130 (by decide) | exact absurd (by decide) c130) (fun _ => ?_)
                refine r_ldc2 (v := 7) hE dX11_factorOf_133 (x_gin (List.mem_append_right _ (tb_8 _ (List.mem_of_getElem? (i := 4) rfl))) rfl) ?_
                refine r_goto (tgt := 157) hE dX11_factorOf_136 (by decide) ?_
                refine r_lmul hE dX11_factorOf_157 ?_
                refine r_topL (y := lN ((o_th (fun th => decide (y_bit v1 th)) (fun th => decide (y_bit ((D 170).1 (93 + 5 * n9 + 2)) th)) i) * 7)) (lN_mul (o_th (fun th => decide (y_bit v1 th)) (fun th => decide (y_bit ((D 170).1 (93 + 5 * n9 + 2)) th)) i) 7) ?_
                refine r_lstore (ls2 := [(0, .ref 169), (1, .int (nI k)), (2, .int (nI n9)), (3, .int (nI (93 + 5 * n9))), (4, .int (nI (q_n (D 170).1 (78 + 3 * k + 2)))), (5, .int v1), (6, .long (lN ((o_th (fun th => decide (y_bit v1 th)) (fun th => decide (y_bit ((D 170).1 (93 + 5 * n9 + 2)) th)) i) * 7))), (8, .int (nI i)), (9, .int 1)]) hE dX11_factorOf_158 (by decide) rfl ?_
                refine r_iincN (a := i) (b := 1) (ls2 := [(0, .ref 169), (1, .int (nI k)), (2, .int (nI n9)), (3, .int (nI (93 + 5 * n9))), (4, .int (nI (q_n (D 170).1 (78 + 3 * k + 2)))), (5, .int v1), (6, .long (lN ((o_th (fun th => decide (y_bit v1 th)) (fun th => decide (y_bit ((D 170).1 (93 + 5 * n9 + 2)) th)) i) * 7))), (8, .int (nI (i + 1))), (9, .int 1)]) hE dX11_factorOf_160 rfl rfl (by decide) rfl ?_
                refine r_goto (tgt := 80) hE dX11_factorOf_163 (by decide) ?_
                have e9 : o_th (fun th => decide (y_bit v1 th)) (fun th => decide (y_bit ((D 170).1 (93 + 5 * n9 + 2)) th)) (i + 1) = (o_th (fun th => decide (y_bit v1 th)) (fun th => decide (y_bit ((D 170).1 (93 + 5 * n9 + 2)) th)) i) * 7 := by
                  show o_th (fun th => decide (y_bit v1 th)) (fun th => decide (y_bit ((D 170).1 (93 + 5 * n9 + 2)) th)) i * (if (fun th => decide (y_bit v1 th)) i then (if (fun th => decide (y_bit ((D 170).1 (93 + 5 * n9 + 2)) th)) i then 7 else 3) else (if (fun th => decide (y_bit ((D 170).1 (93 + 5 * n9 + 2)) th)) i then 1 else 9)) = _
                  rw [if_pos (decide_eq_true c125)]
                  rw [if_pos (decide_eq_true c105)]
                refine r_locs hE (ls2 := [(0, .ref 169), (1, .int (nI k)), (2, .int (nI n9)), (3, .int (nI (93 + 5 * n9))), (4, .int (nI (q_n (D 170).1 (78 + 3 * k + 2)))), (5, .int v1), (6, .long (lN (o_th (fun th => decide (y_bit v1 th)) (fun th => decide (y_bit ((D 170).1 (93 + 5 * n9 + 2)) th)) (i + 1)))), (8, .int (nI (i + 1)))]) ?_ (ih ((q_n (D 170).1 3) - (i + 1)) (by omega) (i + 1) rfl (by omega))
                rw [e9]
                simp [x_lk]
      exact l1 0 (by omega)
    · refine r_iconst (v := 1) hE dX11_factorOf_64 (by decide) ?_
      refine r_goto (tgt := 69) hE dX11_factorOf_65 (by decide) ?_
      refine t_invvRi hE [.int (nI (q_n (D 170).1 (93 + 5 * n9))), .int ((D 170).1 ((78 + (3 * k)) + 1)), .int 1] (c_canBe1 (t := q_n (D 170).1 (93 + 5 * n9)) (u := ((D 170).1 (78 + 3 * k + 1))) hL hW hKI (hO.2.2.2.2.2 n9 hn).2) v_yX11_canBe m_X11_343 dX11_factorOf_69 rfl (hL 169 (by decide)) (y_l_169 (D 169)) rfl (by decide) ⟨Nat.le_refl _, Nat.le_refl _⟩ (Nat.le_of_ble_eq_true rfl) (fun v1 D1 q1 => ?_)
      obtain ⟨fA1, KI1, us, hus, eus, cb1⟩ := q1
      show E 0 0 72 [(0, .ref 169), (1, .int (nI k)), (2, .int (nI n9)), (3, .int (nI (93 + (5 * n9)))), (4, .int (nI (q_n (D 170).1 (78 + 3 * k + 2))))] [.int v1] (y_mk n L D1)
      refine r_istore (ls2 := [(0, .ref 169), (1, .int (nI k)), (2, .int (nI n9)), (3, .int (nI (93 + (5 * n9)))), (4, .int (nI (q_n (D 170).1 (78 + 3 * k + 2)))), (5, .int v1)]) hE dX11_factorOf_72 (by decide) rfl ?_
      refine r_lconst (v := 1) hE dX11_factorOf_74 (by decide) ?_
      refine r_lstore (ls2 := [(0, .ref 169), (1, .int (nI k)), (2, .int (nI n9)), (3, .int (nI (93 + (5 * n9)))), (4, .int (nI (q_n (D 170).1 (78 + 3 * k + 2)))), (5, .int v1), (6, .long 1)]) hE dX11_factorOf_75 (by decide) rfl ?_
      refine r_iconst (v := 0) hE dX11_factorOf_77 (by decide) ?_
      refine r_istore (ls2 := [(0, .ref 169), (1, .int (nI k)), (2, .int (nI n9)), (3, .int (nI (93 + (5 * n9)))), (4, .int (nI (q_n (D 170).1 (78 + 3 * k + 2)))), (5, .int v1), (6, .long 1), (8, .int 0)]) hE dX11_factorOf_78 (by decide) rfl ?_
      have hhl : (1 = 1 ∧ m_hp (D 170).1 k n9) ∨ (1 = 0 ∧ ¬ m_hp (D 170).1 k n9) := Or.inl ⟨rfl, by rw [hh.1]; exact nI_pos (by have := hh.2; omega), c61⟩
      have hn6 : (q_n (D 170).1 3) ≤ 6 := hW.2.2.2.1.2
      have l1 : ∀ (i : Nat), i ≤ (q_n (D 170).1 3) → E 0 0 80 [(0, .ref 169), (1, .int (nI k)), (2, .int (nI n9)), (3, .int (nI (93 + 5 * n9))), (4, .int (nI (q_n (D 170).1 (78 + 3 * k + 2)))), (5, .int v1), (6, .long (lN (o_th (fun th => decide (y_bit v1 th)) (fun th => decide (y_bit ((D 170).1 (93 + 5 * n9 + 2)) th)) i))), (8, .int (nI i))] [] (y_mk n L D1) := by
        intro i
        induction hm9 : ((q_n (D 170).1 3) - i) using Nat.strongRecOn generalizing i with
        | _ m9 ih =>
          intro hi
          subst hm9
          refine r_iload hE dX11_factorOf_80 rfl ?_
          refine r_aload_n hE dX11_factorOf_82 rfl ?_
          refine t_getr hE f_X11_13 y_R_169_1 dX11_factorOf_83 (hL 169 (by decide)) ?_
          refine r_iconst (v := 3) hE dX11_factorOf_86 (by decide) ?_
          refine t_ialdN (e := 3) hE y_A_170 dX11_factorOf_87 (hL 170 (by decide)) (by omega) (by decide) ?_
          refine r_top (y := (nI (q_n (D 170).1 3))) (by rw [fA1.1 170 (by decide)]; exact hW.2.2.2.1.1) ?_
          refine r_icmp_geN (a := i) (b := (q_n (D 170).1 3)) (tgt := 166) hE dX11_factorOf_88 (by decide) (by omega) (by omega) (fun c88 => ?_) (fun c88 => ?_)
          · refine r_iconst (v := 0) hE dX11_factorOf_166 (by decide) ?_
            refine r_istore (ls2 := [(0, .ref 169), (1, .int (nI k)), (2, .int (nI n9)), (3, .int (nI (93 + 5 * n9))), (4, .int (nI (q_n (D 170).1 (78 + 3 * k + 2)))), (5, .int v1), (6, .long (lN (o_th (fun th => decide (y_bit v1 th)) (fun th => decide (y_bit ((D 170).1 (93 + 5 * n9 + 2)) th)) i))), (8, .int 0)]) hE dX11_factorOf_167 (by decide) rfl ?_
            have hn4 : (q_n (D 170).1 5) ≤ 4 := hO.1.2
            rw [show i = (q_n (D 170).1 3) by omega]
            have l2 : ∀ (i : Nat), i ≤ (q_n (D 170).1 5) → E 0 0 169 [(0, .ref 169), (1, .int (nI k)), (2, .int (nI n9)), (3, .int (nI (93 + 5 * n9))), (4, .int (nI (q_n (D 170).1 (78 + 3 * k + 2)))), (5, .int v1), (6, .long (lN (o_tr (fun t => decide (y_bit ((D 170).1 (93 + 5 * n9 + 3)) t)) (fun t => decide (y_bit ((D 170).1 (93 + 5 * n9 + 4)) t)) (m_spr (D 170).1 k) (o_th (fun th => decide (y_bit v1 th)) (fun th => decide (y_bit ((D 170).1 (93 + 5 * n9 + 2)) th)) (q_n (D 170).1 3)) i))), (8, .int (nI i))] [] (y_mk n L D1) := by
              intro i
              induction hm9 : ((q_n (D 170).1 5) - i) using Nat.strongRecOn generalizing i with
              | _ m9 ih =>
                intro hi
                subst hm9
                refine r_iload hE dX11_factorOf_169 rfl ?_
                refine r_aload_n hE dX11_factorOf_171 rfl ?_
                refine t_getr hE f_X11_13 y_R_169_1 dX11_factorOf_172 (hL 169 (by decide)) ?_
                refine r_iconst (v := 5) hE dX11_factorOf_175 (by decide) ?_
                refine t_ialdN (e := 5) hE y_A_170 dX11_factorOf_176 (hL 170 (by decide)) (by omega) (by decide) ?_
                refine r_top (y := (nI (q_n (D 170).1 5))) (by rw [fA1.1 170 (by decide)]; exact hO.1.1) ?_
                refine r_icmp_geN (a := i) (b := (q_n (D 170).1 5)) (tgt := 248) hE dX11_factorOf_177 (by decide) (by omega) (by omega) (fun c177 => ?_) (fun c177 => ?_)
                · refine r_lload hE dX11_factorOf_248 rfl ?_
                  refine r_lreturn hE dX11_factorOf_250 rfl (Nat.zero_le _) (Nat.zero_le _) ?_
                  rw [show i = (q_n (D 170).1 5) by omega]
                  exact ⟨_, _, rfl, rfl, fA1, KI1, _, rfl, ⟨us, 1, v1, hus, eus, hhl, cb1, rfl⟩⟩
                · refine r_aload_n hE dX11_factorOf_180 rfl ?_
                  refine t_getr hE f_X11_13 y_R_169_1 dX11_factorOf_181 (hL 169 (by decide)) ?_
                  refine r_iload_n hE dX11_factorOf_184 rfl ?_
                  refine r_iconst (v := 3) hE dX11_factorOf_185 (by decide) ?_
                  refine r_iaddN (a := 93 + 5 * n9) (b := 3) hE dX11_factorOf_186 ?_
                  refine t_ialdN (e := (93 + 5 * n9) + 3) hE y_A_170 dX11_factorOf_187 (hL 170 (by decide)) (by omega) (by decide) ?_
                  refine r_top (y := ((D 170).1 (93 + 5 * n9 + 3))) (by rw [fA1.1 170 (by decide)]) ?_
                  refine r_iload hE dX11_factorOf_188 rfl ?_
                  refine r_ishr hE dX11_factorOf_190 ?_
                  refine r_iconst (v := 1) hE dX11_factorOf_191 (by decide) ?_
                  refine r_iand hE dX11_factorOf_192 ?_
                  refine r_if_ne (tgt := 199) hE dX11_factorOf_193 (by decide) (fun c193 => ?_) (fun c193 => ?_)
                  · refine r_aload_n hE dX11_factorOf_199 rfl ?_
                    refine r_iload_n hE dX11_factorOf_200 rfl ?_
                    refine r_iload hE dX11_factorOf_201 rfl ?_
                    refine t_invv (r := (some (.int (nI (m_spr (D1 170).1 k i))))) (S2 := (y_mk n L D1)) hE [.int (nI k), .int (nI i)] (c_springs (D := D1) (k := k) (t := i) hL (by rw [fA1.1 170 (by decide)]; exact hO) (by rw [fA1.1 170 (by decide)]; exact hk) (by rw [fA1.1 170 (by decide)]; omega)) v_yX11_springs m_X11_353 dX11_factorOf_203 rfl (hL 169 (by decide)) (y_l_169 (D1 169)) rfl (by decide) ⟨Nat.le_refl _, Nat.le_refl _⟩ (Nat.le_of_ble_eq_true rfl) ?_
                    show E 0 0 206 [(0, .ref 169), (1, .int (nI k)), (2, .int (nI n9)), (3, .int (nI (93 + 5 * n9))), (4, .int (nI (q_n (D 170).1 (78 + 3 * k + 2)))), (5, .int v1), (6, .long (lN (o_tr (fun t => decide (y_bit ((D 170).1 (93 + 5 * n9 + 3)) t)) (fun t => decide (y_bit ((D 170).1 (93 + 5 * n9 + 4)) t)) (m_spr (D 170).1 k) (o_th (fun th => decide (y_bit v1 th)) (fun th => decide (y_bit ((D 170).1 (93 + 5 * n9 + 2)) th)) (q_n (D 170).1 3)) i))), (8, .int (nI i))] [.int (nI (m_spr (D1 170).1 k i))] (y_mk n L D1)
                    refine r_top (y := (nI (m_spr (D 170).1 k i))) (by rw [fA1.1 170 (by decide)]) ?_
                    have hs9 := m_spr_b (k := k) hO (t := i) (by omega)
                    refine r_istore (ls2 := [(0, .ref 169), (1, .int (nI k)), (2, .int (nI n9)), (3, .int (nI (93 + 5 * n9))), (4, .int (nI (q_n (D 170).1 (78 + 3 * k + 2)))), (5, .int v1), (6, .long (lN (o_tr (fun t => decide (y_bit ((D 170).1 (93 + 5 * n9 + 3)) t)) (fun t => decide (y_bit ((D 170).1 (93 + 5 * n9 + 4)) t)) (m_spr (D 170).1 k) (o_th (fun th => decide (y_bit v1 th)) (fun th => decide (y_bit ((D 170).1 (93 + 5 * n9 + 2)) th)) (q_n (D 170).1 3)) i))), (8, .int (nI i)), (9, .int (nI (m_spr (D 170).1 k i)))]) hE dX11_factorOf_206 (by decide) rfl ?_
                    refine r_lload hE dX11_factorOf_208 rfl ?_
                    refine r_aload_n hE dX11_factorOf_210 rfl ?_
                    refine t_getr hE f_X11_13 y_R_169_1 dX11_factorOf_211 (hL 169 (by decide)) ?_
                    refine r_iload_n hE dX11_factorOf_214 rfl ?_
                    refine r_iconst (v := 4) hE dX11_factorOf_215 (by decide) ?_
                    refine r_iaddN (a := 93 + 5 * n9) (b := 4) hE dX11_factorOf_216 ?_
                    refine t_ialdN (e := (93 + 5 * n9) + 4) hE y_A_170 dX11_factorOf_217 (hL 170 (by decide)) (by omega) (by decide) ?_
                    refine r_top (y := ((D 170).1 (93 + 5 * n9 + 4))) (by rw [fA1.1 170 (by decide)]) ?_
                    refine r_iload hE dX11_factorOf_218 rfl ?_
                    refine r_ishr hE dX11_factorOf_220 ?_
                    refine r_iconst (v := 1) hE dX11_factorOf_221 (by decide) ?_
                    refine r_iand hE dX11_factorOf_222 ?_
                    refine r_iconst (v := 1) hE dX11_factorOf_223 (by decide) ?_
                    refine r_icmp_ne (tgt := 233) hE dX11_factorOf_224 (by decide) (fun c224 => ?_) (fun c224 => ?_)
                    · refine r_bipush (v := 10) hE dX11_factorOf_233 (by decide) ?_
                      refine r_iload hE dX11_factorOf_235 rfl ?_
                      refine r_isubN (a := 10) (b := m_spr (D 170).1 k i) hE dX11_factorOf_237 (by omega) ?_
                      refine r_i2l hE dX11_factorOf_238 ?_
                      refine r_topL (y := lN (10 - (m_spr (D 170).1 k i))) (nI_l (by omega)) ?_
                      refine r_lmul hE dX11_factorOf_239 ?_
                      refine r_topL (y := lN ((o_tr (fun t => decide (y_bit ((D 170).1 (93 + 5 * n9 + 3)) t)) (fun t => decide (y_bit ((D 170).1 (93 + 5 * n9 + 4)) t)) (m_spr (D 170).1 k) (o_th (fun th => decide (y_bit v1 th)) (fun th => decide (y_bit ((D 170).1 (93 + 5 * n9 + 2)) th)) (q_n (D 170).1 3)) i) * (10 - (m_spr (D 170).1 k i)))) (lN_mul (o_tr (fun t => decide (y_bit ((D 170).1 (93 + 5 * n9 + 3)) t)) (fun t => decide (y_bit ((D 170).1 (93 + 5 * n9 + 4)) t)) (m_spr (D 170).1 k) (o_th (fun th => decide (y_bit v1 th)) (fun th => decide (y_bit ((D 170).1 (93 + 5 * n9 + 2)) th)) (q_n (D 170).1 3)) i) (10 - (m_spr (D 170).1 k i))) ?_
                      refine r_lstore (ls2 := [(0, .ref 169), (1, .int (nI k)), (2, .int (nI n9)), (3, .int (nI (93 + 5 * n9))), (4, .int (nI (q_n (D 170).1 (78 + 3 * k + 2)))), (5, .int v1), (6, .long (lN ((o_tr (fun t => decide (y_bit ((D 170).1 (93 + 5 * n9 + 3)) t)) (fun t => decide (y_bit ((D 170).1 (93 + 5 * n9 + 4)) t)) (m_spr (D 170).1 k) (o_th (fun th => decide (y_bit v1 th)) (fun th => decide (y_bit ((D 170).1 (93 + 5 * n9 + 2)) th)) (q_n (D 170).1 3)) i) * (10 - (m_spr (D 170).1 k i))))), (8, .int (nI i)), (9, .int (nI (m_spr (D 170).1 k i)))]) hE dX11_factorOf_240 (by decide) rfl ?_
                      refine r_iincN (a := i) (b := 1) (ls2 := [(0, .ref 169), (1, .int (nI k)), (2, .int (nI n9)), (3, .int (nI (93 + 5 * n9))), (4, .int (nI (q_n (D 170).1 (78 + 3 * k + 2)))), (5, .int v1), (6, .long (lN ((o_tr (fun t => decide (y_bit ((D 170).1 (93 + 5 * n9 + 3)) t)) (fun t => decide (y_bit ((D 170).1 (93 + 5 * n9 + 4)) t)) (m_spr (D 170).1 k) (o_th (fun th => decide (y_bit v1 th)) (fun th => decide (y_bit ((D 170).1 (93 + 5 * n9 + 2)) th)) (q_n (D 170).1 3)) i) * (10 - (m_spr (D 170).1 k i))))), (8, .int (nI (i + 1))), (9, .int (nI (m_spr (D 170).1 k i)))]) hE dX11_factorOf_242 rfl rfl (by decide) rfl ?_
                      refine r_goto (tgt := 169) hE dX11_factorOf_245 (by decide) ?_
                      have e9 : o_tr (fun t => decide (y_bit ((D 170).1 (93 + 5 * n9 + 3)) t)) (fun t => decide (y_bit ((D 170).1 (93 + 5 * n9 + 4)) t)) (m_spr (D 170).1 k) (o_th (fun th => decide (y_bit v1 th)) (fun th => decide (y_bit ((D 170).1 (93 + 5 * n9 + 2)) th)) (q_n (D 170).1 3)) (i + 1) = (o_tr (fun t => decide (y_bit ((D 170).1 (93 + 5 * n9 + 3)) t)) (fun t => decide (y_bit ((D 170).1 (93 + 5 * n9 + 4)) t)) (m_spr (D 170).1 k) (o_th (fun th => decide (y_bit v1 th)) (fun th => decide (y_bit ((D 170).1 (93 + 5 * n9 + 2)) th)) (q_n (D 170).1 3)) i) * (10 - (m_spr (D 170).1 k i)) := by
                        show (if (fun t => decide (y_bit ((D 170).1 (93 + 5 * n9 + 3)) t)) i then o_tr (fun t => decide (y_bit ((D 170).1 (93 + 5 * n9 + 3)) t)) (fun t => decide (y_bit ((D 170).1 (93 + 5 * n9 + 4)) t)) (m_spr (D 170).1 k) (o_th (fun th => decide (y_bit v1 th)) (fun th => decide (y_bit ((D 170).1 (93 + 5 * n9 + 2)) th)) (q_n (D 170).1 3)) i * (if (fun t => decide (y_bit ((D 170).1 (93 + 5 * n9 + 4)) t)) i then m_spr (D 170).1 k i else 10 - m_spr (D 170).1 k i) else o_tr (fun t => decide (y_bit ((D 170).1 (93 + 5 * n9 + 3)) t)) (fun t => decide (y_bit ((D 170).1 (93 + 5 * n9 + 4)) t)) (m_spr (D 170).1 k) (o_th (fun th => decide (y_bit v1 th)) (fun th => decide (y_bit ((D 170).1 (93 + 5 * n9 + 2)) th)) (q_n (D 170).1 3)) i) = _
                        rw [if_pos (decide_eq_true (y_bit_y c193))]
                        rw [if_neg (fun q => c224 (of_decide_eq_true q))]
                      refine r_locs hE (ls2 := [(0, .ref 169), (1, .int (nI k)), (2, .int (nI n9)), (3, .int (nI (93 + 5 * n9))), (4, .int (nI (q_n (D 170).1 (78 + 3 * k + 2)))), (5, .int v1), (6, .long (lN (o_tr (fun t => decide (y_bit ((D 170).1 (93 + 5 * n9 + 3)) t)) (fun t => decide (y_bit ((D 170).1 (93 + 5 * n9 + 4)) t)) (m_spr (D 170).1 k) (o_th (fun th => decide (y_bit v1 th)) (fun th => decide (y_bit ((D 170).1 (93 + 5 * n9 + 2)) th)) (q_n (D 170).1 3)) (i + 1)))), (8, .int (nI (i + 1)))]) ?_ (ih ((q_n (D 170).1 5) - (i + 1)) (by omega) (i + 1) rfl (by omega))
                      rw [e9]
                      simp [x_lk]
                    · refine r_iload hE dX11_factorOf_227 rfl ?_
                      refine r_i2l hE dX11_factorOf_229 ?_
                      refine r_topL (y := lN (m_spr (D 170).1 k i)) (nI_l (by omega)) ?_
                      refine r_goto (tgt := 239) hE dX11_factorOf_230 (by decide) ?_
                      refine r_lmul hE dX11_factorOf_239 ?_
                      refine r_topL (y := lN ((o_tr (fun t => decide (y_bit ((D 170).1 (93 + 5 * n9 + 3)) t)) (fun t => decide (y_bit ((D 170).1 (93 + 5 * n9 + 4)) t)) (m_spr (D 170).1 k) (o_th (fun th => decide (y_bit v1 th)) (fun th => decide (y_bit ((D 170).1 (93 + 5 * n9 + 2)) th)) (q_n (D 170).1 3)) i) * (m_spr (D 170).1 k i))) (lN_mul (o_tr (fun t => decide (y_bit ((D 170).1 (93 + 5 * n9 + 3)) t)) (fun t => decide (y_bit ((D 170).1 (93 + 5 * n9 + 4)) t)) (m_spr (D 170).1 k) (o_th (fun th => decide (y_bit v1 th)) (fun th => decide (y_bit ((D 170).1 (93 + 5 * n9 + 2)) th)) (q_n (D 170).1 3)) i) (m_spr (D 170).1 k i)) ?_
                      refine r_lstore (ls2 := [(0, .ref 169), (1, .int (nI k)), (2, .int (nI n9)), (3, .int (nI (93 + 5 * n9))), (4, .int (nI (q_n (D 170).1 (78 + 3 * k + 2)))), (5, .int v1), (6, .long (lN ((o_tr (fun t => decide (y_bit ((D 170).1 (93 + 5 * n9 + 3)) t)) (fun t => decide (y_bit ((D 170).1 (93 + 5 * n9 + 4)) t)) (m_spr (D 170).1 k) (o_th (fun th => decide (y_bit v1 th)) (fun th => decide (y_bit ((D 170).1 (93 + 5 * n9 + 2)) th)) (q_n (D 170).1 3)) i) * (m_spr (D 170).1 k i)))), (8, .int (nI i)), (9, .int (nI (m_spr (D 170).1 k i)))]) hE dX11_factorOf_240 (by decide) rfl ?_
                      refine r_iincN (a := i) (b := 1) (ls2 := [(0, .ref 169), (1, .int (nI k)), (2, .int (nI n9)), (3, .int (nI (93 + 5 * n9))), (4, .int (nI (q_n (D 170).1 (78 + 3 * k + 2)))), (5, .int v1), (6, .long (lN ((o_tr (fun t => decide (y_bit ((D 170).1 (93 + 5 * n9 + 3)) t)) (fun t => decide (y_bit ((D 170).1 (93 + 5 * n9 + 4)) t)) (m_spr (D 170).1 k) (o_th (fun th => decide (y_bit v1 th)) (fun th => decide (y_bit ((D 170).1 (93 + 5 * n9 + 2)) th)) (q_n (D 170).1 3)) i) * (m_spr (D 170).1 k i)))), (8, .int (nI (i + 1))), (9, .int (nI (m_spr (D 170).1 k i)))]) hE dX11_factorOf_242 rfl rfl (by decide) rfl ?_
                      refine r_goto (tgt := 169) hE dX11_factorOf_245 (by decide) ?_
                      have e9 : o_tr (fun t => decide (y_bit ((D 170).1 (93 + 5 * n9 + 3)) t)) (fun t => decide (y_bit ((D 170).1 (93 + 5 * n9 + 4)) t)) (m_spr (D 170).1 k) (o_th (fun th => decide (y_bit v1 th)) (fun th => decide (y_bit ((D 170).1 (93 + 5 * n9 + 2)) th)) (q_n (D 170).1 3)) (i + 1) = (o_tr (fun t => decide (y_bit ((D 170).1 (93 + 5 * n9 + 3)) t)) (fun t => decide (y_bit ((D 170).1 (93 + 5 * n9 + 4)) t)) (m_spr (D 170).1 k) (o_th (fun th => decide (y_bit v1 th)) (fun th => decide (y_bit ((D 170).1 (93 + 5 * n9 + 2)) th)) (q_n (D 170).1 3)) i) * (m_spr (D 170).1 k i) := by
                        show (if (fun t => decide (y_bit ((D 170).1 (93 + 5 * n9 + 3)) t)) i then o_tr (fun t => decide (y_bit ((D 170).1 (93 + 5 * n9 + 3)) t)) (fun t => decide (y_bit ((D 170).1 (93 + 5 * n9 + 4)) t)) (m_spr (D 170).1 k) (o_th (fun th => decide (y_bit v1 th)) (fun th => decide (y_bit ((D 170).1 (93 + 5 * n9 + 2)) th)) (q_n (D 170).1 3)) i * (if (fun t => decide (y_bit ((D 170).1 (93 + 5 * n9 + 4)) t)) i then m_spr (D 170).1 k i else 10 - m_spr (D 170).1 k i) else o_tr (fun t => decide (y_bit ((D 170).1 (93 + 5 * n9 + 3)) t)) (fun t => decide (y_bit ((D 170).1 (93 + 5 * n9 + 4)) t)) (m_spr (D 170).1 k) (o_th (fun th => decide (y_bit v1 th)) (fun th => decide (y_bit ((D 170).1 (93 + 5 * n9 + 2)) th)) (q_n (D 170).1 3)) i) = _
                        rw [if_pos (decide_eq_true (y_bit_y c193))]
                        rw [if_pos (decide_eq_true c224)]
                      refine r_locs hE (ls2 := [(0, .ref 169), (1, .int (nI k)), (2, .int (nI n9)), (3, .int (nI (93 + 5 * n9))), (4, .int (nI (q_n (D 170).1 (78 + 3 * k + 2)))), (5, .int v1), (6, .long (lN (o_tr (fun t => decide (y_bit ((D 170).1 (93 + 5 * n9 + 3)) t)) (fun t => decide (y_bit ((D 170).1 (93 + 5 * n9 + 4)) t)) (m_spr (D 170).1 k) (o_th (fun th => decide (y_bit v1 th)) (fun th => decide (y_bit ((D 170).1 (93 + 5 * n9 + 2)) th)) (q_n (D 170).1 3)) (i + 1)))), (8, .int (nI (i + 1)))]) ?_ (ih ((q_n (D 170).1 5) - (i + 1)) (by omega) (i + 1) rfl (by omega))
                      rw [e9]
                      simp [x_lk]
                  · refine r_goto (tgt := 242) hE dX11_factorOf_196 (by decide) ?_
                    refine r_iincN (a := i) (b := 1) (ls2 := [(0, .ref 169), (1, .int (nI k)), (2, .int (nI n9)), (3, .int (nI (93 + 5 * n9))), (4, .int (nI (q_n (D 170).1 (78 + 3 * k + 2)))), (5, .int v1), (6, .long (lN (o_tr (fun t => decide (y_bit ((D 170).1 (93 + 5 * n9 + 3)) t)) (fun t => decide (y_bit ((D 170).1 (93 + 5 * n9 + 4)) t)) (m_spr (D 170).1 k) (o_th (fun th => decide (y_bit v1 th)) (fun th => decide (y_bit ((D 170).1 (93 + 5 * n9 + 2)) th)) (q_n (D 170).1 3)) i))), (8, .int (nI (i + 1)))]) hE dX11_factorOf_242 rfl rfl (by decide) rfl ?_
                    refine r_goto (tgt := 169) hE dX11_factorOf_245 (by decide) ?_
                    have e9 : o_tr (fun t => decide (y_bit ((D 170).1 (93 + 5 * n9 + 3)) t)) (fun t => decide (y_bit ((D 170).1 (93 + 5 * n9 + 4)) t)) (m_spr (D 170).1 k) (o_th (fun th => decide (y_bit v1 th)) (fun th => decide (y_bit ((D 170).1 (93 + 5 * n9 + 2)) th)) (q_n (D 170).1 3)) (i + 1) = o_tr (fun t => decide (y_bit ((D 170).1 (93 + 5 * n9 + 3)) t)) (fun t => decide (y_bit ((D 170).1 (93 + 5 * n9 + 4)) t)) (m_spr (D 170).1 k) (o_th (fun th => decide (y_bit v1 th)) (fun th => decide (y_bit ((D 170).1 (93 + 5 * n9 + 2)) th)) (q_n (D 170).1 3)) i := by
                      show (if (fun t => decide (y_bit ((D 170).1 (93 + 5 * n9 + 3)) t)) i then o_tr (fun t => decide (y_bit ((D 170).1 (93 + 5 * n9 + 3)) t)) (fun t => decide (y_bit ((D 170).1 (93 + 5 * n9 + 4)) t)) (m_spr (D 170).1 k) (o_th (fun th => decide (y_bit v1 th)) (fun th => decide (y_bit ((D 170).1 (93 + 5 * n9 + 2)) th)) (q_n (D 170).1 3)) i * (if (fun t => decide (y_bit ((D 170).1 (93 + 5 * n9 + 4)) t)) i then m_spr (D 170).1 k i else 10 - m_spr (D 170).1 k i) else o_tr (fun t => decide (y_bit ((D 170).1 (93 + 5 * n9 + 3)) t)) (fun t => decide (y_bit ((D 170).1 (93 + 5 * n9 + 4)) t)) (m_spr (D 170).1 k) (o_th (fun th => decide (y_bit v1 th)) (fun th => decide (y_bit ((D 170).1 (93 + 5 * n9 + 2)) th)) (q_n (D 170).1 3)) i) = _
                      rw [if_neg (fun q => by have := of_decide_eq_true q; exact absurd ((show _ = (1 : Int32) from this).symm.trans c193) (by decide))]
                    refine r_locs hE (ls2 := [(0, .ref 169), (1, .int (nI k)), (2, .int (nI n9)), (3, .int (nI (93 + 5 * n9))), (4, .int (nI (q_n (D 170).1 (78 + 3 * k + 2)))), (5, .int v1), (6, .long (lN (o_tr (fun t => decide (y_bit ((D 170).1 (93 + 5 * n9 + 3)) t)) (fun t => decide (y_bit ((D 170).1 (93 + 5 * n9 + 4)) t)) (m_spr (D 170).1 k) (o_th (fun th => decide (y_bit v1 th)) (fun th => decide (y_bit ((D 170).1 (93 + 5 * n9 + 2)) th)) (q_n (D 170).1 3)) (i + 1)))), (8, .int (nI (i + 1)))]) ?_ (ih ((q_n (D 170).1 5) - (i + 1)) (by omega) (i + 1) rfl (by omega))
                    rw [e9]
                    simp [x_lk]
            exact l2 0 (by omega)
          · refine r_aload_n hE dX11_factorOf_91 rfl ?_
            refine t_getr hE f_X11_13 y_R_169_1 dX11_factorOf_92 (hL 169 (by decide)) ?_
            refine r_iload_n hE dX11_factorOf_95 rfl ?_
            refine r_iconst (v := 2) hE dX11_factorOf_96 (by decide) ?_
            refine r_iaddN (a := 93 + 5 * n9) (b := 2) hE dX11_factorOf_97 ?_
            refine t_ialdN (e := (93 + 5 * n9) + 2) hE y_A_170 dX11_factorOf_98 (hL 170 (by decide)) (by omega) (by decide) ?_
            refine r_top (y := ((D 170).1 (93 + 5 * n9 + 2))) (by rw [fA1.1 170 (by decide)]) ?_
            refine r_iload hE dX11_factorOf_99 rfl ?_
            refine r_ishr hE dX11_factorOf_101 ?_
            refine r_iconst (v := 1) hE dX11_factorOf_102 (by decide) ?_
            refine r_iand hE dX11_factorOf_103 ?_
            refine r_iconst (v := 1) hE dX11_factorOf_104 (by decide) ?_
            refine r_icmp_ne (tgt := 112) hE dX11_factorOf_105 (by decide) (fun c105 => ?_) (fun c105 => ?_)
            · refine r_iconst (v := 0) hE dX11_factorOf_112 (by decide) ?_
              refine r_istore (ls2 := [(0, .ref 169), (1, .int (nI k)), (2, .int (nI n9)), (3, .int (nI (93 + 5 * n9))), (4, .int (nI (q_n (D 170).1 (78 + 3 * k + 2)))), (5, .int v1), (6, .long (lN (o_th (fun th => decide (y_bit v1 th)) (fun th => decide (y_bit ((D 170).1 (93 + 5 * n9 + 2)) th)) i))), (8, .int (nI i)), (9, .int 0)]) hE dX11_factorOf_113 (by decide) rfl ?_
              refine r_lload hE dX11_factorOf_115 rfl ?_
              refine r_iload hE dX11_factorOf_117 rfl ?_
              refine r_iload hE dX11_factorOf_119 rfl ?_
              refine r_ishr hE dX11_factorOf_121 ?_
              refine r_iconst (v := 1) hE dX11_factorOf_122 (by decide) ?_
              refine r_iand hE dX11_factorOf_123 ?_
              refine r_iconst (v := 1) hE dX11_factorOf_124 (by decide) ?_
              refine r_icmp_ne (tgt := 145) hE dX11_factorOf_125 (by decide) (fun c125 => ?_) (fun c125 => ?_)
              · refine r_iload hE dX11_factorOf_145 rfl ?_
                refine r_if_eq (tgt := 154) hE dX11_factorOf_147 (by decide) (fun _ => ?_) (fun c147 => by first | exact absurd c147 (by decide) | exact absurd (by decide) c147)
                refine r_ldc2 (v := 9) hE dX11_factorOf_154 (x_gin (List.mem_append_right _ (tb_8 _ (List.mem_of_getElem? (i := 6) rfl))) rfl) ?_
                refine r_lmul hE dX11_factorOf_157 ?_
                refine r_topL (y := lN ((o_th (fun th => decide (y_bit v1 th)) (fun th => decide (y_bit ((D 170).1 (93 + 5 * n9 + 2)) th)) i) * 9)) (lN_mul (o_th (fun th => decide (y_bit v1 th)) (fun th => decide (y_bit ((D 170).1 (93 + 5 * n9 + 2)) th)) i) 9) ?_
                refine r_lstore (ls2 := [(0, .ref 169), (1, .int (nI k)), (2, .int (nI n9)), (3, .int (nI (93 + 5 * n9))), (4, .int (nI (q_n (D 170).1 (78 + 3 * k + 2)))), (5, .int v1), (6, .long (lN ((o_th (fun th => decide (y_bit v1 th)) (fun th => decide (y_bit ((D 170).1 (93 + 5 * n9 + 2)) th)) i) * 9))), (8, .int (nI i)), (9, .int 0)]) hE dX11_factorOf_158 (by decide) rfl ?_
                refine r_iincN (a := i) (b := 1) (ls2 := [(0, .ref 169), (1, .int (nI k)), (2, .int (nI n9)), (3, .int (nI (93 + 5 * n9))), (4, .int (nI (q_n (D 170).1 (78 + 3 * k + 2)))), (5, .int v1), (6, .long (lN ((o_th (fun th => decide (y_bit v1 th)) (fun th => decide (y_bit ((D 170).1 (93 + 5 * n9 + 2)) th)) i) * 9))), (8, .int (nI (i + 1))), (9, .int 0)]) hE dX11_factorOf_160 rfl rfl (by decide) rfl ?_
                refine r_goto (tgt := 80) hE dX11_factorOf_163 (by decide) ?_
                have e9 : o_th (fun th => decide (y_bit v1 th)) (fun th => decide (y_bit ((D 170).1 (93 + 5 * n9 + 2)) th)) (i + 1) = (o_th (fun th => decide (y_bit v1 th)) (fun th => decide (y_bit ((D 170).1 (93 + 5 * n9 + 2)) th)) i) * 9 := by
                  show o_th (fun th => decide (y_bit v1 th)) (fun th => decide (y_bit ((D 170).1 (93 + 5 * n9 + 2)) th)) i * (if (fun th => decide (y_bit v1 th)) i then (if (fun th => decide (y_bit ((D 170).1 (93 + 5 * n9 + 2)) th)) i then 7 else 3) else (if (fun th => decide (y_bit ((D 170).1 (93 + 5 * n9 + 2)) th)) i then 1 else 9)) = _
                  rw [if_neg (fun q => c125 (of_decide_eq_true q))]
                  rw [if_neg (fun q => c105 (of_decide_eq_true q))]
                refine r_locs hE (ls2 := [(0, .ref 169), (1, .int (nI k)), (2, .int (nI n9)), (3, .int (nI (93 + 5 * n9))), (4, .int (nI (q_n (D 170).1 (78 + 3 * k + 2)))), (5, .int v1), (6, .long (lN (o_th (fun th => decide (y_bit v1 th)) (fun th => decide (y_bit ((D 170).1 (93 + 5 * n9 + 2)) th)) (i + 1)))), (8, .int (nI (i + 1)))]) ?_ (ih ((q_n (D 170).1 3) - (i + 1)) (by omega) (i + 1) rfl (by omega))
                rw [e9]
                simp [x_lk]
              · refine r_iload hE dX11_factorOf_128 rfl ?_
                refine r_if_eq (tgt := 139) hE dX11_factorOf_130 (by decide) (fun _ => ?_) (fun c130 => by first | exact absurd c130 (by decide) | exact absurd (by decide) c130)
                refine r_ldc2 (v := 3) hE dX11_factorOf_139 (x_gin (List.mem_append_right _ (tb_8 _ (List.mem_of_getElem? (i := 5) rfl))) rfl) ?_
                refine r_goto (tgt := 157) hE dX11_factorOf_142 (by decide) ?_
                refine r_lmul hE dX11_factorOf_157 ?_
                refine r_topL (y := lN ((o_th (fun th => decide (y_bit v1 th)) (fun th => decide (y_bit ((D 170).1 (93 + 5 * n9 + 2)) th)) i) * 3)) (lN_mul (o_th (fun th => decide (y_bit v1 th)) (fun th => decide (y_bit ((D 170).1 (93 + 5 * n9 + 2)) th)) i) 3) ?_
                refine r_lstore (ls2 := [(0, .ref 169), (1, .int (nI k)), (2, .int (nI n9)), (3, .int (nI (93 + 5 * n9))), (4, .int (nI (q_n (D 170).1 (78 + 3 * k + 2)))), (5, .int v1), (6, .long (lN ((o_th (fun th => decide (y_bit v1 th)) (fun th => decide (y_bit ((D 170).1 (93 + 5 * n9 + 2)) th)) i) * 3))), (8, .int (nI i)), (9, .int 0)]) hE dX11_factorOf_158 (by decide) rfl ?_
                refine r_iincN (a := i) (b := 1) (ls2 := [(0, .ref 169), (1, .int (nI k)), (2, .int (nI n9)), (3, .int (nI (93 + 5 * n9))), (4, .int (nI (q_n (D 170).1 (78 + 3 * k + 2)))), (5, .int v1), (6, .long (lN ((o_th (fun th => decide (y_bit v1 th)) (fun th => decide (y_bit ((D 170).1 (93 + 5 * n9 + 2)) th)) i) * 3))), (8, .int (nI (i + 1))), (9, .int 0)]) hE dX11_factorOf_160 rfl rfl (by decide) rfl ?_
                refine r_goto (tgt := 80) hE dX11_factorOf_163 (by decide) ?_
                have e9 : o_th (fun th => decide (y_bit v1 th)) (fun th => decide (y_bit ((D 170).1 (93 + 5 * n9 + 2)) th)) (i + 1) = (o_th (fun th => decide (y_bit v1 th)) (fun th => decide (y_bit ((D 170).1 (93 + 5 * n9 + 2)) th)) i) * 3 := by
                  show o_th (fun th => decide (y_bit v1 th)) (fun th => decide (y_bit ((D 170).1 (93 + 5 * n9 + 2)) th)) i * (if (fun th => decide (y_bit v1 th)) i then (if (fun th => decide (y_bit ((D 170).1 (93 + 5 * n9 + 2)) th)) i then 7 else 3) else (if (fun th => decide (y_bit ((D 170).1 (93 + 5 * n9 + 2)) th)) i then 1 else 9)) = _
                  rw [if_pos (decide_eq_true c125)]
                  rw [if_neg (fun q => c105 (of_decide_eq_true q))]
                refine r_locs hE (ls2 := [(0, .ref 169), (1, .int (nI k)), (2, .int (nI n9)), (3, .int (nI (93 + 5 * n9))), (4, .int (nI (q_n (D 170).1 (78 + 3 * k + 2)))), (5, .int v1), (6, .long (lN (o_th (fun th => decide (y_bit v1 th)) (fun th => decide (y_bit ((D 170).1 (93 + 5 * n9 + 2)) th)) (i + 1)))), (8, .int (nI (i + 1)))]) ?_ (ih ((q_n (D 170).1 3) - (i + 1)) (by omega) (i + 1) rfl (by omega))
                rw [e9]
                simp [x_lk]
            · refine r_iconst (v := 1) hE dX11_factorOf_108 (by decide) ?_
              refine r_goto (tgt := 113) hE dX11_factorOf_109 (by decide) ?_
              refine r_istore (ls2 := [(0, .ref 169), (1, .int (nI k)), (2, .int (nI n9)), (3, .int (nI (93 + 5 * n9))), (4, .int (nI (q_n (D 170).1 (78 + 3 * k + 2)))), (5, .int v1), (6, .long (lN (o_th (fun th => decide (y_bit v1 th)) (fun th => decide (y_bit ((D 170).1 (93 + 5 * n9 + 2)) th)) i))), (8, .int (nI i)), (9, .int 1)]) hE dX11_factorOf_113 (by decide) rfl ?_
              refine r_lload hE dX11_factorOf_115 rfl ?_
              refine r_iload hE dX11_factorOf_117 rfl ?_
              refine r_iload hE dX11_factorOf_119 rfl ?_
              refine r_ishr hE dX11_factorOf_121 ?_
              refine r_iconst (v := 1) hE dX11_factorOf_122 (by decide) ?_
              refine r_iand hE dX11_factorOf_123 ?_
              refine r_iconst (v := 1) hE dX11_factorOf_124 (by decide) ?_
              refine r_icmp_ne (tgt := 145) hE dX11_factorOf_125 (by decide) (fun c125 => ?_) (fun c125 => ?_)
              · refine r_iload hE dX11_factorOf_145 rfl ?_
                refine r_if_eq (tgt := 154) hE dX11_factorOf_147 (by decide) (fun c147 => by first | exact absurd c147 (by decide) | exact absurd (by decide) c147) (fun _ => ?_)
                refine r_lconst (v := 1) hE dX11_factorOf_150 (by decide) ?_
                refine r_goto (tgt := 157) hE dX11_factorOf_151 (by decide) ?_
                refine r_lmul hE dX11_factorOf_157 ?_
                refine r_topL (y := lN ((o_th (fun th => decide (y_bit v1 th)) (fun th => decide (y_bit ((D 170).1 (93 + 5 * n9 + 2)) th)) i) * 1)) (lN_mul (o_th (fun th => decide (y_bit v1 th)) (fun th => decide (y_bit ((D 170).1 (93 + 5 * n9 + 2)) th)) i) 1) ?_
                refine r_lstore (ls2 := [(0, .ref 169), (1, .int (nI k)), (2, .int (nI n9)), (3, .int (nI (93 + 5 * n9))), (4, .int (nI (q_n (D 170).1 (78 + 3 * k + 2)))), (5, .int v1), (6, .long (lN ((o_th (fun th => decide (y_bit v1 th)) (fun th => decide (y_bit ((D 170).1 (93 + 5 * n9 + 2)) th)) i) * 1))), (8, .int (nI i)), (9, .int 1)]) hE dX11_factorOf_158 (by decide) rfl ?_
                refine r_iincN (a := i) (b := 1) (ls2 := [(0, .ref 169), (1, .int (nI k)), (2, .int (nI n9)), (3, .int (nI (93 + 5 * n9))), (4, .int (nI (q_n (D 170).1 (78 + 3 * k + 2)))), (5, .int v1), (6, .long (lN ((o_th (fun th => decide (y_bit v1 th)) (fun th => decide (y_bit ((D 170).1 (93 + 5 * n9 + 2)) th)) i) * 1))), (8, .int (nI (i + 1))), (9, .int 1)]) hE dX11_factorOf_160 rfl rfl (by decide) rfl ?_
                refine r_goto (tgt := 80) hE dX11_factorOf_163 (by decide) ?_
                have e9 : o_th (fun th => decide (y_bit v1 th)) (fun th => decide (y_bit ((D 170).1 (93 + 5 * n9 + 2)) th)) (i + 1) = (o_th (fun th => decide (y_bit v1 th)) (fun th => decide (y_bit ((D 170).1 (93 + 5 * n9 + 2)) th)) i) * 1 := by
                  show o_th (fun th => decide (y_bit v1 th)) (fun th => decide (y_bit ((D 170).1 (93 + 5 * n9 + 2)) th)) i * (if (fun th => decide (y_bit v1 th)) i then (if (fun th => decide (y_bit ((D 170).1 (93 + 5 * n9 + 2)) th)) i then 7 else 3) else (if (fun th => decide (y_bit ((D 170).1 (93 + 5 * n9 + 2)) th)) i then 1 else 9)) = _
                  rw [if_neg (fun q => c125 (of_decide_eq_true q))]
                  rw [if_pos (decide_eq_true c105)]
                refine r_locs hE (ls2 := [(0, .ref 169), (1, .int (nI k)), (2, .int (nI n9)), (3, .int (nI (93 + 5 * n9))), (4, .int (nI (q_n (D 170).1 (78 + 3 * k + 2)))), (5, .int v1), (6, .long (lN (o_th (fun th => decide (y_bit v1 th)) (fun th => decide (y_bit ((D 170).1 (93 + 5 * n9 + 2)) th)) (i + 1)))), (8, .int (nI (i + 1)))]) ?_ (ih ((q_n (D 170).1 3) - (i + 1)) (by omega) (i + 1) rfl (by omega))
                rw [e9]
                simp [x_lk]
              · refine r_iload hE dX11_factorOf_128 rfl ?_
                refine r_if_eq (tgt := 139) hE dX11_factorOf_130 (by decide) (fun c130 => by first | exact absurd c130 (by decide) | exact absurd (by decide) c130) (fun _ => ?_)
                refine r_ldc2 (v := 7) hE dX11_factorOf_133 (x_gin (List.mem_append_right _ (tb_8 _ (List.mem_of_getElem? (i := 4) rfl))) rfl) ?_
                refine r_goto (tgt := 157) hE dX11_factorOf_136 (by decide) ?_
                refine r_lmul hE dX11_factorOf_157 ?_
                refine r_topL (y := lN ((o_th (fun th => decide (y_bit v1 th)) (fun th => decide (y_bit ((D 170).1 (93 + 5 * n9 + 2)) th)) i) * 7)) (lN_mul (o_th (fun th => decide (y_bit v1 th)) (fun th => decide (y_bit ((D 170).1 (93 + 5 * n9 + 2)) th)) i) 7) ?_
                refine r_lstore (ls2 := [(0, .ref 169), (1, .int (nI k)), (2, .int (nI n9)), (3, .int (nI (93 + 5 * n9))), (4, .int (nI (q_n (D 170).1 (78 + 3 * k + 2)))), (5, .int v1), (6, .long (lN ((o_th (fun th => decide (y_bit v1 th)) (fun th => decide (y_bit ((D 170).1 (93 + 5 * n9 + 2)) th)) i) * 7))), (8, .int (nI i)), (9, .int 1)]) hE dX11_factorOf_158 (by decide) rfl ?_
                refine r_iincN (a := i) (b := 1) (ls2 := [(0, .ref 169), (1, .int (nI k)), (2, .int (nI n9)), (3, .int (nI (93 + 5 * n9))), (4, .int (nI (q_n (D 170).1 (78 + 3 * k + 2)))), (5, .int v1), (6, .long (lN ((o_th (fun th => decide (y_bit v1 th)) (fun th => decide (y_bit ((D 170).1 (93 + 5 * n9 + 2)) th)) i) * 7))), (8, .int (nI (i + 1))), (9, .int 1)]) hE dX11_factorOf_160 rfl rfl (by decide) rfl ?_
                refine r_goto (tgt := 80) hE dX11_factorOf_163 (by decide) ?_
                have e9 : o_th (fun th => decide (y_bit v1 th)) (fun th => decide (y_bit ((D 170).1 (93 + 5 * n9 + 2)) th)) (i + 1) = (o_th (fun th => decide (y_bit v1 th)) (fun th => decide (y_bit ((D 170).1 (93 + 5 * n9 + 2)) th)) i) * 7 := by
                  show o_th (fun th => decide (y_bit v1 th)) (fun th => decide (y_bit ((D 170).1 (93 + 5 * n9 + 2)) th)) i * (if (fun th => decide (y_bit v1 th)) i then (if (fun th => decide (y_bit ((D 170).1 (93 + 5 * n9 + 2)) th)) i then 7 else 3) else (if (fun th => decide (y_bit ((D 170).1 (93 + 5 * n9 + 2)) th)) i then 1 else 9)) = _
                  rw [if_pos (decide_eq_true c125)]
                  rw [if_pos (decide_eq_true c105)]
                refine r_locs hE (ls2 := [(0, .ref 169), (1, .int (nI k)), (2, .int (nI n9)), (3, .int (nI (93 + 5 * n9))), (4, .int (nI (q_n (D 170).1 (78 + 3 * k + 2)))), (5, .int v1), (6, .long (lN (o_th (fun th => decide (y_bit v1 th)) (fun th => decide (y_bit ((D 170).1 (93 + 5 * n9 + 2)) th)) (i + 1)))), (8, .int (nI (i + 1)))]) ?_ (ih ((q_n (D 170).1 3) - (i + 1)) (by omega) (i + 1) rfl (by omega))
                rw [e9]
                simp [x_lk]
      exact l1 0 (by omega)

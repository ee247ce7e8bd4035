/-! ===== knots: states, turns, fewest seconds ===== -/
theorem nx_xor (a b : Nat) : nI a ^^^ nI b = nI (a ^^^ b) := by
  apply Int32.toBitVec_inj.1
  show BitVec.ofNat 32 a ^^^ BitVec.ofNat 32 b = BitVec.ofNat 32 (a ^^^ b)
  apply BitVec.eq_of_getLsbD_eq
  intro i hi
  simp [hi]
/-- from f to a state, in so many turns, within so many seconds -/
abbrev r_fw (tn : Nat → Nat → Prop) (wt : Nat → Nat → Nat) (kn f : Nat) : Nat → Nat → Nat → Prop := g_P (fun s _ => s = f) (fun u v a x => ∃ k, k < kn ∧ u < 2 ^ kn ∧ tn u k ∧ v = u ^^^ 2 ^ k ∧ a + wt u k ≤ x)
theorem r_xlt {kn k s : Nat} (hk : k < kn) (hs : s < 2 ^ kn) : s ^^^ 2 ^ k < 2 ^ kn := Nat.xor_lt_two_pow hs (Nat.pow_lt_pow_right (by decide) hk)
theorem r_fw_short {tn : Nat → Nat → Prop} {wt : Nat → Nat → Nat} {kn f j s x : Nat} (hs : s < 2 ^ kn) (h : r_fw tn wt kn f j s x) : r_fw tn wt kn f (2 ^ kn - 1) s x := by
  have h1 : 1 ≤ 2 ^ kn := Nat.one_le_two_pow
  exact g_short (fun _ _ _ h _ => h) (fun u v a x y ⟨k, h1, h2, h3, h4, h5⟩ hxy => ⟨k, h1, h2, h3, h4, by omega⟩) (N := 2 ^ kn - 1) (fun u v a x ⟨k, _, h2, _⟩ => by omega) (by omega) j h
/-- L is the least number of R, or 1000000 if there is none below it -/
def r_L (R : Nat → Prop) (L : Nat) : Prop := L ≤ 1000000 ∧ (L < 1000000 → R L) ∧ ∀ x, x < 1000000 → R x → L ≤ x
theorem r_L_u {R Q : Nat → Prop} {a b : Nat} (ha : r_L R a) (hb : r_L Q b) (h : ∀ x, R x ↔ Q x) : a = b := by
  obtain ⟨a1, a2, a3⟩ := ha
  obtain ⟨b1, b2, b3⟩ := hb
  by_cases ca : a < 1000000
  · have := b3 a ca ((h a).mp (a2 ca))
    have := a3 b (by omega) ((h b).mpr (b2 (by omega)))
    omega
  · by_cases cb : b < 1000000
    · have := a3 b cb ((h b).mpr (b2 cb))
      omega
    · omega
theorem r_L_imp {R Q : Nat → Prop} {a : Nat} (ha : r_L R a) (h : ∀ x, R x ↔ Q x) : r_L Q a := ⟨ha.1, fun c => (h a).mp (ha.2.1 c), fun x hx q => ha.2.2 x hx ((h x).mpr q)⟩
/-- the way from f to a state in which all of st are open -/
def r_to (tn : Nat → Nat → Prop) (wt : Nat → Nat → Nat) (kn st f x : Nat) : Prop := ∃ s, s < 2 ^ kn ∧ s ||| st = s ∧ ∃ j, r_fw tn wt kn f j s x
/-- out and in again -/
def r_in (tn : Nat → Nat → Prop) (wt : Nat → Nat → Nat) (kn st x : Nat) : Prop := ∃ s, s < 2 ^ kn ∧ s ||| st = s ∧ ∃ a b, a + b ≤ x ∧ (∃ j, r_fw tn wt kn 0 j s a) ∧ ∃ j, r_fw tn wt kn s j 0 b
def r_an (L : Nat) : Int32 := if L = 1000000 then -1 else nI L
def r_F (tn : Nat → Nat → Prop) (wt : Nat → Nat → Nat) (kn st : Nat) (op : Nat → Nat) (L0 k : Nat) : Prop := tn 0 k ∧ ∃ Lk, r_L (r_to tn wt kn st (2 ^ k)) Lk ∧ op k + Lk = L0
def r_first (tn : Nat → Nat → Prop) (wt : Nat → Nat → Nat) (kn st : Nat) (op : Nat → Nat) (v : Int32) : Prop := ∃ L0, r_L (r_to tn wt kn st 0) L0 ∧ ((v = -1 ∧ (st = 0 ∨ L0 = 1000000 ∨ ∀ k, k < kn → ¬ r_F tn wt kn st op L0 k)) ∨ ∃ k, k < kn ∧ v = nI k ∧ st ≠ 0 ∧ L0 ≠ 1000000 ∧ r_F tn wt kn st op L0 k ∧ ∀ i, i < k → ¬ r_F tn wt kn st op L0 i)
def m_WK (W : Nat → Int32) : Prop := q_ok W 9 6 ∧ q_ok W 10 50 ∧ ∀ k, k < q_n W 9 → q_ok W (213 + 4 * k) 99 ∧ q_ok W (213 + 4 * k + 1) 99 ∧ q_ok W (213 + 4 * k + 2) 50 ∧ q_ok W (213 + 4 * k + 3) 50
def m_rs (W : Nat → Int32) (s k : Nat) : Nat → Nat
  | 0 => q_n W 10
  | j + 1 => m_rs W s k j + (if j ≠ k ∧ s.testBit j = true then q_n W (213 + 4 * j + 3) else 0)
def m_tn (W : Nat → Int32) (s k : Nat) : Prop := q_n W (213 + 4 * k + 2) ≤ m_rs W s k (q_n W 9)
def m_wt (W : Nat → Int32) (s k : Nat) : Nat := if s.testBit k = true then q_n W (213 + 4 * k + 1) else q_n W (213 + 4 * k)
theorem m_rs_b {W : Nat → Int32} {s k : Nat} (h : m_WK W) : ∀ {j}, j ≤ q_n W 9 → m_rs W s k j ≤ 50 + 50 * j
  | 0, _ => h.2.1.2
  | j + 1, hj => by
    unfold m_rs
    have h1 := m_rs_b (s := s) (k := k) h (j := j) (by omega)
    have h2 := (h.2.2 j (by omega)).2.2.2.2
    split <;> omega
theorem m_wt_b {W : Nat → Int32} {s k : Nat} (h : m_WK W) (hk : k < q_n W 9) : m_wt W s k ≤ 99 := by
  unfold m_wt
  split
  · exact (h.2.2 k hk).2.1.2
  · exact (h.2.2 k hk).1.2
theorem y_tix : ∀ s, s < 64 → ∀ k, k < 6 → ((nI (s ^^^ 2 ^ k) >>> (nI k &&& 31)) &&& 1) ^^^ 1 = nI (if s.testBit k = true then 1 else 0) := by decide +kernel
theorem y_sub64 : ∀ a, a < 64 → ∀ b, b < 64 → (nI a &&& (nI b ^^^ (-1)) = 0 ↔ b ||| a = b) := by decide +kernel
theorem y_minN {a b : Nat} (ha : a < 2 ^ 31) (hb : b < 2 ^ 31) : (if nI b < nI a then nI b else nI a) = nI (min a b) := by
  by_cases h : b < a
  · rw [if_pos (nI_lt h ha), Nat.min_eq_right (by omega)]
  · rw [if_neg (nI_nlt (by omega) hb), Nat.min_eq_left (by omega)]
theorem c_canTurn {V : x_E} {n : Nat} {L : List Nat} {D : y_D} {s k : Nat} (hL : y_ok L) (hK : m_WK (D 170).1) (hk : k < q_n (D 170).1 9) : y_Ri V yX11_canTurn cX11_canTurn 5 (some .boolean) 0 [.ref 169, .int (nI s), .int (nI k)] n L D (fun v D2 => y_is v (m_tn (D 170).1 s k) ∧ D2 = D) := by
  refine y_ri (by decide) (Nat.le_of_ble_eq_true rfl) (fun E hE => ?_)
  change E 0 0 0 [(0, .ref 169), (1, .int (nI s)), (2, .int (nI k))] [] (y_mk n L D)
  have hk6 : q_n (D 170).1 9 ≤ 6 := hK.1.2
  have lp : ∀ (i : Nat), i ≤ q_n (D 170).1 9 → E 0 0 11 [(0, .ref 169), (1, .int (nI s)), (2, .int (nI k)), (3, .int (nI (m_rs (D 170).1 s k i))), (4, .int (nI i))] [] (y_mk n L D) := by
    intro i
    induction hm9 : (q_n (D 170).1 9 - i) using Nat.strongRecOn generalizing i with
    | _ m9 ih =>
      intro hi
      subst hm9
      refine r_iload hE dX11_canTurn_11 rfl ?_
      refine r_aload_n hE dX11_canTurn_13 rfl ?_
      refine t_getr hE f_X11_13 y_R_169_1 dX11_canTurn_14 (hL 169 (by decide)) ?_
      refine r_bipush (v := 9) hE dX11_canTurn_17 (by decide) ?_
      refine t_ialdN (e := 9) hE y_A_170 dX11_canTurn_19 (hL 170 (by decide)) (by omega) (by decide) ?_
      refine r_top (y := (nI (q_n (D 170).1 9))) hK.1.1 ?_
      refine r_icmp_geN (a := i) (b := q_n (D 170).1 9) (tgt := 67) hE dX11_canTurn_20 (by decide) (by omega) (by omega) (fun c20 => ?_) (fun c20 => ?_)
      · have hb1 := m_rs_b (s := s) (k := k) hK (j := i) (by omega)
        have hb2 : q_n (D 170).1 (213 + 4 * k + 2) ≤ 50 := (hK.2.2 k hk).2.2.1.2
        refine r_iload_n hE dX11_canTurn_67 rfl ?_
        refine r_aload_n hE dX11_canTurn_68 rfl ?_
        refine t_getr hE f_X11_13 y_R_169_1 dX11_canTurn_69 (hL 169 (by decide)) ?_
        refine r_sipush (v := 213) hE dX11_canTurn_72 (by decide) ?_
        refine r_iconst (v := 4) hE dX11_canTurn_75 (by decide) ?_
        refine r_iload_n hE dX11_canTurn_76 rfl ?_
        refine r_imulN (a := 4) (b := k) hE dX11_canTurn_77 ?_
        refine r_iaddN (a := 213) (b := 4 * k) hE dX11_canTurn_78 ?_
        refine r_iconst (v := 2) hE dX11_canTurn_79 (by decide) ?_
        refine r_iaddN (a := 213 + (4 * k)) (b := 2) hE dX11_canTurn_80 ?_
        refine t_ialdN (e := (213 + (4 * k)) + 2) hE y_A_170 dX11_canTurn_81 (hL 170 (by decide)) (by omega) (by decide) ?_
        refine r_top (y := (nI (q_n (D 170).1 (213 + 4 * k + 2)))) (hK.2.2 k hk).2.2.1.1 ?_
        refine r_icmp_ltN (a := m_rs (D 170).1 s k i) (b := q_n (D 170).1 (213 + 4 * k + 2)) (tgt := 89) hE dX11_canTurn_82 (by decide) (by omega) (by omega) (fun c82 => ?_) (fun c82 => ?_)
        · refine r_iconst (v := 0) hE dX11_canTurn_89 (by decide) ?_
          refine r_ireturn hE dX11_canTurn_90 rfl (by decide) (Nat.zero_le _) (Nat.zero_le _) ?_
          rw [show i = q_n (D 170).1 9 by omega] at c82
          first
          | exact ⟨_, _, rfl, rfl, Or.inl ⟨rfl, c82⟩, rfl⟩
          | exact ⟨_, _, rfl, rfl, Or.inr ⟨rfl, fun q => absurd q (by unfold m_tn; omega)⟩, rfl⟩
        · refine r_iconst (v := 1) hE dX11_canTurn_85 (by decide) ?_
          refine r_goto (tgt := 90) hE dX11_canTurn_86 (by decide) ?_
          refine r_ireturn hE dX11_canTurn_90 rfl (by decide) (Nat.zero_le _) (Nat.zero_le _) ?_
          rw [show i = q_n (D 170).1 9 by omega] at c82
          first
          | exact ⟨_, _, rfl, rfl, Or.inl ⟨rfl, c82⟩, rfl⟩
          | exact ⟨_, _, rfl, rfl, Or.inr ⟨rfl, fun q => absurd q (by unfold m_tn; omega)⟩, rfl⟩
      · refine r_iload_n hE dX11_canTurn_23 rfl ?_
        refine r_iload hE dX11_canTurn_24 rfl ?_
        refine r_iload_n hE dX11_canTurn_26 rfl ?_
        refine r_icmp_eqN (a := i) (b := k) (tgt := 58) hE dX11_canTurn_27 (by decide) (by omega) (by omega) (fun c27 => ?_) (fun c27 => ?_)
        · refine r_iconst (v := 0) hE dX11_canTurn_58 (by decide) ?_
          refine r_iaddN (a := m_rs (D 170).1 s k i) (b := 0) hE dX11_canTurn_59 ?_
          refine r_istore_n (ls2 := [(0, .ref 169), (1, .int (nI s)), (2, .int (nI k)), (3, .int (nI ((m_rs (D 170).1 s k i) + 0))), (4, .int (nI i))]) hE dX11_canTurn_60 (by decide) rfl ?_
          refine r_iincN (a := i) (b := 1) (ls2 := [(0, .ref 169), (1, .int (nI s)), (2, .int (nI k)), (3, .int (nI ((m_rs (D 170).1 s k i) + 0))), (4, .int (nI (i + 1)))]) hE dX11_canTurn_61 rfl rfl (by decide) rfl ?_
          refine r_goto (tgt := 11) hE dX11_canTurn_64 (by decide) ?_
          have e9 : m_rs (D 170).1 s k (i + 1) = (m_rs (D 170).1 s k i) + 0 := by
            show m_rs (D 170).1 s k i + (if i ≠ k ∧ s.testBit i = true then _ else 0) = _
            rw [if_neg (by first | exact fun q => c37 ((y_bit_tb (by omega)).mpr q.2) | exact fun q => q.1 c27)]
          refine r_locs hE (ls2 := [(0, .ref 169), (1, .int (nI s)), (2, .int (nI k)), (3, .int (nI (m_rs (D 170).1 s k (i + 1)))), (4, .int (nI (i + 1)))]) ?_ (ih (q_n (D 170).1 9 - (i + 1)) (by omega) (i + 1) rfl (by omega))
          rw [e9]
          simp [x_lk]
        · refine r_iload_n hE dX11_canTurn_30 rfl ?_
          refine r_iload hE dX11_canTurn_31 rfl ?_
          refine r_ishr hE dX11_canTurn_33 ?_
          refine r_iconst (v := 1) hE dX11_canTurn_34 (by decide) ?_
          refine r_iand hE dX11_canTurn_35 ?_
          refine r_iconst (v := 1) hE dX11_canTurn_36 (by decide) ?_
          refine r_icmp_ne (tgt := 58) hE dX11_canTurn_37 (by decide) (fun c37 => ?_) (fun c37 => ?_)
          · refine r_iconst (v := 0) hE dX11_canTurn_58 (by decide) ?_
            refine r_iaddN (a := m_rs (D 170).1 s k i) (b := 0) hE dX11_canTurn_59 ?_
            refine r_istore_n (ls2 := [(0, .ref 169), (1, .int (nI s)), (2, .int (nI k)), (3, .int (nI ((m_rs (D 170).1 s k i) + 0))), (4, .int (nI i))]) hE dX11_canTurn_60 (by decide) rfl ?_
            refine r_iincN (a := i) (b := 1) (ls2 := [(0, .ref 169), (1, .int (nI s)), (2, .int (nI k)), (3, .int (nI ((m_rs (D 170).1 s k i) + 0))), (4, .int (nI (i + 1)))]) hE dX11_canTurn_61 rfl rfl (by decide) rfl ?_
            refine r_goto (tgt := 11) hE dX11_canTurn_64 (by decide) ?_
            have e9 : m_rs (D 170).1 s k (i + 1) = (m_rs (D 170).1 s k i) + 0 := by
              show m_rs (D 170).1 s k i + (if i ≠ k ∧ s.testBit i = true then _ else 0) = _
              rw [if_neg (by first | exact fun q => c37 ((y_bit_tb (by omega)).mpr q.2) | exact fun q => q.1 c27)]
            refine r_locs hE (ls2 := [(0, .ref 169), (1, .int (nI s)), (2, .int (nI k)), (3, .int (nI (m_rs (D 170).1 s k (i + 1)))), (4, .int (nI (i + 1)))]) ?_ (ih (q_n (D 170).1 9 - (i + 1)) (by omega) (i + 1) rfl (by omega))
            rw [e9]
            simp [x_lk]
          · refine r_aload_n hE dX11_canTurn_40 rfl ?_
            refine t_getr hE f_X11_13 y_R_169_1 dX11_canTurn_41 (hL 169 (by decide)) ?_
            refine r_sipush (v := 213) hE dX11_canTurn_44 (by decide) ?_
            refine r_iconst (v := 4) hE dX11_canTurn_47 (by decide) ?_
            refine r_iload hE dX11_canTurn_48 rfl ?_
            refine r_imulN (a := 4) (b := i) hE dX11_canTurn_50 ?_
            refine r_iaddN (a := 213) (b := 4 * i) hE dX11_canTurn_51 ?_
            refine r_iconst (v := 3) hE dX11_canTurn_52 (by decide) ?_
            refine r_iaddN (a := 213 + (4 * i)) (b := 3) hE dX11_canTurn_53 ?_
            refine t_ialdN (e := (213 + (4 * i)) + 3) hE y_A_170 dX11_canTurn_54 (hL 170 (by decide)) (by omega) (by decide) ?_
            refine r_top (y := (nI (q_n (D 170).1 (213 + 4 * i + 3)))) (hK.2.2 i (by omega)).2.2.2.1 ?_
            refine r_goto (tgt := 59) hE dX11_canTurn_55 (by decide) ?_
            refine r_iaddN (a := m_rs (D 170).1 s k i) (b := q_n (D 170).1 (213 + 4 * i + 3)) hE dX11_canTurn_59 ?_
            refine r_istore_n (ls2 := [(0, .ref 169), (1, .int (nI s)), (2, .int (nI k)), (3, .int (nI ((m_rs (D 170).1 s k i) + (q_n (D 170).1 (213 + 4 * i + 3))))), (4, .int (nI i))]) hE dX11_canTurn_60 (by decide) rfl ?_
            refine r_iincN (a := i) (b := 1) (ls2 := [(0, .ref 169), (1, .int (nI s)), (2, .int (nI k)), (3, .int (nI ((m_rs (D 170).1 s k i) + (q_n (D 170).1 (213 + 4 * i + 3))))), (4, .int (nI (i + 1)))]) hE dX11_canTurn_61 rfl rfl (by decide) rfl ?_
            refine r_goto (tgt := 11) hE dX11_canTurn_64 (by decide) ?_
            have e9 : m_rs (D 170).1 s k (i + 1) = (m_rs (D 170).1 s k i) + (q_n (D 170).1 (213 + 4 * i + 3)) := by
              show m_rs (D 170).1 s k i + (if i ≠ k ∧ s.testBit i = true then _ else 0) = _
              rw [if_pos ⟨c27, (y_bit_tb (by omega)).mp c37⟩]
            refine r_locs hE (ls2 := [(0, .ref 169), (1, .int (nI s)), (2, .int (nI k)), (3, .int (nI (m_rs (D 170).1 s k (i + 1)))), (4, .int (nI (i + 1)))]) ?_ (ih (q_n (D 170).1 9 - (i + 1)) (by omega) (i + 1) rfl (by omega))
            rw [e9]
            simp [x_lk]
  refine r_aload_n hE dX11_canTurn_0 rfl ?_
  refine t_getr hE f_X11_13 y_R_169_1 dX11_canTurn_1 (hL 169 (by decide)) ?_
  refine r_bipush (v := 10) hE dX11_canTurn_4 (by decide) ?_
  refine t_ialdN (e := 10) hE y_A_170 dX11_canTurn_6 (hL 170 (by decide)) (by omega) (by decide) ?_
  refine r_top (y := (nI (q_n (D 170).1 10))) hK.2.1.1 ?_
  refine r_istore_n (ls2 := [(0, .ref 169), (1, .int (nI s)), (2, .int (nI k)), (3, .int (nI (q_n (D 170).1 10)))]) hE dX11_canTurn_7 (by decide) rfl ?_
  refine r_iconst (v := 0) hE dX11_canTurn_8 (by decide) ?_
  refine r_istore (ls2 := [(0, .ref 169), (1, .int (nI s)), (2, .int (nI k)), (3, .int (nI (q_n (D 170).1 10))), (4, .int 0)]) hE dX11_canTurn_9 (by decide) rfl ?_
  exact lp 0 (by omega)
theorem c_spreads {V : x_E} {n : Nat} {L : List Nat} {D : y_D} {f : Nat} (hL : y_ok L) (hK : m_WK (D 170).1) (hf9 : f < 64) : y_Rv V yX11_spreads cX11_spreads 7 none 1 [.ref 169, .int (nI f)] n L D (fun D2 => y_fx [187] D D2 ∧ ∀ s, s < 2 ^ q_n (D 170).1 9 → q_ok (D2 187).1 s 1000000 ∧ r_L (fun x => ∃ j, r_fw (m_tn (D 170).1) (m_wt (D 170).1) (q_n (D 170).1 9) f j s x) (q_n (D2 187).1 (s))) := by
  refine y_rv (by decide) (Nat.le_of_ble_eq_true rfl) (fun E hE => ?_)
  change E 0 0 0 [(0, .ref 169), (1, .int (nI f))] [] (y_mk n L D)
  have hk6 : q_n (D 170).1 9 ≤ 6 := hK.1.2
  have hp6 : 2 ^ q_n (D 170).1 9 ≤ 2 ^ 6 := Nat.pow_le_pow_right (by decide) hk6
  have hp7 : (2 : Nat) ^ 6 = 64 := rfl
  have hp8 : 1 ≤ 2 ^ q_n (D 170).1 9 := Nat.one_le_two_pow
  have l2 : ∀ (r : Nat) (D8 : y_D), r ≤ 2 ^ q_n (D 170).1 9 → y_fx [187] D D8 → (∀ s, s < 2 ^ q_n (D 170).1 9 → q_ok (D8 187).1 s 1000000) → (∀ s, s < 2 ^ q_n (D 170).1 9 → q_n (D8 187).1 (s) < 1000000 → ∃ j, r_fw (m_tn (D 170).1) (m_wt (D 170).1) (q_n (D 170).1 9) f j s (q_n (D8 187).1 (s))) → (∀ s, s < 2 ^ q_n (D 170).1 9 → ∀ x, x < 1000000 → r_fw (m_tn (D 170).1) (m_wt (D 170).1) (q_n (D 170).1 9) f r s x → q_n (D8 187).1 (s) ≤ x) → E 0 0 43 [(0, .ref 169), (1, .int (nI f)), (2, .int (nI (2 ^ q_n (D 170).1 9))), (3, .int (nI r))] [] (y_mk n L D8) := by
    intro r D8
    induction hm9 : (2 ^ q_n (D 170).1 9 - r) using Nat.strongRecOn generalizing r D8 with
    | _ m9 ih =>
      intro hr fr ok so co
      subst hm9
      refine r_iload_n hE dX11_spreads_43 rfl ?_
      refine r_iload_n hE dX11_spreads_44 rfl ?_
      refine r_icmp_geN (a := r) (b := 2 ^ q_n (D 170).1 9) (tgt := 177) hE dX11_spreads_45 (by decide) (by omega) (by omega) (fun c45 => ?_) (fun c45 => ?_)
      · refine r_return hE dX11_spreads_177 rfl (Nat.zero_le _) (Nat.zero_le _) ?_
        rw [show r = 2 ^ q_n (D 170).1 9 by omega] at co
        refine ⟨_, rfl, rfl, fr, fun s hs => ⟨ok s hs, (ok s hs).2, so s hs, fun x hx ⟨j, hj⟩ => co s hs x hx ?_⟩⟩
        have := g_mono (d := 1) (r_fw_short hs hj)
        rw [show 2 ^ q_n (D 170).1 9 - 1 + 1 = 2 ^ q_n (D 170).1 9 by omega] at this
        exact this
      · refine r_iconst (v := 0) hE dX11_spreads_48 (by decide) ?_
        refine r_istore (ls2 := [(0, .ref 169), (1, .int (nI f)), (2, .int (nI (2 ^ q_n (D 170).1 9))), (3, .int (nI r)), (4, .int 0)]) hE dX11_spreads_49 (by decide) rfl ?_
        have ihr := ih
        obtain ⟨D7, hD7⟩ : ∃ z, z = D8 := ⟨_, rfl⟩
        rw [← hD7] at co
        have l3 : ∀ (s : Nat) (D8 : y_D), s ≤ 2 ^ q_n (D 170).1 9 → y_fx [187] D D8 → (∀ s, s < 2 ^ q_n (D 170).1 9 → q_ok (D8 187).1 s 1000000) → (∀ s, s < 2 ^ q_n (D 170).1 9 → q_n (D8 187).1 (s) < 1000000 → ∃ j, r_fw (m_tn (D 170).1) (m_wt (D 170).1) (q_n (D 170).1 9) f j s (q_n (D8 187).1 (s))) → (∀ s, s < 2 ^ q_n (D 170).1 9 → q_n (D8 187).1 (s) ≤ q_n (D7 187).1 (s)) → (∀ s2 k2, (s2 < s ∨ (s2 = s ∧ k2 < 0)) → s2 < 2 ^ q_n (D 170).1 9 → k2 < q_n (D 170).1 9 → m_tn (D 170).1 s2 k2 → q_n (D7 187).1 (s2) < 1000000 → q_n (D8 187).1 (s2 ^^^ 2 ^ k2) ≤ q_n (D7 187).1 (s2) + m_wt (D 170).1 s2 k2) → E 0 0 51 [(0, .ref 169), (1, .int (nI f)), (2, .int (nI (2 ^ q_n (D 170).1 9))), (3, .int (nI r)), (4, .int (nI s))] [] (y_mk n L D8) := by
          intro s D8
          induction hm9 : (2 ^ q_n (D 170).1 9 - s) using Nat.strongRecOn generalizing s D8 with
          | _ m9 ih =>
            intro hs fr ok so mn mk
            subst hm9
            refine r_iload hE dX11_spreads_51 rfl ?_
            refine r_iload_n hE dX11_spreads_53 rfl ?_
            refine r_icmp_geN (a := s) (b := 2 ^ q_n (D 170).1 9) (tgt := 171) hE dX11_spreads_54 (by decide) (by omega) (by omega) (fun c54 => ?_) (fun c54 => ?_)
            · refine r_iincN (a := r) (b := 1) (ls2 := [(0, .ref 169), (1, .int (nI f)), (2, .int (nI (2 ^ q_n (D 170).1 9))), (3, .int (nI (r + 1))), (4, .int (nI s))]) hE dX11_spreads_171 rfl rfl (by decide) rfl ?_
              refine r_goto (tgt := 43) hE dX11_spreads_174 (by decide) ?_
              refine r_locs hE (ls2 := [(0, .ref 169), (1, .int (nI f)), (2, .int (nI (2 ^ q_n (D 170).1 9))), (3, .int (nI (r + 1)))]) ?_ (ihr (2 ^ q_n (D 170).1 9 - (r + 1)) (by omega) (r + 1) _ rfl (by omega) fr ok so (fun z hz x hx h => ?_))
              · simp [x_lk]
              · rcases h with h | ⟨u, a, h1, ⟨k, k1, k2, k3, k4, k5⟩, h3⟩
                · have := mn z hz; have := co z hz x hx h; omega
                · have h6 := co u k2 a (by omega) h3
                  have h7 := mk u k (by omega) k2 k1 k3 (by omega)
                  rw [k4]
                  omega
            · refine r_aload_n hE dX11_spreads_57 rfl ?_
              refine t_getr hE f_X11_71 y_R_169_28 dX11_spreads_58 (hL 169 (by decide)) ?_
              refine r_iload hE dX11_spreads_61 rfl ?_
              refine t_ialdN (e := s) hE y_A_187 dX11_spreads_63 (hL 187 (by decide)) (by omega) (by decide) ?_
              refine r_top (y := (nI (q_n (D8 187).1 (s)))) (ok s (by omega)).1 ?_
              have ho1 : q_n (D8 187).1 (s) ≤ 1000000 := (ok s (by omega)).2
              refine r_ldcw (v := 1000000) hE dX11_spreads_64 (x_gin (List.mem_append_right _ (tb_8 _ (List.mem_of_getElem? (i := 67) rfl))) rfl) ?_
              refine r_icmp_neN (a := q_n (D8 187).1 (s)) (b := 1000000) (tgt := 73) hE dX11_spreads_67 (by decide) (by omega) (by decide) (fun c67 => ?_) (fun c67 => ?_)
              · refine r_iconst (v := 0) hE dX11_spreads_73 (by decide) ?_
                refine r_istore (ls2 := [(0, .ref 169), (1, .int (nI f)), (2, .int (nI (2 ^ q_n (D 170).1 9))), (3, .int (nI r)), (4, .int (nI s)), (5, .int 0)]) hE dX11_spreads_74 (by decide) rfl ?_
                have ihs := ih
                have l4 : ∀ (k : Nat) (D8 : y_D), k ≤ q_n (D 170).1 9 → y_fx [187] D D8 → (∀ s, s < 2 ^ q_n (D 170).1 9 → q_ok (D8 187).1 s 1000000) → (∀ s, s < 2 ^ q_n (D 170).1 9 → q_n (D8 187).1 (s) < 1000000 → ∃ j, r_fw (m_tn (D 170).1) (m_wt (D 170).1) (q_n (D 170).1 9) f j s (q_n (D8 187).1 (s))) → (∀ s, s < 2 ^ q_n (D 170).1 9 → q_n (D8 187).1 (s) ≤ q_n (D7 187).1 (s)) → (∀ s2 k2, (s2 < s ∨ (s2 = s ∧ k2 < k)) → s2 < 2 ^ q_n (D 170).1 9 → k2 < q_n (D 170).1 9 → m_tn (D 170).1 s2 k2 → q_n (D7 187).1 (s2) < 1000000 → q_n (D8 187).1 (s2 ^^^ 2 ^ k2) ≤ q_n (D7 187).1 (s2) + m_wt (D 170).1 s2 k2) → E 0 0 76 [(0, .ref 169), (1, .int (nI f)), (2, .int (nI (2 ^ q_n (D 170).1 9))), (3, .int (nI r)), (4, .int (nI s)), (5, .int (nI k))] [] (y_mk n L D8) := by
                  intro k D8
                  induction hm9 : (q_n (D 170).1 9 - k) using Nat.strongRecOn generalizing k D8 with
                  | _ m9 ih =>
                    intro hk fr ok so mn mk
                    subst hm9
                    refine r_iload hE dX11_spreads_76 rfl ?_
                    refine r_aload_n hE dX11_spreads_78 rfl ?_
                    refine t_getr hE f_X11_13 y_R_169_1 dX11_spreads_79 (hL 169 (by decide)) ?_
                    refine r_bipush (v := 9) hE dX11_spreads_82 (by decide) ?_
                    refine t_ialdN (e := 9) hE y_A_170 dX11_spreads_84 (hL 170 (by decide)) (by omega) (by decide) ?_
                    refine r_top (y := (nI (q_n (D 170).1 9))) (by rw [fr.1 170 (by decide)]; exact hK.1.1) ?_
                    refine r_icmp_geN (a := k) (b := q_n (D 170).1 9) (tgt := 165) hE dX11_spreads_85 (by decide) (by omega) (by omega) (fun c85 => ?_) (fun c85 => ?_)
                    · refine r_iincN (a := s) (b := 1) (ls2 := [(0, .ref 169), (1, .int (nI f)), (2, .int (nI (2 ^ q_n (D 170).1 9))), (3, .int (nI r)), (4, .int (nI (s + 1))), (5, .int (nI k))]) hE dX11_spreads_165 rfl rfl (by decide) rfl ?_
                      refine r_goto (tgt := 51) hE dX11_spreads_168 (by decide) ?_
                      refine r_locs hE (ls2 := [(0, .ref 169), (1, .int (nI f)), (2, .int (nI (2 ^ q_n (D 170).1 9))), (3, .int (nI r)), (4, .int (nI (s + 1)))]) ?_ (ihs (2 ^ q_n (D 170).1 9 - (s + 1)) (by omega) (s + 1) _ rfl (by omega) fr ok so mn (fun s2 k2 h1 h2 h3 h4 h5 => ?_))
                      · simp [x_lk]
                      · exact mk s2 k2 (by omega) h2 h3 h4 h5
                    · refine r_aload_n hE dX11_spreads_88 rfl ?_
                      refine r_iload hE dX11_spreads_89 rfl ?_
                      refine r_iload hE dX11_spreads_91 rfl ?_
                      refine t_invvRi hE [.int (nI s), .int (nI k)] (c_canTurn (D := D8) (s := s) (k := k) hL (by rw [fr.1 170 (by decide)]; exact hK) (by rw [fr.1 170 (by decide)]; omega)) v_yX11_canTurn m_X11_383 dX11_spreads_93 rfl (hL 169 (by decide)) (y_l_169 (D8 169)) rfl (by decide) ⟨Nat.le_refl _, Nat.le_refl _⟩ (Nat.le_of_ble_eq_true rfl) (fun v9 D9 q9 => ?_)
                      obtain ⟨q9, hD9⟩ := q9
                      rw [hD9]
                      rw [fr.1 170 (by decide)] at q9
                      show E 0 0 96 [(0, .ref 169), (1, .int (nI f)), (2, .int (nI (2 ^ q_n (D 170).1 9))), (3, .int (nI r)), (4, .int (nI s)), (5, .int (nI k))] [.int v9] (y_mk n L D8)
                      refine r_if_ne (tgt := 102) hE dX11_spreads_96 (by decide) (fun c96 => ?_) (fun c96 => ?_)
                      · have hto : s ^^^ 2 ^ k < 2 ^ q_n (D 170).1 9 := r_xlt (by omega) (by omega)
                        have ho1 : q_n (D8 187).1 (s) ≤ 1000000 := (ok s (by omega)).2
                        have ho2 : q_n (D8 187).1 (s ^^^ 2 ^ k) ≤ 1000000 := (ok _ hto).2
                        have hw9 := m_wt_b (s := s) hK (k := k) (by omega)
                        have hix : (if s.testBit k = true then 1 else 0) ≤ 1 := by split <;> omega
                        have hwt : (D 170).1 (213 + 4 * k + (if s.testBit k = true then 1 else 0)) = nI (m_wt (D 170).1 s k) := by
                          unfold m_wt
                          split
                          · exact (hK.2.2 k (by omega)).2.1.1
                          · exact (hK.2.2 k (by omega)).1.1
                        refine r_iload hE dX11_spreads_102 rfl ?_
                        refine r_iconst (v := 1) hE dX11_spreads_104 (by decide) ?_
                        refine r_iload hE dX11_spreads_105 rfl ?_
                        refine r_shl1N (k := k) hE dX11_spreads_107 (by omega) ?_
                        refine r_ixor hE dX11_spreads_108 ?_
                        refine r_top (y := (nI (s ^^^ 2 ^ k))) (nx_xor _ _) ?_
                        refine r_istore (ls2 := [(0, .ref 169), (1, .int (nI f)), (2, .int (nI (2 ^ q_n (D 170).1 9))), (3, .int (nI r)), (4, .int (nI s)), (5, .int (nI k)), (6, .int (nI (s ^^^ 2 ^ k)))]) hE dX11_spreads_109 (by decide) rfl ?_
                        refine r_aload_n hE dX11_spreads_111 rfl ?_
                        refine t_getr hE f_X11_71 y_R_169_28 dX11_spreads_112 (hL 169 (by decide)) ?_
                        refine r_iload hE dX11_spreads_115 rfl ?_
                        refine r_aload_n hE dX11_spreads_117 rfl ?_
                        refine t_getr hE f_X11_71 y_R_169_28 dX11_spreads_118 (hL 169 (by decide)) ?_
                        refine r_iload hE dX11_spreads_121 rfl ?_
                        refine t_ialdN (e := s ^^^ 2 ^ k) hE y_A_187 dX11_spreads_123 (hL 187 (by decide)) (by omega) (by decide) ?_
                        refine r_top (y := (nI (q_n (D8 187).1 (s ^^^ 2 ^ k)))) (ok _ hto).1 ?_
                        refine r_aload_n hE dX11_spreads_124 rfl ?_
                        refine t_getr hE f_X11_71 y_R_169_28 dX11_spreads_125 (hL 169 (by decide)) ?_
                        refine r_iload hE dX11_spreads_128 rfl ?_
                        refine t_ialdN (e := s) hE y_A_187 dX11_spreads_130 (hL 187 (by decide)) (by omega) (by decide) ?_
                        refine r_top (y := (nI (q_n (D8 187).1 (s)))) (ok s (by omega)).1 ?_
                        refine r_aload_n hE dX11_spreads_131 rfl ?_
                        refine t_getr hE f_X11_13 y_R_169_1 dX11_spreads_132 (hL 169 (by decide)) ?_
                        refine r_sipush (v := 213) hE dX11_spreads_135 (by decide) ?_
                        refine r_iconst (v := 4) hE dX11_spreads_138 (by decide) ?_
                        refine r_iload hE dX11_spreads_139 rfl ?_
                        refine r_imulN (a := 4) (b := k) hE dX11_spreads_141 ?_
                        refine r_iaddN (a := 213) (b := 4 * k) hE dX11_spreads_142 ?_
                        refine r_iload hE dX11_spreads_143 rfl ?_
                        refine r_iload hE dX11_spreads_145 rfl ?_
                        refine r_ishr hE dX11_spreads_147 ?_
                        refine r_iconst (v := 1) hE dX11_spreads_148 (by decide) ?_
                        refine r_iand hE dX11_spreads_149 ?_
                        refine r_iconst (v := 1) hE dX11_spreads_150 (by decide) ?_
                        refine r_ixor hE dX11_spreads_151 ?_
                        refine r_top (y := (nI (if s.testBit k = true then 1 else 0))) (y_tix s (by omega) k (by omega)) ?_
                        refine r_iaddN (a := 213 + (4 * k)) (b := if s.testBit k = true then 1 else 0) hE dX11_spreads_152 ?_
                        refine t_ialdN (e := (213 + (4 * k)) + (if s.testBit k = true then 1 else 0)) hE y_A_170 dX11_spreads_153 (hL 170 (by decide)) (by omega) (by decide) ?_
                        refine r_top (y := (nI (m_wt (D 170).1 s k))) (by rw [fr.1 170 (by decide)]; exact hwt) ?_
                        refine r_iaddN (a := q_n (D8 187).1 (s)) (b := m_wt (D 170).1 s k) hE dX11_spreads_154 ?_
                        refine r_mmin hE m_X11_386 dX11_spreads_155 (by decide) (Nat.le_of_ble_eq_true rfl) ⟨Nat.le_refl _, Nat.le_refl _⟩ ?_
                        refine r_top (y := (nI (min (q_n (D8 187).1 (s ^^^ 2 ^ k)) (q_n (D8 187).1 (s) + m_wt (D 170).1 s k)))) (y_minN (by omega) (by omega)) ?_
                        refine t_iastN (e := s ^^^ 2 ^ k) hE y_A_187 dX11_spreads_158 (hL 187 (by decide)) (by omega) (by decide) ?_
                        refine r_iincN (a := k) (b := 1) (ls2 := [(0, .ref 169), (1, .int (nI f)), (2, .int (nI (2 ^ q_n (D 170).1 9))), (3, .int (nI r)), (4, .int (nI s)), (5, .int (nI (k + 1))), (6, .int (nI (s ^^^ 2 ^ k)))]) hE dX11_spreads_159 rfl rfl (by decide) rfl ?_
                        refine r_goto (tgt := 76) hE dX11_spreads_162 (by decide) ?_
                        have g2 := Classical.not_not.mp (fun q => c96 ((y_is_0 q9).mpr q))
                        have fa2 : ∀ z, q_n (y_si D8 187 (s ^^^ 2 ^ k) (nI (min (q_n (D8 187).1 (s ^^^ 2 ^ k)) (q_n (D8 187).1 (s) + m_wt (D 170).1 s k))) 187).1 z = if z = s ^^^ 2 ^ k then min (q_n (D8 187).1 (s ^^^ 2 ^ k)) (q_n (D8 187).1 (s) + m_wt (D 170).1 s k) else q_n (D8 187).1 (z) := by
                          intro z
                          by_cases c : z = s ^^^ 2 ^ k
                          · rw [q_si_y c, if_pos c, nI_clamp (by omega)]
                          · rw [q_si_n c, if_neg c]
                        refine r_locs hE (ls2 := [(0, .ref 169), (1, .int (nI f)), (2, .int (nI (2 ^ q_n (D 170).1 9))), (3, .int (nI r)), (4, .int (nI s)), (5, .int (nI (k + 1)))]) ?_ (ih (q_n (D 170).1 9 - (k + 1)) (by omega) (k + 1) _ rfl (by omega) (y_fx_s fr (by decide)) (fun z hz => ?_) (fun z hz h => ?_) (fun z hz => ?_) (fun s2 k2 h1 h2 h3 h4 h5 => ?_))
                        · simp [x_lk]
                        · by_cases c : z = s ^^^ 2 ^ k
                          · exact (q_mk (a := min (q_n (D8 187).1 (s ^^^ 2 ^ k)) (q_n (D8 187).1 (s) + m_wt (D 170).1 s k)) (by rw [y_si_1, if_pos c]) (by omega) (by omega)).1
                          · exact q_ok_n c (ok z hz)
                        · rw [fa2] at h ⊢
                          by_cases c : z = s ^^^ 2 ^ k
                          · rw [if_pos c] at h ⊢
                            by_cases c2 : q_n (D8 187).1 (s ^^^ 2 ^ k) ≤ q_n (D8 187).1 (s) + m_wt (D 170).1 s k
                            · rw [Nat.min_eq_left c2] at h ⊢
                              rw [c]
                              exact so _ hto h
                            · rw [Nat.min_eq_right (by omega)] at h ⊢
                              obtain ⟨j, hj⟩ := so s (by omega) (by omega)
                              exact ⟨j + 1, Or.inr ⟨s, q_n (D8 187).1 (s), by omega, ⟨k, by omega, by omega, g2, c, Nat.le_refl _⟩, hj⟩⟩
                          · rw [if_neg c] at h ⊢
                            exact so z hz h
                        · rw [fa2]
                          by_cases c : z = s ^^^ 2 ^ k
                          · rw [if_pos c, c]; have := mn (s ^^^ 2 ^ k) hto; omega
                          · rw [if_neg c]; exact mn z hz
                        · rw [fa2]
                          by_cases c0 : s2 = s ∧ k2 = k
                          · rw [c0.1, c0.2, if_pos rfl]
                            have := mn s (by omega)
                            omega
                          · have h9 := mk s2 k2 (by omega) h2 h3 h4 h5
                            by_cases c : s2 ^^^ 2 ^ k2 = s ^^^ 2 ^ k
                            · rw [if_pos c]; rw [c] at h9; omega
                            · rw [if_neg c]; exact h9
                      · refine r_goto (tgt := 159) hE dX11_spreads_99 (by decide) ?_
                        refine r_iincN (a := k) (b := 1) (ls2 := [(0, .ref 169), (1, .int (nI f)), (2, .int (nI (2 ^ q_n (D 170).1 9))), (3, .int (nI r)), (4, .int (nI s)), (5, .int (nI (k + 1)))]) hE dX11_spreads_159 rfl rfl (by decide) rfl ?_
                        refine r_goto (tgt := 76) hE dX11_spreads_162 (by decide) ?_
                        refine r_locs hE (ls2 := [(0, .ref 169), (1, .int (nI f)), (2, .int (nI (2 ^ q_n (D 170).1 9))), (3, .int (nI r)), (4, .int (nI s)), (5, .int (nI (k + 1)))]) ?_ (ih (q_n (D 170).1 9 - (k + 1)) (by omega) (k + 1) _ rfl (by omega) fr ok so mn (fun s2 k2 h1 h2 h3 h4 h5 => ?_))
                        · simp [x_lk]
                        · by_cases c0 : s2 = s ∧ k2 = k
                          · rw [c0.1, c0.2] at h4
                            exact absurd h4 ((y_is_0 q9).mp c96)
                          · exact mk s2 k2 (by omega) h2 h3 h4 h5
                exact l4 0 _ (by omega) fr ok so mn (fun s2 k2 h1 h2 h3 h4 h5 => mk s2 k2 (by omega) h2 h3 h4 h5)
              · refine r_goto (tgt := 165) hE dX11_spreads_70 (by decide) ?_
                refine r_iincN (a := s) (b := 1) (ls2 := [(0, .ref 169), (1, .int (nI f)), (2, .int (nI (2 ^ q_n (D 170).1 9))), (3, .int (nI r)), (4, .int (nI (s + 1)))]) hE dX11_spreads_165 rfl rfl (by decide) rfl ?_
                refine r_goto (tgt := 51) hE dX11_spreads_168 (by decide) ?_
                have ihs := ih
                refine r_locs hE (ls2 := [(0, .ref 169), (1, .int (nI f)), (2, .int (nI (2 ^ q_n (D 170).1 9))), (3, .int (nI r)), (4, .int (nI (s + 1)))]) ?_ (ihs (2 ^ q_n (D 170).1 9 - (s + 1)) (by omega) (s + 1) _ rfl (by omega) fr ok so mn (fun s2 k2 h1 h2 h3 h4 h5 => ?_))
                · simp [x_lk]
                · by_cases c : s2 = s
                  · rw [c] at h5
                    have := mn s (by omega)
                    omega
                  · exact mk s2 k2 (by omega) h2 h3 h4 h5
        exact l3 0 D8 (Nat.zero_le _) fr ok so (fun p hp => by rw [hD7]; exact Nat.le_refl _) (fun s2 k2 h1 => absurd h1 (by omega))
  have l1 : ∀ (i : Nat) (D8 : y_D), i ≤ 2 ^ q_n (D 170).1 9 → y_fx [187] D D8 → (∀ s, s < i → q_ok (D8 187).1 s 1000000 ∧ q_n (D8 187).1 (s) = if s = f then 0 else 1000000) → E 0 0 12 [(0, .ref 169), (1, .int (nI f)), (2, .int (nI (2 ^ q_n (D 170).1 9))), (3, .int (nI i))] [] (y_mk n L D8) := by
    intro i D8
    induction hm9 : (2 ^ q_n (D 170).1 9 - i) using Nat.strongRecOn generalizing i D8 with
    | _ m9 ih =>
      intro hi fr inv
      subst hm9
      refine r_iload_n hE dX11_spreads_12 rfl ?_
      refine r_iload_n hE dX11_spreads_13 rfl ?_
      refine r_icmp_geN (a := i) (b := 2 ^ q_n (D 170).1 9) (tgt := 41) hE dX11_spreads_14 (by decide) (by omega) (by omega) (fun c14 => ?_) (fun c14 => ?_)
      · refine r_iconst (v := 0) hE dX11_spreads_41 (by decide) ?_
        refine r_istore_n (ls2 := [(0, .ref 169), (1, .int (nI f)), (2, .int (nI (2 ^ q_n (D 170).1 9))), (3, .int 0)]) hE dX11_spreads_42 (by decide) rfl ?_
        refine l2 0 _ (Nat.zero_le _) fr (fun s hs => (inv s (by omega)).1) (fun s hs h => ?_) (fun s hs x hx h => ?_)
        · rw [(inv s (by omega)).2] at h ⊢
          by_cases c : s = f
          · rw [if_pos c]; exact ⟨0, c⟩
          · rw [if_neg c] at h; omega
        · have h9 : s = f := h
          rw [(inv s (by omega)).2, if_pos h9]
          exact Nat.zero_le _
      · refine r_aload_n hE dX11_spreads_17 rfl ?_
        refine t_getr hE f_X11_71 y_R_169_28 dX11_spreads_18 (hL 169 (by decide)) ?_
        refine r_iload_n hE dX11_spreads_21 rfl ?_
        refine r_iload_n hE dX11_spreads_22 rfl ?_
        refine r_iload_n hE dX11_spreads_23 rfl ?_
        refine r_icmp_neN (a := i) (b := f) (tgt := 31) hE dX11_spreads_24 (by decide) (by omega) (by omega) (fun c24 => ?_) (fun c24 => ?_)
        · refine r_ldcw (v := 1000000) hE dX11_spreads_31 (x_gin (List.mem_append_right _ (tb_8 _ (List.mem_of_getElem? (i := 67) rfl))) rfl) ?_
          refine t_iastN (e := i) hE y_A_187 dX11_spreads_34 (hL 187 (by decide)) (by omega) (by decide) ?_
          refine r_iincN (a := i) (b := 1) (ls2 := [(0, .ref 169), (1, .int (nI f)), (2, .int (nI (2 ^ q_n (D 170).1 9))), (3, .int (nI (i + 1)))]) hE dX11_spreads_35 rfl rfl (by decide) rfl ?_
          refine r_goto (tgt := 12) hE dX11_spreads_38 (by decide) ?_
          have e9 : (1000000 : Int32) = nI 1000000 := rfl
          rw [e9]
          refine ih (2 ^ q_n (D 170).1 9 - (i + 1)) (by omega) (i + 1) _ rfl (by omega) (y_fx_s fr (by decide)) (fun p hp => ?_)
          by_cases c : p = i
          · have h9 := q_mk (W := (y_si D8 187 i (nI 1000000) 187).1) (j := p) (B := 1000000) (a := 1000000) (by rw [y_si_1, if_pos c]) (by decide) (by decide)
            refine ⟨h9.1, ?_⟩
            rw [h9.2, c]
            first | rw [if_pos c24] | rw [if_neg c24]
          · exact ⟨q_ok_n c (inv p (by omega)).1, by rw [q_si_n c]; exact (inv p (by omega)).2⟩
        · refine r_iconst (v := 0) hE dX11_spreads_27 (by decide) ?_
          refine r_goto (tgt := 34) hE dX11_spreads_28 (by decide) ?_
          refine t_iastN (e := i) hE y_A_187 dX11_spreads_34 (hL 187 (by decide)) (by omega) (by decide) ?_
          refine r_iincN (a := i) (b := 1) (ls2 := [(0, .ref 169), (1, .int (nI f)), (2, .int (nI (2 ^ q_n (D 170).1 9))), (3, .int (nI (i + 1)))]) hE dX11_spreads_35 rfl rfl (by decide) rfl ?_
          refine r_goto (tgt := 12) hE dX11_spreads_38 (by decide) ?_
          have e9 : (0 : Int32) = nI 0 := rfl
          rw [e9]
          refine ih (2 ^ q_n (D 170).1 9 - (i + 1)) (by omega) (i + 1) _ rfl (by omega) (y_fx_s fr (by decide)) (fun p hp => ?_)
          by_cases c : p = i
          · have h9 := q_mk (W := (y_si D8 187 i (nI 0) 187).1) (j := p) (B := 1000000) (a := 0) (by rw [y_si_1, if_pos c]) (by decide) (by decide)
            refine ⟨h9.1, ?_⟩
            rw [h9.2, c]
            first | rw [if_pos c24] | rw [if_neg c24]
          · exact ⟨q_ok_n c (inv p (by omega)).1, by rw [q_si_n c]; exact (inv p (by omega)).2⟩
  refine r_iconst (v := 1) hE dX11_spreads_0 (by decide) ?_
  refine r_aload_n hE dX11_spreads_1 rfl ?_
  refine t_getr hE f_X11_13 y_R_169_1 dX11_spreads_2 (hL 169 (by decide)) ?_
  refine r_bipush (v := 9) hE dX11_spreads_5 (by decide) ?_
  refine t_ialdN (e := 9) hE y_A_170 dX11_spreads_7 (hL 170 (by decide)) (by omega) (by decide) ?_
  refine r_top (y := (nI (q_n (D 170).1 9))) hK.1.1 ?_
  refine r_shl1N (k := q_n (D 170).1 9) hE dX11_spreads_8 (by omega) ?_
  refine r_istore_n (ls2 := [(0, .ref 169), (1, .int (nI f)), (2, .int (nI (2 ^ (q_n (D 170).1 9))))]) hE dX11_spreads_9 (by decide) rfl ?_
  refine r_iconst (v := 0) hE dX11_spreads_10 (by decide) ?_
  refine r_istore_n (ls2 := [(0, .ref 169), (1, .int (nI f)), (2, .int (nI (2 ^ (q_n (D 170).1 9)))), (3, .int 0)]) hE dX11_spreads_11 (by decide) rfl ?_
  exact l1 0 _ (Nat.zero_le _) y_fx_r (fun p hp => absurd hp (by omega))
theorem c_leastTo {V : x_E} {n : Nat} {L : List Nat} {D : y_D} {f st : Nat} (hL : y_ok L) (hK : m_WK (D 170).1) (hst : st < 2 ^ q_n (D 170).1 9) (hf : ∀ s, s < 2 ^ q_n (D 170).1 9 → q_ok (D 187).1 s 1000000 ∧ r_L (fun x => ∃ j, r_fw (m_tn (D 170).1) (m_wt (D 170).1) (q_n (D 170).1 9) f j s x) (q_n (D 187).1 (s))) : y_Ri V yX11_leastTo cX11_leastTo 4 (some .int) 1 [.ref 169, .int (nI st)] n L D (fun v D2 => (∃ m, v = nI m ∧ r_L (r_to (m_tn (D 170).1) (m_wt (D 170).1) (q_n (D 170).1 9) st f) m) ∧ D2 = D) := by
  refine y_ri (by decide) (Nat.le_of_ble_eq_true rfl) (fun E hE => ?_)
  change E 0 0 0 [(0, .ref 169), (1, .int (nI st))] [] (y_mk n L D)
  have hk6 : q_n (D 170).1 9 ≤ 6 := hK.1.2
  have hp6 : 2 ^ q_n (D 170).1 9 ≤ 2 ^ 6 := Nat.pow_le_pow_right (by decide) hk6
  have hp7 : (2 : Nat) ^ 6 = 64 := rfl
  have hp8 : 1 ≤ 2 ^ q_n (D 170).1 9 := Nat.one_le_two_pow
  have lp : ∀ (s m : Nat), s ≤ 2 ^ q_n (D 170).1 9 → (m ≤ 1000000 ∧ (∀ z, z < s → z ||| st = z → m ≤ q_n (D 187).1 (z)) ∧ (m < 1000000 → ∃ z, z < s ∧ z ||| st = z ∧ q_n (D 187).1 (z) = m)) → E 0 0 6 [(0, .ref 169), (1, .int (nI st)), (2, .int (nI m)), (3, .int (nI s))] [] (y_mk n L D) := by
    intro s m
    induction hm9 : (2 ^ q_n (D 170).1 9 - s) using Nat.strongRecOn generalizing s m with
    | _ m9 ih =>
      intro hs hm
      subst hm9
      refine r_iload_n hE dX11_leastTo_6 rfl ?_
      refine r_iconst (v := 1) hE dX11_leastTo_7 (by decide) ?_
      refine r_aload_n hE dX11_leastTo_8 rfl ?_
      refine t_getr hE f_X11_13 y_R_169_1 dX11_leastTo_9 (hL 169 (by decide)) ?_
      refine r_bipush (v := 9) hE dX11_leastTo_12 (by decide) ?_
      refine t_ialdN (e := 9) hE y_A_170 dX11_leastTo_14 (hL 170 (by decide)) (by omega) (by decide) ?_
      refine r_top (y := (nI (q_n (D 170).1 9))) hK.1.1 ?_
      refine r_shl1N (k := q_n (D 170).1 9) hE dX11_leastTo_15 (by omega) ?_
      refine r_icmp_geN (a := s) (b := 2 ^ (q_n (D 170).1 9)) (tgt := 44) hE dX11_leastTo_16 (by decide) (by omega) (by omega) (fun c16 => ?_) (fun c16 => ?_)
      · refine r_iload_n hE dX11_leastTo_44 rfl ?_
        refine r_ireturn hE dX11_leastTo_45 rfl rfl (Nat.zero_le _) (Nat.zero_le _) ?_
        rw [show s = 2 ^ q_n (D 170).1 9 by omega] at hm
        refine ⟨_, _, rfl, rfl, ⟨m, rfl, hm.1, fun h => ?_, fun x hx ⟨z, z1, z2, z3⟩ => ?_⟩, rfl⟩
        · obtain ⟨z, z1, z2, z3⟩ := hm.2.2 h
          have := (hf z z1).2.2.1 (by omega)
          rw [z3] at this
          exact ⟨z, z1, z2, this⟩
        · have := (hf z z1).2.2.2 x hx z3
          have := hm.2.1 z z1 z2
          omega
      · refine r_iload_n hE dX11_leastTo_19 rfl ?_
        refine r_iload_n hE dX11_leastTo_20 rfl ?_
        refine r_iconst (v := (-1)) hE dX11_leastTo_21 (by decide) ?_
        refine r_ixor hE dX11_leastTo_22 ?_
        refine r_iand hE dX11_leastTo_23 ?_
        refine r_if_ne (tgt := 38) hE dX11_leastTo_24 (by decide) (fun c24 => ?_) (fun c24 => ?_)
        · refine r_iincN (a := s) (b := 1) (ls2 := [(0, .ref 169), (1, .int (nI st)), (2, .int (nI m)), (3, .int (nI (s + 1)))]) hE dX11_leastTo_38 rfl rfl (by decide) rfl ?_
          refine r_goto (tgt := 6) hE dX11_leastTo_41 (by decide) ?_
          refine ih (2 ^ q_n (D 170).1 9 - (s + 1)) (by omega) (s + 1) _ rfl (by omega) ⟨hm.1, fun z hz h => ?_, fun h => ?_⟩
          · by_cases c : z = s
            · subst c; exact absurd ((y_sub64 _ (by omega) _ (by omega)).mpr h) c24
            · exact hm.2.1 z (by omega) h
          · obtain ⟨z, z1, z2, z3⟩ := hm.2.2 h
            exact ⟨z, by omega, z2, z3⟩
        · refine r_iload_n hE dX11_leastTo_27 rfl ?_
          refine r_aload_n hE dX11_leastTo_28 rfl ?_
          refine t_getr hE f_X11_71 y_R_169_28 dX11_leastTo_29 (hL 169 (by decide)) ?_
          refine r_iload_n hE dX11_leastTo_32 rfl ?_
          refine t_ialdN (e := s) hE y_A_187 dX11_leastTo_33 (hL 187 (by decide)) (by omega) (by decide) ?_
          refine r_top (y := (nI (q_n (D 187).1 (s)))) (hf s (by omega)).1.1 ?_
          have ho1 : q_n (D 187).1 (s) ≤ 1000000 := (hf s (by omega)).1.2
          have ho2 := hm.1
          refine r_mmin hE m_X11_386 dX11_leastTo_34 (by decide) (Nat.le_of_ble_eq_true rfl) ⟨Nat.le_refl _, Nat.le_refl _⟩ ?_
          refine r_top (y := (nI (min m (q_n (D 187).1 (s))))) (y_minN (by omega) (by omega)) ?_
          refine r_istore_n (ls2 := [(0, .ref 169), (1, .int (nI st)), (2, .int (nI (min m (q_n (D 187).1 (s))))), (3, .int (nI s))]) hE dX11_leastTo_37 (by decide) rfl ?_
          refine r_iincN (a := s) (b := 1) (ls2 := [(0, .ref 169), (1, .int (nI st)), (2, .int (nI (min m (q_n (D 187).1 (s))))), (3, .int (nI (s + 1)))]) hE dX11_leastTo_38 rfl rfl (by decide) rfl ?_
          refine r_goto (tgt := 6) hE dX11_leastTo_41 (by decide) ?_
          have h8 := (y_sub64 _ (by omega) _ (by omega)).mp c24
          refine ih (2 ^ q_n (D 170).1 9 - (s + 1)) (by omega) (s + 1) _ rfl (by omega) ⟨by omega, fun z hz h => ?_, fun h => ?_⟩
          · by_cases c : z = s
            · rw [c]; omega
            · have := hm.2.1 z (by omega) h; omega
          · by_cases c : m ≤ q_n (D 187).1 (s)
            · rw [Nat.min_eq_left c] at h ⊢
              obtain ⟨z, z1, z2, z3⟩ := hm.2.2 h
              exact ⟨z, by omega, z2, z3⟩
            · rw [Nat.min_eq_right (by omega)]
              exact ⟨s, by omega, h8, rfl⟩
  refine r_ldcw (v := 1000000) hE dX11_leastTo_0 (x_gin (List.mem_append_right _ (tb_8 _ (List.mem_of_getElem? (i := 67) rfl))) rfl) ?_
  refine r_istore_n (ls2 := [(0, .ref 169), (1, .int (nI st)), (2, .int 1000000)]) hE dX11_leastTo_3 (by decide) rfl ?_
  refine r_iconst (v := 0) hE dX11_leastTo_4 (by decide) ?_
  refine r_istore_n (ls2 := [(0, .ref 169), (1, .int (nI st)), (2, .int 1000000), (3, .int 0)]) hE dX11_leastTo_5 (by decide) rfl ?_
  refine r_locs hE (ls2 := [(0, .ref 169), (1, .int (nI st)), (2, .int (nI 1000000)), (3, .int (nI 0))]) ?_ (lp 0 1000000 (Nat.zero_le _) ⟨by omega, fun z hz => absurd hz (by omega), fun h => absurd h (by omega)⟩)
  show ∀ q ∈ _, _
  rw [nI_0, show nI 1000000 = 1000000 from rfl]
  simp [x_lk]

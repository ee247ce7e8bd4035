/-! ===== ways through at most N places ===== -/
def g_P (B : Nat → Nat → Prop) (E : Nat → Nat → Nat → Nat → Prop) : Nat → Nat → Nat → Prop
  | 0, v, x => B v x
  | j + 1, v, x => g_P B E j v x ∨ ∃ u y, y ≤ x ∧ E u v y x ∧ g_P B E j u y
section R55
variable {B : Nat → Nat → Prop} {E : Nat → Nat → Nat → Nat → Prop}
theorem g_mono {j v x : Nat} : ∀ {d}, g_P B E j v x → g_P B E (j + d) v x
  | 0, h => h
  | d + 1, h => Or.inl (g_mono (d := d) h)
theorem g_up (hB : ∀ v x y, B v x → x ≤ y → B v y) (hE : ∀ u v a x y, E u v a x → x ≤ y → E u v a y) : ∀ {j v x y}, g_P B E j v x → x ≤ y → g_P B E j v y
  | 0, v, x, y, h, hxy => hB v x y h hxy
  | j + 1, v, x, y, h, hxy => by
    rcases h with h | ⟨u, a, h1, h2, h3⟩
    · exact Or.inl (g_up hB hE h hxy)
    · exact Or.inr ⟨u, a, by omega, hE u v a x y h2 hxy, h3⟩
theorem nd_len : ∀ (n : Nat) (l : List Nat), l.Nodup → (∀ q, q ∈ l → q < n) → l.length ≤ n
  | 0, l, _, h => by
    cases l with
    | nil => exact Nat.le_refl _
    | cons a r => exact absurd (h a List.mem_cons_self) (by omega)
  | n + 1, l, hl, h => by
    by_cases c : n ∈ l
    · have h1 := nd_len n (l.erase n) (hl.erase n) (fun q hq => by
        have := (List.Nodup.mem_erase_iff hl).mp hq
        have := h q this.2
        omega)
      rw [List.length_erase_of_mem c] at h1
      omega
    · have := nd_len n l hl (fun q hq => by
        have h1 := h q hq
        have : q ≠ n := fun e => c (by rw [← e]; exact hq)
        omega)
      omega
theorem g_chain (hB : ∀ v x y, B v x → x ≤ y → B v y) (hE : ∀ u v a x y, E u v a x → x ≤ y → E u v a y) {N : Nat} (hN : ∀ u v a x, E u v a x → u < N) : ∀ (j v x : Nat), v < N → g_P B E j v x → (∀ i, i < j → ¬ g_P B E i v x) → ∃ l : List Nat, l.Nodup ∧ l.length = j + 1 ∧ ∀ q, q ∈ l → q < N ∧ g_P B E j q x
  | 0, v, x, hv, h, _ => ⟨[v], by simp, rfl, fun q hq => by rw [List.mem_singleton.mp hq]; exact ⟨hv, h⟩⟩
  | j + 1, v, x, hv, h, hm => by
    rcases h with h | ⟨u, a, h1, h2, h3⟩
    · exact absurd h (hm j (by omega))
    · have hmu : ∀ i, i < j → ¬ g_P B E i u a := by
        intro i hi q
        exact hm (i + 1) (by omega) (Or.inr ⟨u, a, h1, h2, q⟩)
      obtain ⟨l, n1, n2, n3⟩ := g_chain hB hE hN j u a (hN u v a x h2) h3 hmu
      refine ⟨v :: l, List.nodup_cons.mpr ⟨fun q => hm j (by omega) (g_up hB hE (n3 v q).2 h1), n1⟩, by rw [List.length_cons, n2], fun q hq => ?_⟩
      rcases List.mem_cons.mp hq with e | e
      · rw [e]; exact ⟨hv, Or.inr ⟨u, a, h1, h2, h3⟩⟩
      · exact ⟨(n3 q e).1, Or.inl (g_up hB hE (n3 q e).2 h1)⟩
theorem g_short (hB : ∀ v x y, B v x → x ≤ y → B v y) (hE : ∀ u v a x y, E u v a x → x ≤ y → E u v a y) {N : Nat} (hN : ∀ u v a x, E u v a x → u < N + 1) {v x : Nat} (hv : v < N + 1) : ∀ j, g_P B E j v x → g_P B E N v x := by
  intro j
  induction j using Nat.strongRecOn with
  | _ j ih =>
    intro h
    by_cases c : j ≤ N
    · have := g_mono (d := N - j) h
      rw [show j + (N - j) = N by omega] at this
      exact this
    · by_cases q : ∃ i, i < j ∧ g_P B E i v x
      · obtain ⟨i, hi, hg⟩ := q
        exact ih i hi hg
      · obtain ⟨l, n1, n2, n3⟩ := g_chain hB hE hN j v x hv h (fun i hi z => q ⟨i, hi, z⟩)
        have := nd_len (N + 1) l n1 (fun q hq => (n3 q hq).1)
        omega
end R55
/-! ===== sets of PERSONS as numbers ===== -/
theorem nx_or (a b : Nat) : nI a ||| nI b = nI (a ||| b) := by
  apply Int32.toBitVec_inj.1
  show BitVec.ofNat 32 a ||| BitVec.ofNat 32 b = BitVec.ofNat 32 (a ||| b)
  apply BitVec.eq_of_getLsbD_eq
  intro i hi
  simp [hi]
theorem y_bit_tb {m c : Nat} (hc : c < 32) : y_bit (nI m) c ↔ m.testBit c = true := by
  rw [y_bit_bt hc]
  unfold bt
  show (BitVec.ofNat 32 m).getLsbD c = true ↔ _
  rw [BitVec.getLsbD_ofNat]
  simp [hc]
theorem tb_or {m q p : Nat} : (m ||| 2 ^ q).testBit p = true ↔ m.testBit p = true ∨ p = q := by
  rw [Nat.testBit_or, Nat.testBit_two_pow, Bool.or_eq_true, decide_eq_true_eq]
  exact or_congr_right eq_comm
/-- the number v has just the bits of P, below 8 -/
def y_s8 (v : Int32) (P : Nat → Prop) : Prop := ∃ m, m < 256 ∧ v = nI m ∧ ∀ p, p < 8 → (m.testBit p = true ↔ P p)
theorem y_s8_u {v w : Int32} {P Q : Nat → Prop} (a : y_s8 v P) (b : y_s8 w Q) (h : ∀ p, p < 8 → (P p ↔ Q p)) : v = w := by
  obtain ⟨m, m1, rfl, m3⟩ := a
  obtain ⟨k, k1, rfl, k3⟩ := b
  congr 1
  apply Nat.eq_of_testBit_eq
  intro i
  by_cases hi : i < 8
  · rw [Bool.eq_iff_iff, m3 i hi, k3 i hi, h i hi]
  · rw [Nat.testBit_lt_two_pow (Nat.lt_of_lt_of_le m1 (Nat.pow_le_pow_right (n := 2) (by decide) (show 8 ≤ i by omega))), Nat.testBit_lt_two_pow (Nat.lt_of_lt_of_le k1 (Nat.pow_le_pow_right (n := 2) (by decide) (show 8 ≤ i by omega)))]
theorem y_s8_imp {v : Int32} {P Q : Nat → Prop} (a : y_s8 v P) (h : ∀ p, p < 8 → (P p ↔ Q p)) : y_s8 v Q := by
  obtain ⟨m, m1, m2, m3⟩ := a
  exact ⟨m, m1, m2, fun p hp => (m3 p hp).trans (h p hp)⟩
theorem y_s8_z {P : Nat → Prop} (h : ∀ p, p < 8 → ¬ P p) : y_s8 0 P := ⟨0, by decide, rfl, fun p hp => by simp [h p hp]⟩
theorem y_s8_y {v : Int32} {P : Nat → Prop} {i : Nat} (hi : i < 8) (a : y_s8 v (fun p => p < i ∧ P p)) (h : P i) : y_s8 (v ||| nI (2 ^ i)) (fun p => p < i + 1 ∧ P p) := by
  obtain ⟨m, m1, rfl, m3⟩ := a
  refine ⟨m ||| 2 ^ i, Nat.or_lt_two_pow (n := 8) m1 (Nat.pow_lt_pow_right (by decide) hi), nx_or _ _, fun p hp => ?_⟩
  rw [tb_or, m3 p hp]
  refine ⟨fun q => q.elim (fun q => ⟨by omega, q.2⟩) (fun q => by rw [q]; exact ⟨by omega, h⟩), fun q => ?_⟩
  by_cases c : p = i
  · exact Or.inr c
  · exact Or.inl ⟨by omega, q.2⟩
theorem y_s8_n {v : Int32} {P : Nat → Prop} {i : Nat} (a : y_s8 v (fun p => p < i ∧ P p)) (h : ¬ P i) : y_s8 v (fun p => p < i + 1 ∧ P p) := y_s8_imp a (fun p hp => ⟨fun q => ⟨by omega, q.2⟩, fun q => ⟨by
  by_cases c : p = i
  · rw [c] at q; exact absurd q.2 h
  · omega, q.2⟩⟩)
theorem y_s8_bit {v : Int32} {P : Nat → Prop} (a : y_s8 v P) {p : Nat} (hp : p < 8) : y_bit v p ↔ P p := by
  obtain ⟨m, m1, rfl, m3⟩ := a
  rw [y_bit_tb (by omega), m3 p hp]
theorem y_s8_b0 {v : Int32} {P : Nat → Prop} (a : y_s8 v P) : v &&& 1 = 1 ↔ P 0 := by
  rw [← y_s8_bit a (by decide)]
  have : v >>> (nI 0 &&& 31) = v := by
    apply b_ext
    intro i hi
    rw [b_sshr 0 (by decide) v hi, if_pos (by omega), Nat.zero_add]
  show _ ↔ (v >>> (nI 0 &&& 31)) &&& 1 = 1
  rw [this]
/-! ===== words and days ===== -/
/-- who is told by whom, when, can know by a day: bg those who knew, ok the tellings that count -/
abbrev kn (fr to dy : Nat → Nat) (nt : Nat) (ok : Nat → Prop) (bg : Nat → Prop) : Nat → Nat → Nat → Prop := g_P (fun p _ => bg p) (fun u v y _ => ∃ k, k < nt ∧ ok k ∧ fr k = u ∧ to k = v ∧ dy k = y)
section R55b
variable {fr to dy : Nat → Nat} {nt : Nat} {ok bg : Nat → Prop}
theorem kn_up {j p x y : Nat} (h : kn fr to dy nt ok bg j p x) (hxy : x ≤ y) : kn fr to dy nt ok bg j p y := g_up (fun _ _ _ h _ => h) (fun _ _ _ _ _ h _ => h) h hxy
theorem kn_7 (hf : ∀ k, k < nt → fr k < 8) {j p x : Nat} (hp : p < 8) (h : kn fr to dy nt ok bg j p x) : kn fr to dy nt ok bg 7 p x := g_short (fun _ _ _ h _ => h) (fun _ _ _ _ _ h _ => h) (N := 7) (fun u v a x ⟨k, h1, _, h3, _⟩ => by rw [← h3]; exact hf k h1) hp j h
end R55b
theorem c_knowing {V : x_E} {n : Nat} {L : List Nat} {D : y_D} {nt b0 d : Nat} {wo : Int32} (hL : y_ok L) (hn : (D 170).1 8 = nI nt) (hnt : nt ≤ 20) (htl : ∀ k, k < nt → q_ok (D 170).1 (153 + 3 * k) 7 ∧ q_ok (D 170).1 (153 + 3 * k + 1) 7 ∧ q_ok (D 170).1 (153 + 3 * k + 2) 365) (hb0 : b0 < 256) (hd : d ≤ 365) : y_Ri V yX11_knowing cX11_knowing 9 (some .int) 1 [.ref 169, .int (nI b0), .int (nI d), .int wo] n L D (fun v D2 => y_s8 v (fun p => kn (fun k => q_n (D 170).1 (153 + 3 * k)) (fun k => q_n (D 170).1 (153 + 3 * k + 1)) (fun k => q_n (D 170).1 (153 + 3 * k + 2)) nt (fun k => (D 170).1 (153 + 3 * k) ≠ wo) (fun p => b0.testBit p = true) 7 p d) ∧ D2 = D) := by
  refine y_ri (by decide) (Nat.le_of_ble_eq_true rfl) (fun E hE => ?_)
  change E 0 0 0 [(0, .ref 169), (1, .int (nI b0)), (2, .int (nI d)), (3, .int wo)] [] (y_mk n L D)
  have hfr : ∀ k, k < nt → q_n (D 170).1 (153 + 3 * k) < 8 := fun k hk => Nat.lt_succ_of_le (htl k hk).1.2
  have l1 : ∀ (x m : Nat), x ≤ d + 1 → m < 256 → (∀ p, p < 8 → m.testBit p = true → ((∃ y, y < x ∧ kn (fun k => q_n (D 170).1 (153 + 3 * k)) (fun k => q_n (D 170).1 (153 + 3 * k + 1)) (fun k => q_n (D 170).1 (153 + 3 * k + 2)) nt (fun k => (D 170).1 (153 + 3 * k) ≠ wo) (fun p => b0.testBit p = true) 7 p y) ∨ (fun p => b0.testBit p = true) p)) → ((∀ p, p < 8 → ∀ y, y < x → kn (fun k => q_n (D 170).1 (153 + 3 * k)) (fun k => q_n (D 170).1 (153 + 3 * k + 1)) (fun k => q_n (D 170).1 (153 + 3 * k + 2)) nt (fun k => (D 170).1 (153 + 3 * k) ≠ wo) (fun p => b0.testBit p = true) 7 p y → m.testBit p = true) ∧ ∀ p, p < 8 → (fun p => b0.testBit p = true) p → m.testBit p = true) → E 0 0 6 [(0, .ref 169), (1, .int (nI b0)), (2, .int (nI d)), (3, .int wo), (4, .int (nI m)), (5, .int (nI x))] [] (y_mk n L D) := by
    intro x m
    induction hm9 : (d + 1 - x) using Nat.strongRecOn generalizing x m with
    | _ m9 ih =>
      intro hx hm8 sh ch
      subst hm9
      refine r_iload hE dX11_knowing_6 rfl ?_
      refine r_iload_n hE dX11_knowing_8 rfl ?_
      refine r_icmp_gtN (a := x) (b := d) (tgt := 122) hE dX11_knowing_9 (by decide) (by omega) (by omega) (fun c9 => ?_) (fun c9 => ?_)
      · refine r_iload hE dX11_knowing_122 rfl ?_
        refine r_ireturn hE dX11_knowing_124 rfl rfl (Nat.zero_le _) (Nat.zero_le _) ?_
        refine ⟨_, _, rfl, rfl, ⟨m, hm8, rfl, fun p hp => ⟨fun h => ?_, fun h => ch.1 p hp d (by omega) h⟩⟩, rfl⟩
        rcases sh p hp h with ⟨y, hy, q⟩ | q
        · exact kn_up q (by omega)
        · exact g_mono (j := 0) (d := 7) q
      · refine r_iconst (v := 0) hE dX11_knowing_12 (by decide) ?_
        refine r_istore (ls2 := [(0, .ref 169), (1, .int (nI b0)), (2, .int (nI d)), (3, .int wo), (4, .int (nI m)), (5, .int (nI x)), (6, .int 0)]) hE dX11_knowing_13 (by decide) rfl ?_
        have ihx := ih
        have l2 : ∀ (r m : Nat), r ≤ 8 → m < 256 → (∀ p, p < 8 → m.testBit p = true → kn (fun k => q_n (D 170).1 (153 + 3 * k)) (fun k => q_n (D 170).1 (153 + 3 * k + 1)) (fun k => q_n (D 170).1 (153 + 3 * k + 2)) nt (fun k => (D 170).1 (153 + 3 * k) ≠ wo) (fun p => b0.testBit p = true) 7 p x) → ((∀ p, p < 8 → ∀ y, y < x → kn (fun k => q_n (D 170).1 (153 + 3 * k)) (fun k => q_n (D 170).1 (153 + 3 * k + 1)) (fun k => q_n (D 170).1 (153 + 3 * k + 2)) nt (fun k => (D 170).1 (153 + 3 * k) ≠ wo) (fun p => b0.testBit p = true) 7 p y → m.testBit p = true) ∧ ∀ p, p < 8 → (fun p => b0.testBit p = true) p → m.testBit p = true) → (∀ p, p < 8 → kn (fun k => q_n (D 170).1 (153 + 3 * k)) (fun k => q_n (D 170).1 (153 + 3 * k + 1)) (fun k => q_n (D 170).1 (153 + 3 * k + 2)) nt (fun k => (D 170).1 (153 + 3 * k) ≠ wo) (fun p => b0.testBit p = true) r p x → m.testBit p = true) → E 0 0 15 [(0, .ref 169), (1, .int (nI b0)), (2, .int (nI d)), (3, .int wo), (4, .int (nI m)), (5, .int (nI x)), (6, .int (nI r))] [] (y_mk n L D) := by
          intro r m
          induction hm9 : (8 - r) using Nat.strongRecOn generalizing r m with
          | _ m9 ih =>
            intro hr hm8 sd ch cr
            subst hm9
            refine r_iload hE dX11_knowing_15 rfl ?_
            refine r_bipush (v := 8) hE dX11_knowing_17 (by decide) ?_
            refine r_icmp_geN (a := r) (b := 8) (tgt := 116) hE dX11_knowing_19 (by decide) (by omega) (by decide) (fun c19 => ?_) (fun c19 => ?_)
            · refine r_iincN (a := x) (b := 1) (ls2 := [(0, .ref 169), (1, .int (nI b0)), (2, .int (nI d)), (3, .int wo), (4, .int (nI m)), (5, .int (nI (x + 1))), (6, .int (nI r))]) hE dX11_knowing_116 rfl rfl (by decide) rfl ?_
              refine r_goto (tgt := 6) hE dX11_knowing_119 (by decide) ?_
              refine r_locs hE (ls2 := [(0, .ref 169), (1, .int (nI b0)), (2, .int (nI d)), (3, .int wo), (4, .int (nI m)), (5, .int (nI (x + 1)))]) ?_ (ihx (d + 1 - (x + 1)) (by omega) (x + 1) _ rfl (by omega) hm8 (fun p hp h => Or.inl ⟨x, by omega, sd p hp h⟩) ⟨fun p hp y hy h => ?_, ch.2⟩)
              · simp [x_lk]
              · by_cases c : y = x
                · subst c
                  rw [show r = 8 by omega] at cr
                  exact cr p hp (Or.inl h)
                · exact ch.1 p hp y (by omega) h
            · refine r_iconst (v := 0) hE dX11_knowing_22 (by decide) ?_
              refine r_istore (ls2 := [(0, .ref 169), (1, .int (nI b0)), (2, .int (nI d)), (3, .int wo), (4, .int (nI m)), (5, .int (nI x)), (6, .int (nI r)), (7, .int 0)]) hE dX11_knowing_23 (by decide) rfl ?_
              have ihr := ih
              obtain ⟨m0, hm0⟩ : ∃ z, z = m := ⟨_, rfl⟩
              rw [← hm0] at ch cr
              have l3 : ∀ (k m : Nat), k ≤ nt → m < 256 → (∀ p, p < 8 → m.testBit p = true → kn (fun k => q_n (D 170).1 (153 + 3 * k)) (fun k => q_n (D 170).1 (153 + 3 * k + 1)) (fun k => q_n (D 170).1 (153 + 3 * k + 2)) nt (fun k => (D 170).1 (153 + 3 * k) ≠ wo) (fun p => b0.testBit p = true) 7 p x) → (∀ p, p < 8 → m0.testBit p = true → m.testBit p = true) → (∀ j, j < k → (fun k => (D 170).1 (153 + 3 * k) ≠ wo) j → q_n (D 170).1 (153 + 3 * j + 2) = x → m0.testBit (q_n (D 170).1 (153 + 3 * j)) = true → m.testBit (q_n (D 170).1 (153 + 3 * j + 1)) = true) → E 0 0 25 [(0, .ref 169), (1, .int (nI b0)), (2, .int (nI d)), (3, .int wo), (4, .int (nI m)), (5, .int (nI x)), (6, .int (nI r)), (7, .int (nI k))] [] (y_mk n L D) := by
                intro k m
                induction hm9 : (nt - k) using Nat.strongRecOn generalizing k m with
                | _ m9 ih =>
                  intro hk hm8 sd mm mk
                  subst hm9
                  refine r_iload hE dX11_knowing_25 rfl ?_
                  refine r_aload_n hE dX11_knowing_27 rfl ?_
                  refine t_getr hE f_X11_13 y_R_169_1 dX11_knowing_28 (hL 169 (by decide)) ?_
                  refine r_bipush (v := 8) hE dX11_knowing_31 (by decide) ?_
                  refine t_ialdN (e := 8) hE y_A_170 dX11_knowing_33 (hL 170 (by decide)) (by omega) (by decide) ?_
                  refine r_top (y := (nI nt)) hn ?_
                  refine r_icmp_geN (a := k) (b := nt) (tgt := 110) hE dX11_knowing_34 (by decide) (by omega) (by omega) (fun c34 => ?_) (fun c34 => ?_)
                  · refine r_iincN (a := r) (b := 1) (ls2 := [(0, .ref 169), (1, .int (nI b0)), (2, .int (nI d)), (3, .int wo), (4, .int (nI m)), (5, .int (nI x)), (6, .int (nI (r + 1))), (7, .int (nI k))]) hE dX11_knowing_110 rfl rfl (by decide) rfl ?_
                    refine r_goto (tgt := 15) hE dX11_knowing_113 (by decide) ?_
                    refine r_locs hE (ls2 := [(0, .ref 169), (1, .int (nI b0)), (2, .int (nI d)), (3, .int wo), (4, .int (nI m)), (5, .int (nI x)), (6, .int (nI (r + 1)))]) ?_ (ihr (8 - (r + 1)) (by omega) (r + 1) _ rfl (by omega) hm8 sd ⟨fun p hp y hy h => mm p hp (ch.1 p hp y hy h), fun p hp h => mm p hp (ch.2 p hp h)⟩ (fun p hp h => ?_))
                    · simp [x_lk]
                    · rcases h with h | ⟨u, y, h1, ⟨j, j1, j2, j3, j4, j5⟩, h3⟩
                      · exact mm p hp (cr p hp h)
                      · dsimp only at j3 j4 j5
                        by_cases c : y = x
                        · subst c
                          have := mk j (by omega) j2 j5 (cr _ (by have := hfr j j1; omega) (by rw [j3]; exact h3))
                          rw [j4] at this
                          exact this
                        · exact mm p hp (ch.1 p hp y (by omega) (kn_7 hfr hp (j := r + 1) (Or.inr ⟨u, y, Nat.le_refl _, ⟨j, j1, j2, j3, j4, j5⟩, h3⟩)))
                  · refine r_sipush (v := 153) hE dX11_knowing_37 (by decide) ?_
                    refine r_iconst (v := 3) hE dX11_knowing_40 (by decide) ?_
                    refine r_iload hE dX11_knowing_41 rfl ?_
                    refine r_imulN (a := 3) (b := k) hE dX11_knowing_43 ?_
                    refine r_iaddN (a := 153) (b := 3 * k) hE dX11_knowing_44 ?_
                    refine r_istore (ls2 := [(0, .ref 169), (1, .int (nI b0)), (2, .int (nI d)), (3, .int wo), (4, .int (nI m)), (5, .int (nI x)), (6, .int (nI r)), (7, .int (nI k)), (8, .int (nI (153 + (3 * k))))]) hE dX11_knowing_45 (by decide) rfl ?_
                    have hy9 : q_n (D 170).1 (153 + 3 * k + 2) ≤ 365 := (htl k (by omega)).2.2.2
                    have hf9 : q_n (D 170).1 (153 + 3 * k) ≤ 7 := (htl k (by omega)).1.2
                    have ht9 : q_n (D 170).1 (153 + 3 * k + 1) ≤ 7 := (htl k (by omega)).2.1.2
                    refine r_aload_n hE dX11_knowing_47 rfl ?_
                    refine t_getr hE f_X11_13 y_R_169_1 dX11_knowing_48 (hL 169 (by decide)) ?_
                    refine r_iload hE dX11_knowing_51 rfl ?_
                    refine r_iconst (v := 2) hE dX11_knowing_53 (by decide) ?_
                    refine r_iaddN (a := 153 + (3 * k)) (b := 2) hE dX11_knowing_54 ?_
                    refine t_ialdN (e := (153 + (3 * k)) + 2) hE y_A_170 dX11_knowing_55 (hL 170 (by decide)) (by omega) (by decide) ?_
                    refine r_top (y := (nI (q_n (D 170).1 (153 + 3 * k + 2)))) (htl k (by omega)).2.2.1 ?_
                    refine r_iload hE dX11_knowing_56 rfl ?_
                    refine r_icmp_neN (a := q_n (D 170).1 (153 + 3 * k + 2)) (b := x) (tgt := 104) hE dX11_knowing_58 (by decide) (by omega) (by omega) (fun c58 => ?_) (fun c58 => ?_)
                    · refine r_iincN (a := k) (b := 1) (ls2 := [(0, .ref 169), (1, .int (nI b0)), (2, .int (nI d)), (3, .int wo), (4, .int (nI m)), (5, .int (nI x)), (6, .int (nI r)), (7, .int (nI (k + 1))), (8, .int (nI (153 + (3 * k))))]) hE dX11_knowing_104 rfl rfl (by decide) rfl ?_
                      refine r_goto (tgt := 25) hE dX11_knowing_107 (by decide) ?_
                      refine r_locs hE (ls2 := [(0, .ref 169), (1, .int (nI b0)), (2, .int (nI d)), (3, .int wo), (4, .int (nI m)), (5, .int (nI x)), (6, .int (nI r)), (7, .int (nI (k + 1)))]) ?_ (ih (nt - (k + 1)) (by omega) (k + 1) _ rfl (by omega) hm8 sd mm (fun j hj h1 h2 h3 => ?_))
                      · simp [x_lk]
                      · by_cases c : j = k
                        · subst c
                          first
                          | exact absurd h2 c58
                          | exact absurd c69 h1
                          | exact absurd ((y_bit_tb (by omega)).mpr (mm _ (by omega) h3)) c85
                        · exact mk j (by omega) h1 h2 h3
                    · refine r_aload_n hE dX11_knowing_61 rfl ?_
                      refine t_getr hE f_X11_13 y_R_169_1 dX11_knowing_62 (hL 169 (by decide)) ?_
                      refine r_iload hE dX11_knowing_65 rfl ?_
                      refine t_ialdN (e := 153 + (3 * k)) hE y_A_170 dX11_knowing_67 (hL 170 (by decide)) (by omega) (by decide) ?_
                      refine r_iload_n hE dX11_knowing_68 rfl ?_
                      refine r_icmp_eq (tgt := 104) hE dX11_knowing_69 (by decide) (fun c69 => ?_) (fun c69 => ?_)
                      · refine r_iincN (a := k) (b := 1) (ls2 := [(0, .ref 169), (1, .int (nI b0)), (2, .int (nI d)), (3, .int wo), (4, .int (nI m)), (5, .int (nI x)), (6, .int (nI r)), (7, .int (nI (k + 1))), (8, .int (nI (153 + (3 * k))))]) hE dX11_knowing_104 rfl rfl (by decide) rfl ?_
                        refine r_goto (tgt := 25) hE dX11_knowing_107 (by decide) ?_
                        refine r_locs hE (ls2 := [(0, .ref 169), (1, .int (nI b0)), (2, .int (nI d)), (3, .int wo), (4, .int (nI m)), (5, .int (nI x)), (6, .int (nI r)), (7, .int (nI (k + 1)))]) ?_ (ih (nt - (k + 1)) (by omega) (k + 1) _ rfl (by omega) hm8 sd mm (fun j hj h1 h2 h3 => ?_))
                        · simp [x_lk]
                        · by_cases c : j = k
                          · subst c
                            first
                            | exact absurd h2 c58
                            | exact absurd c69 h1
                            | exact absurd ((y_bit_tb (by omega)).mpr (mm _ (by omega) h3)) c85
                          · exact mk j (by omega) h1 h2 h3
                      · refine r_iload hE dX11_knowing_72 rfl ?_
                        refine r_aload_n hE dX11_knowing_74 rfl ?_
                        refine t_getr hE f_X11_13 y_R_169_1 dX11_knowing_75 (hL 169 (by decide)) ?_
                        refine r_iload hE dX11_knowing_78 rfl ?_
                        refine t_ialdN (e := 153 + (3 * k)) hE y_A_170 dX11_knowing_80 (hL 170 (by decide)) (by omega) (by decide) ?_
                        refine r_top (y := (nI (q_n (D 170).1 (153 + 3 * k)))) (htl k (by omega)).1.1 ?_
                        refine r_ishr hE dX11_knowing_81 ?_
                        refine r_iconst (v := 1) hE dX11_knowing_82 (by decide) ?_
                        refine r_iand hE dX11_knowing_83 ?_
                        refine r_iconst (v := 1) hE dX11_knowing_84 (by decide) ?_
                        refine r_icmp_ne (tgt := 104) hE dX11_knowing_85 (by decide) (fun c85 => ?_) (fun c85 => ?_)
                        · refine r_iincN (a := k) (b := 1) (ls2 := [(0, .ref 169), (1, .int (nI b0)), (2, .int (nI d)), (3, .int wo), (4, .int (nI m)), (5, .int (nI x)), (6, .int (nI r)), (7, .int (nI (k + 1))), (8, .int (nI (153 + (3 * k))))]) hE dX11_knowing_104 rfl rfl (by decide) rfl ?_
                          refine r_goto (tgt := 25) hE dX11_knowing_107 (by decide) ?_
                          refine r_locs hE (ls2 := [(0, .ref 169), (1, .int (nI b0)), (2, .int (nI d)), (3, .int wo), (4, .int (nI m)), (5, .int (nI x)), (6, .int (nI r)), (7, .int (nI (k + 1)))]) ?_ (ih (nt - (k + 1)) (by omega) (k + 1) _ rfl (by omega) hm8 sd mm (fun j hj h1 h2 h3 => ?_))
                          · simp [x_lk]
                          · by_cases c : j = k
                            · subst c
                              first
                              | exact absurd h2 c58
                              | exact absurd c69 h1
                              | exact absurd ((y_bit_tb (by omega)).mpr (mm _ (by omega) h3)) c85
                            · exact mk j (by omega) h1 h2 h3
                        · refine r_iload hE dX11_knowing_88 rfl ?_
                          refine r_iconst (v := 1) hE dX11_knowing_90 (by decide) ?_
                          refine r_aload_n hE dX11_knowing_91 rfl ?_
                          refine t_getr hE f_X11_13 y_R_169_1 dX11_knowing_92 (hL 169 (by decide)) ?_
                          refine r_iload hE dX11_knowing_95 rfl ?_
                          refine r_iconst (v := 1) hE dX11_knowing_97 (by decide) ?_
                          refine r_iaddN (a := 153 + (3 * k)) (b := 1) hE dX11_knowing_98 ?_
                          refine t_ialdN (e := (153 + (3 * k)) + 1) hE y_A_170 dX11_knowing_99 (hL 170 (by decide)) (by omega) (by decide) ?_
                          refine r_top (y := (nI (q_n (D 170).1 (153 + 3 * k + 1)))) (htl k (by omega)).2.1.1 ?_
                          refine r_shl1N (k := q_n (D 170).1 (153 + 3 * k + 1)) hE dX11_knowing_100 (by omega) ?_
                          refine r_ior hE dX11_knowing_101 ?_
                          refine r_top (y := (nI (m ||| 2 ^ (q_n (D 170).1 (153 + 3 * k + 1))))) (nx_or _ _) ?_
                          refine r_istore (ls2 := [(0, .ref 169), (1, .int (nI b0)), (2, .int (nI d)), (3, .int wo), (4, .int (nI (m ||| 2 ^ (q_n (D 170).1 (153 + 3 * k + 1))))), (5, .int (nI x)), (6, .int (nI r)), (7, .int (nI k)), (8, .int (nI (153 + (3 * k))))]) hE dX11_knowing_102 (by decide) rfl ?_
                          refine r_iincN (a := k) (b := 1) (ls2 := [(0, .ref 169), (1, .int (nI b0)), (2, .int (nI d)), (3, .int wo), (4, .int (nI (m ||| 2 ^ (q_n (D 170).1 (153 + 3 * k + 1))))), (5, .int (nI x)), (6, .int (nI r)), (7, .int (nI (k + 1))), (8, .int (nI (153 + (3 * k))))]) hE dX11_knowing_104 rfl rfl (by decide) rfl ?_
                          refine r_goto (tgt := 25) hE dX11_knowing_107 (by decide) ?_
                          have hkn : kn (fun k => q_n (D 170).1 (153 + 3 * k)) (fun k => q_n (D 170).1 (153 + 3 * k + 1)) (fun k => q_n (D 170).1 (153 + 3 * k + 2)) nt (fun k => (D 170).1 (153 + 3 * k) ≠ wo) (fun p => b0.testBit p = true) 7 (q_n (D 170).1 (153 + 3 * k + 1)) x := kn_7 hfr (by omega) (j := 8) (Or.inr ⟨q_n (D 170).1 (153 + 3 * k), x, Nat.le_refl _, ⟨k, by omega, c69, rfl, rfl, c58⟩, sd _ (by omega) ((y_bit_tb (by omega)).mp c85)⟩)
                          refine r_locs hE (ls2 := [(0, .ref 169), (1, .int (nI b0)), (2, .int (nI d)), (3, .int wo), (4, .int (nI (m ||| 2 ^ (q_n (D 170).1 (153 + 3 * k + 1))))), (5, .int (nI x)), (6, .int (nI r)), (7, .int (nI (k + 1)))]) ?_ (ih (nt - (k + 1)) (by omega) (k + 1) _ rfl (by omega) (Nat.or_lt_two_pow (n := 8) hm8 (Nat.pow_lt_pow_right (by decide) (by omega))) (fun p hp h => ?_) (fun p hp h => tb_or.mpr (Or.inl (mm p hp h))) (fun j hj h1 h2 h3 => ?_))
                          · simp [x_lk]
                          · rcases tb_or.mp h with q | q
                            · exact sd p hp q
                            · rw [q]; exact hkn
                          · by_cases c : j = k
                            · rw [c]; exact tb_or.mpr (Or.inr rfl)
                            · exact tb_or.mpr (Or.inl (mk j (by omega) h1 h2 h3))
              exact l3 0 m (by omega) hm8 sd (fun p hp h => by rw [← hm0]; exact h) (fun j hj => absurd hj (by omega))
        refine l2 0 m (by omega) hm8 (fun p hp h => ?_) ch (fun p hp h => ch.2 p hp h)
        rcases sh p hp h with ⟨y, hy, q⟩ | q
        · exact kn_up q (by omega)
        · exact g_mono (j := 0) (d := 7) q
  refine r_iload_n hE dX11_knowing_0 rfl ?_
  refine r_istore (ls2 := [(0, .ref 169), (1, .int (nI b0)), (2, .int (nI d)), (3, .int wo), (4, .int (nI b0))]) hE dX11_knowing_1 (by decide) rfl ?_
  refine r_iconst (v := 0) hE dX11_knowing_3 (by decide) ?_
  refine r_istore (ls2 := [(0, .ref 169), (1, .int (nI b0)), (2, .int (nI d)), (3, .int wo), (4, .int (nI b0)), (5, .int 0)]) hE dX11_knowing_4 (by decide) rfl ?_
  exact l1 0 b0 (by omega) hb0 (fun p hp h => Or.inr h) ⟨fun p hp y hy => absurd hy (by omega), fun p hp h => h⟩

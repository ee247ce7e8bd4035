/-! the class's scanner -/
/-- sz tokens are there: A their kinds, B their begins, C their numbers -/
def k_SK (D : y_D) (sz : Nat) (A B C : Nat → Int32) : y_D := y_si (y_sw (y_sw (y_sw D 68 A) 69 B) 70 C) 67 3 (nI sz)
section R81
variable {D : y_D} {sz k : Nat} {A B C : Nat → Int32} {v : Int32}
theorem k_SK_n {q : Nat} : y_si (k_SK D sz A B C) 67 3 (nI q) = k_SK D q A B C := by
  funext j
  by_cases c : j = 67
  · subst c
    unfold k_SK
    rw [y_si_s, y_si_s, y_si_s, y_updd]
  · unfold k_SK
    rw [y_si_ne c, y_si_ne c, y_si_ne c]
theorem k_SK_68 : y_si (k_SK D sz A B C) 68 k v = k_SK D sz (upd A k v) B C := by
  funext j
  by_cases c : j = 68
  · subst c; rfl
  · rw [y_si_ne c]
    unfold k_SK
    by_cases c2 : j = 67
    · subst c2; rfl
    · simp [y_si, y_sw, c, c2]
theorem k_SK_69 : y_si (k_SK D sz A B C) 69 k v = k_SK D sz A (upd B k v) C := by
  funext j
  by_cases c : j = 69
  · subst c; rfl
  · rw [y_si_ne c]
    unfold k_SK
    by_cases c2 : j = 67
    · subst c2; rfl
    · simp [y_si, y_sw, c, c2]
theorem k_SK_70 : y_si (k_SK D sz A B C) 70 k v = k_SK D sz A B (upd C k v) := by
  funext j
  by_cases c : j = 70
  · subst c; rfl
  · rw [y_si_ne c]
    unfold k_SK
    by_cases c2 : j = 67
    · subst c2; rfl
    · simp [y_si, y_sw, c, c2]
theorem k_SK_self : y_si D 67 3 0 = k_SK D 0 (D 68).1 (D 69).1 (D 70).1 := by
  unfold k_SK
  rw [show y_sw D 68 (D 68).1 = D from y_sw_self, show y_sw D 69 (D 69).1 = D from y_sw_self, show y_sw D 70 (D 70).1 = D from y_sw_self]
  rfl
end R81
abbrev k_T : Type := Nat × (Nat → Int32) × (Nat → Int32) × (Nat → Int32)
def k_pt (t b c : Int32) (q : k_T) : k_T := (q.1 + 1, upd q.2.1 q.1 t, upd q.2.2.1 q.1 b, upd q.2.2.2 q.1 c)
def k_sc (T : Nat → Int32) (e : Nat) : Nat → Nat → k_T → k_T
  | 0, _, q => q
  | f + 1, p, q => if p < e then
      (if 97 ≤ T p ∧ T p ≤ 122 then k_sc T e f (l_to T e 97 122 (p + 1)) (k_pt (nI (k_word T p (l_to T e 97 122 (p + 1)))) (nI p) 0 q)
       else if 48 ≤ T p ∧ T p ≤ 57 then k_sc T e f (l_to T e 48 57 (p + 1)) (k_pt 2 (nI p) (nI (k_num T p (l_to T e 48 57 (p + 1)))) q)
       else if T p = 32 then k_sc T e f (p + 1) q
       else k_sc T e f (p + 1) (k_pt (k_sign (T p)) (nI p) 0 q))
    else q
theorem k_sc_e {T : Nat → Int32} {e f p : Nat} {q : k_T} (hf : 0 < f) : k_sc T e f p q = if p < e then
      (if 97 ≤ T p ∧ T p ≤ 122 then k_sc T e (f - 1) (l_to T e 97 122 (p + 1)) (k_pt (nI (k_word T p (l_to T e 97 122 (p + 1)))) (nI p) 0 q)
       else if 48 ≤ T p ∧ T p ≤ 57 then k_sc T e (f - 1) (l_to T e 48 57 (p + 1)) (k_pt 2 (nI p) (nI (k_num T p (l_to T e 48 57 (p + 1)))) q)
       else if T p = 32 then k_sc T e (f - 1) (p + 1) q
       else k_sc T e (f - 1) (p + 1) (k_pt (k_sign (T p)) (nI p) 0 q))
    else q := by
  rcases f with _ | f
  · omega
  · rfl
/-- the tokens of a text -/
def k_scan (T : Nat → Int32) (e : Nat) (q : k_T) : k_T := k_pt 0 (nI e) 0 (k_sc T e 401 0 q)
def k_SKK (D : y_D) (q : k_T) : y_D := k_SK D q.1 q.2.1 q.2.2.1 q.2.2.2
theorem y_len401 : (401 : Nat) < 2 ^ 31 := by decide
theorem k_putT {V : x_E} {n : Nat} {L : List Nat} {D : y_D} {sz : Nat} {A B C : Nat → Int32} {t b c : Int32} (hL : y_ok L) (hs : sz < 401) : x_Fn V yX5_put cX5_put 4 none 0 [.ref 67, .int t, .int b, .int c] (y_mk n L (k_SK D sz A B C)) none (y_mk n L (k_SK D (sz + 1) (upd A sz t) (upd B sz b) (upd C sz c))) := by
  refine x_fn (by decide) (Nat.le_of_ble_eq_true rfl) (fun E hE => ?_)
  change E 0 0 0 [(0, .ref 67), (1, .int t), (2, .int b), (3, .int c)] [] (y_mk n L (k_SK D sz A B C))
  refine r_aload_n hE dX5_put_0 rfl ?_
  refine t_geti hE f_X5_21 y_I_67_3 dX5_put_1 (hL 67 (by decide)) ?_
  refine r_top (y := (nI sz)) rfl ?_
  refine r_aload_n hE dX5_put_4 rfl ?_
  refine t_getr hE f_X5_9 y_R_67_0 dX5_put_5 (hL 67 (by decide)) ?_
  refine t_alen (v := nI 401) hE y_A_68 (by decide) dX5_put_8 (hL 68 (by decide)) rfl ?_
  refine r_icmp_geN (a := sz) (b := 401) (tgt := 52) hE dX5_put_9 (by decide) (by omega) (by decide) (fun c9 => ?_) (fun c9 => ?_)
  · refine r_return hE dX5_put_52 rfl (Nat.zero_le _) (Nat.zero_le _) ?_
    exact absurd hs (by omega)
  · refine r_aload_n hE dX5_put_12 rfl ?_
    refine t_getr hE f_X5_9 y_R_67_0 dX5_put_13 (hL 67 (by decide)) ?_
    refine r_aload_n hE dX5_put_16 rfl ?_
    refine t_geti hE f_X5_21 y_I_67_3 dX5_put_17 (hL 67 (by decide)) ?_
    refine r_top (y := (nI sz)) rfl ?_
    refine r_iload_n hE dX5_put_20 rfl ?_
    refine t_iastN (e := sz) hE y_A_68 dX5_put_21 (hL 68 (by decide)) (by omega) (by decide) ?_
    rw [k_SK_68]
    refine r_aload_n hE dX5_put_22 rfl ?_
    refine t_getr hE f_X5_15 y_R_67_1 dX5_put_23 (hL 67 (by decide)) ?_
    refine r_aload_n hE dX5_put_26 rfl ?_
    refine t_geti hE f_X5_21 y_I_67_3 dX5_put_27 (hL 67 (by decide)) ?_
    refine r_top (y := (nI sz)) rfl ?_
    refine r_iload_n hE dX5_put_30 rfl ?_
    refine t_iastN (e := sz) hE y_A_69 dX5_put_31 (hL 69 (by decide)) (by omega) (by decide) ?_
    rw [k_SK_69]
    refine r_aload_n hE dX5_put_32 rfl ?_
    refine t_getr hE f_X5_18 y_R_67_2 dX5_put_33 (hL 67 (by decide)) ?_
    refine r_aload_n hE dX5_put_36 rfl ?_
    refine t_geti hE f_X5_21 y_I_67_3 dX5_put_37 (hL 67 (by decide)) ?_
    refine r_top (y := (nI sz)) rfl ?_
    refine r_iload_n hE dX5_put_40 rfl ?_
    refine t_iastN (e := sz) hE y_A_70 dX5_put_41 (hL 70 (by decide)) (by omega) (by decide) ?_
    rw [k_SK_70]
    refine r_aload_n hE dX5_put_42 rfl ?_
    refine r_dup hE dX5_put_43 rfl ?_
    refine t_geti hE f_X5_21 y_I_67_3 dX5_put_44 (hL 67 (by decide)) ?_
    refine r_top (y := (nI sz)) rfl ?_
    refine r_iconst (v := 1) hE dX5_put_47 (by decide) ?_
    refine r_iaddN (a := sz) (b := 1) hE dX5_put_48 ?_
    refine t_puti hE f_X5_21 y_I_67_3 dX5_put_49 (hL 67 (by decide)) rfl rfl ?_
    rw [k_SK_n]
    refine r_return hE dX5_put_52 rfl (Nat.zero_le _) (Nat.zero_le _) ?_
    exact ⟨rfl, rfl⟩
theorem k_scanT {V : x_E} {n : Nat} {L : List Nat} {D : y_D} {e : Nat} (hV : y_V V) (hF : y_fm V) (hL : y_ok L) (he : e ≤ 400) : x_Fn V yX5_scan cX5_scan 5 none 6 [.ref 67, .ref 65, .int (nI e)] (y_mk n L D) none (y_mk n L (k_SKK D (k_scan (D 65).1 e (0, (D 68).1, (D 69).1, (D 70).1)))) := by
  refine x_fn (by decide) (Nat.le_of_ble_eq_true rfl) (fun E hE => ?_)
  change E 0 0 0 [(0, .ref 67), (1, .ref 65), (2, .int (nI e))] [] (y_mk n L D)
  have l1 : ∀ (f p sz : Nat) (A B C : Nat → Int32), e - p < f ∧ p ≤ e ∧ sz ≤ p → k_sc (D 65).1 e f p (sz, A, B, C) = k_sc (D 65).1 e 401 0 (0, (D 68).1, (D 69).1, (D 70).1) → E 0 0 7 [(0, .ref 67), (1, .ref 65), (2, .int (nI e)), (3, .int (nI p))] [] (y_mk n L (k_SK D sz A B C)) := by
    intro f p sz A B C
    induction hm9 : (f) using Nat.strongRecOn generalizing f p sz A B C with
    | _ m9 ih =>
      intro hp hw
      subst hm9
      refine r_iload_n hE dX5_scan_7 rfl ?_
      refine r_iload_n hE dX5_scan_8 rfl ?_
      refine r_icmp_geN (a := p) (b := e) (tgt := 137) hE dX5_scan_9 (by decide) (by omega) (by omega) (fun c9 => ?_) (fun c9 => ?_)
      · refine r_aload_n hE dX5_scan_137 rfl ?_
        refine r_iconst (v := 0) hE dX5_scan_138 (by decide) ?_
        refine r_iload_n hE dX5_scan_139 rfl ?_
        refine r_iconst (v := 0) hE dX5_scan_140 (by decide) ?_
        refine t_invv (r := none) (S2 := (y_mk n L (k_SK D (sz + 1) (upd A sz 0) (upd B sz (nI e)) (upd C sz 0)))) hE [.int 0, .int (nI e), .int 0] (k_putT hL (by omega)) v_yX5_put m_X5_35 dX5_scan_141 rfl (hL 67 (by decide)) (y_l_67 ((k_SK D sz A B C) 67)) rfl (by decide) ⟨Nat.le_refl _, Nat.le_refl _⟩ (Nat.le_of_ble_eq_true rfl) ?_
        show E 0 0 144 [(0, .ref 67), (1, .ref 65), (2, .int (nI e)), (3, .int (nI p))] [] (y_mk n L (k_SK D (sz + 1) (upd A sz 0) (upd B sz (nI e)) (upd C sz 0)))
        refine r_return hE dX5_scan_144 rfl (Nat.zero_le _) (Nat.zero_le _) ?_
        refine ⟨rfl, ?_⟩
        unfold k_scan
        rw [← hw, k_sc_e (by omega), if_neg (by omega)]
        rfl
      · refine r_iload_n hE dX5_scan_12 rfl ?_
        refine r_iconst (v := 1) hE dX5_scan_13 (by decide) ?_
        refine r_iaddN (a := p) (b := 1) hE dX5_scan_14 ?_
        refine r_istore (ls2 := [(0, .ref 67), (1, .ref 65), (2, .int (nI e)), (3, .int (nI p)), (4, .int (nI (p + 1)))]) hE dX5_scan_15 (by decide) rfl ?_
        refine r_aload_n hE dX5_scan_17 rfl ?_
        refine r_iload_n hE dX5_scan_18 rfl ?_
        refine t_baldN (e := p) hE y_A_65 dX5_scan_19 (hL 65 (by decide)) (by omega) (by decide) ?_
        refine r_top (y := ((D 65).1 p)) rfl ?_
        refine t_invs (r := (some (.int (y_b (97 ≤ ((D 65).1 p) ∧ ((D 65).1 p) ≤ 122))))) (S2 := (y_mk n L (k_SK D sz A B C))) hE [.int ((D 65).1 p)] (k_isLetter) s_yX5_isLetter m_X5_25 dX5_scan_20 rfl (by decide) ⟨Nat.le_refl _, Nat.le_refl _⟩ (Nat.le_of_ble_eq_true rfl) ?_
        show E 0 0 23 [(0, .ref 67), (1, .ref 65), (2, .int (nI e)), (3, .int (nI p)), (4, .int (nI (p + 1)))] [.int (y_b (97 ≤ ((D 65).1 p) ∧ ((D 65).1 p) ≤ 122))] (y_mk n L (k_SK D sz A B C))
        refine r_ifb_eq (tgt := 64) hE dX5_scan_23 (by decide) (fun c23 => ?_) (fun c23 => ?_)
        · refine r_aload_n hE dX5_scan_64 rfl ?_
          refine r_iload_n hE dX5_scan_65 rfl ?_
          refine t_baldN (e := p) hE y_A_65 dX5_scan_66 (hL 65 (by decide)) (by omega) (by decide) ?_
          refine r_top (y := ((D 65).1 p)) rfl ?_
          refine t_invs (r := (some (.int (y_b (48 ≤ ((D 65).1 p) ∧ ((D 65).1 p) ≤ 57))))) (S2 := (y_mk n L (k_SK D sz A B C))) hE [.int ((D 65).1 p)] (k_isDigit) s_yX5_isDigit m_X5_39 dX5_scan_67 rfl (by decide) ⟨Nat.le_refl _, Nat.le_refl _⟩ (Nat.le_of_ble_eq_true rfl) ?_
          show E 0 0 70 [(0, .ref 67), (1, .ref 65), (2, .int (nI e)), (3, .int (nI p)), (4, .int (nI (p + 1)))] [.int (y_b (48 ≤ ((D 65).1 p) ∧ ((D 65).1 p) ≤ 57))] (y_mk n L (k_SK D sz A B C))
          refine r_ifb_eq (tgt := 111) hE dX5_scan_70 (by decide) (fun c70 => ?_) (fun c70 => ?_)
          · refine r_aload_n hE dX5_scan_111 rfl ?_
            refine r_iload_n hE dX5_scan_112 rfl ?_
            refine t_baldN (e := p) hE y_A_65 dX5_scan_113 (hL 65 (by decide)) (by omega) (by decide) ?_
            refine r_top (y := ((D 65).1 p)) rfl ?_
            refine r_bipush (v := 32) hE dX5_scan_114 (by decide) ?_
            refine r_icmp_eq (tgt := 131) hE dX5_scan_116 (by decide) (fun c116 => ?_) (fun c116 => ?_)
            · refine r_iload hE dX5_scan_131 rfl ?_
              refine r_istore_n (ls2 := [(0, .ref 67), (1, .ref 65), (2, .int (nI e)), (3, .int (nI (p + 1))), (4, .int (nI (p + 1)))]) hE dX5_scan_133 (by decide) rfl ?_
              refine r_goto (tgt := 7) hE dX5_scan_134 (by decide) ?_
              refine r_locs hE (ls2 := [(0, .ref 67), (1, .ref 65), (2, .int (nI e)), (3, .int (nI (p + 1)))]) (by simp [x_lk]) ?_
              exact ih (f - 1) (by omega) (f - 1) (p + 1) sz A B C rfl (by omega) (by rw [← hw]; refine Eq.trans ?_ (k_sc_e (by omega)).symm; rw [if_pos c9, if_neg c23, if_neg c70, if_pos c116])
            · refine r_aload_n hE dX5_scan_119 rfl ?_
              refine r_aload_n hE dX5_scan_120 rfl ?_
              refine r_iload_n hE dX5_scan_121 rfl ?_
              refine t_baldN (e := p) hE y_A_65 dX5_scan_122 (hL 65 (by decide)) (by omega) (by decide) ?_
              refine r_top (y := ((D 65).1 p)) rfl ?_
              refine t_invs (r := (some (.int (k_sign ((D 65).1 p))))) (S2 := (y_mk n L (k_SK D sz A B C))) hE [.int ((D 65).1 p)] (k_ofSign (D := (k_SK D sz A B C)) hV hF hL) s_yX8_ofSign m_X5_45 dX5_scan_123 rfl (by decide) ⟨Nat.le_refl _, Nat.le_refl _⟩ (Nat.le_of_ble_eq_true rfl) ?_
              show E 0 0 126 [(0, .ref 67), (1, .ref 65), (2, .int (nI e)), (3, .int (nI p)), (4, .int (nI (p + 1)))] [.int (k_sign ((D 65).1 p)), .ref 67] (y_mk n L (k_SK D sz A B C))
              refine r_iload_n hE dX5_scan_126 rfl ?_
              refine r_iconst (v := 0) hE dX5_scan_127 (by decide) ?_
              refine t_invv (r := none) (S2 := (y_mk n L (k_SK D (sz + 1) (upd A sz (k_sign ((D 65).1 p))) (upd B sz (nI p)) (upd C sz 0)))) hE [.int (k_sign ((D 65).1 p)), .int (nI p), .int 0] (k_putT hL (by omega)) v_yX5_put m_X5_35 dX5_scan_128 rfl (hL 67 (by decide)) (y_l_67 ((k_SK D sz A B C) 67)) rfl (by decide) ⟨Nat.le_refl _, Nat.le_refl _⟩ (Nat.le_of_ble_eq_true rfl) ?_
              show E 0 0 131 [(0, .ref 67), (1, .ref 65), (2, .int (nI e)), (3, .int (nI p)), (4, .int (nI (p + 1)))] [] (y_mk n L (k_SK D (sz + 1) (upd A sz (k_sign ((D 65).1 p))) (upd B sz (nI p)) (upd C sz 0)))
              refine r_iload hE dX5_scan_131 rfl ?_
              refine r_istore_n (ls2 := [(0, .ref 67), (1, .ref 65), (2, .int (nI e)), (3, .int (nI (p + 1))), (4, .int (nI (p + 1)))]) hE dX5_scan_133 (by decide) rfl ?_
              refine r_goto (tgt := 7) hE dX5_scan_134 (by decide) ?_
              refine r_locs hE (ls2 := [(0, .ref 67), (1, .ref 65), (2, .int (nI e)), (3, .int (nI (p + 1)))]) (by simp [x_lk]) ?_
              exact ih (f - 1) (by omega) (f - 1) (p + 1) (sz + 1) (upd A sz (k_sign ((D 65).1 p))) (upd B sz (nI p)) (upd C sz 0) rfl (by omega) (by rw [← hw]; refine Eq.trans ?_ (k_sc_e (by omega)).symm; rw [if_pos c9, if_neg c23, if_neg c70, if_neg c116]; rfl)
          · have l2 : ∀ (q : Nat), p + 1 ≤ q ∧ q ≤ e → l_to (D 65).1 e 48 57 q = l_to (D 65).1 e 48 57 (p + 1) → E 0 0 73 [(0, .ref 67), (1, .ref 65), (2, .int (nI e)), (3, .int (nI p)), (4, .int (nI q))] [] (y_mk n L (k_SK D sz A B C)) := by
              intro q
              induction hm8 : (e - q) using Nat.strongRecOn generalizing q with
              | _ m8 ih2 =>
                intro hq hqt
                subst hm8
                refine r_iload hE dX5_scan_73 rfl ?_
                refine r_iload_n hE dX5_scan_75 rfl ?_
                refine r_icmp_geN (a := q) (b := e) (tgt := 95) hE dX5_scan_76 (by decide) (by omega) (by omega) (fun c76 => ?_) (fun c76 => ?_)
                · have hq2 : q = l_to (D 65).1 e 48 57 (p + 1) := by
                    first
                      | exact (show l_to (D 65).1 e 48 57 q = q from l_to_n (fun z => c86 z.2)).symm.trans hqt
                      | exact (show l_to (D 65).1 e 48 57 q = q from l_to_n (fun z => absurd z.1 (by omega))).symm.trans hqt
                  have hdg : ∀ j, p ≤ j → j < q → (48 : Int32) ≤ (D 65).1 j ∧ (D 65).1 j ≤ 57 := fun j h1 h2 => by
                    by_cases h : j = p
                    · subst h; exact c70
                    · exact (l_to_in (lo := 48) (hi := 57) (p := p + 1) j (by omega) (by rw [← hq2]; exact h2)).2
                  refine r_aload_n hE dX5_scan_95 rfl ?_
                  refine r_iconst (v := 2) hE dX5_scan_96 (by decide) ?_
                  refine r_iload_n hE dX5_scan_97 rfl ?_
                  refine r_aload_n hE dX5_scan_98 rfl ?_
                  refine r_iload_n hE dX5_scan_99 rfl ?_
                  refine r_iload hE dX5_scan_100 rfl ?_
                  refine t_invs (r := (some (.int (nI (k_num (D 65).1 p q))))) (S2 := (y_mk n L (k_SK D sz A B C))) hE [.ref 65, .int (nI p), .int (nI q)] (k_numberOf (D := (k_SK D sz A B C)) hL (by omega) (by omega) hdg) s_yX5_numberOf m_X5_42 dX5_scan_102 rfl (by decide) ⟨Nat.le_refl _, Nat.le_refl _⟩ (Nat.le_of_ble_eq_true rfl) ?_
                  show E 0 0 105 [(0, .ref 67), (1, .ref 65), (2, .int (nI e)), (3, .int (nI p)), (4, .int (nI q))] [.int (nI (k_num (D 65).1 p q)), .int (nI p), .int 2, .ref 67] (y_mk n L (k_SK D sz A B C))
                  refine t_invv (r := none) (S2 := (y_mk n L (k_SK D (sz + 1) (upd A sz 2) (upd B sz (nI p)) (upd C sz (nI (k_num (D 65).1 p q)))))) hE [.int 2, .int (nI p), .int (nI (k_num (D 65).1 p q))] (k_putT hL (by omega)) v_yX5_put m_X5_35 dX5_scan_105 rfl (hL 67 (by decide)) (y_l_67 ((k_SK D sz A B C) 67)) rfl (by decide) ⟨Nat.le_refl _, Nat.le_refl _⟩ (Nat.le_of_ble_eq_true rfl) ?_
                  show E 0 0 108 [(0, .ref 67), (1, .ref 65), (2, .int (nI e)), (3, .int (nI p)), (4, .int (nI q))] [] (y_mk n L (k_SK D (sz + 1) (upd A sz 2) (upd B sz (nI p)) (upd C sz (nI (k_num (D 65).1 p q)))))
                  refine r_goto (tgt := 131) hE dX5_scan_108 (by decide) ?_
                  refine r_iload hE dX5_scan_131 rfl ?_
                  refine r_istore_n (ls2 := [(0, .ref 67), (1, .ref 65), (2, .int (nI e)), (3, .int (nI q)), (4, .int (nI q))]) hE dX5_scan_133 (by decide) rfl ?_
                  refine r_goto (tgt := 7) hE dX5_scan_134 (by decide) ?_
                  refine r_locs hE (ls2 := [(0, .ref 67), (1, .ref 65), (2, .int (nI e)), (3, .int (nI q))]) (by simp [x_lk]) ?_
                  exact ih (f - 1) (by omega) (f - 1) q (sz + 1) (upd A sz 2) (upd B sz (nI p)) (upd C sz (nI (k_num (D 65).1 p q))) rfl (by omega) (by rw [← hw]; refine Eq.trans ?_ (k_sc_e (by omega)).symm; rw [if_pos c9, if_neg c23, if_pos c70, ← hq2]; rfl)
                · refine r_aload_n hE dX5_scan_79 rfl ?_
                  refine r_iload hE dX5_scan_80 rfl ?_
                  refine t_baldN (e := q) hE y_A_65 dX5_scan_82 (hL 65 (by decide)) (by omega) (by decide) ?_
                  refine r_top (y := ((D 65).1 q)) rfl ?_
                  refine t_invs (r := (some (.int (y_b (48 ≤ ((D 65).1 q) ∧ ((D 65).1 q) ≤ 57))))) (S2 := (y_mk n L (k_SK D sz A B C))) hE [.int ((D 65).1 q)] (k_isDigit) s_yX5_isDigit m_X5_39 dX5_scan_83 rfl (by decide) ⟨Nat.le_refl _, Nat.le_refl _⟩ (Nat.le_of_ble_eq_true rfl) ?_
                  show E 0 0 86 [(0, .ref 67), (1, .ref 65), (2, .int (nI e)), (3, .int (nI p)), (4, .int (nI q))] [.int (y_b (48 ≤ ((D 65).1 q) ∧ ((D 65).1 q) ≤ 57))] (y_mk n L (k_SK D sz A B C))
                  refine r_ifb_eq (tgt := 95) hE dX5_scan_86 (by decide) (fun c86 => ?_) (fun c86 => ?_)
                  · have hq2 : q = l_to (D 65).1 e 48 57 (p + 1) := by
                      first
                        | exact (show l_to (D 65).1 e 48 57 q = q from l_to_n (fun z => c86 z.2)).symm.trans hqt
                        | exact (show l_to (D 65).1 e 48 57 q = q from l_to_n (fun z => absurd z.1 (by omega))).symm.trans hqt
                    have hdg : ∀ j, p ≤ j → j < q → (48 : Int32) ≤ (D 65).1 j ∧ (D 65).1 j ≤ 57 := fun j h1 h2 => by
                      by_cases h : j = p
                      · subst h; exact c70
                      · exact (l_to_in (lo := 48) (hi := 57) (p := p + 1) j (by omega) (by rw [← hq2]; exact h2)).2
                    refine r_aload_n hE dX5_scan_95 rfl ?_
                    refine r_iconst (v := 2) hE dX5_scan_96 (by decide) ?_
                    refine r_iload_n hE dX5_scan_97 rfl ?_
                    refine r_aload_n hE dX5_scan_98 rfl ?_
                    refine r_iload_n hE dX5_scan_99 rfl ?_
                    refine r_iload hE dX5_scan_100 rfl ?_
                    refine t_invs (r := (some (.int (nI (k_num (D 65).1 p q))))) (S2 := (y_mk n L (k_SK D sz A B C))) hE [.ref 65, .int (nI p), .int (nI q)] (k_numberOf (D := (k_SK D sz A B C)) hL (by omega) (by omega) hdg) s_yX5_numberOf m_X5_42 dX5_scan_102 rfl (by decide) ⟨Nat.le_refl _, Nat.le_refl _⟩ (Nat.le_of_ble_eq_true rfl) ?_
                    show E 0 0 105 [(0, .ref 67), (1, .ref 65), (2, .int (nI e)), (3, .int (nI p)), (4, .int (nI q))] [.int (nI (k_num (D 65).1 p q)), .int (nI p), .int 2, .ref 67] (y_mk n L (k_SK D sz A B C))
                    refine t_invv (r := none) (S2 := (y_mk n L (k_SK D (sz + 1) (upd A sz 2) (upd B sz (nI p)) (upd C sz (nI (k_num (D 65).1 p q)))))) hE [.int 2, .int (nI p), .int (nI (k_num (D 65).1 p q))] (k_putT hL (by omega)) v_yX5_put m_X5_35 dX5_scan_105 rfl (hL 67 (by decide)) (y_l_67 ((k_SK D sz A B C) 67)) rfl (by decide) ⟨Nat.le_refl _, Nat.le_refl _⟩ (Nat.le_of_ble_eq_true rfl) ?_
                    show E 0 0 108 [(0, .ref 67), (1, .ref 65), (2, .int (nI e)), (3, .int (nI p)), (4, .int (nI q))] [] (y_mk n L (k_SK D (sz + 1) (upd A sz 2) (upd B sz (nI p)) (upd C sz (nI (k_num (D 65).1 p q)))))
                    refine r_goto (tgt := 131) hE dX5_scan_108 (by decide) ?_
                    refine r_iload hE dX5_scan_131 rfl ?_
                    refine r_istore_n (ls2 := [(0, .ref 67), (1, .ref 65), (2, .int (nI e)), (3, .int (nI q)), (4, .int (nI q))]) hE dX5_scan_133 (by decide) rfl ?_
                    refine r_goto (tgt := 7) hE dX5_scan_134 (by decide) ?_
                    refine r_locs hE (ls2 := [(0, .ref 67), (1, .ref 65), (2, .int (nI e)), (3, .int (nI q))]) (by simp [x_lk]) ?_
                    exact ih (f - 1) (by omega) (f - 1) q (sz + 1) (upd A sz 2) (upd B sz (nI p)) (upd C sz (nI (k_num (D 65).1 p q))) rfl (by omega) (by rw [← hw]; refine Eq.trans ?_ (k_sc_e (by omega)).symm; rw [if_pos c9, if_neg c23, if_pos c70, ← hq2]; rfl)
                  · refine r_iincN (a := q) (b := 1) (ls2 := [(0, .ref 67), (1, .ref 65), (2, .int (nI e)), (3, .int (nI p)), (4, .int (nI (q + 1)))]) hE dX5_scan_89 rfl rfl (by decide) rfl ?_
                    refine r_goto (tgt := 73) hE dX5_scan_92 (by decide) ?_
                    exact ih2 (e - (q + 1)) (by omega) (q + 1) rfl (by omega) (by rw [← hqt]; exact (l_to_y ⟨c76, c86⟩).symm)
            exact l2 (p + 1) (by omega) rfl
        · have l2 : ∀ (q : Nat), p + 1 ≤ q ∧ q ≤ e → l_to (D 65).1 e 97 122 q = l_to (D 65).1 e 97 122 (p + 1) → E 0 0 26 [(0, .ref 67), (1, .ref 65), (2, .int (nI e)), (3, .int (nI p)), (4, .int (nI q))] [] (y_mk n L (k_SK D sz A B C)) := by
            intro q
            induction hm8 : (e - q) using Nat.strongRecOn generalizing q with
            | _ m8 ih2 =>
              intro hq hqt
              subst hm8
              refine r_iload hE dX5_scan_26 rfl ?_
              refine r_iload_n hE dX5_scan_28 rfl ?_
              refine r_icmp_geN (a := q) (b := e) (tgt := 48) hE dX5_scan_29 (by decide) (by omega) (by omega) (fun c29 => ?_) (fun c29 => ?_)
              · have hq2 : q = l_to (D 65).1 e 97 122 (p + 1) := by
                  first
                    | exact (show l_to (D 65).1 e 97 122 q = q from l_to_n (fun z => c39 z.2)).symm.trans hqt
                    | exact (show l_to (D 65).1 e 97 122 q = q from l_to_n (fun z => absurd z.1 (by omega))).symm.trans hqt
                refine r_aload_n hE dX5_scan_48 rfl ?_
                refine r_aload_n hE dX5_scan_49 rfl ?_
                refine r_iload_n hE dX5_scan_50 rfl ?_
                refine r_iload hE dX5_scan_51 rfl ?_
                refine t_invs (r := (some (.int (nI (k_word (D 65).1 p q))))) (S2 := (y_mk n L (k_SK D sz A B C))) hE [.ref 65, .int (nI p), .int (nI q)] (k_ofWord (D := (k_SK D sz A B C)) hV hF hL (by omega) (by omega)) s_yX8_ofWord m_X5_29 dX5_scan_53 rfl (by decide) ⟨Nat.le_refl _, Nat.le_refl _⟩ (Nat.le_of_ble_eq_true rfl) ?_
                show E 0 0 56 [(0, .ref 67), (1, .ref 65), (2, .int (nI e)), (3, .int (nI p)), (4, .int (nI q))] [.int (nI (k_word (D 65).1 p q)), .ref 67] (y_mk n L (k_SK D sz A B C))
                refine r_iload_n hE dX5_scan_56 rfl ?_
                refine r_iconst (v := 0) hE dX5_scan_57 (by decide) ?_
                refine t_invv (r := none) (S2 := (y_mk n L (k_SK D (sz + 1) (upd A sz (nI (k_word (D 65).1 p q))) (upd B sz (nI p)) (upd C sz 0)))) hE [.int (nI (k_word (D 65).1 p q)), .int (nI p), .int 0] (k_putT hL (by omega)) v_yX5_put m_X5_35 dX5_scan_58 rfl (hL 67 (by decide)) (y_l_67 ((k_SK D sz A B C) 67)) rfl (by decide) ⟨Nat.le_refl _, Nat.le_refl _⟩ (Nat.le_of_ble_eq_true rfl) ?_
                show E 0 0 61 [(0, .ref 67), (1, .ref 65), (2, .int (nI e)), (3, .int (nI p)), (4, .int (nI q))] [] (y_mk n L (k_SK D (sz + 1) (upd A sz (nI (k_word (D 65).1 p q))) (upd B sz (nI p)) (upd C sz 0)))
                refine r_goto (tgt := 131) hE dX5_scan_61 (by decide) ?_
                refine r_iload hE dX5_scan_131 rfl ?_
                refine r_istore_n (ls2 := [(0, .ref 67), (1, .ref 65), (2, .int (nI e)), (3, .int (nI q)), (4, .int (nI q))]) hE dX5_scan_133 (by decide) rfl ?_
                refine r_goto (tgt := 7) hE dX5_scan_134 (by decide) ?_
                refine r_locs hE (ls2 := [(0, .ref 67), (1, .ref 65), (2, .int (nI e)), (3, .int (nI q))]) (by simp [x_lk]) ?_
                exact ih (f - 1) (by omega) (f - 1) q (sz + 1) (upd A sz (nI (k_word (D 65).1 p q))) (upd B sz (nI p)) (upd C sz 0) rfl (by omega) (by rw [← hw]; refine Eq.trans ?_ (k_sc_e (by omega)).symm; rw [if_pos c9, if_pos c23, ← hq2]; rfl)
              · refine r_aload_n hE dX5_scan_32 rfl ?_
                refine r_iload hE dX5_scan_33 rfl ?_
                refine t_baldN (e := q) hE y_A_65 dX5_scan_35 (hL 65 (by decide)) (by omega) (by decide) ?_
                refine r_top (y := ((D 65).1 q)) rfl ?_
                refine t_invs (r := (some (.int (y_b (97 ≤ ((D 65).1 q) ∧ ((D 65).1 q) ≤ 122))))) (S2 := (y_mk n L (k_SK D sz A B C))) hE [.int ((D 65).1 q)] (k_isLetter) s_yX5_isLetter m_X5_25 dX5_scan_36 rfl (by decide) ⟨Nat.le_refl _, Nat.le_refl _⟩ (Nat.le_of_ble_eq_true rfl) ?_
                show E 0 0 39 [(0, .ref 67), (1, .ref 65), (2, .int (nI e)), (3, .int (nI p)), (4, .int (nI q))] [.int (y_b (97 ≤ ((D 65).1 q) ∧ ((D 65).1 q) ≤ 122))] (y_mk n L (k_SK D sz A B C))
                refine r_ifb_eq (tgt := 48) hE dX5_scan_39 (by decide) (fun c39 => ?_) (fun c39 => ?_)
                · have hq2 : q = l_to (D 65).1 e 97 122 (p + 1) := by
                    first
                      | exact (show l_to (D 65).1 e 97 122 q = q from l_to_n (fun z => c39 z.2)).symm.trans hqt
                      | exact (show l_to (D 65).1 e 97 122 q = q from l_to_n (fun z => absurd z.1 (by omega))).symm.trans hqt
                  refine r_aload_n hE dX5_scan_48 rfl ?_
                  refine r_aload_n hE dX5_scan_49 rfl ?_
                  refine r_iload_n hE dX5_scan_50 rfl ?_
                  refine r_iload hE dX5_scan_51 rfl ?_
                  refine t_invs (r := (some (.int (nI (k_word (D 65).1 p q))))) (S2 := (y_mk n L (k_SK D sz A B C))) hE [.ref 65, .int (nI p), .int (nI q)] (k_ofWord (D := (k_SK D sz A B C)) hV hF hL (by omega) (by omega)) s_yX8_ofWord m_X5_29 dX5_scan_53 rfl (by decide) ⟨Nat.le_refl _, Nat.le_refl _⟩ (Nat.le_of_ble_eq_true rfl) ?_
                  show E 0 0 56 [(0, .ref 67), (1, .ref 65), (2, .int (nI e)), (3, .int (nI p)), (4, .int (nI q))] [.int (nI (k_word (D 65).1 p q)), .ref 67] (y_mk n L (k_SK D sz A B C))
                  refine r_iload_n hE dX5_scan_56 rfl ?_
                  refine r_iconst (v := 0) hE dX5_scan_57 (by decide) ?_
                  refine t_invv (r := none) (S2 := (y_mk n L (k_SK D (sz + 1) (upd A sz (nI (k_word (D 65).1 p q))) (upd B sz (nI p)) (upd C sz 0)))) hE [.int (nI (k_word (D 65).1 p q)), .int (nI p), .int 0] (k_putT hL (by omega)) v_yX5_put m_X5_35 dX5_scan_58 rfl (hL 67 (by decide)) (y_l_67 ((k_SK D sz A B C) 67)) rfl (by decide) ⟨Nat.le_refl _, Nat.le_refl _⟩ (Nat.le_of_ble_eq_true rfl) ?_
                  show E 0 0 61 [(0, .ref 67), (1, .ref 65), (2, .int (nI e)), (3, .int (nI p)), (4, .int (nI q))] [] (y_mk n L (k_SK D (sz + 1) (upd A sz (nI (k_word (D 65).1 p q))) (upd B sz (nI p)) (upd C sz 0)))
                  refine r_goto (tgt := 131) hE dX5_scan_61 (by decide) ?_
                  refine r_iload hE dX5_scan_131 rfl ?_
                  refine r_istore_n (ls2 := [(0, .ref 67), (1, .ref 65), (2, .int (nI e)), (3, .int (nI q)), (4, .int (nI q))]) hE dX5_scan_133 (by decide) rfl ?_
                  refine r_goto (tgt := 7) hE dX5_scan_134 (by decide) ?_
                  refine r_locs hE (ls2 := [(0, .ref 67), (1, .ref 65), (2, .int (nI e)), (3, .int (nI q))]) (by simp [x_lk]) ?_
                  exact ih (f - 1) (by omega) (f - 1) q (sz + 1) (upd A sz (nI (k_word (D 65).1 p q))) (upd B sz (nI p)) (upd C sz 0) rfl (by omega) (by rw [← hw]; refine Eq.trans ?_ (k_sc_e (by omega)).symm; rw [if_pos c9, if_pos c23, ← hq2]; rfl)
                · refine r_iincN (a := q) (b := 1) (ls2 := [(0, .ref 67), (1, .ref 65), (2, .int (nI e)), (3, .int (nI p)), (4, .int (nI (q + 1)))]) hE dX5_scan_42 rfl rfl (by decide) rfl ?_
                  refine r_goto (tgt := 26) hE dX5_scan_45 (by decide) ?_
                  exact ih2 (e - (q + 1)) (by omega) (q + 1) rfl (by omega) (by rw [← hqt]; exact (l_to_y ⟨c29, c39⟩).symm)
          exact l2 (p + 1) (by omega) rfl
  refine r_aload_n hE dX5_scan_0 rfl ?_
  refine r_iconst (v := 0) hE dX5_scan_1 (by decide) ?_
  refine t_puti hE f_X5_21 y_I_67_3 dX5_scan_2 (hL 67 (by decide)) rfl rfl ?_
  refine r_iconst (v := 0) hE dX5_scan_5 (by decide) ?_
  refine r_istore_n (ls2 := [(0, .ref 67), (1, .ref 65), (2, .int (nI e)), (3, .int 0)]) hE dX5_scan_6 (by decide) rfl ?_
  rw [k_SK_self]
  exact l1 401 0 0 _ _ _ (by omega) rfl

/-! the reference's reader: passes, needsWord, sign, number, emits -/
/-- where the reader stands when it asked for the word i at p -/
def l_pa (T : Nat → Int32) (e i p : Nat) : Nat := if l_w T (l_bl T e p) (l_le T e p) i then l_le T e p else l_bl T e p
/-- the sign c stands at p, blanks aside -/
abbrev l_is (T : Nat → Int32) (e : Nat) (c : Int32) (p : Nat) : Prop := l_bl T e p < e ∧ c ≤ T (l_bl T e p) ∧ T (l_bl T e p) ≤ c
def l_sg (T : Nat → Int32) (e : Nat) (c : Int32) (p : Nat) : Nat := if l_is T e c p then l_bl T e p + 1 else l_bl T e p
abbrev l_di (T : Nat → Int32) (e p : Nat) : Nat := l_to T e 48 57 (l_to T e 32 32 p)
/-- what the first c digits from b tell, three of them at most -/
def l_v (T : Nat → Int32) (b : Nat) : Nat → Nat
  | 0 => 0
  | c + 1 => if c < 3 then 10 * l_v T b c + (T (b + c)).toNatClampNeg - 48 else l_v T b c
/-- the number at p -/
def l_nv (T : Nat → Int32) (e lo hi p : Nat) : Int32 := if l_di T e p = l_bl T e p ∨ 3 < l_di T e p - l_bl T e p ∨ l_v T (l_bl T e p) (l_di T e p - l_bl T e p) < lo ∨ hi < l_v T (l_bl T e p) (l_di T e p - l_bl T e p) then -1 else nI (l_v T (l_bl T e p) (l_di T e p - l_bl T e p))
theorem l_dig {x : Int32} (h : (48 : Int32) ≤ x ∧ x ≤ 57) : x = nI x.toNatClampNeg ∧ 48 ≤ x.toNatClampNeg ∧ x.toNatClampNeg ≤ 57 := by
  obtain ⟨h1, h2⟩ := h
  obtain ⟨j, hj, rfl⟩ := nI_of (x := x) (fun c => by
    rw [Int32.lt_iff_toInt_lt] at c
    rw [Int32.le_iff_toInt_le] at h1
    have h9 : (48 : Int32).toInt = 48 := by decide
    have h8 : (0 : Int32).toInt = 0 := by decide
    omega)
  rw [nI_clamp hj]
  exact ⟨rfl, (nI_leI (a := 48) (by decide) hj).mp h1, (nI_leI (b := 57) hj (by decide)).mp h2⟩
theorem l_vb {T : Nat → Int32} {b : Nat} : ∀ c, (∀ j, b ≤ j → j < b + c → (48 : Int32) ≤ T j ∧ T j ≤ 57) → (c = 0 → l_v T b c < 1) ∧ (c = 1 → l_v T b c < 10) ∧ (c = 2 → l_v T b c < 100) ∧ l_v T b c < 1000 := by
  intro c
  induction c with
  | zero => intro _; rw [l_v]; omega
  | succ c ih =>
    intro h
    obtain ⟨i0, i1, i2, i3⟩ := ih (fun j h1 h2 => h j h1 (by omega))
    have h5 := l_dig (h (b + c) (by omega) (by omega))
    rw [l_v]
    split <;> omega
/-- a step more -/
def l_em (W : Nat → Int32) (s : Nat) (a v : Int32) : Nat → Int32 := upd (upd W (8798 + 2 * s) a) (8798 + 2 * s + 1) v
theorem c_passes {V : x_E} {n : Nat} {L : List Nat} {D : y_D} {i : Nat} (hV : y_V V) (hF : y_fm V) (hi : i < 29) {e p b g s : Nat} {W : Nat → Int32} (hL : y_ok L) (hen : (D 169).1 7 = nI e) (he : e ≤ 400) (hp : p ≤ e) : x_Fn V yX11_passes cX11_passes 2 (some .boolean) 5 [.ref 169, .ref i] (y_mk n L (m_P D p b g s W)) (some (.int (y_b (l_w (D 172).1 (l_bl (D 172).1 e p) (l_le (D 172).1 e p) i)))) (y_mk n L (m_P D (l_pa (D 172).1 e i p) (l_bl (D 172).1 e p) g s W)) := by
  refine x_fn (by decide) (Nat.le_of_ble_eq_true rfl) (fun E hE => ?_)
  change E 0 0 0 [(0, .ref 169), (1, .ref i)] [] (y_mk n L (m_P D p b g s W))
  refine r_aload_n hE dX11_passes_0 rfl ?_
  refine t_invv (r := none) (S2 := (y_mk n L (m_P D (l_le (D 172).1 e p) (l_bl (D 172).1 e p) g s W))) hE [] (c_letters hL hen he (by omega)) v_yX11_letters m_X11_125 dX11_passes_1 rfl (hL 169 (by decide)) (y_l_169 ((m_P D p b g s W) 169)) rfl (by decide) ⟨Nat.le_refl _, Nat.le_refl _⟩ (Nat.le_of_ble_eq_true rfl) ?_
  show E 0 0 4 [(0, .ref 169), (1, .ref i)] [] (y_mk n L (m_P D (l_le (D 172).1 e p) (l_bl (D 172).1 e p) g s W))
  refine r_aload_n hE dX11_passes_4 rfl ?_
  refine r_aload_n hE dX11_passes_5 rfl ?_
  refine t_invv (r := (some (.int (y_b (l_w (D 172).1 (l_bl (D 172).1 e p) (l_le (D 172).1 e p) i))))) (S2 := (y_mk n L (m_P D (l_le (D 172).1 e p) (l_bl (D 172).1 e p) g s W))) hE [.ref i] (c_isWord (i := i) hV hF (by first | decide | exact hi) hL hen he (by first | omega | exact l_to_le (l_to_le hp)) (by first | omega | exact l_to_ge)) v_yX11_isWord m_X11_128 dX11_passes_6 rfl (hL 169 (by decide)) (y_l_169 ((m_P D (l_le (D 172).1 e p) (l_bl (D 172).1 e p) g s W) 169)) rfl (by decide) ⟨Nat.le_refl _, Nat.le_refl _⟩ (Nat.le_of_ble_eq_true rfl) ?_
  show E 0 0 9 [(0, .ref 169), (1, .ref i)] [.int (y_b (l_w (D 172).1 (l_bl (D 172).1 e p) (l_le (D 172).1 e p) i))] (y_mk n L (m_P D (l_le (D 172).1 e p) (l_bl (D 172).1 e p) g s W))
  refine r_ifb_eq (tgt := 14) hE dX11_passes_9 (by decide) (fun c9 => ?_) (fun c9 => ?_)
  · refine r_aload_n hE dX11_passes_14 rfl ?_
    refine r_aload_n hE dX11_passes_15 rfl ?_
    refine t_geti hE f_X11_109 y_I_169_8 dX11_passes_16 (hL 169 (by decide)) ?_
    refine r_top (y := (nI (l_bl (D 172).1 e p))) rfl ?_
    refine t_puti hE f_X11_99 y_I_169_6 dX11_passes_19 (hL 169 (by decide)) rfl rfl ?_
    rw [m_P_6]
    refine r_iconst (v := 0) hE dX11_passes_22 (by decide) ?_
    refine r_ireturn hE dX11_passes_23 rfl (by first | rfl | exact y_nb _) (Nat.zero_le _) (Nat.zero_le _) ?_
    unfold l_pa
    first | rw [if_pos (by assumption)] | rw [if_neg (by assumption)]
    exact ⟨by first | rw [y_b_t (by assumption)] | rw [y_b_f (by assumption)], rfl⟩
  · refine r_iconst (v := 1) hE dX11_passes_12 (by decide) ?_
    refine r_ireturn hE dX11_passes_13 rfl (by first | rfl | exact y_nb _) (Nat.zero_le _) (Nat.zero_le _) ?_
    unfold l_pa
    first | rw [if_pos (by assumption)] | rw [if_neg (by assumption)]
    exact ⟨by first | rw [y_b_t (by assumption)] | rw [y_b_f (by assumption)], rfl⟩
theorem c_needsWord {V : x_E} {n : Nat} {L : List Nat} {D : y_D} {i : Nat} (hV : y_V V) (hF : y_fm V) (hi : i < 29) {e p b g s : Nat} {W : Nat → Int32} (hL : y_ok L) (hen : (D 169).1 7 = nI e) (he : e ≤ 400) (hp : p ≤ e) : x_Fn V yX11_needsWord cX11_needsWord 2 (some .boolean) 5 [.ref 169, .ref i] (y_mk n L (m_P D p b g s W)) (some (.int (y_b (l_w (D 172).1 (l_bl (D 172).1 e p) (l_le (D 172).1 e p) i)))) (y_mk n L (m_P D (l_le (D 172).1 e p) (l_bl (D 172).1 e p) g s W)) := by
  refine x_fn (by decide) (Nat.le_of_ble_eq_true rfl) (fun E hE => ?_)
  change E 0 0 0 [(0, .ref 169), (1, .ref i)] [] (y_mk n L (m_P D p b g s W))
  refine r_aload_n hE dX11_needsWord_0 rfl ?_
  refine t_invv (r := none) (S2 := (y_mk n L (m_P D (l_le (D 172).1 e p) (l_bl (D 172).1 e p) g s W))) hE [] (c_letters hL hen he (by omega)) v_yX11_letters m_X11_125 dX11_needsWord_1 rfl (hL 169 (by decide)) (y_l_169 ((m_P D p b g s W) 169)) rfl (by decide) ⟨Nat.le_refl _, Nat.le_refl _⟩ (Nat.le_of_ble_eq_true rfl) ?_
  show E 0 0 4 [(0, .ref 169), (1, .ref i)] [] (y_mk n L (m_P D (l_le (D 172).1 e p) (l_bl (D 172).1 e p) g s W))
  refine r_aload_n hE dX11_needsWord_4 rfl ?_
  refine r_aload_n hE dX11_needsWord_5 rfl ?_
  refine t_invv (r := (some (.int (y_b (l_w (D 172).1 (l_bl (D 172).1 e p) (l_le (D 172).1 e p) i))))) (S2 := (y_mk n L (m_P D (l_le (D 172).1 e p) (l_bl (D 172).1 e p) g s W))) hE [.ref i] (c_isWord (i := i) hV hF (by first | decide | exact hi) hL hen he (by first | omega | exact l_to_le (l_to_le hp)) (by first | omega | exact l_to_ge)) v_yX11_isWord m_X11_128 dX11_needsWord_6 rfl (hL 169 (by decide)) (y_l_169 ((m_P D (l_le (D 172).1 e p) (l_bl (D 172).1 e p) g s W) 169)) rfl (by decide) ⟨Nat.le_refl _, Nat.le_refl _⟩ (Nat.le_of_ble_eq_true rfl) ?_
  show E 0 0 9 [(0, .ref 169), (1, .ref i)] [.int (y_b (l_w (D 172).1 (l_bl (D 172).1 e p) (l_le (D 172).1 e p) i))] (y_mk n L (m_P D (l_le (D 172).1 e p) (l_bl (D 172).1 e p) g s W))
  refine r_ireturn hE dX11_needsWord_9 rfl (by first | rfl | exact y_nb _) (Nat.zero_le _) (Nat.zero_le _) ?_
  exact ⟨rfl, rfl⟩
theorem c_sign {V : x_E} {n : Nat} {L : List Nat} {D : y_D} {c : Int32} {e p b g s : Nat} {W : Nat → Int32} (hL : y_ok L) (hen : (D 169).1 7 = nI e) (he : e ≤ 400) (hp : p ≤ e) : x_Fn V yX11_sign cX11_sign 2 (some .boolean) 2 [.ref 169, .int c] (y_mk n L (m_P D p b g s W)) (some (.int (y_b (l_is (D 172).1 e c p)))) (y_mk n L (m_P D (l_sg (D 172).1 e c p) (l_bl (D 172).1 e p) g s W)) := by
  refine x_fn (by decide) (Nat.le_of_ble_eq_true rfl) (fun E hE => ?_)
  change E 0 0 0 [(0, .ref 169), (1, .int c)] [] (y_mk n L (m_P D p b g s W))
  refine r_aload_n hE dX11_sign_0 rfl ?_
  refine t_invv (r := none) (S2 := (y_mk n L (m_P D (l_bl (D 172).1 e p) (l_bl (D 172).1 e p) g s W))) hE [] (c_blanks hL hen he (by omega)) v_yX11_blanks m_X11_112 dX11_sign_1 rfl (hL 169 (by decide)) (y_l_169 ((m_P D p b g s W) 169)) rfl (by decide) ⟨Nat.le_refl _, Nat.le_refl _⟩ (Nat.le_of_ble_eq_true rfl) ?_
  show E 0 0 4 [(0, .ref 169), (1, .int c)] [] (y_mk n L (m_P D (l_bl (D 172).1 e p) (l_bl (D 172).1 e p) g s W))
  refine r_aload_n hE dX11_sign_4 rfl ?_
  refine r_iload_n hE dX11_sign_5 rfl ?_
  refine r_iload_n hE dX11_sign_6 rfl ?_
  refine t_invv (r := (some (.int (y_b (l_is (D 172).1 e c p))))) (S2 := (y_mk n L (m_P D (l_bl (D 172).1 e p) (l_bl (D 172).1 e p) g s W))) hE [.int c, .int c] (c_isAt (e := e) (p := (l_bl (D 172).1 e p)) hL hen he (l_to_le hp)) v_yX11_isAt m_X11_105 dX11_sign_7 rfl (hL 169 (by decide)) (y_l_169 ((m_P D (l_bl (D 172).1 e p) (l_bl (D 172).1 e p) g s W) 169)) rfl (by decide) ⟨Nat.le_refl _, Nat.le_refl _⟩ (Nat.le_of_ble_eq_true rfl) ?_
  show E 0 0 10 [(0, .ref 169), (1, .int c)] [.int (y_b (l_is (D 172).1 e c p))] (y_mk n L (m_P D (l_bl (D 172).1 e p) (l_bl (D 172).1 e p) g s W))
  refine r_ifb_ne (tgt := 15) hE dX11_sign_10 (by decide) (fun c10 => ?_) (fun c10 => ?_)
  · refine r_aload_n hE dX11_sign_15 rfl ?_
    refine r_dup hE dX11_sign_16 rfl ?_
    refine t_geti hE f_X11_99 y_I_169_6 dX11_sign_17 (hL 169 (by decide)) ?_
    refine r_top (y := (nI (l_bl (D 172).1 e p))) rfl ?_
    refine r_iconst (v := 1) hE dX11_sign_20 (by decide) ?_
    refine r_iaddN (a := (l_bl (D 172).1 e p)) (b := 1) hE dX11_sign_21 ?_
    refine t_puti hE f_X11_99 y_I_169_6 dX11_sign_22 (hL 169 (by decide)) rfl rfl ?_
    rw [m_P_6]
    refine r_iconst (v := 1) hE dX11_sign_25 (by decide) ?_
    refine r_ireturn hE dX11_sign_26 rfl (by first | rfl | exact y_nb _) (Nat.zero_le _) (Nat.zero_le _) ?_
    unfold l_sg
    first | rw [if_pos (by assumption)] | rw [if_neg (by assumption)]
    exact ⟨by first | rw [y_b_t (by assumption)] | rw [y_b_f (by assumption)], rfl⟩
  · refine r_iconst (v := 0) hE dX11_sign_13 (by decide) ?_
    refine r_ireturn hE dX11_sign_14 rfl (by first | rfl | exact y_nb _) (Nat.zero_le _) (Nat.zero_le _) ?_
    unfold l_sg
    first | rw [if_pos (by assumption)] | rw [if_neg (by assumption)]
    exact ⟨by first | rw [y_b_t (by assumption)] | rw [y_b_f (by assumption)], rfl⟩
theorem c_number {V : x_E} {n : Nat} {L : List Nat} {D : y_D} {lo hi : Nat} (hlo : lo < 2 ^ 31) (hhi : hi < 2 ^ 31) {e p b g s : Nat} {W : Nat → Int32} (hL : y_ok L) (hen : (D 169).1 7 = nI e) (he : e ≤ 400) (hp : p ≤ e) : x_Fn V yX11_number cX11_number 4 (some .int) 2 [.ref 169, .int (nI lo), .int (nI hi)] (y_mk n L (m_P D p b g s W)) (some (.int (l_nv (D 172).1 e lo hi p))) (y_mk n L (m_P D (l_di (D 172).1 e p) (l_bl (D 172).1 e p) g s W)) := by
  refine x_fn (by decide) (Nat.le_of_ble_eq_true rfl) (fun E hE => ?_)
  change E 0 0 0 [(0, .ref 169), (1, .int (nI lo)), (2, .int (nI hi))] [] (y_mk n L (m_P D p b g s W))
  have l1 : ∀ (p9 v : Nat), (l_bl (D 172).1 e p) ≤ p9 ∧ p9 ≤ e → l_to (D 172).1 e 48 57 p9 = l_di (D 172).1 e p → v = l_v (D 172).1 (l_bl (D 172).1 e p) (p9 - (l_bl (D 172).1 e p)) → E 0 0 6 [(0, .ref 169), (1, .int (nI lo)), (2, .int (nI hi)), (3, .int (nI v))] [] (y_mk n L (m_P D p9 (l_bl (D 172).1 e p) g s W)) := by
    intro p9 v
    induction hm9 : (e - p9) using Nat.strongRecOn generalizing p9 v with
    | _ m9 ih =>
      intro hp9 hq hv
      subst hm9
      have hvb := l_vb (T := (D 172).1) (b := (l_bl (D 172).1 e p)) (p9 - (l_bl (D 172).1 e p)) (fun j h1 h2 => (l_to_in (lo := 48) (hi := 57) j h1 (by have h3 := l_to_ge (T := (D 172).1) (e := e) (lo := 48) (hi := 57) (p := p9); rw [hq] at h3; exact Nat.lt_of_lt_of_le (by omega) h3)).2)
      rw [← hv] at hvb
      refine r_aload_n hE dX11_number_6 rfl ?_
      refine r_bipush (v := 48) hE dX11_number_7 (by decide) ?_
      refine r_bipush (v := 57) hE dX11_number_9 (by decide) ?_
      refine t_invv (r := (some (.int (y_b (p9 < e ∧ 48 ≤ (D 172).1 p9 ∧ (D 172).1 p9 ≤ 57))))) (S2 := (y_mk n L (m_P D p9 (l_bl (D 172).1 e p) g s W))) hE [.int 48, .int 57] (c_isAt (e := e) (p := p9) hL hen he (by omega)) v_yX11_isAt m_X11_105 dX11_number_11 rfl (hL 169 (by decide)) (y_l_169 ((m_P D p9 (l_bl (D 172).1 e p) g s W) 169)) rfl (by decide) ⟨Nat.le_refl _, Nat.le_refl _⟩ (Nat.le_of_ble_eq_true rfl) ?_
      show E 0 0 14 [(0, .ref 169), (1, .int (nI lo)), (2, .int (nI hi)), (3, .int (nI v))] [.int (y_b (p9 < e ∧ 48 ≤ (D 172).1 p9 ∧ (D 172).1 p9 ≤ 57))] (y_mk n L (m_P D p9 (l_bl (D 172).1 e p) g s W))
      refine r_ifb_eq (tgt := 65) hE dX11_number_14 (by decide) (fun c14 => ?_) (fun c14 => ?_)
      · refine r_aload_n hE dX11_number_65 rfl ?_
        refine t_geti hE f_X11_99 y_I_169_6 dX11_number_66 (hL 169 (by decide)) ?_
        refine r_top (y := (nI p9)) rfl ?_
        refine r_aload_n hE dX11_number_69 rfl ?_
        refine t_geti hE f_X11_109 y_I_169_8 dX11_number_70 (hL 169 (by decide)) ?_
        refine r_top (y := (nI (l_bl (D 172).1 e p))) rfl ?_
        refine r_icmp_eqN (a := p9) (b := (l_bl (D 172).1 e p)) (tgt := 99) hE dX11_number_73 (by decide) (by omega) (by omega) (fun c73 => ?_) (fun c73 => ?_)
        · refine r_iconst (v := (-1)) hE dX11_number_99 (by decide) ?_
          refine r_goto (tgt := 104) hE dX11_number_100 (by decide) ?_
          refine r_ireturn hE dX11_number_104 rfl rfl (Nat.zero_le _) (Nat.zero_le _) ?_
          have hd9 : l_di (D 172).1 e p = p9 := by rw [← hq]; exact l_to_n c14
          unfold l_nv
          rw [hd9, ← hv]
          refine ⟨congrArg (fun z => some (Value.int z)) ?_, rfl⟩
          first | rw [if_pos (by omega)] | rw [if_neg (by omega)]
        · refine r_aload_n hE dX11_number_76 rfl ?_
          refine t_geti hE f_X11_99 y_I_169_6 dX11_number_77 (hL 169 (by decide)) ?_
          refine r_top (y := (nI p9)) rfl ?_
          refine r_aload_n hE dX11_number_80 rfl ?_
          refine t_geti hE f_X11_109 y_I_169_8 dX11_number_81 (hL 169 (by decide)) ?_
          refine r_top (y := (nI (l_bl (D 172).1 e p))) rfl ?_
          refine r_isubN (a := p9) (b := (l_bl (D 172).1 e p)) hE dX11_number_84 (by omega) ?_
          refine r_iconst (v := 3) hE dX11_number_85 (by decide) ?_
          refine r_icmp_gtN (a := p9 - (l_bl (D 172).1 e p)) (b := 3) (tgt := 99) hE dX11_number_86 (by decide) (by omega) (by decide) (fun c86 => ?_) (fun c86 => ?_)
          · refine r_iconst (v := (-1)) hE dX11_number_99 (by decide) ?_
            refine r_goto (tgt := 104) hE dX11_number_100 (by decide) ?_
            refine r_ireturn hE dX11_number_104 rfl rfl (Nat.zero_le _) (Nat.zero_le _) ?_
            have hd9 : l_di (D 172).1 e p = p9 := by rw [← hq]; exact l_to_n c14
            unfold l_nv
            rw [hd9, ← hv]
            refine ⟨congrArg (fun z => some (Value.int z)) ?_, rfl⟩
            first | rw [if_pos (by omega)] | rw [if_neg (by omega)]
          · refine r_iload_n hE dX11_number_89 rfl ?_
            refine r_iload_n hE dX11_number_90 rfl ?_
            refine r_icmp_ltN (a := v) (b := lo) (tgt := 99) hE dX11_number_91 (by decide) (by omega) (by omega) (fun c91 => ?_) (fun c91 => ?_)
            · refine r_iconst (v := (-1)) hE dX11_number_99 (by decide) ?_
              refine r_goto (tgt := 104) hE dX11_number_100 (by decide) ?_
              refine r_ireturn hE dX11_number_104 rfl rfl (Nat.zero_le _) (Nat.zero_le _) ?_
              have hd9 : l_di (D 172).1 e p = p9 := by rw [← hq]; exact l_to_n c14
              unfold l_nv
              rw [hd9, ← hv]
              refine ⟨congrArg (fun z => some (Value.int z)) ?_, rfl⟩
              first | rw [if_pos (by omega)] | rw [if_neg (by omega)]
            · refine r_iload_n hE dX11_number_94 rfl ?_
              refine r_iload_n hE dX11_number_95 rfl ?_
              refine r_icmp_leN (a := v) (b := hi) (tgt := 103) hE dX11_number_96 (by decide) (by omega) (by omega) (fun c96 => ?_) (fun c96 => ?_)
              · refine r_iload_n hE dX11_number_103 rfl ?_
                refine r_ireturn hE dX11_number_104 rfl rfl (Nat.zero_le _) (Nat.zero_le _) ?_
                have hd9 : l_di (D 172).1 e p = p9 := by rw [← hq]; exact l_to_n c14
                unfold l_nv
                rw [hd9, ← hv]
                refine ⟨congrArg (fun z => some (Value.int z)) ?_, rfl⟩
                first | rw [if_pos (by omega)] | rw [if_neg (by omega)]
              · refine r_iconst (v := (-1)) hE dX11_number_99 (by decide) ?_
                refine r_goto (tgt := 104) hE dX11_number_100 (by decide) ?_
                refine r_ireturn hE dX11_number_104 rfl rfl (Nat.zero_le _) (Nat.zero_le _) ?_
                have hd9 : l_di (D 172).1 e p = p9 := by rw [← hq]; exact l_to_n c14
                unfold l_nv
                rw [hd9, ← hv]
                refine ⟨congrArg (fun z => some (Value.int z)) ?_, rfl⟩
                first | rw [if_pos (by omega)] | rw [if_neg (by omega)]
      · refine r_aload_n hE dX11_number_17 rfl ?_
        refine t_geti hE f_X11_99 y_I_169_6 dX11_number_18 (hL 169 (by decide)) ?_
        refine r_top (y := (nI p9)) rfl ?_
        refine r_aload_n hE dX11_number_21 rfl ?_
        refine t_geti hE f_X11_109 y_I_169_8 dX11_number_22 (hL 169 (by decide)) ?_
        refine r_top (y := (nI (l_bl (D 172).1 e p))) rfl ?_
        refine r_isubN (a := p9) (b := (l_bl (D 172).1 e p)) hE dX11_number_25 (by omega) ?_
        refine r_iconst (v := 3) hE dX11_number_26 (by decide) ?_
        refine r_icmp_geN (a := p9 - (l_bl (D 172).1 e p)) (b := 3) (tgt := 50) hE dX11_number_27 (by decide) (by omega) (by decide) (fun c27 => ?_) (fun c27 => ?_)
        · refine r_iload_n hE dX11_number_50 rfl ?_
          refine r_istore_n (ls2 := [(0, .ref 169), (1, .int (nI lo)), (2, .int (nI hi)), (3, .int (nI v))]) hE dX11_number_51 (by decide) rfl ?_
          refine r_aload_n hE dX11_number_52 rfl ?_
          refine r_dup hE dX11_number_53 rfl ?_
          refine t_geti hE f_X11_99 y_I_169_6 dX11_number_54 (hL 169 (by decide)) ?_
          refine r_top (y := (nI p9)) rfl ?_
          refine r_iconst (v := 1) hE dX11_number_57 (by decide) ?_
          refine r_iaddN (a := p9) (b := 1) hE dX11_number_58 ?_
          refine t_puti hE f_X11_99 y_I_169_6 dX11_number_59 (hL 169 (by decide)) rfl rfl ?_
          rw [m_P_6]
          refine r_goto (tgt := 6) hE dX11_number_62 (by decide) ?_
          exact ih (e - (p9 + 1)) (by omega) (p9 + 1) (v) rfl (by omega) (by rw [← hq]; exact (l_to_y c14).symm) (by rw [show p9 + 1 - (l_bl (D 172).1 e p) = (p9 - (l_bl (D 172).1 e p)) + 1 by omega, l_v, if_neg (by omega), hv])
        · refine r_bipush (v := 10) hE dX11_number_30 (by decide) ?_
          refine r_iload_n hE dX11_number_32 rfl ?_
          refine r_imulN (a := 10) (b := v) hE dX11_number_33 ?_
          refine r_aload_n hE dX11_number_34 rfl ?_
          refine t_getr hE f_X11_20 y_R_169_4 dX11_number_35 (hL 169 (by decide)) ?_
          refine r_aload_n hE dX11_number_38 rfl ?_
          refine t_geti hE f_X11_99 y_I_169_6 dX11_number_39 (hL 169 (by decide)) ?_
          refine r_top (y := (nI p9)) rfl ?_
          refine t_baldN (e := p9) hE y_A_172 dX11_number_42 (hL 172 (by decide)) (by omega) (by decide) ?_
          refine r_top (y := (nI ((((D 172).1 p9)).toNatClampNeg))) (l_dig c14.2).1 ?_
          refine r_iaddN (a := 10 * v) (b := (((D 172).1 p9)).toNatClampNeg) hE dX11_number_43 ?_
          refine r_bipush (v := 48) hE dX11_number_44 (by decide) ?_
          refine r_isubN (a := (10 * v) + ((((D 172).1 p9)).toNatClampNeg)) (b := 48) hE dX11_number_46 (by have h9 := l_dig c14.2; omega) ?_
          refine r_goto (tgt := 51) hE dX11_number_47 (by decide) ?_
          refine r_istore_n (ls2 := [(0, .ref 169), (1, .int (nI lo)), (2, .int (nI hi)), (3, .int (nI (((10 * v) + ((((D 172).1 p9)).toNatClampNeg)) - 48)))]) hE dX11_number_51 (by decide) rfl ?_
          refine r_aload_n hE dX11_number_52 rfl ?_
          refine r_dup hE dX11_number_53 rfl ?_
          refine t_geti hE f_X11_99 y_I_169_6 dX11_number_54 (hL 169 (by decide)) ?_
          refine r_top (y := (nI p9)) rfl ?_
          refine r_iconst (v := 1) hE dX11_number_57 (by decide) ?_
          refine r_iaddN (a := p9) (b := 1) hE dX11_number_58 ?_
          refine t_puti hE f_X11_99 y_I_169_6 dX11_number_59 (hL 169 (by decide)) rfl rfl ?_
          rw [m_P_6]
          refine r_goto (tgt := 6) hE dX11_number_62 (by decide) ?_
          exact ih (e - (p9 + 1)) (by omega) (p9 + 1) (((10 * v) + ((((D 172).1 p9)).toNatClampNeg)) - 48) rfl (by omega) (by rw [← hq]; exact (l_to_y c14).symm) (by rw [show p9 + 1 - (l_bl (D 172).1 e p) = (p9 - (l_bl (D 172).1 e p)) + 1 by omega, l_v, if_pos (by omega), hv, show (l_bl (D 172).1 e p) + (p9 - (l_bl (D 172).1 e p)) = p9 by omega])
  refine r_aload_n hE dX11_number_0 rfl ?_
  refine t_invv (r := none) (S2 := (y_mk n L (m_P D (l_bl (D 172).1 e p) (l_bl (D 172).1 e p) g s W))) hE [] (c_blanks hL hen he (by omega)) v_yX11_blanks m_X11_112 dX11_number_1 rfl (hL 169 (by decide)) (y_l_169 ((m_P D p b g s W) 169)) rfl (by decide) ⟨Nat.le_refl _, Nat.le_refl _⟩ (Nat.le_of_ble_eq_true rfl) ?_
  show E 0 0 4 [(0, .ref 169), (1, .int (nI lo)), (2, .int (nI hi))] [] (y_mk n L (m_P D (l_bl (D 172).1 e p) (l_bl (D 172).1 e p) g s W))
  refine r_iconst (v := 0) hE dX11_number_4 (by decide) ?_
  refine r_istore_n (ls2 := [(0, .ref 169), (1, .int (nI lo)), (2, .int (nI hi)), (3, .int 0)]) hE dX11_number_5 (by decide) rfl ?_
  exact l1 _ 0 ⟨Nat.le_refl _, l_to_le hp⟩ rfl (by rw [Nat.sub_self]; rfl)
theorem c_emits {V : x_E} {n : Nat} {L : List Nat} {D : y_D} {a v : Int32} {p b g s : Nat} {W : Nat → Int32} (hL : y_ok L) (hs : s < 400) : x_Fn V yX11_emits cX11_emits 4 none 1 [.ref 169, .int a, .int v] (y_mk n L (m_P D p b g s W)) none (y_mk n L (m_P D p b g (s + 1) (l_em W s a v))) := by
  refine x_fn (by decide) (Nat.le_of_ble_eq_true rfl) (fun E hE => ?_)
  change E 0 0 0 [(0, .ref 169), (1, .int a), (2, .int v)] [] (y_mk n L (m_P D p b g s W))
  refine r_bipush (v := 10) hE dX11_emits_0 (by decide) ?_
  refine t_invs (r := (some (.int (nI (237 + 851 * 10))))) (S2 := (y_mk n L (m_P D p b g s W))) hE [.int 10] (c_textAt) s_yX11_textAt m_X11_132 dX11_emits_2 rfl (by decide) ⟨Nat.le_refl _, Nat.le_refl _⟩ (Nat.le_of_ble_eq_true rfl) ?_
  show E 0 0 5 [(0, .ref 169), (1, .int a), (2, .int v)] [.int (nI (237 + 851 * 10))] (y_mk n L (m_P D p b g s W))
  refine r_bipush (v := 51) hE dX11_emits_5 (by decide) ?_
  refine r_iaddN (a := 237 + 851 * 10) (b := 51) hE dX11_emits_7 ?_
  refine r_iconst (v := 2) hE dX11_emits_8 (by decide) ?_
  refine r_aload_n hE dX11_emits_9 rfl ?_
  refine t_geti hE f_X11_102 y_I_169_12 dX11_emits_10 (hL 169 (by decide)) ?_
  refine r_top (y := (nI s)) rfl ?_
  refine r_imulN (a := 2) (b := s) hE dX11_emits_13 ?_
  refine r_iaddN (a := (237 + 851 * 10) + 51) (b := 2 * s) hE dX11_emits_14 ?_
  refine r_istore_n (ls2 := [(0, .ref 169), (1, .int a), (2, .int v), (3, .int (nI (((237 + 851 * 10) + 51) + (2 * s))))]) hE dX11_emits_15 (by decide) rfl ?_
  refine r_aload_n hE dX11_emits_16 rfl ?_
  refine t_getr hE f_X11_13 y_R_169_1 dX11_emits_17 (hL 169 (by decide)) ?_
  refine r_iload_n hE dX11_emits_20 rfl ?_
  refine r_iload_n hE dX11_emits_21 rfl ?_
  refine t_iastN (e := ((237 + 851 * 10) + 51) + (2 * s)) hE y_A_170 dX11_emits_22 (hL 170 (by decide)) (by omega) (by decide) ?_
  rw [m_P_w]
  refine r_aload_n hE dX11_emits_23 rfl ?_
  refine t_getr hE f_X11_13 y_R_169_1 dX11_emits_24 (hL 169 (by decide)) ?_
  refine r_iload_n hE dX11_emits_27 rfl ?_
  refine r_iconst (v := 1) hE dX11_emits_28 (by decide) ?_
  refine r_iaddN (a := ((237 + 851 * 10) + 51) + (2 * s)) (b := 1) hE dX11_emits_29 ?_
  refine r_iload_n hE dX11_emits_30 rfl ?_
  refine t_iastN (e := (((237 + 851 * 10) + 51) + (2 * s)) + 1) hE y_A_170 dX11_emits_31 (hL 170 (by decide)) (by omega) (by decide) ?_
  rw [m_P_w]
  refine r_aload_n hE dX11_emits_32 rfl ?_
  refine r_dup hE dX11_emits_33 rfl ?_
  refine t_geti hE f_X11_102 y_I_169_12 dX11_emits_34 (hL 169 (by decide)) ?_
  refine r_top (y := (nI s)) rfl ?_
  refine r_iconst (v := 1) hE dX11_emits_37 (by decide) ?_
  refine r_iaddN (a := s) (b := 1) hE dX11_emits_38 ?_
  refine t_puti hE f_X11_102 y_I_169_12 dX11_emits_39 (hL 169 (by decide)) rfl rfl ?_
  rw [m_P_12]
  refine r_return hE dX11_emits_42 rfl (Nat.zero_le _) (Nat.zero_le _) ?_
  exact ⟨rfl, rfl⟩

/-! the law: its cases (3) -/
theorem law_told {V : x_E} (hV : y_V V) (hF : y_fm V) {N i ce sl MC MS n : Nat} {f : Nat → Int32} {L : List Nat} {D : y_D} {E : x_P} (hT : law_S V N f) (hE : x_X V RL cL_law 8 (some .boolean) 40 MC MS "law" (fun r _ => r = some (.int 1)) E) (G : g_G n L D) (hi : i + 6 ≤ N) (hN : N ≤ 3072) (hce : ce + 4 ≤ MC) (hsl : sl + 816 ≤ MS) (kk : ∀ (n2 : Nat) (L2 : List Nat) (D2 : y_D) (ce2 sl2 : Nat), g_G n2 L2 D2 → ce2 ≤ ce + 4 → sl2 ≤ sl + 816 → E ce2 sl2 2607 [(0, .ref 63), (1, .ref 64), (2, .ref 169), (3, .ref 189), (4, .int (nI i))] [] (y_mk n2 L2 D2)) : E ce sl 1972 [(0, .ref 63), (1, .ref 64), (2, .ref 169), (3, .ref 189), (4, .int (nI i))] [] (y_mk n L D) := by
  have hL := G.1.1
  refine r_aload_n hE dL_law_1972 rfl ?_
  refine t_arg (k := 1) hE hT dL_law_1973 dL_law_1974 dL_law_1976 dL_law_1977 dL_law_1978 rfl rfl (by decide) (by omega) (by omega) ?_
  refine t_arg (k := 2) hE hT dL_law_1979 dL_law_1980 dL_law_1982 dL_law_1983 dL_law_1984 rfl rfl (by decide) (by omega) (by omega) ?_
  refine t_arg (k := 3) hE hT dL_law_1985 dL_law_1986 dL_law_1988 dL_law_1989 dL_law_1990 rfl rfl (by decide) (by omega) (by omega) ?_
  refine r_aload_n hE dL_law_1991 rfl ?_
  have t9 := G.2.1.1.2.2.2.2.2.2.1
  have hw := w_told (n := n) (D := D) hV hL (f_told hV hL (t9.1.1.trans t9.2.1.1) t9.1.2.1 t9.2.1.2 (p := (f (i + 1))) (q := (f (i + 2))) (r := (f (i + 3)))) (fun E9 h => by grind)
  refine r_invsW hE (st := []) [.ref 64, .int (f (i + 1)), .int (f (i + 2)), .int (f (i + 3)), .ref 189] hw w_YW_told m_L_219 dL_law_1992 rfl (by decide) ⟨by omega, by omega⟩ (Nat.le_of_ble_eq_true rfl) ⟨rfl, rfl⟩ (fun r9 S9 h9 => ?_)
  rcases h9 with ⟨v, D2, hp, rfl, rfl⟩ | ⟨j, E9, n2, hj, hx, rfl, hn, rfl⟩
  · obtain ⟨D0, hD0⟩ : ∃ z, z = y_sl D2 189 0 (y_gi v) := ⟨_, rfl⟩
    rw [← hD0]
    have h170 : D0 170 = D 170 := by
      rw [hD0, y_sl_n (by decide)]
      rw [hp.2.2.2, y_Tadd_n (by decide) (by decide)]
    have zz := (z_told G t9.2.1.1 t9.2.1.2 (p := (f (i + 1))) (q := (f (i + 2))) (r := (f (i + 3)))).1 v D2 (y_gi v) hp
    rw [← hD0] at zz
    change E (ce + 4) (sl + 24) 1995 [(0, .ref 63), (1, .ref 64), (2, .ref 169), (3, .ref 189), (4, .int (nI i))] [.int 0] (y_mk n L D0)
    refine r_istore (ls2 := [(0, .ref 63), (1, .ref 64), (2, .ref 169), (3, .ref 189), (4, .int (nI i)), (5, .int 0)]) hE dL_law_1995 (by decide) rfl ?_
    refine r_aload_n hE dL_law_1997 rfl ?_
    refine t_arg (k := 1) hE hT dL_law_1998 dL_law_1999 dL_law_2001 dL_law_2002 dL_law_2003 rfl rfl (by decide) (by omega) (by omega) ?_
    refine t_arg (k := 2) hE hT dL_law_2004 dL_law_2005 dL_law_2007 dL_law_2008 dL_law_2009 rfl rfl (by decide) (by omega) (by omega) ?_
    refine t_arg (k := 3) hE hT dL_law_2010 dL_law_2011 dL_law_2013 dL_law_2014 dL_law_2015 rfl rfl (by decide) (by omega) (by omega) ?_
    refine t_invv (r := some (.int (M_told D0 (q_n (D 170).1 8) ((f (i + 1))) ((f (i + 2))) ((f (i + 3)))).1)) (S2 := y_mk n L (M_told D0 (q_n (D 170).1 8) ((f (i + 1))) ((f (i + 2))) ((f (i + 3)))).2) (st := []) hE [.int (f (i + 1)), .int (f (i + 2)), .int (f (i + 3))] (c_told hL (by rw [h170]; exact t9.2.1.1) t9.2.1.2) v_yX11_told m_L_221 dL_law_2016 rfl (hL 169 (by decide)) (y_l_169 (D0 169)) rfl (by decide) ⟨by omega, by omega⟩ (Nat.le_of_ble_eq_true rfl) ?_
    have zz := zz _ _ ⟨rfl, rfl⟩
    generalize (M_told D0 (q_n (D 170).1 8) ((f (i + 1))) ((f (i + 2))) ((f (i + 3)))).2 = D3 at zz ⊢
    generalize (M_told D0 (q_n (D 170).1 8) ((f (i + 1))) ((f (i + 2))) ((f (i + 3)))).1 = b at zz ⊢
    obtain ⟨hv, h0, hG, h189⟩ := zz
    change E (ce + 4) (sl + 24) 2019 [(0, .ref 63), (1, .ref 64), (2, .ref 169), (3, .ref 189), (4, .int (nI i)), (5, .int 0)] [.int b] (y_mk n L D3)
    refine r_istore (ls2 := [(0, .ref 63), (1, .ref 64), (2, .ref 169), (3, .ref 189), (4, .int (nI i)), (5, .int 0), (6, .int b)]) hE dL_law_2019 (by decide) rfl ?_
    refine t_thr hE hL dL_law_2021 dL_law_2022 dL_law_2025 dL_law_2027 rfl rfl h0 (by decide) ⟨by omega, by omega⟩ ?_
    refine t_oki hE hL dL_law_2032 dL_law_2034 dL_law_2037 dL_law_2038 dL_law_2039 dL_law_2040 dL_law_2042 dL_law_2043 dL_law_2044 rfl rfl rfl (by rw [h189, hD0, ← hv]; rfl) ?_
    refine r_goto (tgt := 2607) hE dL_law_2049 (by decide) ?_
    refine r_locs hE (ls2 := [(0, .ref 63), (1, .ref 64), (2, .ref 169), (3, .ref 189), (4, .int (nI i))]) (fun q hq => by simp only [List.mem_cons, List.not_mem_nil, or_false] at hq; rcases hq with rfl | rfl | rfl | rfl | rfl <;> rfl) ?_
    exact kk n L _ (ce + 4) (sl + 24) hG (by omega) (by omega)
  · have h170 : D 170 = D 170 := rfl
    have zz := (z_told G t9.2.1.1 t9.2.1.2 (p := (f (i + 1))) (q := (f (i + 2))) (r := (f (i + 3)))).2 j E9 n2 hj hx hn
    change E (ce + 4) (sl + 24) 1995 [(0, .ref 63), (1, .ref 64), (2, .ref 169), (3, .ref 189), (4, .int (nI i))] [.int (nI (j + 1))] (y_mk n2 L D)
    refine r_istore (ls2 := [(0, .ref 63), (1, .ref 64), (2, .ref 169), (3, .ref 189), (4, .int (nI i)), (5, .int (nI (j + 1)))]) hE dL_law_1995 (by decide) rfl ?_
    refine r_aload_n hE dL_law_1997 rfl ?_
    refine t_arg (k := 1) hE hT dL_law_1998 dL_law_1999 dL_law_2001 dL_law_2002 dL_law_2003 rfl rfl (by decide) (by omega) (by omega) ?_
    refine t_arg (k := 2) hE hT dL_law_2004 dL_law_2005 dL_law_2007 dL_law_2008 dL_law_2009 rfl rfl (by decide) (by omega) (by omega) ?_
    refine t_arg (k := 3) hE hT dL_law_2010 dL_law_2011 dL_law_2013 dL_law_2014 dL_law_2015 rfl rfl (by decide) (by omega) (by omega) ?_
    refine t_invv (r := some (.int (M_told D (q_n (D 170).1 8) ((f (i + 1))) ((f (i + 2))) ((f (i + 3)))).1)) (S2 := y_mk n2 L (M_told D (q_n (D 170).1 8) ((f (i + 1))) ((f (i + 2))) ((f (i + 3)))).2) (st := []) hE [.int (f (i + 1)), .int (f (i + 2)), .int (f (i + 3))] (c_told hL (by rw [h170]; exact t9.2.1.1) t9.2.1.2) v_yX11_told m_L_221 dL_law_2016 rfl (hL 169 (by decide)) (y_l_169 (D 169)) rfl (by decide) ⟨by omega, by omega⟩ (Nat.le_of_ble_eq_true rfl) ?_
    have zz := zz _ _ ⟨rfl, rfl⟩
    generalize (M_told D (q_n (D 170).1 8) ((f (i + 1))) ((f (i + 2))) ((f (i + 3)))).2 = D3 at zz ⊢
    generalize (M_told D (q_n (D 170).1 8) ((f (i + 1))) ((f (i + 2))) ((f (i + 3)))).1 = b at zz ⊢
    obtain ⟨h0, hG⟩ := zz
    change E (ce + 4) (sl + 24) 2019 [(0, .ref 63), (1, .ref 64), (2, .ref 169), (3, .ref 189), (4, .int (nI i)), (5, .int (nI (j + 1)))] [.int b] (y_mk n2 L D3)
    refine r_istore (ls2 := [(0, .ref 63), (1, .ref 64), (2, .ref 169), (3, .ref 189), (4, .int (nI i)), (5, .int (nI (j + 1))), (6, .int b)]) hE dL_law_2019 (by decide) rfl ?_
    refine t_thr hE hL dL_law_2021 dL_law_2022 dL_law_2025 dL_law_2027 rfl rfl h0 (by decide) ⟨by omega, by omega⟩ ?_
    refine t_ex (tgt := 2049) hE dL_law_2032 dL_law_2034 rfl (t_nlt hj (by decide)) (by decide) ?_
    refine r_goto (tgt := 2607) hE dL_law_2049 (by decide) ?_
    refine r_locs hE (ls2 := [(0, .ref 63), (1, .ref 64), (2, .ref 169), (3, .ref 189), (4, .int (nI i))]) (fun q hq => by simp only [List.mem_cons, List.not_mem_nil, or_false] at hq; rcases hq with rfl | rfl | rfl | rfl | rfl <;> rfl) ?_
    exact kk n2 L _ (ce + 4) (sl + 24) hG (by omega) (by omega)
theorem law_knows {V : x_E} (hV : y_V V) (hF : y_fm V) {N i ce sl MC MS n : Nat} {f : Nat → Int32} {L : List Nat} {D : y_D} {E : x_P} (hT : law_S V N f) (hE : x_X V RL cL_law 8 (some .boolean) 40 MC MS "law" (fun r _ => r = some (.int 1)) E) (G : g_G n L D) (hi : i + 6 ≤ N) (hN : N ≤ 3072) (hce : ce + 4 ≤ MC) (hsl : sl + 816 ≤ MS) (kk : ∀ (n2 : Nat) (L2 : List Nat) (D2 : y_D) (ce2 sl2 : Nat), g_G n2 L2 D2 → ce2 ≤ ce + 4 → sl2 ≤ sl + 816 → E ce2 sl2 2607 [(0, .ref 63), (1, .ref 64), (2, .ref 169), (3, .ref 189), (4, .int (nI i))] [] (y_mk n2 L2 D2)) : E ce sl 2052 [(0, .ref 63), (1, .ref 64), (2, .ref 169), (3, .ref 189), (4, .int (nI i))] [] (y_mk n L D) := by
  have hL := G.1.1
  refine r_aload_n hE dL_law_2052 rfl ?_
  refine t_arg (k := 1) hE hT dL_law_2053 dL_law_2054 dL_law_2056 dL_law_2057 dL_law_2058 rfl rfl (by decide) (by omega) (by omega) ?_
  refine r_aload_n hE dL_law_2059 rfl ?_
  have hw := w_knows (n := n) (D := D) hV hL (f_knows hV hL (g_k_BT G.2.1) (p := (f (i + 1)))) (fun E9 h => by grind)
  refine r_invsW hE (st := []) [.ref 64, .int (f (i + 1)), .ref 189] hw w_YW_knows m_L_222 dL_law_2060 rfl (by decide) ⟨by omega, by omega⟩ (Nat.le_of_ble_eq_true rfl) ⟨rfl, rfl⟩ (fun r9 S9 h9 => ?_)
  rcases h9 with ⟨v, D2, hp, rfl, rfl⟩ | ⟨j, E9, n2, hj, hx, rfl, hn, rfl⟩
  · obtain ⟨D0, hD0⟩ : ∃ z, z = y_sl D2 189 0 (y_gi v) := ⟨_, rfl⟩
    rw [← hD0]
    have h170 : D0 170 = D 170 := by
      rw [hD0, y_sl_n (by decide)]
      exact hp.1.1 170 (by decide)
    have zz := (z_knows G (p := (f (i + 1)))).1 v D2 (y_gi v) hp
    rw [← hD0] at zz
    change E (ce + 1) (sl + 6) 2063 [(0, .ref 63), (1, .ref 64), (2, .ref 169), (3, .ref 189), (4, .int (nI i))] [.int 0] (y_mk n L D0)
    refine r_istore (ls2 := [(0, .ref 63), (1, .ref 64), (2, .ref 169), (3, .ref 189), (4, .int (nI i)), (5, .int 0)]) hE dL_law_2063 (by decide) rfl ?_
    refine r_aload_n hE dL_law_2065 rfl ?_
    refine t_arg (k := 1) hE hT dL_law_2066 dL_law_2067 dL_law_2069 dL_law_2070 dL_law_2071 rfl rfl (by decide) (by omega) (by omega) ?_
    refine t_invvRi (st := []) hE [.int (f (i + 1))] (c_knows hL (by rw [h170]; exact g_m_WT G.2.1)) v_yX11_knows m_L_224 dL_law_2072 rfl (hL 169 (by decide)) (y_l_169 (D0 169)) rfl (by decide) ⟨by omega, by omega⟩ (Nat.le_of_ble_eq_true rfl) (fun b D3 hR => ?_)
    have zz := zz _ _ hR
    obtain ⟨hv, h0, hG, h189⟩ := zz
    change E (ce + 1) (sl + 6) 2075 [(0, .ref 63), (1, .ref 64), (2, .ref 169), (3, .ref 189), (4, .int (nI i)), (5, .int 0)] [.int b] (y_mk n L D3)
    refine r_istore (ls2 := [(0, .ref 63), (1, .ref 64), (2, .ref 169), (3, .ref 189), (4, .int (nI i)), (5, .int 0), (6, .int b)]) hE dL_law_2075 (by decide) rfl ?_
    refine t_thr hE hL dL_law_2077 dL_law_2078 dL_law_2081 dL_law_2083 rfl rfl h0 (by decide) ⟨by omega, by omega⟩ ?_
    refine t_oki hE hL dL_law_2088 dL_law_2090 dL_law_2093 dL_law_2094 dL_law_2095 dL_law_2096 dL_law_2098 dL_law_2099 dL_law_2100 rfl rfl rfl (by rw [h189, hD0, ← hv]; rfl) ?_
    refine r_goto (tgt := 2607) hE dL_law_2105 (by decide) ?_
    refine r_locs hE (ls2 := [(0, .ref 63), (1, .ref 64), (2, .ref 169), (3, .ref 189), (4, .int (nI i))]) (fun q hq => by simp only [List.mem_cons, List.not_mem_nil, or_false] at hq; rcases hq with rfl | rfl | rfl | rfl | rfl <;> rfl) ?_
    exact kk n L _ (ce + 1) (sl + 6) hG (by omega) (by omega)
  · have h170 : D 170 = D 170 := rfl
    have zz := (z_knows G (p := (f (i + 1)))).2 j E9 n2 hj hx hn
    change E (ce + 1) (sl + 6) 2063 [(0, .ref 63), (1, .ref 64), (2, .ref 169), (3, .ref 189), (4, .int (nI i))] [.int (nI (j + 1))] (y_mk n2 L D)
    refine r_istore (ls2 := [(0, .ref 63), (1, .ref 64), (2, .ref 169), (3, .ref 189), (4, .int (nI i)), (5, .int (nI (j + 1)))]) hE dL_law_2063 (by decide) rfl ?_
    refine r_aload_n hE dL_law_2065 rfl ?_
    refine t_arg (k := 1) hE hT dL_law_2066 dL_law_2067 dL_law_2069 dL_law_2070 dL_law_2071 rfl rfl (by decide) (by omega) (by omega) ?_
    refine t_invvRi (st := []) hE [.int (f (i + 1))] (c_knows hL (by rw [h170]; exact g_m_WT G.2.1)) v_yX11_knows m_L_224 dL_law_2072 rfl (hL 169 (by decide)) (y_l_169 (D 169)) rfl (by decide) ⟨by omega, by omega⟩ (Nat.le_of_ble_eq_true rfl) (fun b D3 hR => ?_)
    have zz := zz _ _ hR
    obtain ⟨h0, hG⟩ := zz
    change E (ce + 1) (sl + 6) 2075 [(0, .ref 63), (1, .ref 64), (2, .ref 169), (3, .ref 189), (4, .int (nI i)), (5, .int (nI (j + 1)))] [.int b] (y_mk n2 L D3)
    refine r_istore (ls2 := [(0, .ref 63), (1, .ref 64), (2, .ref 169), (3, .ref 189), (4, .int (nI i)), (5, .int (nI (j + 1))), (6, .int b)]) hE dL_law_2075 (by decide) rfl ?_
    refine t_thr hE hL dL_law_2077 dL_law_2078 dL_law_2081 dL_law_2083 rfl rfl h0 (by decide) ⟨by omega, by omega⟩ ?_
    refine t_ex (tgt := 2105) hE dL_law_2088 dL_law_2090 rfl (t_nlt hj (by decide)) (by decide) ?_
    refine r_goto (tgt := 2607) hE dL_law_2105 (by decide) ?_
    refine r_locs hE (ls2 := [(0, .ref 63), (1, .ref 64), (2, .ref 169), (3, .ref 189), (4, .int (nI i))]) (fun q hq => by simp only [List.mem_cons, List.not_mem_nil, or_false] at hq; rcases hq with rfl | rfl | rfl | rfl | rfl <;> rfl) ?_
    exact kk n2 L _ (ce + 1) (sl + 6) hG (by omega) (by omega)
theorem law_whence {V : x_E} (hV : y_V V) (hF : y_fm V) {N i ce sl MC MS n : Nat} {f : Nat → Int32} {L : List Nat} {D : y_D} {E : x_P} (hT : law_S V N f) (hE : x_X V RL cL_law 8 (some .boolean) 40 MC MS "law" (fun r _ => r = some (.int 1)) E) (G : g_G n L D) (hi : i + 6 ≤ N) (hN : N ≤ 3072) (hce : ce + 4 ≤ MC) (hsl : sl + 816 ≤ MS) (kk : ∀ (n2 : Nat) (L2 : List Nat) (D2 : y_D) (ce2 sl2 : Nat), g_G n2 L2 D2 → ce2 ≤ ce + 4 → sl2 ≤ sl + 816 → E ce2 sl2 2607 [(0, .ref 63), (1, .ref 64), (2, .ref 169), (3, .ref 189), (4, .int (nI i))] [] (y_mk n2 L2 D2)) : E ce sl 2108 [(0, .ref 63), (1, .ref 64), (2, .ref 169), (3, .ref 189), (4, .int (nI i))] [] (y_mk n L D) := by
  have hL := G.1.1
  refine r_aload_n hE dL_law_2108 rfl ?_
  refine t_arg (k := 1) hE hT dL_law_2109 dL_law_2110 dL_law_2112 dL_law_2113 dL_law_2114 rfl rfl (by decide) (by omega) (by omega) ?_
  refine t_arg (k := 2) hE hT dL_law_2115 dL_law_2116 dL_law_2118 dL_law_2119 dL_law_2120 rfl rfl (by decide) (by omega) (by omega) ?_
  refine t_nz hE dL_law_2121 dL_law_2124 dL_law_2125 dL_law_2128 ?_
  refine r_aload_n hE dL_law_2129 rfl ?_
  have hw := w_whence (n := n) (D := D) hV hL (f_whence hV hL (g_k_BT G.2.1) (p := (f (i + 1))) (mu := (y_tf (f (i + 2))))) (fun E9 h => by grind)
  refine r_invsW hE (st := []) [.ref 64, .int (f (i + 1)), .int (y_tf (f (i + 2))), .ref 189] hw w_YW_whence m_L_225 dL_law_2130 rfl (by decide) ⟨by omega, by omega⟩ (Nat.le_of_ble_eq_true rfl) ⟨rfl, rfl⟩ (fun r9 S9 h9 => ?_)
  rcases h9 with ⟨v, D2, hp, rfl, rfl⟩ | ⟨j, E9, n2, hj, hx, rfl, hn, rfl⟩
  · obtain ⟨D0, hD0⟩ : ∃ z, z = y_sl D2 189 0 (y_gi v) := ⟨_, rfl⟩
    rw [← hD0]
    have h170 : D0 170 = D 170 := by
      rw [hD0, y_sl_n (by decide)]
      exact hp.1.1 170 (by decide)
    have zz := (z_whence G (p := (f (i + 1))) (mu := (y_tf (f (i + 2))))).1 v D2 (y_gi v) hp
    rw [← hD0] at zz
    change E (ce + 1) (sl + 6) 2133 [(0, .ref 63), (1, .ref 64), (2, .ref 169), (3, .ref 189), (4, .int (nI i))] [.int 0] (y_mk n L D0)
    refine r_istore (ls2 := [(0, .ref 63), (1, .ref 64), (2, .ref 169), (3, .ref 189), (4, .int (nI i)), (5, .int 0)]) hE dL_law_2133 (by decide) rfl ?_
    refine r_aload_n hE dL_law_2135 rfl ?_
    refine t_arg (k := 1) hE hT dL_law_2136 dL_law_2137 dL_law_2139 dL_law_2140 dL_law_2141 rfl rfl (by decide) (by omega) (by omega) ?_
    refine t_arg (k := 2) hE hT dL_law_2142 dL_law_2143 dL_law_2145 dL_law_2146 dL_law_2147 rfl rfl (by decide) (by omega) (by omega) ?_
    refine t_nz hE dL_law_2148 dL_law_2151 dL_law_2152 dL_law_2155 ?_
    refine t_invvRi (st := []) hE [.int (f (i + 1)), .int (y_tf (f (i + 2)))] (c_whence hL (by rw [h170]; exact g_m_WT G.2.1)) v_yX11_whence m_L_227 dL_law_2156 rfl (hL 169 (by decide)) (y_l_169 (D0 169)) rfl (by decide) ⟨by omega, by omega⟩ (Nat.le_of_ble_eq_true rfl) (fun b D3 hR => ?_)
    have zz := zz _ _ hR
    obtain ⟨hv, h0, hG, h189⟩ := zz
    change E (ce + 1) (sl + 6) 2159 [(0, .ref 63), (1, .ref 64), (2, .ref 169), (3, .ref 189), (4, .int (nI i)), (5, .int 0)] [.int b] (y_mk n L D3)
    refine r_istore (ls2 := [(0, .ref 63), (1, .ref 64), (2, .ref 169), (3, .ref 189), (4, .int (nI i)), (5, .int 0), (6, .int b)]) hE dL_law_2159 (by decide) rfl ?_
    refine t_thr hE hL dL_law_2161 dL_law_2162 dL_law_2165 dL_law_2167 rfl rfl h0 (by decide) ⟨by omega, by omega⟩ ?_
    refine t_oki hE hL dL_law_2172 dL_law_2174 dL_law_2177 dL_law_2178 dL_law_2179 dL_law_2180 dL_law_2182 dL_law_2183 dL_law_2184 rfl rfl rfl (by rw [h189, hD0, ← hv]; rfl) ?_
    refine r_goto (tgt := 2607) hE dL_law_2189 (by decide) ?_
    refine r_locs hE (ls2 := [(0, .ref 63), (1, .ref 64), (2, .ref 169), (3, .ref 189), (4, .int (nI i))]) (fun q hq => by simp only [List.mem_cons, List.not_mem_nil, or_false] at hq; rcases hq with rfl | rfl | rfl | rfl | rfl <;> rfl) ?_
    exact kk n L _ (ce + 1) (sl + 6) hG (by omega) (by omega)
  · have h170 : D 170 = D 170 := rfl
    have zz := (z_whence G (p := (f (i + 1))) (mu := (y_tf (f (i + 2))))).2 j E9 n2 hj hx hn
    change E (ce + 1) (sl + 6) 2133 [(0, .ref 63), (1, .ref 64), (2, .ref 169), (3, .ref 189), (4, .int (nI i))] [.int (nI (j + 1))] (y_mk n2 L D)
    refine r_istore (ls2 := [(0, .ref 63), (1, .ref 64), (2, .ref 169), (3, .ref 189), (4, .int (nI i)), (5, .int (nI (j + 1)))]) hE dL_law_2133 (by decide) rfl ?_
    refine r_aload_n hE dL_law_2135 rfl ?_
    refine t_arg (k := 1) hE hT dL_law_2136 dL_law_2137 dL_law_2139 dL_law_2140 dL_law_2141 rfl rfl (by decide) (by omega) (by omega) ?_
    refine t_arg (k := 2) hE hT dL_law_2142 dL_law_2143 dL_law_2145 dL_law_2146 dL_law_2147 rfl rfl (by decide) (by omega) (by omega) ?_
    refine t_nz hE dL_law_2148 dL_law_2151 dL_law_2152 dL_law_2155 ?_
    refine t_invvRi (st := []) hE [.int (f (i + 1)), .int (y_tf (f (i + 2)))] (c_whence hL (by rw [h170]; exact g_m_WT G.2.1)) v_yX11_whence m_L_227 dL_law_2156 rfl (hL 169 (by decide)) (y_l_169 (D 169)) rfl (by decide) ⟨by omega, by omega⟩ (Nat.le_of_ble_eq_true rfl) (fun b D3 hR => ?_)
    have zz := zz _ _ hR
    obtain ⟨h0, hG⟩ := zz
    change E (ce + 1) (sl + 6) 2159 [(0, .ref 63), (1, .ref 64), (2, .ref 169), (3, .ref 189), (4, .int (nI i)), (5, .int (nI (j + 1)))] [.int b] (y_mk n2 L D3)
    refine r_istore (ls2 := [(0, .ref 63), (1, .ref 64), (2, .ref 169), (3, .ref 189), (4, .int (nI i)), (5, .int (nI (j + 1))), (6, .int b)]) hE dL_law_2159 (by decide) rfl ?_
    refine t_thr hE hL dL_law_2161 dL_law_2162 dL_law_2165 dL_law_2167 rfl rfl h0 (by decide) ⟨by omega, by omega⟩ ?_
    refine t_ex (tgt := 2189) hE dL_law_2172 dL_law_2174 rfl (t_nlt hj (by decide)) (by decide) ?_
    refine r_goto (tgt := 2607) hE dL_law_2189 (by decide) ?_
    refine r_locs hE (ls2 := [(0, .ref 63), (1, .ref 64), (2, .ref 169), (3, .ref 189), (4, .int (nI i))]) (fun q hq => by simp only [List.mem_cons, List.not_mem_nil, or_false] at hq; rcases hq with rfl | rfl | rfl | rfl | rfl <;> rfl) ?_
    exact kk n2 L _ (ce + 1) (sl + 6) hG (by omega) (by omega)
theorem law_knot {V : x_E} (hV : y_V V) (hF : y_fm V) {N i ce sl MC MS n : Nat} {f : Nat → Int32} {L : List Nat} {D : y_D} {E : x_P} (hT : law_S V N f) (hE : x_X V RL cL_law 8 (some .boolean) 40 MC MS "law" (fun r _ => r = some (.int 1)) E) (G : g_G n L D) (hi : i + 6 ≤ N) (hN : N ≤ 3072) (hce : ce + 4 ≤ MC) (hsl : sl + 816 ≤ MS) (kk : ∀ (n2 : Nat) (L2 : List Nat) (D2 : y_D) (ce2 sl2 : Nat), g_G n2 L2 D2 → ce2 ≤ ce + 4 → sl2 ≤ sl + 816 → E ce2 sl2 2607 [(0, .ref 63), (1, .ref 64), (2, .ref 169), (3, .ref 189), (4, .int (nI i))] [] (y_mk n2 L2 D2)) : E ce sl 2192 [(0, .ref 63), (1, .ref 64), (2, .ref 169), (3, .ref 189), (4, .int (nI i))] [] (y_mk n L D) := by
  have hL := G.1.1
  refine r_aload_n hE dL_law_2192 rfl ?_
  refine t_arg (k := 1) hE hT dL_law_2193 dL_law_2194 dL_law_2196 dL_law_2197 dL_law_2198 rfl rfl (by decide) (by omega) (by omega) ?_
  refine t_arg (k := 2) hE hT dL_law_2199 dL_law_2200 dL_law_2202 dL_law_2203 dL_law_2204 rfl rfl (by decide) (by omega) (by omega) ?_
  refine t_arg (k := 3) hE hT dL_law_2205 dL_law_2206 dL_law_2208 dL_law_2209 dL_law_2210 rfl rfl (by decide) (by omega) (by omega) ?_
  refine t_arg (k := 4) hE hT dL_law_2211 dL_law_2212 dL_law_2214 dL_law_2215 dL_law_2216 rfl rfl (by decide) (by omega) (by omega) ?_
  refine r_aload_n hE dL_law_2217 rfl ?_
  have t9 := G.2.1.1.2.2.2.2.2.2.2
  have hw := w_knot (n := n) (D := D) hV hL (f_knot hV hL (t9.1.1.trans t9.2.1.1) t9.1.2.1 t9.2.1.2 (p := (f (i + 1))) (q := (f (i + 2))) (r := (f (i + 3))) (s := (f (i + 4)))) (fun E9 h => by grind)
  refine r_invsW hE (st := []) [.ref 64, .int (f (i + 1)), .int (f (i + 2)), .int (f (i + 3)), .int (f (i + 4)), .ref 189] hw w_YW_knot m_L_228 dL_law_2218 rfl (by decide) ⟨by omega, by omega⟩ (Nat.le_of_ble_eq_true rfl) ⟨rfl, rfl⟩ (fun r9 S9 h9 => ?_)
  rcases h9 with ⟨v, D2, hp, rfl, rfl⟩ | ⟨j, E9, n2, hj, hx, rfl, hn, rfl⟩
  · obtain ⟨D0, hD0⟩ : ∃ z, z = y_sl D2 189 0 (y_gi v) := ⟨_, rfl⟩
    rw [← hD0]
    have h170 : D0 170 = D 170 := by
      rw [hD0, y_sl_n (by decide)]
      rw [hp.2.2.2, y_Tadd_n (by decide) (by decide)]
    have zz := (z_knot G t9.2.1.1 t9.2.1.2 (p := (f (i + 1))) (q := (f (i + 2))) (r := (f (i + 3))) (s := (f (i + 4)))).1 v D2 (y_gi v) hp
    rw [← hD0] at zz
    change E (ce + 3) (sl + 18) 2221 [(0, .ref 63), (1, .ref 64), (2, .ref 169), (3, .ref 189), (4, .int (nI i))] [.int 0] (y_mk n L D0)
    refine r_istore (ls2 := [(0, .ref 63), (1, .ref 64), (2, .ref 169), (3, .ref 189), (4, .int (nI i)), (5, .int 0)]) hE dL_law_2221 (by decide) rfl ?_
    refine r_aload_n hE dL_law_2223 rfl ?_
    refine t_arg (k := 1) hE hT dL_law_2224 dL_law_2225 dL_law_2227 dL_law_2228 dL_law_2229 rfl rfl (by decide) (by omega) (by omega) ?_
    refine t_arg (k := 2) hE hT dL_law_2230 dL_law_2231 dL_law_2233 dL_law_2234 dL_law_2235 rfl rfl (by decide) (by omega) (by omega) ?_
    refine t_arg (k := 3) hE hT dL_law_2236 dL_law_2237 dL_law_2239 dL_law_2240 dL_law_2241 rfl rfl (by decide) (by omega) (by omega) ?_
    refine t_arg (k := 4) hE hT dL_law_2242 dL_law_2243 dL_law_2245 dL_law_2246 dL_law_2247 rfl rfl (by decide) (by omega) (by omega) ?_
    refine t_invv (r := some (.int (M_knot D0 (q_n (D 170).1 9) ((f (i + 1))) ((f (i + 2))) ((f (i + 3))) ((f (i + 4)))).1)) (S2 := y_mk n L (M_knot D0 (q_n (D 170).1 9) ((f (i + 1))) ((f (i + 2))) ((f (i + 3))) ((f (i + 4)))).2) (st := []) hE [.int (f (i + 1)), .int (f (i + 2)), .int (f (i + 3)), .int (f (i + 4))] (c_knot hL (by rw [h170]; exact t9.2.1.1) t9.2.1.2) v_yX11_knot m_L_231 dL_law_2248 rfl (hL 169 (by decide)) (y_l_169 (D0 169)) rfl (by decide) ⟨by omega, by omega⟩ (Nat.le_of_ble_eq_true rfl) ?_
    have zz := zz _ _ ⟨rfl, rfl⟩
    generalize (M_knot D0 (q_n (D 170).1 9) ((f (i + 1))) ((f (i + 2))) ((f (i + 3))) ((f (i + 4)))).2 = D3 at zz ⊢
    generalize (M_knot D0 (q_n (D 170).1 9) ((f (i + 1))) ((f (i + 2))) ((f (i + 3))) ((f (i + 4)))).1 = b at zz ⊢
    obtain ⟨hv, h0, hG, h189⟩ := zz
    change E (ce + 3) (sl + 18) 2251 [(0, .ref 63), (1, .ref 64), (2, .ref 169), (3, .ref 189), (4, .int (nI i)), (5, .int 0)] [.int b] (y_mk n L D3)
    refine r_istore (ls2 := [(0, .ref 63), (1, .ref 64), (2, .ref 169), (3, .ref 189), (4, .int (nI i)), (5, .int 0), (6, .int b)]) hE dL_law_2251 (by decide) rfl ?_
    refine t_thr hE hL dL_law_2253 dL_law_2254 dL_law_2257 dL_law_2259 rfl rfl h0 (by decide) ⟨by omega, by omega⟩ ?_
    refine t_oki hE hL dL_law_2264 dL_law_2266 dL_law_2269 dL_law_2270 dL_law_2271 dL_law_2272 dL_law_2274 dL_law_2275 dL_law_2276 rfl rfl rfl (by rw [h189, hD0, ← hv]; rfl) ?_
    refine r_goto (tgt := 2607) hE dL_law_2281 (by decide) ?_
    refine r_locs hE (ls2 := [(0, .ref 63), (1, .ref 64), (2, .ref 169), (3, .ref 189), (4, .int (nI i))]) (fun q hq => by simp only [List.mem_cons, List.not_mem_nil, or_false] at hq; rcases hq with rfl | rfl | rfl | rfl | rfl <;> rfl) ?_
    exact kk n L _ (ce + 3) (sl + 18) hG (by omega) (by omega)
  · have h170 : D 170 = D 170 := rfl
    have zz := (z_knot G t9.2.1.1 t9.2.1.2 (p := (f (i + 1))) (q := (f (i + 2))) (r := (f (i + 3))) (s := (f (i + 4)))).2 j E9 n2 hj hx hn
    change E (ce + 3) (sl + 18) 2221 [(0, .ref 63), (1, .ref 64), (2, .ref 169), (3, .ref 189), (4, .int (nI i))] [.int (nI (j + 1))] (y_mk n2 L D)
    refine r_istore (ls2 := [(0, .ref 63), (1, .ref 64), (2, .ref 169), (3, .ref 189), (4, .int (nI i)), (5, .int (nI (j + 1)))]) hE dL_law_2221 (by decide) rfl ?_
    refine r_aload_n hE dL_law_2223 rfl ?_
    refine t_arg (k := 1) hE hT dL_law_2224 dL_law_2225 dL_law_2227 dL_law_2228 dL_law_2229 rfl rfl (by decide) (by omega) (by omega) ?_
    refine t_arg (k := 2) hE hT dL_law_2230 dL_law_2231 dL_law_2233 dL_law_2234 dL_law_2235 rfl rfl (by decide) (by omega) (by omega) ?_
    refine t_arg (k := 3) hE hT dL_law_2236 dL_law_2237 dL_law_2239 dL_law_2240 dL_law_2241 rfl rfl (by decide) (by omega) (by omega) ?_
    refine t_arg (k := 4) hE hT dL_law_2242 dL_law_2243 dL_law_2245 dL_law_2246 dL_law_2247 rfl rfl (by decide) (by omega) (by omega) ?_
    refine t_invv (r := some (.int (M_knot D (q_n (D 170).1 9) ((f (i + 1))) ((f (i + 2))) ((f (i + 3))) ((f (i + 4)))).1)) (S2 := y_mk n2 L (M_knot D (q_n (D 170).1 9) ((f (i + 1))) ((f (i + 2))) ((f (i + 3))) ((f (i + 4)))).2) (st := []) hE [.int (f (i + 1)), .int (f (i + 2)), .int (f (i + 3)), .int (f (i + 4))] (c_knot hL (by rw [h170]; exact t9.2.1.1) t9.2.1.2) v_yX11_knot m_L_231 dL_law_2248 rfl (hL 169 (by decide)) (y_l_169 (D 169)) rfl (by decide) ⟨by omega, by omega⟩ (Nat.le_of_ble_eq_true rfl) ?_
    have zz := zz _ _ ⟨rfl, rfl⟩
    generalize (M_knot D (q_n (D 170).1 9) ((f (i + 1))) ((f (i + 2))) ((f (i + 3))) ((f (i + 4)))).2 = D3 at zz ⊢
    generalize (M_knot D (q_n (D 170).1 9) ((f (i + 1))) ((f (i + 2))) ((f (i + 3))) ((f (i + 4)))).1 = b at zz ⊢
    obtain ⟨h0, hG⟩ := zz
    change E (ce + 3) (sl + 18) 2251 [(0, .ref 63), (1, .ref 64), (2, .ref 169), (3, .ref 189), (4, .int (nI i)), (5, .int (nI (j + 1)))] [.int b] (y_mk n2 L D3)
    refine r_istore (ls2 := [(0, .ref 63), (1, .ref 64), (2, .ref 169), (3, .ref 189), (4, .int (nI i)), (5, .int (nI (j + 1))), (6, .int b)]) hE dL_law_2251 (by decide) rfl ?_
    refine t_thr hE hL dL_law_2253 dL_law_2254 dL_law_2257 dL_law_2259 rfl rfl h0 (by decide) ⟨by omega, by omega⟩ ?_
    refine t_ex (tgt := 2281) hE dL_law_2264 dL_law_2266 rfl (t_nlt hj (by decide)) (by decide) ?_
    refine r_goto (tgt := 2607) hE dL_law_2281 (by decide) ?_
    refine r_locs hE (ls2 := [(0, .ref 63), (1, .ref 64), (2, .ref 169), (3, .ref 189), (4, .int (nI i))]) (fun q hq => by simp only [List.mem_cons, List.not_mem_nil, or_false] at hq; rcases hq with rfl | rfl | rfl | rfl | rfl <;> rfl) ?_
    exact kk n2 L _ (ce + 3) (sl + 18) hG (by omega) (by omega)
theorem law_rope {V : x_E} (hV : y_V V) (hF : y_fm V) {N i ce sl MC MS n : Nat} {f : Nat → Int32} {L : List Nat} {D : y_D} {E : x_P} (hT : law_S V N f) (hE : x_X V RL cL_law 8 (some .boolean) 40 MC MS "law" (fun r _ => r = some (.int 1)) E) (G : g_G n L D) (hi : i + 6 ≤ N) (hN : N ≤ 3072) (hce : ce + 4 ≤ MC) (hsl : sl + 816 ≤ MS) (kk : ∀ (n2 : Nat) (L2 : List Nat) (D2 : y_D) (ce2 sl2 : Nat), g_G n2 L2 D2 → ce2 ≤ ce + 4 → sl2 ≤ sl + 816 → E ce2 sl2 2607 [(0, .ref 63), (1, .ref 64), (2, .ref 169), (3, .ref 189), (4, .int (nI i))] [] (y_mk n2 L2 D2)) : E ce sl 2284 [(0, .ref 63), (1, .ref 64), (2, .ref 169), (3, .ref 189), (4, .int (nI i))] [] (y_mk n L D) := by
  have hL := G.1.1
  refine r_aload_n hE dL_law_2284 rfl ?_
  refine t_arg (k := 1) hE hT dL_law_2285 dL_law_2286 dL_law_2288 dL_law_2289 dL_law_2290 rfl rfl (by decide) (by omega) (by omega) ?_
  have hw := w_rope (n := n) (D := D) hV hL (f_rope hV hL (p := (f (i + 1)))) (fun E9 h => by grind)
  refine r_invsW hE (st := []) [.ref 64, .int (f (i + 1))] hw w_YW_rope m_L_232 dL_law_2291 rfl (by decide) ⟨by omega, by omega⟩ (Nat.le_of_ble_eq_true rfl) ⟨rfl, rfl⟩ (fun r9 S9 h9 => ?_)
  rcases h9 with ⟨D2, hp, rfl, rfl⟩ | ⟨j, E9, n2, hj, hx, rfl, hn, rfl⟩
  · obtain ⟨D0, hD0⟩ : ∃ z, z = D2 := ⟨_, rfl⟩
    rw [← hD0] at hp ⊢
    have h170 : D0 170 = D 170 := by rw [hp.2]; exact y_si_n (by decide)
    have zz := (z_rope G (p := (f (i + 1)))).1 D0 hp
    change E (ce + 1) (sl + 6) 2294 [(0, .ref 63), (1, .ref 64), (2, .ref 169), (3, .ref 189), (4, .int (nI i))] [.int 0] (y_mk n L D0)
    refine r_istore (ls2 := [(0, .ref 63), (1, .ref 64), (2, .ref 169), (3, .ref 189), (4, .int (nI i)), (5, .int 0)]) hE dL_law_2294 (by decide) rfl ?_
    refine r_aload_n hE dL_law_2296 rfl ?_
    refine t_arg (k := 1) hE hT dL_law_2297 dL_law_2298 dL_law_2300 dL_law_2301 dL_law_2302 rfl rfl (by decide) (by omega) (by omega) ?_
    refine t_invv (r := none) (S2 := y_mk n L (M_rope D0 ((f (i + 1))))) (st := []) hE [.int (f (i + 1))] (c_rope hL) v_yX11_rope m_L_234 dL_law_2303 rfl (hL 169 (by decide)) (y_l_169 (D0 169)) rfl (by decide) ⟨by omega, by omega⟩ (Nat.le_of_ble_eq_true rfl) ?_
    have zz := zz _ rfl
    generalize M_rope D0 ((f (i + 1))) = D3 at zz ⊢
    obtain ⟨h0, hG, h189⟩ := zz
    change E (ce + 1) (sl + 6) 2306 [(0, .ref 63), (1, .ref 64), (2, .ref 169), (3, .ref 189), (4, .int (nI i)), (5, .int 0)] [] (y_mk n L D3)
    refine t_thr hE hL dL_law_2306 dL_law_2307 dL_law_2310 dL_law_2312 rfl rfl h0 (by decide) ⟨by omega, by omega⟩ ?_
    refine r_goto (tgt := 2607) hE dL_law_2317 (by decide) ?_
    refine r_locs hE (ls2 := [(0, .ref 63), (1, .ref 64), (2, .ref 169), (3, .ref 189), (4, .int (nI i))]) (fun q hq => by simp only [List.mem_cons, List.not_mem_nil, or_false] at hq; rcases hq with rfl | rfl | rfl | rfl | rfl <;> rfl) ?_
    exact kk n L _ (ce + 1) (sl + 6) hG (by omega) (by omega)
  · have h170 : D 170 = D 170 := rfl
    have zz := (z_rope G (p := (f (i + 1)))).2 j E9 n2 hj hx hn
    change E (ce + 1) (sl + 6) 2294 [(0, .ref 63), (1, .ref 64), (2, .ref 169), (3, .ref 189), (4, .int (nI i))] [.int (nI (j + 1))] (y_mk n2 L D)
    refine r_istore (ls2 := [(0, .ref 63), (1, .ref 64), (2, .ref 169), (3, .ref 189), (4, .int (nI i)), (5, .int (nI (j + 1)))]) hE dL_law_2294 (by decide) rfl ?_
    refine r_aload_n hE dL_law_2296 rfl ?_
    refine t_arg (k := 1) hE hT dL_law_2297 dL_law_2298 dL_law_2300 dL_law_2301 dL_law_2302 rfl rfl (by decide) (by omega) (by omega) ?_
    refine t_invv (r := none) (S2 := y_mk n2 L (M_rope D ((f (i + 1))))) (st := []) hE [.int (f (i + 1))] (c_rope hL) v_yX11_rope m_L_234 dL_law_2303 rfl (hL 169 (by decide)) (y_l_169 (D 169)) rfl (by decide) ⟨by omega, by omega⟩ (Nat.le_of_ble_eq_true rfl) ?_
    have zz := zz _ rfl
    generalize M_rope D ((f (i + 1))) = D3 at zz ⊢
    obtain ⟨h0, hG⟩ := zz
    change E (ce + 1) (sl + 6) 2306 [(0, .ref 63), (1, .ref 64), (2, .ref 169), (3, .ref 189), (4, .int (nI i)), (5, .int (nI (j + 1)))] [] (y_mk n2 L D3)
    refine t_thr hE hL dL_law_2306 dL_law_2307 dL_law_2310 dL_law_2312 rfl rfl h0 (by decide) ⟨by omega, by omega⟩ ?_
    refine r_goto (tgt := 2607) hE dL_law_2317 (by decide) ?_
    refine r_locs hE (ls2 := [(0, .ref 63), (1, .ref 64), (2, .ref 169), (3, .ref 189), (4, .int (nI i))]) (fun q hq => by simp only [List.mem_cons, List.not_mem_nil, or_false] at hq; rcases hq with rfl | rfl | rfl | rfl | rfl <;> rfl) ?_
    exact kk n2 L _ (ce + 1) (sl + 6) hG (by omega) (by omega)
theorem law_out {V : x_E} (hV : y_V V) (hF : y_fm V) {N i ce sl MC MS n : Nat} {f : Nat → Int32} {L : List Nat} {D : y_D} {E : x_P} (hT : law_S V N f) (hE : x_X V RL cL_law 8 (some .boolean) 40 MC MS "law" (fun r _ => r = some (.int 1)) E) (G : g_G n L D) (hi : i + 6 ≤ N) (hN : N ≤ 3072) (hce : ce + 4 ≤ MC) (hsl : sl + 816 ≤ MS) (kk : ∀ (n2 : Nat) (L2 : List Nat) (D2 : y_D) (ce2 sl2 : Nat), g_G n2 L2 D2 → ce2 ≤ ce + 4 → sl2 ≤ sl + 816 → E ce2 sl2 2607 [(0, .ref 63), (1, .ref 64), (2, .ref 169), (3, .ref 189), (4, .int (nI i))] [] (y_mk n2 L2 D2)) : E ce sl 2320 [(0, .ref 63), (1, .ref 64), (2, .ref 169), (3, .ref 189), (4, .int (nI i))] [] (y_mk n L D) := by
  have hL := G.1.1
  refine r_aload_n hE dL_law_2320 rfl ?_
  refine t_arg (k := 1) hE hT dL_law_2321 dL_law_2322 dL_law_2324 dL_law_2325 dL_law_2326 rfl rfl (by decide) (by omega) (by omega) ?_
  refine t_arg (k := 2) hE hT dL_law_2327 dL_law_2328 dL_law_2330 dL_law_2331 dL_law_2332 rfl rfl (by decide) (by omega) (by omega) ?_
  refine t_nz hE dL_law_2333 dL_law_2336 dL_law_2337 dL_law_2340 ?_
  obtain ⟨st, hst, est⟩ := g_st G (u := (f (i + 1)))
  refine t_invvRi (st := []) hE [.int (f (i + 1)), .int (y_tf (f (i + 2)))] (k_out hV hL (g_k_BK G.2.1) hst est) v_yX10_out m_L_235 dL_law_2341 rfl (hL 64 (by decide)) (y_l_64 (D 64)) rfl (by decide) ⟨by omega, by omega⟩ (Nat.le_of_ble_eq_true rfl) (fun v D1 hP => ?_)
  refine r_aload_n hE dL_law_2344 rfl ?_
  refine t_arg (k := 1) hE hT dL_law_2345 dL_law_2346 dL_law_2348 dL_law_2349 dL_law_2350 rfl rfl (by decide) (by omega) (by omega) ?_
  refine t_arg (k := 2) hE hT dL_law_2351 dL_law_2352 dL_law_2354 dL_law_2355 dL_law_2356 rfl rfl (by decide) (by omega) (by omega) ?_
  refine t_nz hE dL_law_2357 dL_law_2360 dL_law_2361 dL_law_2364 ?_
  have h170 : D1 170 = D 170 := hP.1.1 170 (by decide)
  refine t_invvRi (st := [.int v]) hE [.int (f (i + 1)), .int (y_tf (f (i + 2)))] (c_out hL (by rw [h170]; exact g_m_WK G.2.1)) v_yX11_out m_L_238 dL_law_2365 rfl (hL 169 (by decide)) (y_l_169 (D1 169)) rfl (by decide) ⟨by omega, by omega⟩ (Nat.le_of_ble_eq_true rfl) (fun b D3 hR => ?_)
  obtain ⟨hv, hG⟩ := z_rout G est hst hP hR
  refine r_icmp_eq (tgt := 2607) hE dL_law_2368 (by decide) (fun _ => ?_) (fun c9 => absurd hv c9)
  refine r_locs hE (ls2 := [(0, .ref 63), (1, .ref 64), (2, .ref 169), (3, .ref 189), (4, .int (nI i))]) (fun q hq => by simp only [List.mem_cons, List.not_mem_nil, or_false] at hq; rcases hq with rfl | rfl | rfl | rfl | rfl <;> rfl) ?_
  exact kk n L _ ce sl hG (by omega) (by omega)
theorem law_first {V : x_E} (hV : y_V V) (hF : y_fm V) {N i ce sl MC MS n : Nat} {f : Nat → Int32} {L : List Nat} {D : y_D} {E : x_P} (hT : law_S V N f) (hE : x_X V RL cL_law 8 (some .boolean) 40 MC MS "law" (fun r _ => r = some (.int 1)) E) (G : g_G n L D) (hi : i + 6 ≤ N) (hN : N ≤ 3072) (hce : ce + 4 ≤ MC) (hsl : sl + 816 ≤ MS) (kk : ∀ (n2 : Nat) (L2 : List Nat) (D2 : y_D) (ce2 sl2 : Nat), g_G n2 L2 D2 → ce2 ≤ ce + 4 → sl2 ≤ sl + 816 → E ce2 sl2 2607 [(0, .ref 63), (1, .ref 64), (2, .ref 169), (3, .ref 189), (4, .int (nI i))] [] (y_mk n2 L2 D2)) : E ce sl 2373 [(0, .ref 63), (1, .ref 64), (2, .ref 169), (3, .ref 189), (4, .int (nI i))] [] (y_mk n L D) := by
  have hL := G.1.1
  refine r_aload_n hE dL_law_2373 rfl ?_
  refine t_arg (k := 1) hE hT dL_law_2374 dL_law_2375 dL_law_2377 dL_law_2378 dL_law_2379 rfl rfl (by decide) (by omega) (by omega) ?_
  obtain ⟨st, hst, est⟩ := g_st G (u := (f (i + 1)))
  refine t_invvRi (st := []) hE [.int (f (i + 1))] (k_first hV hL (g_k_BK G.2.1) hst est) v_yX10_first m_L_239 dL_law_2380 rfl (hL 64 (by decide)) (y_l_64 (D 64)) rfl (by decide) ⟨by omega, by omega⟩ (Nat.le_of_ble_eq_true rfl) (fun v D1 hP => ?_)
  refine r_aload_n hE dL_law_2383 rfl ?_
  refine t_arg (k := 1) hE hT dL_law_2384 dL_law_2385 dL_law_2387 dL_law_2388 dL_law_2389 rfl rfl (by decide) (by omega) (by omega) ?_
  have h170 : D1 170 = D 170 := hP.1.1 170 (by decide)
  refine t_invvRi (st := [.int v]) hE [.int (f (i + 1))] (c_first hL (by rw [h170]; exact g_m_WK G.2.1)) v_yX11_first m_L_242 dL_law_2390 rfl (hL 169 (by decide)) (y_l_169 (D1 169)) rfl (by decide) ⟨by omega, by omega⟩ (Nat.le_of_ble_eq_true rfl) (fun b D3 hR => ?_)
  obtain ⟨hv, hG⟩ := z_rfirst G est hst hP hR
  refine r_icmp_eq (tgt := 2607) hE dL_law_2393 (by decide) (fun _ => ?_) (fun c9 => absurd hv c9)
  refine r_locs hE (ls2 := [(0, .ref 63), (1, .ref 64), (2, .ref 169), (3, .ref 189), (4, .int (nI i))]) (fun q hq => by simp only [List.mem_cons, List.not_mem_nil, or_false] at hq; rcases hq with rfl | rfl | rfl | rfl | rfl <;> rfl) ?_
  exact kk n L _ ce sl hG (by omega) (by omega)
theorem law_tale {V : x_E} (hV : y_V V) (hF : y_fm V) {N i ce sl MC MS n : Nat} {f : Nat → Int32} {L : List Nat} {D : y_D} {E : x_P} (hT : law_S V N f) (hE : x_X V RL cL_law 8 (some .boolean) 40 MC MS "law" (fun r _ => r = some (.int 1)) E) (G : g_G n L D) (hi : i + 6 ≤ N) (hN : N ≤ 3072) (hce : ce + 4 ≤ MC) (hsl : sl + 816 ≤ MS) (kk : ∀ (n2 : Nat) (L2 : List Nat) (D2 : y_D) (ce2 sl2 : Nat), g_G n2 L2 D2 → ce2 ≤ ce + 4 → sl2 ≤ sl + 816 → E ce2 sl2 2607 [(0, .ref 63), (1, .ref 64), (2, .ref 169), (3, .ref 189), (4, .int (nI i))] [] (y_mk n2 L2 D2)) : E ce sl 2398 [(0, .ref 63), (1, .ref 64), (2, .ref 169), (3, .ref 189), (4, .int (nI i))] [] (y_mk n L D) := by
  have hL := G.1.1
  refine r_aload_n hE dL_law_2398 rfl ?_
  refine t_arg (k := 1) hE hT dL_law_2399 dL_law_2400 dL_law_2402 dL_law_2403 dL_law_2404 rfl rfl (by decide) (by omega) (by omega) ?_
  refine t_arg (k := 2) hE hT dL_law_2405 dL_law_2406 dL_law_2408 dL_law_2409 dL_law_2410 rfl rfl (by decide) (by omega) (by omega) ?_
  refine t_arg (k := 3) hE hT dL_law_2411 dL_law_2412 dL_law_2414 dL_law_2415 dL_law_2416 rfl rfl (by decide) (by omega) (by omega) ?_
  refine r_aload_n hE dL_law_2417 rfl ?_
  have hw := w_tale (n := n) (D := D) hV hL (f_tale hV hL (p := (f (i + 1))) (q := (f (i + 2))) (r := (f (i + 3)))) (fun E9 h => by grind)
  refine r_invsW hE (st := []) [.ref 64, .int (f (i + 1)), .int (f (i + 2)), .int (f (i + 3)), .ref 189] hw w_YW_tale m_L_243 dL_law_2418 rfl (by decide) ⟨by omega, by omega⟩ (Nat.le_of_ble_eq_true rfl) ⟨rfl, rfl⟩ (fun r9 S9 h9 => ?_)
  rcases h9 with ⟨v, D2, hp, rfl, rfl⟩ | ⟨j, E9, n2, hj, hx, rfl, hn, rfl⟩
  · obtain ⟨D0, hD0⟩ : ∃ z, z = y_sl D2 189 0 (y_gi v) := ⟨_, rfl⟩
    rw [← hD0]
    have h170 : D0 170 = D 170 := by
      rw [hD0, y_sl_n (by decide)]
      rw [hp.2.2]
    have zz := (z_tale G (p := (f (i + 1))) (q := (f (i + 2))) (r := (f (i + 3)))).1 v D2 (y_gi v) hp
    rw [← hD0] at zz
    change E (ce + 1) (sl + 6) 2421 [(0, .ref 63), (1, .ref 64), (2, .ref 169), (3, .ref 189), (4, .int (nI i))] [.int 0] (y_mk n L D0)
    refine r_istore (ls2 := [(0, .ref 63), (1, .ref 64), (2, .ref 169), (3, .ref 189), (4, .int (nI i)), (5, .int 0)]) hE dL_law_2421 (by decide) rfl ?_
    refine r_aload_n hE dL_law_2423 rfl ?_
    refine t_arg (k := 1) hE hT dL_law_2424 dL_law_2425 dL_law_2427 dL_law_2428 dL_law_2429 rfl rfl (by decide) (by omega) (by omega) ?_
    refine t_arg (k := 2) hE hT dL_law_2430 dL_law_2431 dL_law_2433 dL_law_2434 dL_law_2435 rfl rfl (by decide) (by omega) (by omega) ?_
    refine t_arg (k := 3) hE hT dL_law_2436 dL_law_2437 dL_law_2439 dL_law_2440 dL_law_2441 rfl rfl (by decide) (by omega) (by omega) ?_
    refine t_invv (r := some (.int (M_tale D0 ((f (i + 1))) ((f (i + 2))) ((f (i + 3)))).1)) (S2 := y_mk n L (M_tale D0 ((f (i + 1))) ((f (i + 2))) ((f (i + 3)))).2) (st := []) hE [.int (f (i + 1)), .int (f (i + 2)), .int (f (i + 3))] (c_tale hL) v_yX11_tale m_L_245 dL_law_2442 rfl (hL 169 (by decide)) (y_l_169 (D0 169)) rfl (by decide) ⟨by omega, by omega⟩ (Nat.le_of_ble_eq_true rfl) ?_
    have zz := zz _ _ ⟨rfl, rfl⟩
    generalize (M_tale D0 ((f (i + 1))) ((f (i + 2))) ((f (i + 3)))).2 = D3 at zz ⊢
    generalize (M_tale D0 ((f (i + 1))) ((f (i + 2))) ((f (i + 3)))).1 = b at zz ⊢
    obtain ⟨hv, h0, hG, h189⟩ := zz
    change E (ce + 1) (sl + 6) 2445 [(0, .ref 63), (1, .ref 64), (2, .ref 169), (3, .ref 189), (4, .int (nI i)), (5, .int 0)] [.int b] (y_mk n L D3)
    refine r_istore (ls2 := [(0, .ref 63), (1, .ref 64), (2, .ref 169), (3, .ref 189), (4, .int (nI i)), (5, .int 0), (6, .int b)]) hE dL_law_2445 (by decide) rfl ?_
    refine t_thr hE hL dL_law_2447 dL_law_2448 dL_law_2451 dL_law_2453 rfl rfl h0 (by decide) ⟨by omega, by omega⟩ ?_
    refine t_oki hE hL dL_law_2458 dL_law_2460 dL_law_2463 dL_law_2464 dL_law_2465 dL_law_2466 dL_law_2468 dL_law_2469 dL_law_2470 rfl rfl rfl (by rw [h189, hD0, ← hv]; rfl) ?_
    refine r_goto (tgt := 2607) hE dL_law_2475 (by decide) ?_
    refine r_locs hE (ls2 := [(0, .ref 63), (1, .ref 64), (2, .ref 169), (3, .ref 189), (4, .int (nI i))]) (fun q hq => by simp only [List.mem_cons, List.not_mem_nil, or_false] at hq; rcases hq with rfl | rfl | rfl | rfl | rfl <;> rfl) ?_
    exact kk n L _ (ce + 1) (sl + 6) hG (by omega) (by omega)
  · have h170 : D 170 = D 170 := rfl
    have zz := (z_tale G (p := (f (i + 1))) (q := (f (i + 2))) (r := (f (i + 3)))).2 j E9 n2 hj hx hn
    change E (ce + 1) (sl + 6) 2421 [(0, .ref 63), (1, .ref 64), (2, .ref 169), (3, .ref 189), (4, .int (nI i))] [.int (nI (j + 1))] (y_mk n2 L D)
    refine r_istore (ls2 := [(0, .ref 63), (1, .ref 64), (2, .ref 169), (3, .ref 189), (4, .int (nI i)), (5, .int (nI (j + 1)))]) hE dL_law_2421 (by decide) rfl ?_
    refine r_aload_n hE dL_law_2423 rfl ?_
    refine t_arg (k := 1) hE hT dL_law_2424 dL_law_2425 dL_law_2427 dL_law_2428 dL_law_2429 rfl rfl (by decide) (by omega) (by omega) ?_
    refine t_arg (k := 2) hE hT dL_law_2430 dL_law_2431 dL_law_2433 dL_law_2434 dL_law_2435 rfl rfl (by decide) (by omega) (by omega) ?_
    refine t_arg (k := 3) hE hT dL_law_2436 dL_law_2437 dL_law_2439 dL_law_2440 dL_law_2441 rfl rfl (by decide) (by omega) (by omega) ?_
    refine t_invv (r := some (.int (M_tale D ((f (i + 1))) ((f (i + 2))) ((f (i + 3)))).1)) (S2 := y_mk n2 L (M_tale D ((f (i + 1))) ((f (i + 2))) ((f (i + 3)))).2) (st := []) hE [.int (f (i + 1)), .int (f (i + 2)), .int (f (i + 3))] (c_tale hL) v_yX11_tale m_L_245 dL_law_2442 rfl (hL 169 (by decide)) (y_l_169 (D 169)) rfl (by decide) ⟨by omega, by omega⟩ (Nat.le_of_ble_eq_true rfl) ?_
    have zz := zz _ _ ⟨rfl, rfl⟩
    generalize (M_tale D ((f (i + 1))) ((f (i + 2))) ((f (i + 3)))).2 = D3 at zz ⊢
    generalize (M_tale D ((f (i + 1))) ((f (i + 2))) ((f (i + 3)))).1 = b at zz ⊢
    obtain ⟨h0, hG⟩ := zz
    change E (ce + 1) (sl + 6) 2445 [(0, .ref 63), (1, .ref 64), (2, .ref 169), (3, .ref 189), (4, .int (nI i)), (5, .int (nI (j + 1)))] [.int b] (y_mk n2 L D3)
    refine r_istore (ls2 := [(0, .ref 63), (1, .ref 64), (2, .ref 169), (3, .ref 189), (4, .int (nI i)), (5, .int (nI (j + 1))), (6, .int b)]) hE dL_law_2445 (by decide) rfl ?_
    refine t_thr hE hL dL_law_2447 dL_law_2448 dL_law_2451 dL_law_2453 rfl rfl h0 (by decide) ⟨by omega, by omega⟩ ?_
    refine t_ex (tgt := 2475) hE dL_law_2458 dL_law_2460 rfl (t_nlt hj (by decide)) (by decide) ?_
    refine r_goto (tgt := 2607) hE dL_law_2475 (by decide) ?_
    refine r_locs hE (ls2 := [(0, .ref 63), (1, .ref 64), (2, .ref 169), (3, .ref 189), (4, .int (nI i))]) (fun q hq => by simp only [List.mem_cons, List.not_mem_nil, or_false] at hq; rcases hq with rfl | rfl | rfl | rfl | rfl <;> rfl) ?_
    exact kk n2 L _ (ce + 1) (sl + 6) hG (by omega) (by omega)
theorem law_cold {V : x_E} (hV : y_V V) (hF : y_fm V) {N i ce sl MC MS n : Nat} {f : Nat → Int32} {L : List Nat} {D : y_D} {E : x_P} (hT : law_S V N f) (hE : x_X V RL cL_law 8 (some .boolean) 40 MC MS "law" (fun r _ => r = some (.int 1)) E) (G : g_G n L D) (hi : i + 6 ≤ N) (hN : N ≤ 3072) (hce : ce + 4 ≤ MC) (hsl : sl + 816 ≤ MS) (kk : ∀ (n2 : Nat) (L2 : List Nat) (D2 : y_D) (ce2 sl2 : Nat), g_G n2 L2 D2 → ce2 ≤ ce + 4 → sl2 ≤ sl + 816 → E ce2 sl2 2607 [(0, .ref 63), (1, .ref 64), (2, .ref 169), (3, .ref 189), (4, .int (nI i))] [] (y_mk n2 L2 D2)) : E ce sl 2478 [(0, .ref 63), (1, .ref 64), (2, .ref 169), (3, .ref 189), (4, .int (nI i))] [] (y_mk n L D) := by
  have hL := G.1.1
  refine r_aload_n hE dL_law_2478 rfl ?_
  refine t_arg (k := 1) hE hT dL_law_2479 dL_law_2480 dL_law_2482 dL_law_2483 dL_law_2484 rfl rfl (by decide) (by omega) (by omega) ?_
  refine t_arg (k := 2) hE hT dL_law_2485 dL_law_2486 dL_law_2488 dL_law_2489 dL_law_2490 rfl rfl (by decide) (by omega) (by omega) ?_
  refine t_arg (k := 3) hE hT dL_law_2491 dL_law_2492 dL_law_2494 dL_law_2495 dL_law_2496 rfl rfl (by decide) (by omega) (by omega) ?_
  refine r_aload_n hE dL_law_2497 rfl ?_
  have hw := w_cold (n := n) (D := D) hV hL (f_cold hV hL (p := (f (i + 1))) (q := (f (i + 2))) (r := (f (i + 3)))) (fun E9 h => by grind)
  refine r_invsW hE (st := []) [.ref 64, .int (f (i + 1)), .int (f (i + 2)), .int (f (i + 3)), .ref 189] hw w_YW_cold m_L_246 dL_law_2498 rfl (by decide) ⟨by omega, by omega⟩ (Nat.le_of_ble_eq_true rfl) ⟨rfl, rfl⟩ (fun r9 S9 h9 => ?_)
  rcases h9 with ⟨v, D2, hp, rfl, rfl⟩ | ⟨j, E9, n2, hj, hx, rfl, hn, rfl⟩
  · obtain ⟨D0, hD0⟩ : ∃ z, z = y_sl D2 189 0 (y_gi v) := ⟨_, rfl⟩
    rw [← hD0]
    have h170 : D0 170 = D 170 := by
      rw [hD0, y_sl_n (by decide)]
      rw [hp.2.2]
    have zz := (z_cold G (p := (f (i + 1))) (q := (f (i + 2))) (r := (f (i + 3)))).1 v D2 (y_gi v) hp
    rw [← hD0] at zz
    change E (ce + 1) (sl + 6) 2501 [(0, .ref 63), (1, .ref 64), (2, .ref 169), (3, .ref 189), (4, .int (nI i))] [.int 0] (y_mk n L D0)
    refine r_istore (ls2 := [(0, .ref 63), (1, .ref 64), (2, .ref 169), (3, .ref 189), (4, .int (nI i)), (5, .int 0)]) hE dL_law_2501 (by decide) rfl ?_
    refine r_aload_n hE dL_law_2503 rfl ?_
    refine t_arg (k := 1) hE hT dL_law_2504 dL_law_2505 dL_law_2507 dL_law_2508 dL_law_2509 rfl rfl (by decide) (by omega) (by omega) ?_
    refine t_arg (k := 2) hE hT dL_law_2510 dL_law_2511 dL_law_2513 dL_law_2514 dL_law_2515 rfl rfl (by decide) (by omega) (by omega) ?_
    refine t_arg (k := 3) hE hT dL_law_2516 dL_law_2517 dL_law_2519 dL_law_2520 dL_law_2521 rfl rfl (by decide) (by omega) (by omega) ?_
    refine t_invv (r := some (.int (M_cold D0 ((f (i + 1))) ((f (i + 2))) ((f (i + 3)))).1)) (S2 := y_mk n L (M_cold D0 ((f (i + 1))) ((f (i + 2))) ((f (i + 3)))).2) (st := []) hE [.int (f (i + 1)), .int (f (i + 2)), .int (f (i + 3))] (c_cold hL) v_yX11_cold m_L_248 dL_law_2522 rfl (hL 169 (by decide)) (y_l_169 (D0 169)) rfl (by decide) ⟨by omega, by omega⟩ (Nat.le_of_ble_eq_true rfl) ?_
    have zz := zz _ _ ⟨rfl, rfl⟩
    generalize (M_cold D0 ((f (i + 1))) ((f (i + 2))) ((f (i + 3)))).2 = D3 at zz ⊢
    generalize (M_cold D0 ((f (i + 1))) ((f (i + 2))) ((f (i + 3)))).1 = b at zz ⊢
    obtain ⟨hv, h0, hG, h189⟩ := zz
    change E (ce + 1) (sl + 6) 2525 [(0, .ref 63), (1, .ref 64), (2, .ref 169), (3, .ref 189), (4, .int (nI i)), (5, .int 0)] [.int b] (y_mk n L D3)
    refine r_istore (ls2 := [(0, .ref 63), (1, .ref 64), (2, .ref 169), (3, .ref 189), (4, .int (nI i)), (5, .int 0), (6, .int b)]) hE dL_law_2525 (by decide) rfl ?_
    refine t_thr hE hL dL_law_2527 dL_law_2528 dL_law_2531 dL_law_2533 rfl rfl h0 (by decide) ⟨by omega, by omega⟩ ?_
    refine t_oki hE hL dL_law_2538 dL_law_2540 dL_law_2543 dL_law_2544 dL_law_2545 dL_law_2546 dL_law_2548 dL_law_2549 dL_law_2550 rfl rfl rfl (by rw [h189, hD0, ← hv]; rfl) ?_
    refine r_goto (tgt := 2607) hE dL_law_2555 (by decide) ?_
    refine r_locs hE (ls2 := [(0, .ref 63), (1, .ref 64), (2, .ref 169), (3, .ref 189), (4, .int (nI i))]) (fun q hq => by simp only [List.mem_cons, List.not_mem_nil, or_false] at hq; rcases hq with rfl | rfl | rfl | rfl | rfl <;> rfl) ?_
    exact kk n L _ (ce + 1) (sl + 6) hG (by omega) (by omega)
  · have h170 : D 170 = D 170 := rfl
    have zz := (z_cold G (p := (f (i + 1))) (q := (f (i + 2))) (r := (f (i + 3)))).2 j E9 n2 hj hx hn
    change E (ce + 1) (sl + 6) 2501 [(0, .ref 63), (1, .ref 64), (2, .ref 169), (3, .ref 189), (4, .int (nI i))] [.int (nI (j + 1))] (y_mk n2 L D)
    refine r_istore (ls2 := [(0, .ref 63), (1, .ref 64), (2, .ref 169), (3, .ref 189), (4, .int (nI i)), (5, .int (nI (j + 1)))]) hE dL_law_2501 (by decide) rfl ?_
    refine r_aload_n hE dL_law_2503 rfl ?_
    refine t_arg (k := 1) hE hT dL_law_2504 dL_law_2505 dL_law_2507 dL_law_2508 dL_law_2509 rfl rfl (by decide) (by omega) (by omega) ?_
    refine t_arg (k := 2) hE hT dL_law_2510 dL_law_2511 dL_law_2513 dL_law_2514 dL_law_2515 rfl rfl (by decide) (by omega) (by omega) ?_
    refine t_arg (k := 3) hE hT dL_law_2516 dL_law_2517 dL_law_2519 dL_law_2520 dL_law_2521 rfl rfl (by decide) (by omega) (by omega) ?_
    refine t_invv (r := some (.int (M_cold D ((f (i + 1))) ((f (i + 2))) ((f (i + 3)))).1)) (S2 := y_mk n2 L (M_cold D ((f (i + 1))) ((f (i + 2))) ((f (i + 3)))).2) (st := []) hE [.int (f (i + 1)), .int (f (i + 2)), .int (f (i + 3))] (c_cold hL) v_yX11_cold m_L_248 dL_law_2522 rfl (hL 169 (by decide)) (y_l_169 (D 169)) rfl (by decide) ⟨by omega, by omega⟩ (Nat.le_of_ble_eq_true rfl) ?_
    have zz := zz _ _ ⟨rfl, rfl⟩
    generalize (M_cold D ((f (i + 1))) ((f (i + 2))) ((f (i + 3)))).2 = D3 at zz ⊢
    generalize (M_cold D ((f (i + 1))) ((f (i + 2))) ((f (i + 3)))).1 = b at zz ⊢
    obtain ⟨h0, hG⟩ := zz
    change E (ce + 1) (sl + 6) 2525 [(0, .ref 63), (1, .ref 64), (2, .ref 169), (3, .ref 189), (4, .int (nI i)), (5, .int (nI (j + 1)))] [.int b] (y_mk n2 L D3)
    refine r_istore (ls2 := [(0, .ref 63), (1, .ref 64), (2, .ref 169), (3, .ref 189), (4, .int (nI i)), (5, .int (nI (j + 1))), (6, .int b)]) hE dL_law_2525 (by decide) rfl ?_
    refine t_thr hE hL dL_law_2527 dL_law_2528 dL_law_2531 dL_law_2533 rfl rfl h0 (by decide) ⟨by omega, by omega⟩ ?_
    refine t_ex (tgt := 2555) hE dL_law_2538 dL_law_2540 rfl (t_nlt hj (by decide)) (by decide) ?_
    refine r_goto (tgt := 2607) hE dL_law_2555 (by decide) ?_
    refine r_locs hE (ls2 := [(0, .ref 63), (1, .ref 64), (2, .ref 169), (3, .ref 189), (4, .int (nI i))]) (fun q hq => by simp only [List.mem_cons, List.not_mem_nil, or_false] at hq; rcases hq with rfl | rfl | rfl | rfl | rfl <;> rfl) ?_
    exact kk n2 L _ (ce + 1) (sl + 6) hG (by omega) (by omega)
theorem law_image {V : x_E} (hV : y_V V) (hF : y_fm V) {N i ce sl MC MS n : Nat} {f : Nat → Int32} {L : List Nat} {D : y_D} {E : x_P} (hT : law_S V N f) (hE : x_X V RL cL_law 8 (some .boolean) 40 MC MS "law" (fun r _ => r = some (.int 1)) E) (G : g_G n L D) (hi : i + 6 ≤ N) (hN : N ≤ 3072) (hce : ce + 4 ≤ MC) (hsl : sl + 816 ≤ MS) (kk : ∀ (n2 : Nat) (L2 : List Nat) (D2 : y_D) (ce2 sl2 : Nat), g_G n2 L2 D2 → ce2 ≤ ce + 4 → sl2 ≤ sl + 816 → E ce2 sl2 2607 [(0, .ref 63), (1, .ref 64), (2, .ref 169), (3, .ref 189), (4, .int (nI i))] [] (y_mk n2 L2 D2)) : E ce sl 2558 [(0, .ref 63), (1, .ref 64), (2, .ref 169), (3, .ref 189), (4, .int (nI i))] [] (y_mk n L D) := by
  have hL := G.1.1
  refine r_aload_n hE dL_law_2558 rfl ?_
  have hG := z_image G
  refine t_invv (r := none) (S2 := y_mk n L (y_si (y_bec_i D) 64 5 1)) (st := []) hE [] (k_image hL (g_rq1 G) (g_rq2 G)) v_yX10_image m_L_249 dL_law_2559 rfl (hL 64 (by decide)) (y_l_64 (D 64)) rfl (by decide) ⟨by omega, by omega⟩ (Nat.le_of_ble_eq_true rfl) ?_
  change E ce sl 2562 [(0, .ref 63), (1, .ref 64), (2, .ref 169), (3, .ref 189), (4, .int (nI i))] [] (y_mk n L (y_si (y_bec_i D) 64 5 1))
  refine r_aload_n hE dL_law_2562 rfl ?_
  refine t_invv (r := none) (S2 := _) (st := []) hE [] (c_image hL) v_yX11_image m_L_252 dL_law_2563 rfl (hL 169 (by decide)) (y_l_169 ((y_si (y_bec_i D) 64 5 1) 169)) rfl (by decide) ⟨by omega, by omega⟩ (Nat.le_of_ble_eq_true rfl) ?_
  change E ce sl 2566 [(0, .ref 63), (1, .ref 64), (2, .ref 169), (3, .ref 189), (4, .int (nI i))] [] (y_mk n L _)
  refine r_goto (tgt := 2607) hE dL_law_2566 (by decide) ?_
  refine r_locs hE (ls2 := [(0, .ref 63), (1, .ref 64), (2, .ref 169), (3, .ref 189), (4, .int (nI i))]) (fun q hq => by simp only [List.mem_cons, List.not_mem_nil, or_false] at hq; rcases hq with rfl | rfl | rfl | rfl | rfl <;> rfl) ?_
  exact kk n L _ ce sl hG (by omega) (by omega)
theorem law_back {V : x_E} (hV : y_V V) (hF : y_fm V) {N i ce sl MC MS n : Nat} {f : Nat → Int32} {L : List Nat} {D : y_D} {E : x_P} (hT : law_S V N f) (hE : x_X V RL cL_law 8 (some .boolean) 40 MC MS "law" (fun r _ => r = some (.int 1)) E) (G : g_G n L D) (hi : i + 6 ≤ N) (hN : N ≤ 3072) (hce : ce + 4 ≤ MC) (hsl : sl + 816 ≤ MS) (kk : ∀ (n2 : Nat) (L2 : List Nat) (D2 : y_D) (ce2 sl2 : Nat), g_G n2 L2 D2 → ce2 ≤ ce + 4 → sl2 ≤ sl + 816 → E ce2 sl2 2607 [(0, .ref 63), (1, .ref 64), (2, .ref 169), (3, .ref 189), (4, .int (nI i))] [] (y_mk n2 L2 D2)) : E ce sl 2569 [(0, .ref 63), (1, .ref 64), (2, .ref 169), (3, .ref 189), (4, .int (nI i))] [] (y_mk n L D) := by
  have hL := G.1.1
  refine r_aload_n hE dL_law_2569 rfl ?_
  obtain ⟨hv, hG⟩ := z_back G
  refine t_invv (r := some (.int ((K_back D).1))) (S2 := y_mk n L ((K_back D).2)) (st := []) hE [] (k_back hL G.2.2.2.2.2.2.2.1 G.2.2.2.2.2.2.2.2.1) v_yX10_back m_L_253 dL_law_2570 rfl (hL 64 (by decide)) (y_l_64 (D 64)) rfl (by decide) ⟨by omega, by omega⟩ (Nat.le_of_ble_eq_true rfl) ?_
  change E ce sl 2573 [(0, .ref 63), (1, .ref 64), (2, .ref 169), (3, .ref 189), (4, .int (nI i))] [.int ((K_back D).1)] (y_mk n L ((K_back D).2))
  refine r_aload_n hE dL_law_2573 rfl ?_
  refine t_invv (r := some (.int ((M_back (K_back D).2).1))) (S2 := y_mk n L ((M_back (K_back D).2).2)) (st := [.int ((K_back D).1)]) hE [] (c_back hL) v_yX11_back m_L_257 dL_law_2574 rfl (hL 169 (by decide)) (y_l_169 (((K_back D).2) 169)) rfl (by decide) ⟨by omega, by omega⟩ (Nat.le_of_ble_eq_true rfl) ?_
  change E ce sl 2577 [(0, .ref 63), (1, .ref 64), (2, .ref 169), (3, .ref 189), (4, .int (nI i))] [.int ((M_back (K_back D).2).1), .int ((K_back D).1)] (y_mk n L ((M_back (K_back D).2).2))
  refine r_icmp_eq (tgt := 2607) hE dL_law_2577 (by decide) (fun _ => ?_) (fun c9 => absurd hv c9)
  refine r_locs hE (ls2 := [(0, .ref 63), (1, .ref 64), (2, .ref 169), (3, .ref 189), (4, .int (nI i))]) (fun q hq => by simp only [List.mem_cons, List.not_mem_nil, or_false] at hq; rcases hq with rfl | rfl | rfl | rfl | rfl <;> rfl) ?_
  exact kk n L _ ce sl hG (by omega) (by omega)
theorem law_count {V : x_E} (hV : y_V V) (hF : y_fm V) {N i ce sl MC MS n : Nat} {f : Nat → Int32} {L : List Nat} {D : y_D} {E : x_P} (hT : law_S V N f) (hE : x_X V RL cL_law 8 (some .boolean) 40 MC MS "law" (fun r _ => r = some (.int 1)) E) (G : g_G n L D) (hi : i + 6 ≤ N) (hN : N ≤ 3072) (hce : ce + 4 ≤ MC) (hsl : sl + 816 ≤ MS) (kk : ∀ (n2 : Nat) (L2 : List Nat) (D2 : y_D) (ce2 sl2 : Nat), g_G n2 L2 D2 → ce2 ≤ ce + 4 → sl2 ≤ sl + 816 → E ce2 sl2 2607 [(0, .ref 63), (1, .ref 64), (2, .ref 169), (3, .ref 189), (4, .int (nI i))] [] (y_mk n2 L2 D2)) : E ce sl 2582 [(0, .ref 63), (1, .ref 64), (2, .ref 169), (3, .ref 189), (4, .int (nI i))] [] (y_mk n L D) := by
  have hL := G.1.1
  refine r_aload_n hE dL_law_2582 rfl ?_
  refine t_arg (k := 1) hE hT dL_law_2583 dL_law_2584 dL_law_2586 dL_law_2587 dL_law_2588 rfl rfl (by decide) (by omega) (by omega) ?_
  obtain ⟨hv, hG⟩ := z_count G (p := (f (i + 1)))
  refine t_invv (r := some (.int (K_count D ((f (i + 1)))))) (S2 := y_mk n L (D)) (st := []) hE [.int (f (i + 1))] (k_count hL) v_yX10_count m_L_258 dL_law_2589 rfl (hL 64 (by decide)) (y_l_64 (D 64)) rfl (by decide) ⟨by omega, by omega⟩ (Nat.le_of_ble_eq_true rfl) ?_
  change E ce sl 2592 [(0, .ref 63), (1, .ref 64), (2, .ref 169), (3, .ref 189), (4, .int (nI i))] [.int (K_count D ((f (i + 1))))] (y_mk n L (D))
  refine r_aload_n hE dL_law_2592 rfl ?_
  refine t_arg (k := 1) hE hT dL_law_2593 dL_law_2594 dL_law_2596 dL_law_2597 dL_law_2598 rfl rfl (by decide) (by omega) (by omega) ?_
  refine t_invv (r := some (.int (M_count D ((f (i + 1)))))) (S2 := y_mk n L (y_si D 169 0 0)) (st := [.int (K_count D ((f (i + 1))))]) hE [.int (f (i + 1))] (c_count hL) v_yX11_count m_L_261 dL_law_2599 rfl (hL 169 (by decide)) (y_l_169 ((D) 169)) rfl (by decide) ⟨by omega, by omega⟩ (Nat.le_of_ble_eq_true rfl) ?_
  change E ce sl 2602 [(0, .ref 63), (1, .ref 64), (2, .ref 169), (3, .ref 189), (4, .int (nI i))] [.int (M_count D ((f (i + 1)))), .int (K_count D ((f (i + 1))))] (y_mk n L (y_si D 169 0 0))
  refine r_icmp_eq (tgt := 2607) hE dL_law_2602 (by decide) (fun _ => ?_) (fun c9 => absurd hv c9)
  refine r_locs hE (ls2 := [(0, .ref 63), (1, .ref 64), (2, .ref 169), (3, .ref 189), (4, .int (nI i))]) (fun q hq => by simp only [List.mem_cons, List.not_mem_nil, or_false] at hq; rcases hq with rfl | rfl | rfl | rfl | rfl <;> rfl) ?_
  exact kk n L _ ce sl hG (by omega) (by omega)

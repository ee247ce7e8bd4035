/-! the law: its cases (2) -/
theorem law_fewest {V : x_E} (hV : y_V V) (hF : y_fm V) {N i ce sl MC MS n : Nat} {f : Nat → Int32} {L : List Nat} {D : y_D} {E : x_P} (hT : law_S V N f) (hE : x_X V RL cL_law 8 (some .boolean) 40 MC MS "law" (fun r _ => r = some (.int 1)) E) (G : g_G n L D) (hi : i + 6 ≤ N) (hN : N ≤ 3072) (hce : ce + 4 ≤ MC) (hsl : sl + 816 ≤ MS) (kk : ∀ (n2 : Nat) (L2 : List Nat) (D2 : y_D) (ce2 sl2 : Nat), g_G n2 L2 D2 → ce2 ≤ ce + 4 → sl2 ≤ sl + 816 → E ce2 sl2 2607 [(0, .ref 63), (1, .ref 64), (2, .ref 169), (3, .ref 189), (4, .int (nI i))] [] (y_mk n2 L2 D2)) : E ce sl 934 [(0, .ref 63), (1, .ref 64), (2, .ref 169), (3, .ref 189), (4, .int (nI i))] [] (y_mk n L D) := by
  have hL := G.1.1
  refine r_aload_n hE dL_law_934 rfl ?_
  refine t_arg (k := 1) hE hT dL_law_935 dL_law_936 dL_law_938 dL_law_939 dL_law_940 rfl rfl (by decide) (by omega) (by omega) ?_
  refine t_arg (k := 2) hE hT dL_law_941 dL_law_942 dL_law_944 dL_law_945 dL_law_946 rfl rfl (by decide) (by omega) (by omega) ?_
  refine t_nz hE dL_law_947 dL_law_950 dL_law_951 dL_law_954 ?_
  refine r_aload_n hE dL_law_955 rfl ?_
  have hw := w_fewest (n := n) (D := D) hV hL (f_fewest hV hL (g_k_B G.2.1) G.2.2.1 (p := (f (i + 1))) (hl := (y_tf (f (i + 2))))) (fun E9 h => by grind)
  refine r_invsW hE (st := []) [.ref 64, .int (f (i + 1)), .int (y_tf (f (i + 2))), .ref 189] hw w_YW_fewest m_L_172 dL_law_956 rfl (by decide) ⟨by omega, by omega⟩ (Nat.le_of_ble_eq_true rfl) ⟨rfl, rfl⟩ (fun r9 S9 h9 => ?_)
  rcases h9 with ⟨v, D2, hp, rfl, rfl⟩ | ⟨j, E9, n2, hj, hx, rfl, hn, rfl⟩
  · obtain ⟨D0, hD0⟩ : ∃ z, z = y_sl D2 189 0 (y_gi v) := ⟨_, rfl⟩
    rw [← hD0]
    have h170 : D0 170 = D 170 := by
      rw [hD0, y_sl_n (by decide)]
      exact hp.1.1.1 170 (by decide)
    have zz := (z_fewest G (p := (f (i + 1))) (hl := (y_tf (f (i + 2))))).1 v D2 (y_gi v) hp
    rw [← hD0] at zz
    change E (ce + 1) (sl + 6) 959 [(0, .ref 63), (1, .ref 64), (2, .ref 169), (3, .ref 189), (4, .int (nI i))] [.int 0] (y_mk n L D0)
    refine r_istore (ls2 := [(0, .ref 63), (1, .ref 64), (2, .ref 169), (3, .ref 189), (4, .int (nI i)), (5, .int 0)]) hE dL_law_959 (by decide) rfl ?_
    refine r_aload_n hE dL_law_961 rfl ?_
    refine t_arg (k := 1) hE hT dL_law_962 dL_law_963 dL_law_965 dL_law_966 dL_law_967 rfl rfl (by decide) (by omega) (by omega) ?_
    refine t_arg (k := 2) hE hT dL_law_968 dL_law_969 dL_law_971 dL_law_972 dL_law_973 rfl rfl (by decide) (by omega) (by omega) ?_
    refine t_nz hE dL_law_974 dL_law_977 dL_law_978 dL_law_981 ?_
    refine t_invvRi (st := []) hE [.int (f (i + 1)), .int (y_tf (f (i + 2)))] (c_fewest hL (by rw [h170]; exact g_m_W G.2.1)) v_yX11_fewest m_L_175 dL_law_982 rfl (hL 169 (by decide)) (y_l_169 (D0 169)) rfl (by decide) ⟨by omega, by omega⟩ (Nat.le_of_ble_eq_true rfl) (fun b D3 hR => ?_)
    have zz := zz _ _ hR
    obtain ⟨hv, h0, hG, h189⟩ := zz
    change E (ce + 1) (sl + 6) 985 [(0, .ref 63), (1, .ref 64), (2, .ref 169), (3, .ref 189), (4, .int (nI i)), (5, .int 0)] [.int b] (y_mk n L D3)
    refine r_istore (ls2 := [(0, .ref 63), (1, .ref 64), (2, .ref 169), (3, .ref 189), (4, .int (nI i)), (5, .int 0), (6, .int b)]) hE dL_law_985 (by decide) rfl ?_
    refine t_thr hE hL dL_law_987 dL_law_988 dL_law_991 dL_law_993 rfl rfl h0 (by decide) ⟨by omega, by omega⟩ ?_
    refine t_oki hE hL dL_law_998 dL_law_1000 dL_law_1003 dL_law_1004 dL_law_1005 dL_law_1006 dL_law_1008 dL_law_1009 dL_law_1010 rfl rfl rfl (by rw [h189, hD0, ← hv]; rfl) ?_
    refine r_goto (tgt := 2607) hE dL_law_1015 (by decide) ?_
    refine r_locs hE (ls2 := [(0, .ref 63), (1, .ref 64), (2, .ref 169), (3, .ref 189), (4, .int (nI i))]) (fun q hq => by simp only [List.mem_cons, List.not_mem_nil, or_false] at hq; rcases hq with rfl | rfl | rfl | rfl | rfl <;> rfl) ?_
    exact kk n L _ (ce + 1) (sl + 6) hG (by omega) (by omega)
  · have h170 : D 170 = D 170 := rfl
    have zz := (z_fewest G (p := (f (i + 1))) (hl := (y_tf (f (i + 2))))).2 j E9 n2 hj hx hn
    change E (ce + 1) (sl + 6) 959 [(0, .ref 63), (1, .ref 64), (2, .ref 169), (3, .ref 189), (4, .int (nI i))] [.int (nI (j + 1))] (y_mk n2 L D)
    refine r_istore (ls2 := [(0, .ref 63), (1, .ref 64), (2, .ref 169), (3, .ref 189), (4, .int (nI i)), (5, .int (nI (j + 1)))]) hE dL_law_959 (by decide) rfl ?_
    refine r_aload_n hE dL_law_961 rfl ?_
    refine t_arg (k := 1) hE hT dL_law_962 dL_law_963 dL_law_965 dL_law_966 dL_law_967 rfl rfl (by decide) (by omega) (by omega) ?_
    refine t_arg (k := 2) hE hT dL_law_968 dL_law_969 dL_law_971 dL_law_972 dL_law_973 rfl rfl (by decide) (by omega) (by omega) ?_
    refine t_nz hE dL_law_974 dL_law_977 dL_law_978 dL_law_981 ?_
    refine t_invvRi (st := []) hE [.int (f (i + 1)), .int (y_tf (f (i + 2)))] (c_fewest hL (by rw [h170]; exact g_m_W G.2.1)) v_yX11_fewest m_L_175 dL_law_982 rfl (hL 169 (by decide)) (y_l_169 (D 169)) rfl (by decide) ⟨by omega, by omega⟩ (Nat.le_of_ble_eq_true rfl) (fun b D3 hR => ?_)
    have zz := zz _ _ hR
    obtain ⟨h0, hG⟩ := zz
    change E (ce + 1) (sl + 6) 985 [(0, .ref 63), (1, .ref 64), (2, .ref 169), (3, .ref 189), (4, .int (nI i)), (5, .int (nI (j + 1)))] [.int b] (y_mk n2 L D3)
    refine r_istore (ls2 := [(0, .ref 63), (1, .ref 64), (2, .ref 169), (3, .ref 189), (4, .int (nI i)), (5, .int (nI (j + 1))), (6, .int b)]) hE dL_law_985 (by decide) rfl ?_
    refine t_thr hE hL dL_law_987 dL_law_988 dL_law_991 dL_law_993 rfl rfl h0 (by decide) ⟨by omega, by omega⟩ ?_
    refine t_ex (tgt := 1015) hE dL_law_998 dL_law_1000 rfl (t_nlt hj (by decide)) (by decide) ?_
    refine r_goto (tgt := 2607) hE dL_law_1015 (by decide) ?_
    refine r_locs hE (ls2 := [(0, .ref 63), (1, .ref 64), (2, .ref 169), (3, .ref 189), (4, .int (nI i))]) (fun q hq => by simp only [List.mem_cons, List.not_mem_nil, or_false] at hq; rcases hq with rfl | rfl | rfl | rfl | rfl <;> rfl) ?_
    exact kk n2 L _ (ce + 1) (sl + 6) hG (by omega) (by omega)
theorem law_earliest {V : x_E} (hV : y_V V) (hF : y_fm V) {N i ce sl MC MS n : Nat} {f : Nat → Int32} {L : List Nat} {D : y_D} {E : x_P} (hT : law_S V N f) (hE : x_X V RL cL_law 8 (some .boolean) 40 MC MS "law" (fun r _ => r = some (.int 1)) E) (G : g_G n L D) (hi : i + 6 ≤ N) (hN : N ≤ 3072) (hce : ce + 4 ≤ MC) (hsl : sl + 816 ≤ MS) (kk : ∀ (n2 : Nat) (L2 : List Nat) (D2 : y_D) (ce2 sl2 : Nat), g_G n2 L2 D2 → ce2 ≤ ce + 4 → sl2 ≤ sl + 816 → E ce2 sl2 2607 [(0, .ref 63), (1, .ref 64), (2, .ref 169), (3, .ref 189), (4, .int (nI i))] [] (y_mk n2 L2 D2)) : E ce sl 1018 [(0, .ref 63), (1, .ref 64), (2, .ref 169), (3, .ref 189), (4, .int (nI i))] [] (y_mk n L D) := by
  have hL := G.1.1
  refine r_aload_n hE dL_law_1018 rfl ?_
  refine t_arg (k := 1) hE hT dL_law_1019 dL_law_1020 dL_law_1022 dL_law_1023 dL_law_1024 rfl rfl (by decide) (by omega) (by omega) ?_
  refine t_arg (k := 2) hE hT dL_law_1025 dL_law_1026 dL_law_1028 dL_law_1029 dL_law_1030 rfl rfl (by decide) (by omega) (by omega) ?_
  refine t_arg (k := 3) hE hT dL_law_1031 dL_law_1032 dL_law_1034 dL_law_1035 dL_law_1036 rfl rfl (by decide) (by omega) (by omega) ?_
  refine t_nz hE dL_law_1037 dL_law_1040 dL_law_1041 dL_law_1044 ?_
  refine t_arg (k := 4) hE hT dL_law_1045 dL_law_1046 dL_law_1048 dL_law_1049 dL_law_1050 rfl rfl (by decide) (by omega) (by omega) ?_
  refine r_aload_n hE dL_law_1051 rfl ?_
  have hw := w_earliest (n := n) (D := D) hV hL (f_earliest hV hL (g_k_B G.2.1) G.2.2.1 (p := (f (i + 1))) (u := (f (i + 2))) (hl := (y_tf (f (i + 3)))) (r := (f (i + 4)))) (fun E9 h => by grind)
  refine r_invsW hE (st := []) [.ref 64, .int (f (i + 1)), .int (f (i + 2)), .int (y_tf (f (i + 3))), .int (f (i + 4)), .ref 189] hw w_YW_earliest m_L_176 dL_law_1052 rfl (by decide) ⟨by omega, by omega⟩ (Nat.le_of_ble_eq_true rfl) ⟨rfl, rfl⟩ (fun r9 S9 h9 => ?_)
  rcases h9 with ⟨v, D2, hp, rfl, rfl⟩ | ⟨j, E9, n2, hj, hx, rfl, hn, rfl⟩
  · obtain ⟨D0, hD0⟩ : ∃ z, z = y_sl D2 189 0 (y_gi v) := ⟨_, rfl⟩
    rw [← hD0]
    have h170 : D0 170 = D 170 := by
      rw [hD0, y_sl_n (by decide)]
      exact hp.1.1.1 170 (by decide)
    have zz := (z_earliest G (p := (f (i + 1))) (u := (f (i + 2))) (hl := (y_tf (f (i + 3)))) (r := (f (i + 4)))).1 v D2 (y_gi v) hp
    rw [← hD0] at zz
    change E (ce + 2) (sl + 12) 1055 [(0, .ref 63), (1, .ref 64), (2, .ref 169), (3, .ref 189), (4, .int (nI i))] [.int 0] (y_mk n L D0)
    refine r_istore (ls2 := [(0, .ref 63), (1, .ref 64), (2, .ref 169), (3, .ref 189), (4, .int (nI i)), (5, .int 0)]) hE dL_law_1055 (by decide) rfl ?_
    refine r_aload_n hE dL_law_1057 rfl ?_
    refine t_arg (k := 1) hE hT dL_law_1058 dL_law_1059 dL_law_1061 dL_law_1062 dL_law_1063 rfl rfl (by decide) (by omega) (by omega) ?_
    refine t_arg (k := 2) hE hT dL_law_1064 dL_law_1065 dL_law_1067 dL_law_1068 dL_law_1069 rfl rfl (by decide) (by omega) (by omega) ?_
    refine t_arg (k := 3) hE hT dL_law_1070 dL_law_1071 dL_law_1073 dL_law_1074 dL_law_1075 rfl rfl (by decide) (by omega) (by omega) ?_
    refine t_nz hE dL_law_1076 dL_law_1079 dL_law_1080 dL_law_1083 ?_
    refine t_arg (k := 4) hE hT dL_law_1084 dL_law_1085 dL_law_1087 dL_law_1088 dL_law_1089 rfl rfl (by decide) (by omega) (by omega) ?_
    refine t_invvRi (st := []) hE [.int (f (i + 1)), .int (f (i + 2)), .int (y_tf (f (i + 3))), .int (f (i + 4))] (c_earliest hL (by rw [h170]; exact g_m_W G.2.1)) v_yX11_earliest m_L_179 dL_law_1090 rfl (hL 169 (by decide)) (y_l_169 (D0 169)) rfl (by decide) ⟨by omega, by omega⟩ (Nat.le_of_ble_eq_true rfl) (fun b D3 hR => ?_)
    have zz := zz _ _ hR
    obtain ⟨hv, h0, hG, h189⟩ := zz
    change E (ce + 2) (sl + 12) 1093 [(0, .ref 63), (1, .ref 64), (2, .ref 169), (3, .ref 189), (4, .int (nI i)), (5, .int 0)] [.int b] (y_mk n L D3)
    refine r_istore (ls2 := [(0, .ref 63), (1, .ref 64), (2, .ref 169), (3, .ref 189), (4, .int (nI i)), (5, .int 0), (6, .int b)]) hE dL_law_1093 (by decide) rfl ?_
    refine t_thr hE hL dL_law_1095 dL_law_1096 dL_law_1099 dL_law_1101 rfl rfl h0 (by decide) ⟨by omega, by omega⟩ ?_
    refine t_oki hE hL dL_law_1106 dL_law_1108 dL_law_1111 dL_law_1112 dL_law_1113 dL_law_1114 dL_law_1116 dL_law_1117 dL_law_1118 rfl rfl rfl (by rw [h189, hD0, ← hv]; rfl) ?_
    refine r_goto (tgt := 2607) hE dL_law_1123 (by decide) ?_
    refine r_locs hE (ls2 := [(0, .ref 63), (1, .ref 64), (2, .ref 169), (3, .ref 189), (4, .int (nI i))]) (fun q hq => by simp only [List.mem_cons, List.not_mem_nil, or_false] at hq; rcases hq with rfl | rfl | rfl | rfl | rfl <;> rfl) ?_
    exact kk n L _ (ce + 2) (sl + 12) hG (by omega) (by omega)
  · have h170 : D 170 = D 170 := rfl
    have zz := (z_earliest G (p := (f (i + 1))) (u := (f (i + 2))) (hl := (y_tf (f (i + 3)))) (r := (f (i + 4)))).2 j E9 n2 hj hx hn
    change E (ce + 2) (sl + 12) 1055 [(0, .ref 63), (1, .ref 64), (2, .ref 169), (3, .ref 189), (4, .int (nI i))] [.int (nI (j + 1))] (y_mk n2 L D)
    refine r_istore (ls2 := [(0, .ref 63), (1, .ref 64), (2, .ref 169), (3, .ref 189), (4, .int (nI i)), (5, .int (nI (j + 1)))]) hE dL_law_1055 (by decide) rfl ?_
    refine r_aload_n hE dL_law_1057 rfl ?_
    refine t_arg (k := 1) hE hT dL_law_1058 dL_law_1059 dL_law_1061 dL_law_1062 dL_law_1063 rfl rfl (by decide) (by omega) (by omega) ?_
    refine t_arg (k := 2) hE hT dL_law_1064 dL_law_1065 dL_law_1067 dL_law_1068 dL_law_1069 rfl rfl (by decide) (by omega) (by omega) ?_
    refine t_arg (k := 3) hE hT dL_law_1070 dL_law_1071 dL_law_1073 dL_law_1074 dL_law_1075 rfl rfl (by decide) (by omega) (by omega) ?_
    refine t_nz hE dL_law_1076 dL_law_1079 dL_law_1080 dL_law_1083 ?_
    refine t_arg (k := 4) hE hT dL_law_1084 dL_law_1085 dL_law_1087 dL_law_1088 dL_law_1089 rfl rfl (by decide) (by omega) (by omega) ?_
    refine t_invvRi (st := []) hE [.int (f (i + 1)), .int (f (i + 2)), .int (y_tf (f (i + 3))), .int (f (i + 4))] (c_earliest hL (by rw [h170]; exact g_m_W G.2.1)) v_yX11_earliest m_L_179 dL_law_1090 rfl (hL 169 (by decide)) (y_l_169 (D 169)) rfl (by decide) ⟨by omega, by omega⟩ (Nat.le_of_ble_eq_true rfl) (fun b D3 hR => ?_)
    have zz := zz _ _ hR
    obtain ⟨h0, hG⟩ := zz
    change E (ce + 2) (sl + 12) 1093 [(0, .ref 63), (1, .ref 64), (2, .ref 169), (3, .ref 189), (4, .int (nI i)), (5, .int (nI (j + 1)))] [.int b] (y_mk n2 L D3)
    refine r_istore (ls2 := [(0, .ref 63), (1, .ref 64), (2, .ref 169), (3, .ref 189), (4, .int (nI i)), (5, .int (nI (j + 1))), (6, .int b)]) hE dL_law_1093 (by decide) rfl ?_
    refine t_thr hE hL dL_law_1095 dL_law_1096 dL_law_1099 dL_law_1101 rfl rfl h0 (by decide) ⟨by omega, by omega⟩ ?_
    refine t_ex (tgt := 1123) hE dL_law_1106 dL_law_1108 rfl (t_nlt hj (by decide)) (by decide) ?_
    refine r_goto (tgt := 2607) hE dL_law_1123 (by decide) ?_
    refine r_locs hE (ls2 := [(0, .ref 63), (1, .ref 64), (2, .ref 169), (3, .ref 189), (4, .int (nI i))]) (fun q hq => by simp only [List.mem_cons, List.not_mem_nil, or_false] at hq; rcases hq with rfl | rfl | rfl | rfl | rfl <;> rfl) ?_
    exact kk n2 L _ (ce + 2) (sl + 12) hG (by omega) (by omega)
theorem law_may {V : x_E} (hV : y_V V) (hF : y_fm V) {N i ce sl MC MS n : Nat} {f : Nat → Int32} {L : List Nat} {D : y_D} {E : x_P} (hT : law_S V N f) (hE : x_X V RL cL_law 8 (some .boolean) 40 MC MS "law" (fun r _ => r = some (.int 1)) E) (G : g_G n L D) (hi : i + 6 ≤ N) (hN : N ≤ 3072) (hce : ce + 4 ≤ MC) (hsl : sl + 816 ≤ MS) (kk : ∀ (n2 : Nat) (L2 : List Nat) (D2 : y_D) (ce2 sl2 : Nat), g_G n2 L2 D2 → ce2 ≤ ce + 4 → sl2 ≤ sl + 816 → E ce2 sl2 2607 [(0, .ref 63), (1, .ref 64), (2, .ref 169), (3, .ref 189), (4, .int (nI i))] [] (y_mk n2 L2 D2)) : E ce sl 1126 [(0, .ref 63), (1, .ref 64), (2, .ref 169), (3, .ref 189), (4, .int (nI i))] [] (y_mk n L D) := by
  have hL := G.1.1
  refine r_aload_n hE dL_law_1126 rfl ?_
  refine t_arg (k := 1) hE hT dL_law_1127 dL_law_1128 dL_law_1130 dL_law_1131 dL_law_1132 rfl rfl (by decide) (by omega) (by omega) ?_
  refine t_arg (k := 2) hE hT dL_law_1133 dL_law_1134 dL_law_1136 dL_law_1137 dL_law_1138 rfl rfl (by decide) (by omega) (by omega) ?_
  refine t_arg (k := 3) hE hT dL_law_1139 dL_law_1140 dL_law_1142 dL_law_1143 dL_law_1144 rfl rfl (by decide) (by omega) (by omega) ?_
  refine t_nz hE dL_law_1145 dL_law_1148 dL_law_1149 dL_law_1152 ?_
  refine t_arg (k := 4) hE hT dL_law_1153 dL_law_1154 dL_law_1156 dL_law_1157 dL_law_1158 rfl rfl (by decide) (by omega) (by omega) ?_
  refine r_aload_n hE dL_law_1159 rfl ?_
  have hw := w_may (n := n) (D := D) hV hL (f_may hV hL (g_k_B G.2.1) G.2.2.1 (p := (f (i + 1))) (u := (f (i + 2))) (hl := (y_tf (f (i + 3)))) (x := (f (i + 4)))) (fun E9 h => by grind)
  refine r_invsW hE (st := []) [.ref 64, .int (f (i + 1)), .int (f (i + 2)), .int (y_tf (f (i + 3))), .int (f (i + 4)), .ref 189] hw w_YW_may m_L_180 dL_law_1160 rfl (by decide) ⟨by omega, by omega⟩ (Nat.le_of_ble_eq_true rfl) ⟨rfl, rfl⟩ (fun r9 S9 h9 => ?_)
  rcases h9 with ⟨v, D2, hp, rfl, rfl⟩ | ⟨j, E9, n2, hj, hx, rfl, hn, rfl⟩
  · obtain ⟨D0, hD0⟩ : ∃ z, z = y_sl D2 189 0 (y_gi v) := ⟨_, rfl⟩
    rw [← hD0]
    have h170 : D0 170 = D 170 := by
      rw [hD0, y_sl_n (by decide)]
      exact hp.1.1.1 170 (by decide)
    have zz := (z_may G (p := (f (i + 1))) (u := (f (i + 2))) (hl := (y_tf (f (i + 3)))) (x := (f (i + 4)))).1 v D2 (y_gi v) hp
    rw [← hD0] at zz
    change E (ce + 2) (sl + 12) 1163 [(0, .ref 63), (1, .ref 64), (2, .ref 169), (3, .ref 189), (4, .int (nI i))] [.int 0] (y_mk n L D0)
    refine r_istore (ls2 := [(0, .ref 63), (1, .ref 64), (2, .ref 169), (3, .ref 189), (4, .int (nI i)), (5, .int 0)]) hE dL_law_1163 (by decide) rfl ?_
    refine r_aload_n hE dL_law_1165 rfl ?_
    refine t_arg (k := 1) hE hT dL_law_1166 dL_law_1167 dL_law_1169 dL_law_1170 dL_law_1171 rfl rfl (by decide) (by omega) (by omega) ?_
    refine t_arg (k := 2) hE hT dL_law_1172 dL_law_1173 dL_law_1175 dL_law_1176 dL_law_1177 rfl rfl (by decide) (by omega) (by omega) ?_
    refine t_arg (k := 3) hE hT dL_law_1178 dL_law_1179 dL_law_1181 dL_law_1182 dL_law_1183 rfl rfl (by decide) (by omega) (by omega) ?_
    refine t_nz hE dL_law_1184 dL_law_1187 dL_law_1188 dL_law_1191 ?_
    refine t_arg (k := 4) hE hT dL_law_1192 dL_law_1193 dL_law_1195 dL_law_1196 dL_law_1197 rfl rfl (by decide) (by omega) (by omega) ?_
    refine t_invvRi (st := []) hE [.int (f (i + 1)), .int (f (i + 2)), .int (y_tf (f (i + 3))), .int (f (i + 4))] (c_may hL (by rw [h170]; exact g_m_W G.2.1)) v_yX11_may m_L_182 dL_law_1198 rfl (hL 169 (by decide)) (y_l_169 (D0 169)) rfl (by decide) ⟨by omega, by omega⟩ (Nat.le_of_ble_eq_true rfl) (fun b D3 hR => ?_)
    have zz := zz _ _ hR
    obtain ⟨hv, h0, hG, h189⟩ := zz
    change E (ce + 2) (sl + 12) 1201 [(0, .ref 63), (1, .ref 64), (2, .ref 169), (3, .ref 189), (4, .int (nI i)), (5, .int 0)] [.int b] (y_mk n L D3)
    refine r_istore (ls2 := [(0, .ref 63), (1, .ref 64), (2, .ref 169), (3, .ref 189), (4, .int (nI i)), (5, .int 0), (6, .int b)]) hE dL_law_1201 (by decide) rfl ?_
    refine t_thr hE hL dL_law_1203 dL_law_1204 dL_law_1207 dL_law_1209 rfl rfl h0 (by decide) ⟨by omega, by omega⟩ ?_
    refine t_oki hE hL dL_law_1214 dL_law_1216 dL_law_1219 dL_law_1220 dL_law_1221 dL_law_1222 dL_law_1224 dL_law_1225 dL_law_1226 rfl rfl rfl (by rw [h189, hD0, ← hv]; rfl) ?_
    refine r_goto (tgt := 2607) hE dL_law_1231 (by decide) ?_
    refine r_locs hE (ls2 := [(0, .ref 63), (1, .ref 64), (2, .ref 169), (3, .ref 189), (4, .int (nI i))]) (fun q hq => by simp only [List.mem_cons, List.not_mem_nil, or_false] at hq; rcases hq with rfl | rfl | rfl | rfl | rfl <;> rfl) ?_
    exact kk n L _ (ce + 2) (sl + 12) hG (by omega) (by omega)
  · have h170 : D 170 = D 170 := rfl
    have zz := (z_may G (p := (f (i + 1))) (u := (f (i + 2))) (hl := (y_tf (f (i + 3)))) (x := (f (i + 4)))).2 j E9 n2 hj hx hn
    change E (ce + 2) (sl + 12) 1163 [(0, .ref 63), (1, .ref 64), (2, .ref 169), (3, .ref 189), (4, .int (nI i))] [.int (nI (j + 1))] (y_mk n2 L D)
    refine r_istore (ls2 := [(0, .ref 63), (1, .ref 64), (2, .ref 169), (3, .ref 189), (4, .int (nI i)), (5, .int (nI (j + 1)))]) hE dL_law_1163 (by decide) rfl ?_
    refine r_aload_n hE dL_law_1165 rfl ?_
    refine t_arg (k := 1) hE hT dL_law_1166 dL_law_1167 dL_law_1169 dL_law_1170 dL_law_1171 rfl rfl (by decide) (by omega) (by omega) ?_
    refine t_arg (k := 2) hE hT dL_law_1172 dL_law_1173 dL_law_1175 dL_law_1176 dL_law_1177 rfl rfl (by decide) (by omega) (by omega) ?_
    refine t_arg (k := 3) hE hT dL_law_1178 dL_law_1179 dL_law_1181 dL_law_1182 dL_law_1183 rfl rfl (by decide) (by omega) (by omega) ?_
    refine t_nz hE dL_law_1184 dL_law_1187 dL_law_1188 dL_law_1191 ?_
    refine t_arg (k := 4) hE hT dL_law_1192 dL_law_1193 dL_law_1195 dL_law_1196 dL_law_1197 rfl rfl (by decide) (by omega) (by omega) ?_
    refine t_invvRi (st := []) hE [.int (f (i + 1)), .int (f (i + 2)), .int (y_tf (f (i + 3))), .int (f (i + 4))] (c_may hL (by rw [h170]; exact g_m_W G.2.1)) v_yX11_may m_L_182 dL_law_1198 rfl (hL 169 (by decide)) (y_l_169 (D 169)) rfl (by decide) ⟨by omega, by omega⟩ (Nat.le_of_ble_eq_true rfl) (fun b D3 hR => ?_)
    have zz := zz _ _ hR
    obtain ⟨h0, hG⟩ := zz
    change E (ce + 2) (sl + 12) 1201 [(0, .ref 63), (1, .ref 64), (2, .ref 169), (3, .ref 189), (4, .int (nI i)), (5, .int (nI (j + 1)))] [.int b] (y_mk n2 L D3)
    refine r_istore (ls2 := [(0, .ref 63), (1, .ref 64), (2, .ref 169), (3, .ref 189), (4, .int (nI i)), (5, .int (nI (j + 1))), (6, .int b)]) hE dL_law_1201 (by decide) rfl ?_
    refine t_thr hE hL dL_law_1203 dL_law_1204 dL_law_1207 dL_law_1209 rfl rfl h0 (by decide) ⟨by omega, by omega⟩ ?_
    refine t_ex (tgt := 1231) hE dL_law_1214 dL_law_1216 rfl (t_nlt hj (by decide)) (by decide) ?_
    refine r_goto (tgt := 2607) hE dL_law_1231 (by decide) ?_
    refine r_locs hE (ls2 := [(0, .ref 63), (1, .ref 64), (2, .ref 169), (3, .ref 189), (4, .int (nI i))]) (fun q hq => by simp only [List.mem_cons, List.not_mem_nil, or_false] at hq; rcases hq with rfl | rfl | rfl | rfl | rfl <;> rfl) ?_
    exact kk n2 L _ (ce + 2) (sl + 12) hG (by omega) (by omega)
theorem law_shut {V : x_E} (hV : y_V V) (hF : y_fm V) {N i ce sl MC MS n : Nat} {f : Nat → Int32} {L : List Nat} {D : y_D} {E : x_P} (hT : law_S V N f) (hE : x_X V RL cL_law 8 (some .boolean) 40 MC MS "law" (fun r _ => r = some (.int 1)) E) (G : g_G n L D) (hi : i + 6 ≤ N) (hN : N ≤ 3072) (hce : ce + 4 ≤ MC) (hsl : sl + 816 ≤ MS) (kk : ∀ (n2 : Nat) (L2 : List Nat) (D2 : y_D) (ce2 sl2 : Nat), g_G n2 L2 D2 → ce2 ≤ ce + 4 → sl2 ≤ sl + 816 → E ce2 sl2 2607 [(0, .ref 63), (1, .ref 64), (2, .ref 169), (3, .ref 189), (4, .int (nI i))] [] (y_mk n2 L2 D2)) : E ce sl 1234 [(0, .ref 63), (1, .ref 64), (2, .ref 169), (3, .ref 189), (4, .int (nI i))] [] (y_mk n L D) := by
  have hL := G.1.1
  refine r_aload_n hE dL_law_1234 rfl ?_
  refine t_arg (k := 1) hE hT dL_law_1235 dL_law_1236 dL_law_1238 dL_law_1239 dL_law_1240 rfl rfl (by decide) (by omega) (by omega) ?_
  refine r_aload_n hE dL_law_1241 rfl ?_
  have hw := w_shut (n := n) (D := D) hV hL (f_shut hV hL (g_k_B G.2.1) G.2.2.1 (r := (f (i + 1)))) (fun E9 h => by grind)
  refine r_invsW hE (st := []) [.ref 64, .int (f (i + 1)), .ref 189] hw w_YW_shut m_L_183 dL_law_1242 rfl (by decide) ⟨by omega, by omega⟩ (Nat.le_of_ble_eq_true rfl) ⟨rfl, rfl⟩ (fun r9 S9 h9 => ?_)
  rcases h9 with ⟨v, D2, hp, rfl, rfl⟩ | ⟨j, E9, n2, hj, hx, rfl, hn, rfl⟩
  · obtain ⟨D0, hD0⟩ : ∃ z, z = y_sl D2 189 0 (y_gi v) := ⟨_, rfl⟩
    rw [← hD0]
    have h170 : D0 170 = D 170 := by
      rw [hD0, y_sl_n (by decide)]
      exact hp.1.1.1 170 (by decide)
    have zz := (z_shut G (r := (f (i + 1)))).1 v D2 (y_gi v) hp
    rw [← hD0] at zz
    change E (ce + 1) (sl + 6) 1245 [(0, .ref 63), (1, .ref 64), (2, .ref 169), (3, .ref 189), (4, .int (nI i))] [.int 0] (y_mk n L D0)
    refine r_istore (ls2 := [(0, .ref 63), (1, .ref 64), (2, .ref 169), (3, .ref 189), (4, .int (nI i)), (5, .int 0)]) hE dL_law_1245 (by decide) rfl ?_
    refine r_aload_n hE dL_law_1247 rfl ?_
    refine t_arg (k := 1) hE hT dL_law_1248 dL_law_1249 dL_law_1251 dL_law_1252 dL_law_1253 rfl rfl (by decide) (by omega) (by omega) ?_
    refine t_invvRi (st := []) hE [.int (f (i + 1))] (c_shut hL (by rw [h170]; exact g_m_W G.2.1)) v_yX11_shut m_L_186 dL_law_1254 rfl (hL 169 (by decide)) (y_l_169 (D0 169)) rfl (by decide) ⟨by omega, by omega⟩ (Nat.le_of_ble_eq_true rfl) (fun b D3 hR => ?_)
    have zz := zz _ _ hR
    obtain ⟨hv, h0, hG, h189⟩ := zz
    change E (ce + 1) (sl + 6) 1257 [(0, .ref 63), (1, .ref 64), (2, .ref 169), (3, .ref 189), (4, .int (nI i)), (5, .int 0)] [.int b] (y_mk n L D3)
    refine r_istore (ls2 := [(0, .ref 63), (1, .ref 64), (2, .ref 169), (3, .ref 189), (4, .int (nI i)), (5, .int 0), (6, .int b)]) hE dL_law_1257 (by decide) rfl ?_
    refine t_thr hE hL dL_law_1259 dL_law_1260 dL_law_1263 dL_law_1265 rfl rfl h0 (by decide) ⟨by omega, by omega⟩ ?_
    refine t_oki hE hL dL_law_1270 dL_law_1272 dL_law_1275 dL_law_1276 dL_law_1277 dL_law_1278 dL_law_1280 dL_law_1281 dL_law_1282 rfl rfl rfl (by rw [h189, hD0, ← hv]; rfl) ?_
    refine r_goto (tgt := 2607) hE dL_law_1287 (by decide) ?_
    refine r_locs hE (ls2 := [(0, .ref 63), (1, .ref 64), (2, .ref 169), (3, .ref 189), (4, .int (nI i))]) (fun q hq => by simp only [List.mem_cons, List.not_mem_nil, or_false] at hq; rcases hq with rfl | rfl | rfl | rfl | rfl <;> rfl) ?_
    exact kk n L _ (ce + 1) (sl + 6) hG (by omega) (by omega)
  · have h170 : D 170 = D 170 := rfl
    have zz := (z_shut G (r := (f (i + 1)))).2 j E9 n2 hj hx hn
    change E (ce + 1) (sl + 6) 1245 [(0, .ref 63), (1, .ref 64), (2, .ref 169), (3, .ref 189), (4, .int (nI i))] [.int (nI (j + 1))] (y_mk n2 L D)
    refine r_istore (ls2 := [(0, .ref 63), (1, .ref 64), (2, .ref 169), (3, .ref 189), (4, .int (nI i)), (5, .int (nI (j + 1)))]) hE dL_law_1245 (by decide) rfl ?_
    refine r_aload_n hE dL_law_1247 rfl ?_
    refine t_arg (k := 1) hE hT dL_law_1248 dL_law_1249 dL_law_1251 dL_law_1252 dL_law_1253 rfl rfl (by decide) (by omega) (by omega) ?_
    refine t_invvRi (st := []) hE [.int (f (i + 1))] (c_shut hL (by rw [h170]; exact g_m_W G.2.1)) v_yX11_shut m_L_186 dL_law_1254 rfl (hL 169 (by decide)) (y_l_169 (D 169)) rfl (by decide) ⟨by omega, by omega⟩ (Nat.le_of_ble_eq_true rfl) (fun b D3 hR => ?_)
    have zz := zz _ _ hR
    obtain ⟨h0, hG⟩ := zz
    change E (ce + 1) (sl + 6) 1257 [(0, .ref 63), (1, .ref 64), (2, .ref 169), (3, .ref 189), (4, .int (nI i)), (5, .int (nI (j + 1)))] [.int b] (y_mk n2 L D3)
    refine r_istore (ls2 := [(0, .ref 63), (1, .ref 64), (2, .ref 169), (3, .ref 189), (4, .int (nI i)), (5, .int (nI (j + 1))), (6, .int b)]) hE dL_law_1257 (by decide) rfl ?_
    refine t_thr hE hL dL_law_1259 dL_law_1260 dL_law_1263 dL_law_1265 rfl rfl h0 (by decide) ⟨by omega, by omega⟩ ?_
    refine t_ex (tgt := 1287) hE dL_law_1270 dL_law_1272 rfl (t_nlt hj (by decide)) (by decide) ?_
    refine r_goto (tgt := 2607) hE dL_law_1287 (by decide) ?_
    refine r_locs hE (ls2 := [(0, .ref 63), (1, .ref 64), (2, .ref 169), (3, .ref 189), (4, .int (nI i))]) (fun q hq => by simp only [List.mem_cons, List.not_mem_nil, or_false] at hq; rcases hq with rfl | rfl | rfl | rfl | rfl <;> rfl) ?_
    exact kk n2 L _ (ce + 1) (sl + 6) hG (by omega) (by omega)
theorem law_opens {V : x_E} (hV : y_V V) (hF : y_fm V) {N i ce sl MC MS n : Nat} {f : Nat → Int32} {L : List Nat} {D : y_D} {E : x_P} (hT : law_S V N f) (hE : x_X V RL cL_law 8 (some .boolean) 40 MC MS "law" (fun r _ => r = some (.int 1)) E) (G : g_G n L D) (hi : i + 6 ≤ N) (hN : N ≤ 3072) (hce : ce + 4 ≤ MC) (hsl : sl + 816 ≤ MS) (kk : ∀ (n2 : Nat) (L2 : List Nat) (D2 : y_D) (ce2 sl2 : Nat), g_G n2 L2 D2 → ce2 ≤ ce + 4 → sl2 ≤ sl + 816 → E ce2 sl2 2607 [(0, .ref 63), (1, .ref 64), (2, .ref 169), (3, .ref 189), (4, .int (nI i))] [] (y_mk n2 L2 D2)) : E ce sl 1290 [(0, .ref 63), (1, .ref 64), (2, .ref 169), (3, .ref 189), (4, .int (nI i))] [] (y_mk n L D) := by
  have hL := G.1.1
  refine r_aload_n hE dL_law_1290 rfl ?_
  refine t_arg (k := 1) hE hT dL_law_1291 dL_law_1292 dL_law_1294 dL_law_1295 dL_law_1296 rfl rfl (by decide) (by omega) (by omega) ?_
  refine t_arg (k := 2) hE hT dL_law_1297 dL_law_1298 dL_law_1300 dL_law_1301 dL_law_1302 rfl rfl (by decide) (by omega) (by omega) ?_
  refine r_aload_n hE dL_law_1303 rfl ?_
  have hw := w_opens (n := n) (D := D) hV hL (f_opens hV hL (g_k_B G.2.1) G.2.2.1 (p := (f (i + 1))) (r := (f (i + 2)))) (fun E9 h => by grind)
  refine r_invsW hE (st := []) [.ref 64, .int (f (i + 1)), .int (f (i + 2)), .ref 189] hw w_YW_opens m_L_187 dL_law_1304 rfl (by decide) ⟨by omega, by omega⟩ (Nat.le_of_ble_eq_true rfl) ⟨rfl, rfl⟩ (fun r9 S9 h9 => ?_)
  rcases h9 with ⟨v, D2, hp, rfl, rfl⟩ | ⟨j, E9, n2, hj, hx, rfl, hn, rfl⟩
  · obtain ⟨D0, hD0⟩ : ∃ z, z = y_sl D2 189 0 (y_gi v) := ⟨_, rfl⟩
    rw [← hD0]
    have h170 : D0 170 = D 170 := by
      rw [hD0, y_sl_n (by decide)]
      exact hp.1.1.1 170 (by decide)
    have zz := (z_opens G (p := (f (i + 1))) (r := (f (i + 2)))).1 v D2 (y_gi v) hp
    rw [← hD0] at zz
    change E (ce + 2) (sl + 12) 1307 [(0, .ref 63), (1, .ref 64), (2, .ref 169), (3, .ref 189), (4, .int (nI i))] [.int 0] (y_mk n L D0)
    refine r_istore (ls2 := [(0, .ref 63), (1, .ref 64), (2, .ref 169), (3, .ref 189), (4, .int (nI i)), (5, .int 0)]) hE dL_law_1307 (by decide) rfl ?_
    refine r_aload_n hE dL_law_1309 rfl ?_
    refine t_arg (k := 1) hE hT dL_law_1310 dL_law_1311 dL_law_1313 dL_law_1314 dL_law_1315 rfl rfl (by decide) (by omega) (by omega) ?_
    refine t_arg (k := 2) hE hT dL_law_1316 dL_law_1317 dL_law_1319 dL_law_1320 dL_law_1321 rfl rfl (by decide) (by omega) (by omega) ?_
    refine t_invvRi (st := []) hE [.int (f (i + 1)), .int (f (i + 2))] (c_opens hL (by rw [h170]; exact g_m_W G.2.1)) v_yX11_opens m_L_189 dL_law_1322 rfl (hL 169 (by decide)) (y_l_169 (D0 169)) rfl (by decide) ⟨by omega, by omega⟩ (Nat.le_of_ble_eq_true rfl) (fun b D3 hR => ?_)
    have zz := zz _ _ hR
    obtain ⟨hv, h0, hG, h189⟩ := zz
    change E (ce + 2) (sl + 12) 1325 [(0, .ref 63), (1, .ref 64), (2, .ref 169), (3, .ref 189), (4, .int (nI i)), (5, .int 0)] [.int b] (y_mk n L D3)
    refine r_istore (ls2 := [(0, .ref 63), (1, .ref 64), (2, .ref 169), (3, .ref 189), (4, .int (nI i)), (5, .int 0), (6, .int b)]) hE dL_law_1325 (by decide) rfl ?_
    refine t_thr hE hL dL_law_1327 dL_law_1328 dL_law_1331 dL_law_1333 rfl rfl h0 (by decide) ⟨by omega, by omega⟩ ?_
    refine t_oki hE hL dL_law_1338 dL_law_1340 dL_law_1343 dL_law_1344 dL_law_1345 dL_law_1346 dL_law_1348 dL_law_1349 dL_law_1350 rfl rfl rfl (by rw [h189, hD0, ← hv]; rfl) ?_
    refine r_goto (tgt := 2607) hE dL_law_1355 (by decide) ?_
    refine r_locs hE (ls2 := [(0, .ref 63), (1, .ref 64), (2, .ref 169), (3, .ref 189), (4, .int (nI i))]) (fun q hq => by simp only [List.mem_cons, List.not_mem_nil, or_false] at hq; rcases hq with rfl | rfl | rfl | rfl | rfl <;> rfl) ?_
    exact kk n L _ (ce + 2) (sl + 12) hG (by omega) (by omega)
  · have h170 : D 170 = D 170 := rfl
    have zz := (z_opens G (p := (f (i + 1))) (r := (f (i + 2)))).2 j E9 n2 hj hx hn
    change E (ce + 2) (sl + 12) 1307 [(0, .ref 63), (1, .ref 64), (2, .ref 169), (3, .ref 189), (4, .int (nI i))] [.int (nI (j + 1))] (y_mk n2 L D)
    refine r_istore (ls2 := [(0, .ref 63), (1, .ref 64), (2, .ref 169), (3, .ref 189), (4, .int (nI i)), (5, .int (nI (j + 1)))]) hE dL_law_1307 (by decide) rfl ?_
    refine r_aload_n hE dL_law_1309 rfl ?_
    refine t_arg (k := 1) hE hT dL_law_1310 dL_law_1311 dL_law_1313 dL_law_1314 dL_law_1315 rfl rfl (by decide) (by omega) (by omega) ?_
    refine t_arg (k := 2) hE hT dL_law_1316 dL_law_1317 dL_law_1319 dL_law_1320 dL_law_1321 rfl rfl (by decide) (by omega) (by omega) ?_
    refine t_invvRi (st := []) hE [.int (f (i + 1)), .int (f (i + 2))] (c_opens hL (by rw [h170]; exact g_m_W G.2.1)) v_yX11_opens m_L_189 dL_law_1322 rfl (hL 169 (by decide)) (y_l_169 (D 169)) rfl (by decide) ⟨by omega, by omega⟩ (Nat.le_of_ble_eq_true rfl) (fun b D3 hR => ?_)
    have zz := zz _ _ hR
    obtain ⟨h0, hG⟩ := zz
    change E (ce + 2) (sl + 12) 1325 [(0, .ref 63), (1, .ref 64), (2, .ref 169), (3, .ref 189), (4, .int (nI i)), (5, .int (nI (j + 1)))] [.int b] (y_mk n2 L D3)
    refine r_istore (ls2 := [(0, .ref 63), (1, .ref 64), (2, .ref 169), (3, .ref 189), (4, .int (nI i)), (5, .int (nI (j + 1))), (6, .int b)]) hE dL_law_1325 (by decide) rfl ?_
    refine t_thr hE hL dL_law_1327 dL_law_1328 dL_law_1331 dL_law_1333 rfl rfl h0 (by decide) ⟨by omega, by omega⟩ ?_
    refine t_ex (tgt := 1355) hE dL_law_1338 dL_law_1340 rfl (t_nlt hj (by decide)) (by decide) ?_
    refine r_goto (tgt := 2607) hE dL_law_1355 (by decide) ?_
    refine r_locs hE (ls2 := [(0, .ref 63), (1, .ref 64), (2, .ref 169), (3, .ref 189), (4, .int (nI i))]) (fun q hq => by simp only [List.mem_cons, List.not_mem_nil, or_false] at hq; rcases hq with rfl | rfl | rfl | rfl | rfl <;> rfl) ?_
    exact kk n2 L _ (ce + 2) (sl + 12) hG (by omega) (by omega)
theorem law_trap {V : x_E} (hV : y_V V) (hF : y_fm V) {N i ce sl MC MS n : Nat} {f : Nat → Int32} {L : List Nat} {D : y_D} {E : x_P} (hT : law_S V N f) (hE : x_X V RL cL_law 8 (some .boolean) 40 MC MS "law" (fun r _ => r = some (.int 1)) E) (G : g_G n L D) (hi : i + 6 ≤ N) (hN : N ≤ 3072) (hce : ce + 4 ≤ MC) (hsl : sl + 816 ≤ MS) (kk : ∀ (n2 : Nat) (L2 : List Nat) (D2 : y_D) (ce2 sl2 : Nat), g_G n2 L2 D2 → ce2 ≤ ce + 4 → sl2 ≤ sl + 816 → E ce2 sl2 2607 [(0, .ref 63), (1, .ref 64), (2, .ref 169), (3, .ref 189), (4, .int (nI i))] [] (y_mk n2 L2 D2)) : E ce sl 1358 [(0, .ref 63), (1, .ref 64), (2, .ref 169), (3, .ref 189), (4, .int (nI i))] [] (y_mk n L D) := by
  have hL := G.1.1
  refine r_aload_n hE dL_law_1358 rfl ?_
  refine t_arg (k := 1) hE hT dL_law_1359 dL_law_1360 dL_law_1362 dL_law_1363 dL_law_1364 rfl rfl (by decide) (by omega) (by omega) ?_
  refine t_arg (k := 2) hE hT dL_law_1365 dL_law_1366 dL_law_1368 dL_law_1369 dL_law_1370 rfl rfl (by decide) (by omega) (by omega) ?_
  refine t_arg (k := 3) hE hT dL_law_1371 dL_law_1372 dL_law_1374 dL_law_1375 dL_law_1376 rfl rfl (by decide) (by omega) (by omega) ?_
  refine r_aload_n hE dL_law_1377 rfl ?_
  have t9 := G.2.1.1.2.2.2.1
  have hw := w_trap (n := n) (D := D) hV hL (f_trap hV hL (t9.1.1.trans t9.2.1.1) t9.1.2.1 t9.2.1.2 (p := (f (i + 1))) (q := (f (i + 2))) (r := (f (i + 3)))) (fun E9 h => by grind)
  refine r_invsW hE (st := []) [.ref 64, .int (f (i + 1)), .int (f (i + 2)), .int (f (i + 3)), .ref 189] hw w_YW_trap m_L_190 dL_law_1378 rfl (by decide) ⟨by omega, by omega⟩ (Nat.le_of_ble_eq_true rfl) ⟨rfl, rfl⟩ (fun r9 S9 h9 => ?_)
  rcases h9 with ⟨v, D2, hp, rfl, rfl⟩ | ⟨j, E9, n2, hj, hx, rfl, hn, rfl⟩
  · obtain ⟨D0, hD0⟩ : ∃ z, z = y_sl D2 189 0 (y_gi v) := ⟨_, rfl⟩
    rw [← hD0]
    have h170 : D0 170 = D 170 := by
      rw [hD0, y_sl_n (by decide)]
      rw [hp.2.2.2, y_Tadd_n (by decide) (by decide)]
    have zz := (z_trap G t9.2.1.1 t9.2.1.2 (p := (f (i + 1))) (q := (f (i + 2))) (r := (f (i + 3)))).1 v D2 (y_gi v) hp
    rw [← hD0] at zz
    change E (ce + 3) (sl + 18) 1381 [(0, .ref 63), (1, .ref 64), (2, .ref 169), (3, .ref 189), (4, .int (nI i))] [.int 0] (y_mk n L D0)
    refine r_istore (ls2 := [(0, .ref 63), (1, .ref 64), (2, .ref 169), (3, .ref 189), (4, .int (nI i)), (5, .int 0)]) hE dL_law_1381 (by decide) rfl ?_
    refine r_aload_n hE dL_law_1383 rfl ?_
    refine t_arg (k := 1) hE hT dL_law_1384 dL_law_1385 dL_law_1387 dL_law_1388 dL_law_1389 rfl rfl (by decide) (by omega) (by omega) ?_
    refine t_arg (k := 2) hE hT dL_law_1390 dL_law_1391 dL_law_1393 dL_law_1394 dL_law_1395 rfl rfl (by decide) (by omega) (by omega) ?_
    refine t_arg (k := 3) hE hT dL_law_1396 dL_law_1397 dL_law_1399 dL_law_1400 dL_law_1401 rfl rfl (by decide) (by omega) (by omega) ?_
    refine t_invv (r := some (.int (M_trap D0 (q_n (D 170).1 5) ((f (i + 1))) ((f (i + 2))) ((f (i + 3)))).1)) (S2 := y_mk n L (M_trap D0 (q_n (D 170).1 5) ((f (i + 1))) ((f (i + 2))) ((f (i + 3)))).2) (st := []) hE [.int (f (i + 1)), .int (f (i + 2)), .int (f (i + 3))] (c_trap hL (by rw [h170]; exact t9.2.1.1) t9.2.1.2) v_yX11_trap m_L_192 dL_law_1402 rfl (hL 169 (by decide)) (y_l_169 (D0 169)) rfl (by decide) ⟨by omega, by omega⟩ (Nat.le_of_ble_eq_true rfl) ?_
    have zz := zz _ _ ⟨rfl, rfl⟩
    generalize (M_trap D0 (q_n (D 170).1 5) ((f (i + 1))) ((f (i + 2))) ((f (i + 3)))).2 = D3 at zz ⊢
    generalize (M_trap D0 (q_n (D 170).1 5) ((f (i + 1))) ((f (i + 2))) ((f (i + 3)))).1 = b at zz ⊢
    obtain ⟨hv, h0, hG, h189⟩ := zz
    change E (ce + 3) (sl + 18) 1405 [(0, .ref 63), (1, .ref 64), (2, .ref 169), (3, .ref 189), (4, .int (nI i)), (5, .int 0)] [.int b] (y_mk n L D3)
    refine r_istore (ls2 := [(0, .ref 63), (1, .ref 64), (2, .ref 169), (3, .ref 189), (4, .int (nI i)), (5, .int 0), (6, .int b)]) hE dL_law_1405 (by decide) rfl ?_
    refine t_thr hE hL dL_law_1407 dL_law_1408 dL_law_1411 dL_law_1413 rfl rfl h0 (by decide) ⟨by omega, by omega⟩ ?_
    refine t_oki hE hL dL_law_1418 dL_law_1420 dL_law_1423 dL_law_1424 dL_law_1425 dL_law_1426 dL_law_1428 dL_law_1429 dL_law_1430 rfl rfl rfl (by rw [h189, hD0, ← hv]; rfl) ?_
    refine r_goto (tgt := 2607) hE dL_law_1435 (by decide) ?_
    refine r_locs hE (ls2 := [(0, .ref 63), (1, .ref 64), (2, .ref 169), (3, .ref 189), (4, .int (nI i))]) (fun q hq => by simp only [List.mem_cons, List.not_mem_nil, or_false] at hq; rcases hq with rfl | rfl | rfl | rfl | rfl <;> rfl) ?_
    exact kk n L _ (ce + 3) (sl + 18) hG (by omega) (by omega)
  · have h170 : D 170 = D 170 := rfl
    have zz := (z_trap G t9.2.1.1 t9.2.1.2 (p := (f (i + 1))) (q := (f (i + 2))) (r := (f (i + 3)))).2 j E9 n2 hj hx hn
    change E (ce + 3) (sl + 18) 1381 [(0, .ref 63), (1, .ref 64), (2, .ref 169), (3, .ref 189), (4, .int (nI i))] [.int (nI (j + 1))] (y_mk n2 L D)
    refine r_istore (ls2 := [(0, .ref 63), (1, .ref 64), (2, .ref 169), (3, .ref 189), (4, .int (nI i)), (5, .int (nI (j + 1)))]) hE dL_law_1381 (by decide) rfl ?_
    refine r_aload_n hE dL_law_1383 rfl ?_
    refine t_arg (k := 1) hE hT dL_law_1384 dL_law_1385 dL_law_1387 dL_law_1388 dL_law_1389 rfl rfl (by decide) (by omega) (by omega) ?_
    refine t_arg (k := 2) hE hT dL_law_1390 dL_law_1391 dL_law_1393 dL_law_1394 dL_law_1395 rfl rfl (by decide) (by omega) (by omega) ?_
    refine t_arg (k := 3) hE hT dL_law_1396 dL_law_1397 dL_law_1399 dL_law_1400 dL_law_1401 rfl rfl (by decide) (by omega) (by omega) ?_
    refine t_invv (r := some (.int (M_trap D (q_n (D 170).1 5) ((f (i + 1))) ((f (i + 2))) ((f (i + 3)))).1)) (S2 := y_mk n2 L (M_trap D (q_n (D 170).1 5) ((f (i + 1))) ((f (i + 2))) ((f (i + 3)))).2) (st := []) hE [.int (f (i + 1)), .int (f (i + 2)), .int (f (i + 3))] (c_trap hL (by rw [h170]; exact t9.2.1.1) t9.2.1.2) v_yX11_trap m_L_192 dL_law_1402 rfl (hL 169 (by decide)) (y_l_169 (D 169)) rfl (by decide) ⟨by omega, by omega⟩ (Nat.le_of_ble_eq_true rfl) ?_
    have zz := zz _ _ ⟨rfl, rfl⟩
    generalize (M_trap D (q_n (D 170).1 5) ((f (i + 1))) ((f (i + 2))) ((f (i + 3)))).2 = D3 at zz ⊢
    generalize (M_trap D (q_n (D 170).1 5) ((f (i + 1))) ((f (i + 2))) ((f (i + 3)))).1 = b at zz ⊢
    obtain ⟨h0, hG⟩ := zz
    change E (ce + 3) (sl + 18) 1405 [(0, .ref 63), (1, .ref 64), (2, .ref 169), (3, .ref 189), (4, .int (nI i)), (5, .int (nI (j + 1)))] [.int b] (y_mk n2 L D3)
    refine r_istore (ls2 := [(0, .ref 63), (1, .ref 64), (2, .ref 169), (3, .ref 189), (4, .int (nI i)), (5, .int (nI (j + 1))), (6, .int b)]) hE dL_law_1405 (by decide) rfl ?_
    refine t_thr hE hL dL_law_1407 dL_law_1408 dL_law_1411 dL_law_1413 rfl rfl h0 (by decide) ⟨by omega, by omega⟩ ?_
    refine t_ex (tgt := 1435) hE dL_law_1418 dL_law_1420 rfl (t_nlt hj (by decide)) (by decide) ?_
    refine r_goto (tgt := 2607) hE dL_law_1435 (by decide) ?_
    refine r_locs hE (ls2 := [(0, .ref 63), (1, .ref 64), (2, .ref 169), (3, .ref 189), (4, .int (nI i))]) (fun q hq => by simp only [List.mem_cons, List.not_mem_nil, or_false] at hq; rcases hq with rfl | rfl | rfl | rfl | rfl <;> rfl) ?_
    exact kk n2 L _ (ce + 3) (sl + 18) hG (by omega) (by omega)
theorem law_story {V : x_E} (hV : y_V V) (hF : y_fm V) {N i ce sl MC MS n : Nat} {f : Nat → Int32} {L : List Nat} {D : y_D} {E : x_P} (hT : law_S V N f) (hE : x_X V RL cL_law 8 (some .boolean) 40 MC MS "law" (fun r _ => r = some (.int 1)) E) (G : g_G n L D) (hi : i + 6 ≤ N) (hN : N ≤ 3072) (hce : ce + 4 ≤ MC) (hsl : sl + 816 ≤ MS) (kk : ∀ (n2 : Nat) (L2 : List Nat) (D2 : y_D) (ce2 sl2 : Nat), g_G n2 L2 D2 → ce2 ≤ ce + 4 → sl2 ≤ sl + 816 → E ce2 sl2 2607 [(0, .ref 63), (1, .ref 64), (2, .ref 169), (3, .ref 189), (4, .int (nI i))] [] (y_mk n2 L2 D2)) : E ce sl 1438 [(0, .ref 63), (1, .ref 64), (2, .ref 169), (3, .ref 189), (4, .int (nI i))] [] (y_mk n L D) := by
  have hL := G.1.1
  refine r_aload_n hE dL_law_1438 rfl ?_
  refine t_arg (k := 1) hE hT dL_law_1439 dL_law_1440 dL_law_1442 dL_law_1443 dL_law_1444 rfl rfl (by decide) (by omega) (by omega) ?_
  refine t_arg (k := 2) hE hT dL_law_1445 dL_law_1446 dL_law_1448 dL_law_1449 dL_law_1450 rfl rfl (by decide) (by omega) (by omega) ?_
  refine t_arg (k := 3) hE hT dL_law_1451 dL_law_1452 dL_law_1454 dL_law_1455 dL_law_1456 rfl rfl (by decide) (by omega) (by omega) ?_
  refine r_aload_n hE dL_law_1457 rfl ?_
  have t9 := G.2.1.1.2.2.2.2.1
  have hw := w_story (n := n) (D := D) hV hL (f_story hV hL (t9.1.1.trans t9.2.1.1) t9.1.2.1 t9.2.1.2 (p := (f (i + 1))) (q := (f (i + 2))) (r := (f (i + 3)))) (fun E9 h => by grind)
  refine r_invsW hE (st := []) [.ref 64, .int (f (i + 1)), .int (f (i + 2)), .int (f (i + 3)), .ref 189] hw w_YW_story m_L_193 dL_law_1458 rfl (by decide) ⟨by omega, by omega⟩ (Nat.le_of_ble_eq_true rfl) ⟨rfl, rfl⟩ (fun r9 S9 h9 => ?_)
  rcases h9 with ⟨v, D2, hp, rfl, rfl⟩ | ⟨j, E9, n2, hj, hx, rfl, hn, rfl⟩
  · obtain ⟨D0, hD0⟩ : ∃ z, z = y_sl D2 189 0 (y_gi v) := ⟨_, rfl⟩
    rw [← hD0]
    have h170 : D0 170 = D 170 := by
      rw [hD0, y_sl_n (by decide)]
      rw [hp.2.2.2, y_Tadd_n (by decide) (by decide)]
    have zz := (z_story G t9.2.1.1 t9.2.1.2 (p := (f (i + 1))) (q := (f (i + 2))) (r := (f (i + 3)))).1 v D2 (y_gi v) hp
    rw [← hD0] at zz
    change E (ce + 2) (sl + 12) 1461 [(0, .ref 63), (1, .ref 64), (2, .ref 169), (3, .ref 189), (4, .int (nI i))] [.int 0] (y_mk n L D0)
    refine r_istore (ls2 := [(0, .ref 63), (1, .ref 64), (2, .ref 169), (3, .ref 189), (4, .int (nI i)), (5, .int 0)]) hE dL_law_1461 (by decide) rfl ?_
    refine r_aload_n hE dL_law_1463 rfl ?_
    refine t_arg (k := 1) hE hT dL_law_1464 dL_law_1465 dL_law_1467 dL_law_1468 dL_law_1469 rfl rfl (by decide) (by omega) (by omega) ?_
    refine t_arg (k := 2) hE hT dL_law_1470 dL_law_1471 dL_law_1473 dL_law_1474 dL_law_1475 rfl rfl (by decide) (by omega) (by omega) ?_
    refine t_arg (k := 3) hE hT dL_law_1476 dL_law_1477 dL_law_1479 dL_law_1480 dL_law_1481 rfl rfl (by decide) (by omega) (by omega) ?_
    refine t_invv (r := some (.int (M_story D0 (q_n (D 170).1 6) ((f (i + 1))) ((f (i + 2))) ((f (i + 3)))).1)) (S2 := y_mk n L (M_story D0 (q_n (D 170).1 6) ((f (i + 1))) ((f (i + 2))) ((f (i + 3)))).2) (st := []) hE [.int (f (i + 1)), .int (f (i + 2)), .int (f (i + 3))] (c_story hL (by rw [h170]; exact t9.2.1.1) t9.2.1.2) v_yX11_story m_L_195 dL_law_1482 rfl (hL 169 (by decide)) (y_l_169 (D0 169)) rfl (by decide) ⟨by omega, by omega⟩ (Nat.le_of_ble_eq_true rfl) ?_
    have zz := zz _ _ ⟨rfl, rfl⟩
    generalize (M_story D0 (q_n (D 170).1 6) ((f (i + 1))) ((f (i + 2))) ((f (i + 3)))).2 = D3 at zz ⊢
    generalize (M_story D0 (q_n (D 170).1 6) ((f (i + 1))) ((f (i + 2))) ((f (i + 3)))).1 = b at zz ⊢
    obtain ⟨hv, h0, hG, h189⟩ := zz
    change E (ce + 2) (sl + 12) 1485 [(0, .ref 63), (1, .ref 64), (2, .ref 169), (3, .ref 189), (4, .int (nI i)), (5, .int 0)] [.int b] (y_mk n L D3)
    refine r_istore (ls2 := [(0, .ref 63), (1, .ref 64), (2, .ref 169), (3, .ref 189), (4, .int (nI i)), (5, .int 0), (6, .int b)]) hE dL_law_1485 (by decide) rfl ?_
    refine t_thr hE hL dL_law_1487 dL_law_1488 dL_law_1491 dL_law_1493 rfl rfl h0 (by decide) ⟨by omega, by omega⟩ ?_
    refine t_oki hE hL dL_law_1498 dL_law_1500 dL_law_1503 dL_law_1504 dL_law_1505 dL_law_1506 dL_law_1508 dL_law_1509 dL_law_1510 rfl rfl rfl (by rw [h189, hD0, ← hv]; rfl) ?_
    refine r_goto (tgt := 2607) hE dL_law_1515 (by decide) ?_
    refine r_locs hE (ls2 := [(0, .ref 63), (1, .ref 64), (2, .ref 169), (3, .ref 189), (4, .int (nI i))]) (fun q hq => by simp only [List.mem_cons, List.not_mem_nil, or_false] at hq; rcases hq with rfl | rfl | rfl | rfl | rfl <;> rfl) ?_
    exact kk n L _ (ce + 2) (sl + 12) hG (by omega) (by omega)
  · have h170 : D 170 = D 170 := rfl
    have zz := (z_story G t9.2.1.1 t9.2.1.2 (p := (f (i + 1))) (q := (f (i + 2))) (r := (f (i + 3)))).2 j E9 n2 hj hx hn
    change E (ce + 2) (sl + 12) 1461 [(0, .ref 63), (1, .ref 64), (2, .ref 169), (3, .ref 189), (4, .int (nI i))] [.int (nI (j + 1))] (y_mk n2 L D)
    refine r_istore (ls2 := [(0, .ref 63), (1, .ref 64), (2, .ref 169), (3, .ref 189), (4, .int (nI i)), (5, .int (nI (j + 1)))]) hE dL_law_1461 (by decide) rfl ?_
    refine r_aload_n hE dL_law_1463 rfl ?_
    refine t_arg (k := 1) hE hT dL_law_1464 dL_law_1465 dL_law_1467 dL_law_1468 dL_law_1469 rfl rfl (by decide) (by omega) (by omega) ?_
    refine t_arg (k := 2) hE hT dL_law_1470 dL_law_1471 dL_law_1473 dL_law_1474 dL_law_1475 rfl rfl (by decide) (by omega) (by omega) ?_
    refine t_arg (k := 3) hE hT dL_law_1476 dL_law_1477 dL_law_1479 dL_law_1480 dL_law_1481 rfl rfl (by decide) (by omega) (by omega) ?_
    refine t_invv (r := some (.int (M_story D (q_n (D 170).1 6) ((f (i + 1))) ((f (i + 2))) ((f (i + 3)))).1)) (S2 := y_mk n2 L (M_story D (q_n (D 170).1 6) ((f (i + 1))) ((f (i + 2))) ((f (i + 3)))).2) (st := []) hE [.int (f (i + 1)), .int (f (i + 2)), .int (f (i + 3))] (c_story hL (by rw [h170]; exact t9.2.1.1) t9.2.1.2) v_yX11_story m_L_195 dL_law_1482 rfl (hL 169 (by decide)) (y_l_169 (D 169)) rfl (by decide) ⟨by omega, by omega⟩ (Nat.le_of_ble_eq_true rfl) ?_
    have zz := zz _ _ ⟨rfl, rfl⟩
    generalize (M_story D (q_n (D 170).1 6) ((f (i + 1))) ((f (i + 2))) ((f (i + 3)))).2 = D3 at zz ⊢
    generalize (M_story D (q_n (D 170).1 6) ((f (i + 1))) ((f (i + 2))) ((f (i + 3)))).1 = b at zz ⊢
    obtain ⟨h0, hG⟩ := zz
    change E (ce + 2) (sl + 12) 1485 [(0, .ref 63), (1, .ref 64), (2, .ref 169), (3, .ref 189), (4, .int (nI i)), (5, .int (nI (j + 1)))] [.int b] (y_mk n2 L D3)
    refine r_istore (ls2 := [(0, .ref 63), (1, .ref 64), (2, .ref 169), (3, .ref 189), (4, .int (nI i)), (5, .int (nI (j + 1))), (6, .int b)]) hE dL_law_1485 (by decide) rfl ?_
    refine t_thr hE hL dL_law_1487 dL_law_1488 dL_law_1491 dL_law_1493 rfl rfl h0 (by decide) ⟨by omega, by omega⟩ ?_
    refine t_ex (tgt := 1515) hE dL_law_1498 dL_law_1500 rfl (t_nlt hj (by decide)) (by decide) ?_
    refine r_goto (tgt := 2607) hE dL_law_1515 (by decide) ?_
    refine r_locs hE (ls2 := [(0, .ref 63), (1, .ref 64), (2, .ref 169), (3, .ref 189), (4, .int (nI i))]) (fun q hq => by simp only [List.mem_cons, List.not_mem_nil, or_false] at hq; rcases hq with rfl | rfl | rfl | rfl | rfl <;> rfl) ?_
    exact kk n2 L _ (ce + 2) (sl + 12) hG (by omega) (by omega)
theorem law_night {V : x_E} (hV : y_V V) (hF : y_fm V) {N i ce sl MC MS n : Nat} {f : Nat → Int32} {L : List Nat} {D : y_D} {E : x_P} (hT : law_S V N f) (hE : x_X V RL cL_law 8 (some .boolean) 40 MC MS "law" (fun r _ => r = some (.int 1)) E) (G : g_G n L D) (hi : i + 6 ≤ N) (hN : N ≤ 3072) (hce : ce + 4 ≤ MC) (hsl : sl + 816 ≤ MS) (kk : ∀ (n2 : Nat) (L2 : List Nat) (D2 : y_D) (ce2 sl2 : Nat), g_G n2 L2 D2 → ce2 ≤ ce + 4 → sl2 ≤ sl + 816 → E ce2 sl2 2607 [(0, .ref 63), (1, .ref 64), (2, .ref 169), (3, .ref 189), (4, .int (nI i))] [] (y_mk n2 L2 D2)) : E ce sl 1518 [(0, .ref 63), (1, .ref 64), (2, .ref 169), (3, .ref 189), (4, .int (nI i))] [] (y_mk n L D) := by
  have hL := G.1.1
  refine r_aload_n hE dL_law_1518 rfl ?_
  refine t_arg (k := 1) hE hT dL_law_1519 dL_law_1520 dL_law_1522 dL_law_1523 dL_law_1524 rfl rfl (by decide) (by omega) (by omega) ?_
  refine t_arg (k := 2) hE hT dL_law_1525 dL_law_1526 dL_law_1528 dL_law_1529 dL_law_1530 rfl rfl (by decide) (by omega) (by omega) ?_
  refine t_arg (k := 3) hE hT dL_law_1531 dL_law_1532 dL_law_1534 dL_law_1535 dL_law_1536 rfl rfl (by decide) (by omega) (by omega) ?_
  refine t_arg (k := 4) hE hT dL_law_1537 dL_law_1538 dL_law_1540 dL_law_1541 dL_law_1542 rfl rfl (by decide) (by omega) (by omega) ?_
  refine t_arg (k := 5) hE hT dL_law_1543 dL_law_1544 dL_law_1546 dL_law_1547 dL_law_1548 rfl rfl (by decide) (by omega) (by omega) ?_
  refine r_aload_n hE dL_law_1549 rfl ?_
  have t9 := G.2.1.1.2.2.2.2.2.1
  have t3 := G.2.1.1.2.1
  have t5 := G.2.1.1.2.2.2.1
  have hw := w_night (n := n) (D := D) hV hL (f_night hV hL (t9.1.1.trans t9.2.1.1) t9.1.2.1 t9.2.1.2 (t3.1.1.trans t3.2.1.1) t3.2.1.2 (t5.1.1.trans t5.2.1.1) t5.2.1.2 (p := (f (i + 1))) (q := (f (i + 2))) (r := (f (i + 3))) (s := (f (i + 4))) (t := (f (i + 5)))) (fun E9 h => by grind)
  refine r_invsW hE (st := []) [.ref 64, .int (f (i + 1)), .int (f (i + 2)), .int (f (i + 3)), .int (f (i + 4)), .int (f (i + 5)), .ref 189] hw w_YW_night m_L_196 dL_law_1550 rfl (by decide) ⟨by omega, by omega⟩ (Nat.le_of_ble_eq_true rfl) ⟨rfl, rfl⟩ (fun r9 S9 h9 => ?_)
  rcases h9 with ⟨v, D2, hp, rfl, rfl⟩ | ⟨j, E9, n2, hj, hx, rfl, hn, rfl⟩
  · obtain ⟨D0, hD0⟩ : ∃ z, z = y_sl D2 189 0 (y_gi v) := ⟨_, rfl⟩
    rw [← hD0]
    have h170 : D0 170 = D 170 := by
      rw [hD0, y_sl_n (by decide)]
      rw [hp.2.2.2, y_Tadd_n (by decide) (by decide)]
    have zz := (z_night G t9.2.1.1 t9.2.1.2 (p := (f (i + 1))) (q := (f (i + 2))) (r := (f (i + 3))) (s := (f (i + 4))) (t := (f (i + 5))) (kt := q_n (D 170).1 3) (kp := q_n (D 170).1 5)).1 v D2 (y_gi v) hp
    rw [← hD0] at zz
    change E (ce + 4) (sl + 24) 1553 [(0, .ref 63), (1, .ref 64), (2, .ref 169), (3, .ref 189), (4, .int (nI i))] [.int 0] (y_mk n L D0)
    refine r_istore (ls2 := [(0, .ref 63), (1, .ref 64), (2, .ref 169), (3, .ref 189), (4, .int (nI i)), (5, .int 0)]) hE dL_law_1553 (by decide) rfl ?_
    refine r_aload_n hE dL_law_1555 rfl ?_
    refine t_arg (k := 1) hE hT dL_law_1556 dL_law_1557 dL_law_1559 dL_law_1560 dL_law_1561 rfl rfl (by decide) (by omega) (by omega) ?_
    refine t_arg (k := 2) hE hT dL_law_1562 dL_law_1563 dL_law_1565 dL_law_1566 dL_law_1567 rfl rfl (by decide) (by omega) (by omega) ?_
    refine t_arg (k := 3) hE hT dL_law_1568 dL_law_1569 dL_law_1571 dL_law_1572 dL_law_1573 rfl rfl (by decide) (by omega) (by omega) ?_
    refine t_arg (k := 4) hE hT dL_law_1574 dL_law_1575 dL_law_1577 dL_law_1578 dL_law_1579 rfl rfl (by decide) (by omega) (by omega) ?_
    refine t_arg (k := 5) hE hT dL_law_1580 dL_law_1581 dL_law_1583 dL_law_1584 dL_law_1585 rfl rfl (by decide) (by omega) (by omega) ?_
    refine t_invv (r := some (.int (M_night D0 (q_n (D 170).1 7) (q_n (D 170).1 3) (q_n (D 170).1 5) ((f (i + 1))) ((f (i + 2))) ((f (i + 3))) ((f (i + 4))) ((f (i + 5)))).1)) (S2 := y_mk n L (M_night D0 (q_n (D 170).1 7) (q_n (D 170).1 3) (q_n (D 170).1 5) ((f (i + 1))) ((f (i + 2))) ((f (i + 3))) ((f (i + 4))) ((f (i + 5)))).2) (st := []) hE [.int (f (i + 1)), .int (f (i + 2)), .int (f (i + 3)), .int (f (i + 4)), .int (f (i + 5))] (c_night hL (by rw [h170]; exact t9.2.1.1) t9.2.1.2 (by rw [h170]; exact t3.2.1.1) t3.2.1.2 (by rw [h170]; exact t5.2.1.1) t5.2.1.2) v_yX11_night m_L_199 dL_law_1586 rfl (hL 169 (by decide)) (y_l_169 (D0 169)) rfl (by decide) ⟨by omega, by omega⟩ (Nat.le_of_ble_eq_true rfl) ?_
    have zz := zz _ _ ⟨rfl, rfl⟩
    generalize (M_night D0 (q_n (D 170).1 7) (q_n (D 170).1 3) (q_n (D 170).1 5) ((f (i + 1))) ((f (i + 2))) ((f (i + 3))) ((f (i + 4))) ((f (i + 5)))).2 = D3 at zz ⊢
    generalize (M_night D0 (q_n (D 170).1 7) (q_n (D 170).1 3) (q_n (D 170).1 5) ((f (i + 1))) ((f (i + 2))) ((f (i + 3))) ((f (i + 4))) ((f (i + 5)))).1 = b at zz ⊢
    obtain ⟨hv, h0, hG, h189⟩ := zz
    change E (ce + 4) (sl + 24) 1589 [(0, .ref 63), (1, .ref 64), (2, .ref 169), (3, .ref 189), (4, .int (nI i)), (5, .int 0)] [.int b] (y_mk n L D3)
    refine r_istore (ls2 := [(0, .ref 63), (1, .ref 64), (2, .ref 169), (3, .ref 189), (4, .int (nI i)), (5, .int 0), (6, .int b)]) hE dL_law_1589 (by decide) rfl ?_
    refine t_thr hE hL dL_law_1591 dL_law_1592 dL_law_1595 dL_law_1597 rfl rfl h0 (by decide) ⟨by omega, by omega⟩ ?_
    refine t_oki hE hL dL_law_1602 dL_law_1604 dL_law_1607 dL_law_1608 dL_law_1609 dL_law_1610 dL_law_1612 dL_law_1613 dL_law_1614 rfl rfl rfl (by rw [h189, hD0, ← hv]; rfl) ?_
    refine r_goto (tgt := 2607) hE dL_law_1619 (by decide) ?_
    refine r_locs hE (ls2 := [(0, .ref 63), (1, .ref 64), (2, .ref 169), (3, .ref 189), (4, .int (nI i))]) (fun q hq => by simp only [List.mem_cons, List.not_mem_nil, or_false] at hq; rcases hq with rfl | rfl | rfl | rfl | rfl <;> rfl) ?_
    exact kk n L _ (ce + 4) (sl + 24) hG (by omega) (by omega)
  · have h170 : D 170 = D 170 := rfl
    have zz := (z_night G t9.2.1.1 t9.2.1.2 (p := (f (i + 1))) (q := (f (i + 2))) (r := (f (i + 3))) (s := (f (i + 4))) (t := (f (i + 5))) (kt := q_n (D 170).1 3) (kp := q_n (D 170).1 5)).2 j E9 n2 hj hx hn
    change E (ce + 4) (sl + 24) 1553 [(0, .ref 63), (1, .ref 64), (2, .ref 169), (3, .ref 189), (4, .int (nI i))] [.int (nI (j + 1))] (y_mk n2 L D)
    refine r_istore (ls2 := [(0, .ref 63), (1, .ref 64), (2, .ref 169), (3, .ref 189), (4, .int (nI i)), (5, .int (nI (j + 1)))]) hE dL_law_1553 (by decide) rfl ?_
    refine r_aload_n hE dL_law_1555 rfl ?_
    refine t_arg (k := 1) hE hT dL_law_1556 dL_law_1557 dL_law_1559 dL_law_1560 dL_law_1561 rfl rfl (by decide) (by omega) (by omega) ?_
    refine t_arg (k := 2) hE hT dL_law_1562 dL_law_1563 dL_law_1565 dL_law_1566 dL_law_1567 rfl rfl (by decide) (by omega) (by omega) ?_
    refine t_arg (k := 3) hE hT dL_law_1568 dL_law_1569 dL_law_1571 dL_law_1572 dL_law_1573 rfl rfl (by decide) (by omega) (by omega) ?_
    refine t_arg (k := 4) hE hT dL_law_1574 dL_law_1575 dL_law_1577 dL_law_1578 dL_law_1579 rfl rfl (by decide) (by omega) (by omega) ?_
    refine t_arg (k := 5) hE hT dL_law_1580 dL_law_1581 dL_law_1583 dL_law_1584 dL_law_1585 rfl rfl (by decide) (by omega) (by omega) ?_
    refine t_invv (r := some (.int (M_night D (q_n (D 170).1 7) (q_n (D 170).1 3) (q_n (D 170).1 5) ((f (i + 1))) ((f (i + 2))) ((f (i + 3))) ((f (i + 4))) ((f (i + 5)))).1)) (S2 := y_mk n2 L (M_night D (q_n (D 170).1 7) (q_n (D 170).1 3) (q_n (D 170).1 5) ((f (i + 1))) ((f (i + 2))) ((f (i + 3))) ((f (i + 4))) ((f (i + 5)))).2) (st := []) hE [.int (f (i + 1)), .int (f (i + 2)), .int (f (i + 3)), .int (f (i + 4)), .int (f (i + 5))] (c_night hL (by rw [h170]; exact t9.2.1.1) t9.2.1.2 (by rw [h170]; exact t3.2.1.1) t3.2.1.2 (by rw [h170]; exact t5.2.1.1) t5.2.1.2) v_yX11_night m_L_199 dL_law_1586 rfl (hL 169 (by decide)) (y_l_169 (D 169)) rfl (by decide) ⟨by omega, by omega⟩ (Nat.le_of_ble_eq_true rfl) ?_
    have zz := zz _ _ ⟨rfl, rfl⟩
    generalize (M_night D (q_n (D 170).1 7) (q_n (D 170).1 3) (q_n (D 170).1 5) ((f (i + 1))) ((f (i + 2))) ((f (i + 3))) ((f (i + 4))) ((f (i + 5)))).2 = D3 at zz ⊢
    generalize (M_night D (q_n (D 170).1 7) (q_n (D 170).1 3) (q_n (D 170).1 5) ((f (i + 1))) ((f (i + 2))) ((f (i + 3))) ((f (i + 4))) ((f (i + 5)))).1 = b at zz ⊢
    obtain ⟨h0, hG⟩ := zz
    change E (ce + 4) (sl + 24) 1589 [(0, .ref 63), (1, .ref 64), (2, .ref 169), (3, .ref 189), (4, .int (nI i)), (5, .int (nI (j + 1)))] [.int b] (y_mk n2 L D3)
    refine r_istore (ls2 := [(0, .ref 63), (1, .ref 64), (2, .ref 169), (3, .ref 189), (4, .int (nI i)), (5, .int (nI (j + 1))), (6, .int b)]) hE dL_law_1589 (by decide) rfl ?_
    refine t_thr hE hL dL_law_1591 dL_law_1592 dL_law_1595 dL_law_1597 rfl rfl h0 (by decide) ⟨by omega, by omega⟩ ?_
    refine t_ex (tgt := 1619) hE dL_law_1602 dL_law_1604 rfl (t_nlt hj (by decide)) (by decide) ?_
    refine r_goto (tgt := 2607) hE dL_law_1619 (by decide) ?_
    refine r_locs hE (ls2 := [(0, .ref 63), (1, .ref 64), (2, .ref 169), (3, .ref 189), (4, .int (nI i))]) (fun q hq => by simp only [List.mem_cons, List.not_mem_nil, or_false] at hq; rcases hq with rfl | rfl | rfl | rfl | rfl <;> rfl) ?_
    exact kk n2 L _ (ce + 4) (sl + 24) hG (by omega) (by omega)
theorem law_odds {V : x_E} (hV : y_V V) (hF : y_fm V) {N i ce sl MC MS n : Nat} {f : Nat → Int32} {L : List Nat} {D : y_D} {E : x_P} (hT : law_S V N f) (hE : x_X V RL cL_law 8 (some .boolean) 40 MC MS "law" (fun r _ => r = some (.int 1)) E) (G : g_G n L D) (hi : i + 6 ≤ N) (hN : N ≤ 3072) (hce : ce + 4 ≤ MC) (hsl : sl + 816 ≤ MS) (kk : ∀ (n2 : Nat) (L2 : List Nat) (D2 : y_D) (ce2 sl2 : Nat), g_G n2 L2 D2 → ce2 ≤ ce + 4 → sl2 ≤ sl + 816 → E ce2 sl2 2607 [(0, .ref 63), (1, .ref 64), (2, .ref 169), (3, .ref 189), (4, .int (nI i))] [] (y_mk n2 L2 D2)) : E ce sl 1622 [(0, .ref 63), (1, .ref 64), (2, .ref 169), (3, .ref 189), (4, .int (nI i))] [] (y_mk n L D) := by
  have hL := G.1.1
  refine r_aload_n hE dL_law_1622 rfl ?_
  refine t_arg (k := 1) hE hT dL_law_1623 dL_law_1624 dL_law_1626 dL_law_1627 dL_law_1628 rfl rfl (by decide) (by omega) (by omega) ?_
  refine r_aload_n hE dL_law_1629 rfl ?_
  have hw := w_odds (n := n) (D := D) hV hL (f_odds hV hL (g_k_B G.2.1) G.2.2.1 (g_k_BO G.2.1) (p := (f (i + 1)))) (fun E9 h => by grind)
  refine r_invsW hE (st := []) [.ref 64, .int (f (i + 1)), .ref 189] hw w_YW_odds m_L_200 dL_law_1630 rfl (by decide) ⟨by omega, by omega⟩ (Nat.le_of_ble_eq_true rfl) ⟨rfl, rfl⟩ (fun r9 S9 h9 => ?_)
  rcases h9 with ⟨v, D2, hp, rfl, rfl⟩ | ⟨j, E9, n2, hj, hx, rfl, hn, rfl⟩
  · obtain ⟨D0, hD0⟩ : ∃ z, z = y_sl D2 189 0 (y_gi v) := ⟨_, rfl⟩
    rw [← hD0]
    have h170 : D0 170 = D 170 := by
      rw [hD0, y_sl_n (by decide)]
      exact hp.1.1 170 (by decide) (by decide) (by decide)
    have zz := (z_odds G (p := (f (i + 1)))).1 v D2 (y_gi v) hp
    rw [← hD0] at zz
    change E (ce + 1) (sl + 6) 1633 [(0, .ref 63), (1, .ref 64), (2, .ref 169), (3, .ref 189), (4, .int (nI i))] [.int 0] (y_mk n L D0)
    refine r_istore (ls2 := [(0, .ref 63), (1, .ref 64), (2, .ref 169), (3, .ref 189), (4, .int (nI i)), (5, .int 0)]) hE dL_law_1633 (by decide) rfl ?_
    refine r_aload_n hE dL_law_1635 rfl ?_
    refine t_arg (k := 1) hE hT dL_law_1636 dL_law_1637 dL_law_1639 dL_law_1640 dL_law_1641 rfl rfl (by decide) (by omega) (by omega) ?_
    refine t_invvRi (st := []) hE [.int (f (i + 1))] (c_odds hL (by rw [h170]; exact g_m_W G.2.1) (by rw [h170]; exact g_m_WO G.2.1)) v_yX11_odds m_L_202 dL_law_1642 rfl (hL 169 (by decide)) (y_l_169 (D0 169)) rfl (by decide) ⟨by omega, by omega⟩ (Nat.le_of_ble_eq_true rfl) (fun b D3 hR => ?_)
    have zz := zz _ _ hR
    obtain ⟨hv, h0, hG, h189⟩ := zz
    change E (ce + 1) (sl + 6) 1645 [(0, .ref 63), (1, .ref 64), (2, .ref 169), (3, .ref 189), (4, .int (nI i)), (5, .int 0)] [.int b] (y_mk n L D3)
    refine r_istore (ls2 := [(0, .ref 63), (1, .ref 64), (2, .ref 169), (3, .ref 189), (4, .int (nI i)), (5, .int 0), (6, .int b)]) hE dL_law_1645 (by decide) rfl ?_
    refine t_thr hE hL dL_law_1647 dL_law_1648 dL_law_1651 dL_law_1653 rfl rfl h0 (by decide) ⟨by omega, by omega⟩ ?_
    refine t_oki hE hL dL_law_1658 dL_law_1660 dL_law_1663 dL_law_1664 dL_law_1665 dL_law_1666 dL_law_1668 dL_law_1669 dL_law_1670 rfl rfl rfl (by rw [h189, hD0, ← hv]; rfl) ?_
    refine r_goto (tgt := 2607) hE dL_law_1675 (by decide) ?_
    refine r_locs hE (ls2 := [(0, .ref 63), (1, .ref 64), (2, .ref 169), (3, .ref 189), (4, .int (nI i))]) (fun q hq => by simp only [List.mem_cons, List.not_mem_nil, or_false] at hq; rcases hq with rfl | rfl | rfl | rfl | rfl <;> rfl) ?_
    exact kk n L _ (ce + 1) (sl + 6) hG (by omega) (by omega)
  · have h170 : D 170 = D 170 := rfl
    have zz := (z_odds G (p := (f (i + 1)))).2 j E9 n2 hj hx hn
    change E (ce + 1) (sl + 6) 1633 [(0, .ref 63), (1, .ref 64), (2, .ref 169), (3, .ref 189), (4, .int (nI i))] [.int (nI (j + 1))] (y_mk n2 L D)
    refine r_istore (ls2 := [(0, .ref 63), (1, .ref 64), (2, .ref 169), (3, .ref 189), (4, .int (nI i)), (5, .int (nI (j + 1)))]) hE dL_law_1633 (by decide) rfl ?_
    refine r_aload_n hE dL_law_1635 rfl ?_
    refine t_arg (k := 1) hE hT dL_law_1636 dL_law_1637 dL_law_1639 dL_law_1640 dL_law_1641 rfl rfl (by decide) (by omega) (by omega) ?_
    refine t_invvRi (st := []) hE [.int (f (i + 1))] (c_odds hL (by rw [h170]; exact g_m_W G.2.1) (by rw [h170]; exact g_m_WO G.2.1)) v_yX11_odds m_L_202 dL_law_1642 rfl (hL 169 (by decide)) (y_l_169 (D 169)) rfl (by decide) ⟨by omega, by omega⟩ (Nat.le_of_ble_eq_true rfl) (fun b D3 hR => ?_)
    have zz := zz _ _ hR
    obtain ⟨h0, hG⟩ := zz
    change E (ce + 1) (sl + 6) 1645 [(0, .ref 63), (1, .ref 64), (2, .ref 169), (3, .ref 189), (4, .int (nI i)), (5, .int (nI (j + 1)))] [.int b] (y_mk n2 L D3)
    refine r_istore (ls2 := [(0, .ref 63), (1, .ref 64), (2, .ref 169), (3, .ref 189), (4, .int (nI i)), (5, .int (nI (j + 1))), (6, .int b)]) hE dL_law_1645 (by decide) rfl ?_
    refine t_thr hE hL dL_law_1647 dL_law_1648 dL_law_1651 dL_law_1653 rfl rfl h0 (by decide) ⟨by omega, by omega⟩ ?_
    refine t_ex (tgt := 1675) hE dL_law_1658 dL_law_1660 rfl (t_nlt hj (by decide)) (by decide) ?_
    refine r_goto (tgt := 2607) hE dL_law_1675 (by decide) ?_
    refine r_locs hE (ls2 := [(0, .ref 63), (1, .ref 64), (2, .ref 169), (3, .ref 189), (4, .int (nI i))]) (fun q hq => by simp only [List.mem_cons, List.not_mem_nil, or_false] at hq; rcases hq with rfl | rfl | rfl | rfl | rfl <;> rfl) ?_
    exact kk n2 L _ (ce + 1) (sl + 6) hG (by omega) (by omega)
theorem law_oddsBy {V : x_E} (hV : y_V V) (hF : y_fm V) {N i ce sl MC MS n : Nat} {f : Nat → Int32} {L : List Nat} {D : y_D} {E : x_P} (hT : law_S V N f) (hE : x_X V RL cL_law 8 (some .boolean) 40 MC MS "law" (fun r _ => r = some (.int 1)) E) (G : g_G n L D) (hi : i + 6 ≤ N) (hN : N ≤ 3072) (hce : ce + 4 ≤ MC) (hsl : sl + 816 ≤ MS) (kk : ∀ (n2 : Nat) (L2 : List Nat) (D2 : y_D) (ce2 sl2 : Nat), g_G n2 L2 D2 → ce2 ≤ ce + 4 → sl2 ≤ sl + 816 → E ce2 sl2 2607 [(0, .ref 63), (1, .ref 64), (2, .ref 169), (3, .ref 189), (4, .int (nI i))] [] (y_mk n2 L2 D2)) : E ce sl 1678 [(0, .ref 63), (1, .ref 64), (2, .ref 169), (3, .ref 189), (4, .int (nI i))] [] (y_mk n L D) := by
  have hL := G.1.1
  refine r_aload_n hE dL_law_1678 rfl ?_
  refine t_arg (k := 1) hE hT dL_law_1679 dL_law_1680 dL_law_1682 dL_law_1683 dL_law_1684 rfl rfl (by decide) (by omega) (by omega) ?_
  refine t_arg (k := 2) hE hT dL_law_1685 dL_law_1686 dL_law_1688 dL_law_1689 dL_law_1690 rfl rfl (by decide) (by omega) (by omega) ?_
  refine r_aload_n hE dL_law_1691 rfl ?_
  have hw := w_oddsBy (n := n) (D := D) hV hL (f_oddsBy hV hL (g_k_B G.2.1) G.2.2.1 (g_k_BO G.2.1) (p := (f (i + 1))) (x := (f (i + 2)))) (fun E9 h => by grind)
  refine r_invsW hE (st := []) [.ref 64, .int (f (i + 1)), .int (f (i + 2)), .ref 189] hw w_YW_oddsBy m_L_203 dL_law_1692 rfl (by decide) ⟨by omega, by omega⟩ (Nat.le_of_ble_eq_true rfl) ⟨rfl, rfl⟩ (fun r9 S9 h9 => ?_)
  rcases h9 with ⟨v, D2, hp, rfl, rfl⟩ | ⟨j, E9, n2, hj, hx, rfl, hn, rfl⟩
  · obtain ⟨D0, hD0⟩ : ∃ z, z = y_sl D2 189 0 (y_gi v) := ⟨_, rfl⟩
    rw [← hD0]
    have h170 : D0 170 = D 170 := by
      rw [hD0, y_sl_n (by decide)]
      exact hp.1.1 170 (by decide) (by decide) (by decide)
    have zz := (z_oddsBy G (p := (f (i + 1))) (x := (f (i + 2)))).1 v D2 (y_gi v) hp
    rw [← hD0] at zz
    change E (ce + 2) (sl + 12) 1695 [(0, .ref 63), (1, .ref 64), (2, .ref 169), (3, .ref 189), (4, .int (nI i))] [.int 0] (y_mk n L D0)
    refine r_istore (ls2 := [(0, .ref 63), (1, .ref 64), (2, .ref 169), (3, .ref 189), (4, .int (nI i)), (5, .int 0)]) hE dL_law_1695 (by decide) rfl ?_
    refine r_aload_n hE dL_law_1697 rfl ?_
    refine t_arg (k := 1) hE hT dL_law_1698 dL_law_1699 dL_law_1701 dL_law_1702 dL_law_1703 rfl rfl (by decide) (by omega) (by omega) ?_
    refine t_arg (k := 2) hE hT dL_law_1704 dL_law_1705 dL_law_1707 dL_law_1708 dL_law_1709 rfl rfl (by decide) (by omega) (by omega) ?_
    refine t_invvRi (st := []) hE [.int (f (i + 1)), .int (f (i + 2))] (c_oddsBy hL (by rw [h170]; exact g_m_W G.2.1) (by rw [h170]; exact g_m_WO G.2.1)) v_yX11_oddsBy m_L_205 dL_law_1710 rfl (hL 169 (by decide)) (y_l_169 (D0 169)) rfl (by decide) ⟨by omega, by omega⟩ (Nat.le_of_ble_eq_true rfl) (fun b D3 hR => ?_)
    have zz := zz _ _ hR
    obtain ⟨hv, h0, hG, h189⟩ := zz
    change E (ce + 2) (sl + 12) 1713 [(0, .ref 63), (1, .ref 64), (2, .ref 169), (3, .ref 189), (4, .int (nI i)), (5, .int 0)] [.int b] (y_mk n L D3)
    refine r_istore (ls2 := [(0, .ref 63), (1, .ref 64), (2, .ref 169), (3, .ref 189), (4, .int (nI i)), (5, .int 0), (6, .int b)]) hE dL_law_1713 (by decide) rfl ?_
    refine t_thr hE hL dL_law_1715 dL_law_1716 dL_law_1719 dL_law_1721 rfl rfl h0 (by decide) ⟨by omega, by omega⟩ ?_
    refine t_oki hE hL dL_law_1726 dL_law_1728 dL_law_1731 dL_law_1732 dL_law_1733 dL_law_1734 dL_law_1736 dL_law_1737 dL_law_1738 rfl rfl rfl (by rw [h189, hD0, ← hv]; rfl) ?_
    refine r_goto (tgt := 2607) hE dL_law_1743 (by decide) ?_
    refine r_locs hE (ls2 := [(0, .ref 63), (1, .ref 64), (2, .ref 169), (3, .ref 189), (4, .int (nI i))]) (fun q hq => by simp only [List.mem_cons, List.not_mem_nil, or_false] at hq; rcases hq with rfl | rfl | rfl | rfl | rfl <;> rfl) ?_
    exact kk n L _ (ce + 2) (sl + 12) hG (by omega) (by omega)
  · have h170 : D 170 = D 170 := rfl
    have zz := (z_oddsBy G (p := (f (i + 1))) (x := (f (i + 2)))).2 j E9 n2 hj hx hn
    change E (ce + 2) (sl + 12) 1695 [(0, .ref 63), (1, .ref 64), (2, .ref 169), (3, .ref 189), (4, .int (nI i))] [.int (nI (j + 1))] (y_mk n2 L D)
    refine r_istore (ls2 := [(0, .ref 63), (1, .ref 64), (2, .ref 169), (3, .ref 189), (4, .int (nI i)), (5, .int (nI (j + 1)))]) hE dL_law_1695 (by decide) rfl ?_
    refine r_aload_n hE dL_law_1697 rfl ?_
    refine t_arg (k := 1) hE hT dL_law_1698 dL_law_1699 dL_law_1701 dL_law_1702 dL_law_1703 rfl rfl (by decide) (by omega) (by omega) ?_
    refine t_arg (k := 2) hE hT dL_law_1704 dL_law_1705 dL_law_1707 dL_law_1708 dL_law_1709 rfl rfl (by decide) (by omega) (by omega) ?_
    refine t_invvRi (st := []) hE [.int (f (i + 1)), .int (f (i + 2))] (c_oddsBy hL (by rw [h170]; exact g_m_W G.2.1) (by rw [h170]; exact g_m_WO G.2.1)) v_yX11_oddsBy m_L_205 dL_law_1710 rfl (hL 169 (by decide)) (y_l_169 (D 169)) rfl (by decide) ⟨by omega, by omega⟩ (Nat.le_of_ble_eq_true rfl) (fun b D3 hR => ?_)
    have zz := zz _ _ hR
    obtain ⟨h0, hG⟩ := zz
    change E (ce + 2) (sl + 12) 1713 [(0, .ref 63), (1, .ref 64), (2, .ref 169), (3, .ref 189), (4, .int (nI i)), (5, .int (nI (j + 1)))] [.int b] (y_mk n2 L D3)
    refine r_istore (ls2 := [(0, .ref 63), (1, .ref 64), (2, .ref 169), (3, .ref 189), (4, .int (nI i)), (5, .int (nI (j + 1))), (6, .int b)]) hE dL_law_1713 (by decide) rfl ?_
    refine t_thr hE hL dL_law_1715 dL_law_1716 dL_law_1719 dL_law_1721 rfl rfl h0 (by decide) ⟨by omega, by omega⟩ ?_
    refine t_ex (tgt := 1743) hE dL_law_1726 dL_law_1728 rfl (t_nlt hj (by decide)) (by decide) ?_
    refine r_goto (tgt := 2607) hE dL_law_1743 (by decide) ?_
    refine r_locs hE (ls2 := [(0, .ref 63), (1, .ref 64), (2, .ref 169), (3, .ref 189), (4, .int (nI i))]) (fun q hq => by simp only [List.mem_cons, List.not_mem_nil, or_false] at hq; rcases hq with rfl | rfl | rfl | rfl | rfl <;> rfl) ?_
    exact kk n2 L _ (ce + 2) (sl + 12) hG (by omega) (by omega)
theorem law_factor {V : x_E} (hV : y_V V) (hF : y_fm V) {N i ce sl MC MS n : Nat} {f : Nat → Int32} {L : List Nat} {D : y_D} {E : x_P} (hT : law_S V N f) (hE : x_X V RL cL_law 8 (some .boolean) 40 MC MS "law" (fun r _ => r = some (.int 1)) E) (G : g_G n L D) (hi : i + 6 ≤ N) (hN : N ≤ 3072) (hce : ce + 4 ≤ MC) (hsl : sl + 816 ≤ MS) (kk : ∀ (n2 : Nat) (L2 : List Nat) (D2 : y_D) (ce2 sl2 : Nat), g_G n2 L2 D2 → ce2 ≤ ce + 4 → sl2 ≤ sl + 816 → E ce2 sl2 2607 [(0, .ref 63), (1, .ref 64), (2, .ref 169), (3, .ref 189), (4, .int (nI i))] [] (y_mk n2 L2 D2)) : E ce sl 1746 [(0, .ref 63), (1, .ref 64), (2, .ref 169), (3, .ref 189), (4, .int (nI i))] [] (y_mk n L D) := by
  have hL := G.1.1
  refine r_aload_n hE dL_law_1746 rfl ?_
  refine t_arg (k := 1) hE hT dL_law_1747 dL_law_1748 dL_law_1750 dL_law_1751 dL_law_1752 rfl rfl (by decide) (by omega) (by omega) ?_
  refine t_arg (k := 2) hE hT dL_law_1753 dL_law_1754 dL_law_1756 dL_law_1757 dL_law_1758 rfl rfl (by decide) (by omega) (by omega) ?_
  refine r_aload_n hE dL_law_1759 rfl ?_
  have hw := w_factor (n := n) (D := D) hV hL (f_factor hV hL (g_k_B G.2.1) G.2.2.1 (g_k_BO G.2.1) (p := (f (i + 1))) (x := (f (i + 2)))) (fun E9 h => by grind)
  refine r_invsW hE (st := []) [.ref 64, .int (f (i + 1)), .int (f (i + 2)), .ref 189] hw w_YW_factor m_L_206 dL_law_1760 rfl (by decide) ⟨by omega, by omega⟩ (Nat.le_of_ble_eq_true rfl) ⟨rfl, rfl⟩ (fun r9 S9 h9 => ?_)
  rcases h9 with ⟨v, D2, hp, rfl, rfl⟩ | ⟨j, E9, n2, hj, hx, rfl, hn, rfl⟩
  · obtain ⟨D0, hD0⟩ : ∃ z, z = y_sl D2 189 0 (y_gl v) := ⟨_, rfl⟩
    rw [← hD0]
    have h170 : D0 170 = D 170 := by
      rw [hD0, y_sl_n (by decide)]
      exact hp.1.1 170 (by decide) (by decide) (by decide)
    have zz := (z_factor G (p := (f (i + 1))) (x := (f (i + 2)))).1 v D2 (y_gl v) hp
    rw [← hD0] at zz
    change E (ce + 2) (sl + 12) 1763 [(0, .ref 63), (1, .ref 64), (2, .ref 169), (3, .ref 189), (4, .int (nI i))] [.int 0] (y_mk n L D0)
    refine r_istore (ls2 := [(0, .ref 63), (1, .ref 64), (2, .ref 169), (3, .ref 189), (4, .int (nI i)), (5, .int 0)]) hE dL_law_1763 (by decide) rfl ?_
    refine r_aload_n hE dL_law_1765 rfl ?_
    refine t_arg (k := 1) hE hT dL_law_1766 dL_law_1767 dL_law_1769 dL_law_1770 dL_law_1771 rfl rfl (by decide) (by omega) (by omega) ?_
    refine t_arg (k := 2) hE hT dL_law_1772 dL_law_1773 dL_law_1775 dL_law_1776 dL_law_1777 rfl rfl (by decide) (by omega) (by omega) ?_
    refine t_invvRj (st := []) hE [.int (f (i + 1)), .int (f (i + 2))] (c_factor hL (by rw [h170]; exact g_m_W G.2.1) (by rw [h170]; exact g_m_WO G.2.1)) v_yX11_factor m_L_208 dL_law_1778 rfl (hL 169 (by decide)) (y_l_169 (D0 169)) rfl (by decide) ⟨by omega, by omega⟩ (Nat.le_of_ble_eq_true rfl) (fun b D3 hR => ?_)
    have zz := zz _ _ hR
    obtain ⟨hv, h0, hG, h189⟩ := zz
    change E (ce + 2) (sl + 12) 1781 [(0, .ref 63), (1, .ref 64), (2, .ref 169), (3, .ref 189), (4, .int (nI i)), (5, .int 0)] [.long b] (y_mk n L D3)
    refine r_lstore (ls2 := [(0, .ref 63), (1, .ref 64), (2, .ref 169), (3, .ref 189), (4, .int (nI i)), (5, .int 0), (6, .long b)]) hE dL_law_1781 (by decide) rfl ?_
    refine t_thr hE hL dL_law_1783 dL_law_1784 dL_law_1787 dL_law_1789 rfl rfl h0 (by decide) ⟨by omega, by omega⟩ ?_
    refine t_okl hE hL dL_law_1794 dL_law_1796 dL_law_1799 dL_law_1800 dL_law_1801 dL_law_1802 dL_law_1804 dL_law_1805 rfl rfl rfl (by rw [h189, hD0, ← hv]; rfl) ?_
    refine r_goto (tgt := 2607) hE dL_law_1810 (by decide) ?_
    refine r_locs hE (ls2 := [(0, .ref 63), (1, .ref 64), (2, .ref 169), (3, .ref 189), (4, .int (nI i))]) (fun q hq => by simp only [List.mem_cons, List.not_mem_nil, or_false] at hq; rcases hq with rfl | rfl | rfl | rfl | rfl <;> rfl) ?_
    exact kk n L _ (ce + 2) (sl + 12) hG (by omega) (by omega)
  · have h170 : D 170 = D 170 := rfl
    have zz := (z_factor G (p := (f (i + 1))) (x := (f (i + 2)))).2 j E9 n2 hj hx hn
    change E (ce + 2) (sl + 12) 1763 [(0, .ref 63), (1, .ref 64), (2, .ref 169), (3, .ref 189), (4, .int (nI i))] [.int (nI (j + 1))] (y_mk n2 L D)
    refine r_istore (ls2 := [(0, .ref 63), (1, .ref 64), (2, .ref 169), (3, .ref 189), (4, .int (nI i)), (5, .int (nI (j + 1)))]) hE dL_law_1763 (by decide) rfl ?_
    refine r_aload_n hE dL_law_1765 rfl ?_
    refine t_arg (k := 1) hE hT dL_law_1766 dL_law_1767 dL_law_1769 dL_law_1770 dL_law_1771 rfl rfl (by decide) (by omega) (by omega) ?_
    refine t_arg (k := 2) hE hT dL_law_1772 dL_law_1773 dL_law_1775 dL_law_1776 dL_law_1777 rfl rfl (by decide) (by omega) (by omega) ?_
    refine t_invvRj (st := []) hE [.int (f (i + 1)), .int (f (i + 2))] (c_factor hL (by rw [h170]; exact g_m_W G.2.1) (by rw [h170]; exact g_m_WO G.2.1)) v_yX11_factor m_L_208 dL_law_1778 rfl (hL 169 (by decide)) (y_l_169 (D 169)) rfl (by decide) ⟨by omega, by omega⟩ (Nat.le_of_ble_eq_true rfl) (fun b D3 hR => ?_)
    have zz := zz _ _ hR
    obtain ⟨h0, hG⟩ := zz
    change E (ce + 2) (sl + 12) 1781 [(0, .ref 63), (1, .ref 64), (2, .ref 169), (3, .ref 189), (4, .int (nI i)), (5, .int (nI (j + 1)))] [.long b] (y_mk n2 L D3)
    refine r_lstore (ls2 := [(0, .ref 63), (1, .ref 64), (2, .ref 169), (3, .ref 189), (4, .int (nI i)), (5, .int (nI (j + 1))), (6, .long b)]) hE dL_law_1781 (by decide) rfl ?_
    refine t_thr hE hL dL_law_1783 dL_law_1784 dL_law_1787 dL_law_1789 rfl rfl h0 (by decide) ⟨by omega, by omega⟩ ?_
    refine t_ex (tgt := 1810) hE dL_law_1794 dL_law_1796 rfl (t_nlt hj (by decide)) (by decide) ?_
    refine r_goto (tgt := 2607) hE dL_law_1810 (by decide) ?_
    refine r_locs hE (ls2 := [(0, .ref 63), (1, .ref 64), (2, .ref 169), (3, .ref 189), (4, .int (nI i))]) (fun q hq => by simp only [List.mem_cons, List.not_mem_nil, or_false] at hq; rcases hq with rfl | rfl | rfl | rfl | rfl <;> rfl) ?_
    exact kk n2 L _ (ce + 2) (sl + 12) hG (by omega) (by omega)
theorem law_says {V : x_E} (hV : y_V V) (hF : y_fm V) {N i ce sl MC MS n : Nat} {f : Nat → Int32} {L : List Nat} {D : y_D} {E : x_P} (hT : law_S V N f) (hE : x_X V RL cL_law 8 (some .boolean) 40 MC MS "law" (fun r _ => r = some (.int 1)) E) (G : g_G n L D) (hi : i + 6 ≤ N) (hN : N ≤ 3072) (hce : ce + 4 ≤ MC) (hsl : sl + 816 ≤ MS) (kk : ∀ (n2 : Nat) (L2 : List Nat) (D2 : y_D) (ce2 sl2 : Nat), g_G n2 L2 D2 → ce2 ≤ ce + 4 → sl2 ≤ sl + 816 → E ce2 sl2 2607 [(0, .ref 63), (1, .ref 64), (2, .ref 169), (3, .ref 189), (4, .int (nI i))] [] (y_mk n2 L2 D2)) : E ce sl 1813 [(0, .ref 63), (1, .ref 64), (2, .ref 169), (3, .ref 189), (4, .int (nI i))] [] (y_mk n L D) := by
  have hL := G.1.1
  refine r_aload_n hE dL_law_1813 rfl ?_
  refine t_arg (k := 1) hE hT dL_law_1814 dL_law_1815 dL_law_1817 dL_law_1818 dL_law_1819 rfl rfl (by decide) (by omega) (by omega) ?_
  refine r_aload_n hE dL_law_1820 rfl ?_
  have hw := w_says (n := n) (D := D) hV hL (f_says hV hL (g_k_B G.2.1) G.2.2.1 (g_k_BO G.2.1) (p := (f (i + 1)))) (fun E9 h => by grind)
  refine r_invsW hE (st := []) [.ref 64, .int (f (i + 1)), .ref 189] hw w_YW_says m_L_209 dL_law_1821 rfl (by decide) ⟨by omega, by omega⟩ (Nat.le_of_ble_eq_true rfl) ⟨rfl, rfl⟩ (fun r9 S9 h9 => ?_)
  rcases h9 with ⟨v, D2, hp, rfl, rfl⟩ | ⟨j, E9, n2, hj, hx, rfl, hn, rfl⟩
  · obtain ⟨D0, hD0⟩ : ∃ z, z = y_sl D2 189 0 (y_gl v) := ⟨_, rfl⟩
    rw [← hD0]
    have h170 : D0 170 = D 170 := by
      rw [hD0, y_sl_n (by decide)]
      exact hp.1.1 170 (by decide) (by decide) (by decide)
    have zz := (z_says G (p := (f (i + 1)))).1 v D2 (y_gl v) hp
    rw [← hD0] at zz
    change E (ce + 1) (sl + 6) 1824 [(0, .ref 63), (1, .ref 64), (2, .ref 169), (3, .ref 189), (4, .int (nI i))] [.int 0] (y_mk n L D0)
    refine r_istore (ls2 := [(0, .ref 63), (1, .ref 64), (2, .ref 169), (3, .ref 189), (4, .int (nI i)), (5, .int 0)]) hE dL_law_1824 (by decide) rfl ?_
    refine r_aload_n hE dL_law_1826 rfl ?_
    refine t_arg (k := 1) hE hT dL_law_1827 dL_law_1828 dL_law_1830 dL_law_1831 dL_law_1832 rfl rfl (by decide) (by omega) (by omega) ?_
    refine t_invvRj (st := []) hE [.int (f (i + 1))] (c_says hL (by rw [h170]; exact g_m_W G.2.1) (by rw [h170]; exact g_m_WO G.2.1)) v_yX11_says m_L_211 dL_law_1833 rfl (hL 169 (by decide)) (y_l_169 (D0 169)) rfl (by decide) ⟨by omega, by omega⟩ (Nat.le_of_ble_eq_true rfl) (fun b D3 hR => ?_)
    have zz := zz _ _ hR
    obtain ⟨hv, h0, hG, h189⟩ := zz
    change E (ce + 1) (sl + 6) 1836 [(0, .ref 63), (1, .ref 64), (2, .ref 169), (3, .ref 189), (4, .int (nI i)), (5, .int 0)] [.long b] (y_mk n L D3)
    refine r_lstore (ls2 := [(0, .ref 63), (1, .ref 64), (2, .ref 169), (3, .ref 189), (4, .int (nI i)), (5, .int 0), (6, .long b)]) hE dL_law_1836 (by decide) rfl ?_
    refine t_thr hE hL dL_law_1838 dL_law_1839 dL_law_1842 dL_law_1844 rfl rfl h0 (by decide) ⟨by omega, by omega⟩ ?_
    refine t_okl hE hL dL_law_1849 dL_law_1851 dL_law_1854 dL_law_1855 dL_law_1856 dL_law_1857 dL_law_1859 dL_law_1860 rfl rfl rfl (by rw [h189, hD0, ← hv]; rfl) ?_
    refine r_goto (tgt := 2607) hE dL_law_1865 (by decide) ?_
    refine r_locs hE (ls2 := [(0, .ref 63), (1, .ref 64), (2, .ref 169), (3, .ref 189), (4, .int (nI i))]) (fun q hq => by simp only [List.mem_cons, List.not_mem_nil, or_false] at hq; rcases hq with rfl | rfl | rfl | rfl | rfl <;> rfl) ?_
    exact kk n L _ (ce + 1) (sl + 6) hG (by omega) (by omega)
  · have h170 : D 170 = D 170 := rfl
    have zz := (z_says G (p := (f (i + 1)))).2 j E9 n2 hj hx hn
    change E (ce + 1) (sl + 6) 1824 [(0, .ref 63), (1, .ref 64), (2, .ref 169), (3, .ref 189), (4, .int (nI i))] [.int (nI (j + 1))] (y_mk n2 L D)
    refine r_istore (ls2 := [(0, .ref 63), (1, .ref 64), (2, .ref 169), (3, .ref 189), (4, .int (nI i)), (5, .int (nI (j + 1)))]) hE dL_law_1824 (by decide) rfl ?_
    refine r_aload_n hE dL_law_1826 rfl ?_
    refine t_arg (k := 1) hE hT dL_law_1827 dL_law_1828 dL_law_1830 dL_law_1831 dL_law_1832 rfl rfl (by decide) (by omega) (by omega) ?_
    refine t_invvRj (st := []) hE [.int (f (i + 1))] (c_says hL (by rw [h170]; exact g_m_W G.2.1) (by rw [h170]; exact g_m_WO G.2.1)) v_yX11_says m_L_211 dL_law_1833 rfl (hL 169 (by decide)) (y_l_169 (D 169)) rfl (by decide) ⟨by omega, by omega⟩ (Nat.le_of_ble_eq_true rfl) (fun b D3 hR => ?_)
    have zz := zz _ _ hR
    obtain ⟨h0, hG⟩ := zz
    change E (ce + 1) (sl + 6) 1836 [(0, .ref 63), (1, .ref 64), (2, .ref 169), (3, .ref 189), (4, .int (nI i)), (5, .int (nI (j + 1)))] [.long b] (y_mk n2 L D3)
    refine r_lstore (ls2 := [(0, .ref 63), (1, .ref 64), (2, .ref 169), (3, .ref 189), (4, .int (nI i)), (5, .int (nI (j + 1))), (6, .long b)]) hE dL_law_1836 (by decide) rfl ?_
    refine t_thr hE hL dL_law_1838 dL_law_1839 dL_law_1842 dL_law_1844 rfl rfl h0 (by decide) ⟨by omega, by omega⟩ ?_
    refine t_ex (tgt := 1865) hE dL_law_1849 dL_law_1851 rfl (t_nlt hj (by decide)) (by decide) ?_
    refine r_goto (tgt := 2607) hE dL_law_1865 (by decide) ?_
    refine r_locs hE (ls2 := [(0, .ref 63), (1, .ref 64), (2, .ref 169), (3, .ref 189), (4, .int (nI i))]) (fun q hq => by simp only [List.mem_cons, List.not_mem_nil, or_false] at hq; rcases hq with rfl | rfl | rfl | rfl | rfl <;> rfl) ?_
    exact kk n2 L _ (ce + 1) (sl + 6) hG (by omega) (by omega)
theorem law_with {V : x_E} (hV : y_V V) (hF : y_fm V) {N i ce sl MC MS n : Nat} {f : Nat → Int32} {L : List Nat} {D : y_D} {E : x_P} (hT : law_S V N f) (hE : x_X V RL cL_law 8 (some .boolean) 40 MC MS "law" (fun r _ => r = some (.int 1)) E) (G : g_G n L D) (hi : i + 6 ≤ N) (hN : N ≤ 3072) (hce : ce + 4 ≤ MC) (hsl : sl + 816 ≤ MS) (kk : ∀ (n2 : Nat) (L2 : List Nat) (D2 : y_D) (ce2 sl2 : Nat), g_G n2 L2 D2 → ce2 ≤ ce + 4 → sl2 ≤ sl + 816 → E ce2 sl2 2607 [(0, .ref 63), (1, .ref 64), (2, .ref 169), (3, .ref 189), (4, .int (nI i))] [] (y_mk n2 L2 D2)) : E ce sl 1868 [(0, .ref 63), (1, .ref 64), (2, .ref 169), (3, .ref 189), (4, .int (nI i))] [] (y_mk n L D) := by
  have hL := G.1.1
  refine r_aload_n hE dL_law_1868 rfl ?_
  refine t_arg (k := 1) hE hT dL_law_1869 dL_law_1870 dL_law_1872 dL_law_1873 dL_law_1874 rfl rfl (by decide) (by omega) (by omega) ?_
  refine t_arg (k := 2) hE hT dL_law_1875 dL_law_1876 dL_law_1878 dL_law_1879 dL_law_1880 rfl rfl (by decide) (by omega) (by omega) ?_
  refine r_aload_n hE dL_law_1881 rfl ?_
  have hw := w_with (n := n) (D := D) hV hL (f_with hV hL ⟨(g_T_n G.2.1.1.2.2.2.2.2.1).1, G.2.1.1.2.2.2.2.2.1.1.2.1⟩ (x := (f (i + 1))) (y := (f (i + 2)))) (fun E9 h => by grind)
  refine r_invsW hE (st := []) [.ref 64, .int (f (i + 1)), .int (f (i + 2)), .ref 189] hw w_YW_with m_L_212 dL_law_1882 rfl (by decide) ⟨by omega, by omega⟩ (Nat.le_of_ble_eq_true rfl) ⟨rfl, rfl⟩ (fun r9 S9 h9 => ?_)
  rcases h9 with ⟨v, D2, hp, rfl, rfl⟩ | ⟨j, E9, n2, hj, hx, rfl, hn, rfl⟩
  · obtain ⟨D0, hD0⟩ : ∃ z, z = y_sl D2 189 0 (y_gi v) := ⟨_, rfl⟩
    rw [← hD0]
    have h170 : D0 170 = D 170 := by
      rw [hD0, y_sl_n (by decide)]
      rw [hp.1]
    have zz := (z_with G (x := (f (i + 1))) (y := (f (i + 2)))).1 v D2 (y_gi v) hp
    rw [← hD0] at zz
    change E (ce + 2) (sl + 12) 1885 [(0, .ref 63), (1, .ref 64), (2, .ref 169), (3, .ref 189), (4, .int (nI i))] [.int 0] (y_mk n L D0)
    refine r_istore (ls2 := [(0, .ref 63), (1, .ref 64), (2, .ref 169), (3, .ref 189), (4, .int (nI i)), (5, .int 0)]) hE dL_law_1885 (by decide) rfl ?_
    refine r_aload_n hE dL_law_1887 rfl ?_
    refine t_arg (k := 1) hE hT dL_law_1888 dL_law_1889 dL_law_1891 dL_law_1892 dL_law_1893 rfl rfl (by decide) (by omega) (by omega) ?_
    refine t_arg (k := 2) hE hT dL_law_1894 dL_law_1895 dL_law_1897 dL_law_1898 dL_law_1899 rfl rfl (by decide) (by omega) (by omega) ?_
    refine t_invvRi (st := []) hE [.int (f (i + 1)), .int (f (i + 2))] (c_with hL (by rw [h170]; exact G.2.1.1.2.2.2.2.2.1.2.1)) v_yX11_with m_L_214 dL_law_1900 rfl (hL 169 (by decide)) (y_l_169 (D0 169)) rfl (by decide) ⟨by omega, by omega⟩ (Nat.le_of_ble_eq_true rfl) (fun b D3 hR => ?_)
    have zz := zz _ _ hR
    obtain ⟨hv, h0, hG, h189⟩ := zz
    change E (ce + 2) (sl + 12) 1903 [(0, .ref 63), (1, .ref 64), (2, .ref 169), (3, .ref 189), (4, .int (nI i)), (5, .int 0)] [.int b] (y_mk n L D3)
    refine r_istore (ls2 := [(0, .ref 63), (1, .ref 64), (2, .ref 169), (3, .ref 189), (4, .int (nI i)), (5, .int 0), (6, .int b)]) hE dL_law_1903 (by decide) rfl ?_
    refine t_thr hE hL dL_law_1905 dL_law_1906 dL_law_1909 dL_law_1911 rfl rfl h0 (by decide) ⟨by omega, by omega⟩ ?_
    refine t_oki hE hL dL_law_1916 dL_law_1918 dL_law_1921 dL_law_1922 dL_law_1923 dL_law_1924 dL_law_1926 dL_law_1927 dL_law_1928 rfl rfl rfl (by rw [h189, hD0, ← hv]; rfl) ?_
    refine r_goto (tgt := 2607) hE dL_law_1933 (by decide) ?_
    refine r_locs hE (ls2 := [(0, .ref 63), (1, .ref 64), (2, .ref 169), (3, .ref 189), (4, .int (nI i))]) (fun q hq => by simp only [List.mem_cons, List.not_mem_nil, or_false] at hq; rcases hq with rfl | rfl | rfl | rfl | rfl <;> rfl) ?_
    exact kk n L _ (ce + 2) (sl + 12) hG (by omega) (by omega)
  · have h170 : D 170 = D 170 := rfl
    have zz := (z_with G (x := (f (i + 1))) (y := (f (i + 2)))).2 j E9 n2 hj hx hn
    change E (ce + 2) (sl + 12) 1885 [(0, .ref 63), (1, .ref 64), (2, .ref 169), (3, .ref 189), (4, .int (nI i))] [.int (nI (j + 1))] (y_mk n2 L D)
    refine r_istore (ls2 := [(0, .ref 63), (1, .ref 64), (2, .ref 169), (3, .ref 189), (4, .int (nI i)), (5, .int (nI (j + 1)))]) hE dL_law_1885 (by decide) rfl ?_
    refine r_aload_n hE dL_law_1887 rfl ?_
    refine t_arg (k := 1) hE hT dL_law_1888 dL_law_1889 dL_law_1891 dL_law_1892 dL_law_1893 rfl rfl (by decide) (by omega) (by omega) ?_
    refine t_arg (k := 2) hE hT dL_law_1894 dL_law_1895 dL_law_1897 dL_law_1898 dL_law_1899 rfl rfl (by decide) (by omega) (by omega) ?_
    refine t_invvRi (st := []) hE [.int (f (i + 1)), .int (f (i + 2))] (c_with hL (by rw [h170]; exact G.2.1.1.2.2.2.2.2.1.2.1)) v_yX11_with m_L_214 dL_law_1900 rfl (hL 169 (by decide)) (y_l_169 (D 169)) rfl (by decide) ⟨by omega, by omega⟩ (Nat.le_of_ble_eq_true rfl) (fun b D3 hR => ?_)
    have zz := zz _ _ hR
    obtain ⟨h0, hG⟩ := zz
    change E (ce + 2) (sl + 12) 1903 [(0, .ref 63), (1, .ref 64), (2, .ref 169), (3, .ref 189), (4, .int (nI i)), (5, .int (nI (j + 1)))] [.int b] (y_mk n2 L D3)
    refine r_istore (ls2 := [(0, .ref 63), (1, .ref 64), (2, .ref 169), (3, .ref 189), (4, .int (nI i)), (5, .int (nI (j + 1))), (6, .int b)]) hE dL_law_1903 (by decide) rfl ?_
    refine t_thr hE hL dL_law_1905 dL_law_1906 dL_law_1909 dL_law_1911 rfl rfl h0 (by decide) ⟨by omega, by omega⟩ ?_
    refine t_ex (tgt := 1933) hE dL_law_1916 dL_law_1918 rfl (t_nlt hj (by decide)) (by decide) ?_
    refine r_goto (tgt := 2607) hE dL_law_1933 (by decide) ?_
    refine r_locs hE (ls2 := [(0, .ref 63), (1, .ref 64), (2, .ref 169), (3, .ref 189), (4, .int (nI i))]) (fun q hq => by simp only [List.mem_cons, List.not_mem_nil, or_false] at hq; rcases hq with rfl | rfl | rfl | rfl | rfl <;> rfl) ?_
    exact kk n2 L _ (ce + 2) (sl + 12) hG (by omega) (by omega)
theorem law_knew {V : x_E} (hV : y_V V) (hF : y_fm V) {N i ce sl MC MS n : Nat} {f : Nat → Int32} {L : List Nat} {D : y_D} {E : x_P} (hT : law_S V N f) (hE : x_X V RL cL_law 8 (some .boolean) 40 MC MS "law" (fun r _ => r = some (.int 1)) E) (G : g_G n L D) (hi : i + 6 ≤ N) (hN : N ≤ 3072) (hce : ce + 4 ≤ MC) (hsl : sl + 816 ≤ MS) (kk : ∀ (n2 : Nat) (L2 : List Nat) (D2 : y_D) (ce2 sl2 : Nat), g_G n2 L2 D2 → ce2 ≤ ce + 4 → sl2 ≤ sl + 816 → E ce2 sl2 2607 [(0, .ref 63), (1, .ref 64), (2, .ref 169), (3, .ref 189), (4, .int (nI i))] [] (y_mk n2 L2 D2)) : E ce sl 1936 [(0, .ref 63), (1, .ref 64), (2, .ref 169), (3, .ref 189), (4, .int (nI i))] [] (y_mk n L D) := by
  have hL := G.1.1
  refine r_aload_n hE dL_law_1936 rfl ?_
  refine t_arg (k := 1) hE hT dL_law_1937 dL_law_1938 dL_law_1940 dL_law_1941 dL_law_1942 rfl rfl (by decide) (by omega) (by omega) ?_
  have hw := w_knew (n := n) (D := D) hV hL (f_knew hV hL (p := (f (i + 1)))) (fun E9 h => by grind)
  refine r_invsW hE (st := []) [.ref 64, .int (f (i + 1))] hw w_YW_knew m_L_215 dL_law_1943 rfl (by decide) ⟨by omega, by omega⟩ (Nat.le_of_ble_eq_true rfl) ⟨rfl, rfl⟩ (fun r9 S9 h9 => ?_)
  rcases h9 with ⟨D2, hp, rfl, rfl⟩ | ⟨j, E9, n2, hj, hx, rfl, hn, rfl⟩
  · obtain ⟨D0, hD0⟩ : ∃ z, z = D2 := ⟨_, rfl⟩
    rw [← hD0] at hp ⊢
    have h170 : D0 170 = D 170 := by rw [hp.2]; exact y_si_n (by decide)
    have zz := (z_knew G (p := (f (i + 1)))).1 D0 hp
    change E (ce + 1) (sl + 6) 1946 [(0, .ref 63), (1, .ref 64), (2, .ref 169), (3, .ref 189), (4, .int (nI i))] [.int 0] (y_mk n L D0)
    refine r_istore (ls2 := [(0, .ref 63), (1, .ref 64), (2, .ref 169), (3, .ref 189), (4, .int (nI i)), (5, .int 0)]) hE dL_law_1946 (by decide) rfl ?_
    refine r_aload_n hE dL_law_1948 rfl ?_
    refine t_arg (k := 1) hE hT dL_law_1949 dL_law_1950 dL_law_1952 dL_law_1953 dL_law_1954 rfl rfl (by decide) (by omega) (by omega) ?_
    refine t_invv (r := none) (S2 := y_mk n L (M_knew D0 ((f (i + 1))))) (st := []) hE [.int (f (i + 1))] (c_knew hL) v_yX11_knew m_L_218 dL_law_1955 rfl (hL 169 (by decide)) (y_l_169 (D0 169)) rfl (by decide) ⟨by omega, by omega⟩ (Nat.le_of_ble_eq_true rfl) ?_
    have zz := zz _ rfl
    generalize M_knew D0 ((f (i + 1))) = D3 at zz ⊢
    obtain ⟨h0, hG, h189⟩ := zz
    change E (ce + 1) (sl + 6) 1958 [(0, .ref 63), (1, .ref 64), (2, .ref 169), (3, .ref 189), (4, .int (nI i)), (5, .int 0)] [] (y_mk n L D3)
    refine t_thr hE hL dL_law_1958 dL_law_1959 dL_law_1962 dL_law_1964 rfl rfl h0 (by decide) ⟨by omega, by omega⟩ ?_
    refine r_goto (tgt := 2607) hE dL_law_1969 (by decide) ?_
    refine r_locs hE (ls2 := [(0, .ref 63), (1, .ref 64), (2, .ref 169), (3, .ref 189), (4, .int (nI i))]) (fun q hq => by simp only [List.mem_cons, List.not_mem_nil, or_false] at hq; rcases hq with rfl | rfl | rfl | rfl | rfl <;> rfl) ?_
    exact kk n L _ (ce + 1) (sl + 6) hG (by omega) (by omega)
  · have h170 : D 170 = D 170 := rfl
    have zz := (z_knew G (p := (f (i + 1)))).2 j E9 n2 hj hx hn
    change E (ce + 1) (sl + 6) 1946 [(0, .ref 63), (1, .ref 64), (2, .ref 169), (3, .ref 189), (4, .int (nI i))] [.int (nI (j + 1))] (y_mk n2 L D)
    refine r_istore (ls2 := [(0, .ref 63), (1, .ref 64), (2, .ref 169), (3, .ref 189), (4, .int (nI i)), (5, .int (nI (j + 1)))]) hE dL_law_1946 (by decide) rfl ?_
    refine r_aload_n hE dL_law_1948 rfl ?_
    refine t_arg (k := 1) hE hT dL_law_1949 dL_law_1950 dL_law_1952 dL_law_1953 dL_law_1954 rfl rfl (by decide) (by omega) (by omega) ?_
    refine t_invv (r := none) (S2 := y_mk n2 L (M_knew D ((f (i + 1))))) (st := []) hE [.int (f (i + 1))] (c_knew hL) v_yX11_knew m_L_218 dL_law_1955 rfl (hL 169 (by decide)) (y_l_169 (D 169)) rfl (by decide) ⟨by omega, by omega⟩ (Nat.le_of_ble_eq_true rfl) ?_
    have zz := zz _ rfl
    generalize M_knew D ((f (i + 1))) = D3 at zz ⊢
    obtain ⟨h0, hG⟩ := zz
    change E (ce + 1) (sl + 6) 1958 [(0, .ref 63), (1, .ref 64), (2, .ref 169), (3, .ref 189), (4, .int (nI i)), (5, .int (nI (j + 1)))] [] (y_mk n2 L D3)
    refine t_thr hE hL dL_law_1958 dL_law_1959 dL_law_1962 dL_law_1964 rfl rfl h0 (by decide) ⟨by omega, by omega⟩ ?_
    refine r_goto (tgt := 2607) hE dL_law_1969 (by decide) ?_
    refine r_locs hE (ls2 := [(0, .ref 63), (1, .ref 64), (2, .ref 169), (3, .ref 189), (4, .int (nI i))]) (fun q hq => by simp only [List.mem_cons, List.not_mem_nil, or_false] at hq; rcases hq with rfl | rfl | rfl | rfl | rfl <;> rfl) ?_
    exact kk n2 L _ (ce + 1) (sl + 6) hG (by omega) (by omega)

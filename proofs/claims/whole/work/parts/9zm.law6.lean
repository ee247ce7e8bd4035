/-! the law: its cases (1) -/
theorem g_rq1 {n : Nat} {L : List Nat} {D : y_D} (G : g_G n L D) : y_rq D L 76 4 1 := fun i hi => by
  obtain ⟨a1, a2, a3, a4, -⟩ := G.2.1.2.1.2.2.2 i hi
  exact ⟨k_rh D i, a1, a2, a3, a4⟩
theorem g_rq2 {n : Nat} {L : List Nat} {D : y_D} (G : g_G n L D) : y_rq D L 77 6 2 := fun i hi => by
  obtain ⟨a1, a2, a3, a4, -⟩ := G.2.1.2.2.1.2.2.2 i hi
  exact ⟨k_wh D i, a1, a2, a3, a4⟩
theorem g_st {n : Nat} {L : List Nat} {D : y_D} (G : g_G n L D) {u : Int32} : ∃ st, st < 2 ^ q_n (D 90).1 2 ∧ u &&& (nI (2 ^ q_n (D 90).1 2) - 1) = nI st := y_mask (g_T_n G.2.1.1.2.2.2.2.2.2.2).1.2 u
theorem law_feed {V : x_E} (hV : y_V V) (hF : y_fm V) {N i ce sl MC MS n : Nat} {f : Nat → Int32} {L : List Nat} {D : y_D} {E : x_P} (hT : law_S V N f) (hE : x_X V RL cL_law 8 (some .boolean) 40 MC MS "law" (fun r _ => r = some (.int 1)) E) (G : g_G n L D) (hi : i + 6 ≤ N) (hN : N ≤ 3072) (hce : ce + 4 ≤ MC) (hsl : sl + 816 ≤ MS) (kk : ∀ (n2 : Nat) (L2 : List Nat) (D2 : y_D) (ce2 sl2 : Nat), g_G n2 L2 D2 → ce2 ≤ ce + 4 → sl2 ≤ sl + 816 → E ce2 sl2 2607 [(0, .ref 63), (1, .ref 64), (2, .ref 169), (3, .ref 189), (4, .int (nI i))] [] (y_mk n2 L2 D2)) : E ce sl 208 [(0, .ref 63), (1, .ref 64), (2, .ref 169), (3, .ref 189), (4, .int (nI i))] [] (y_mk n L D) := by
  have hL := G.1.1
  refine r_aload_n hE dL_law_208 rfl ?_
  refine t_arg (k := 1) hE hT dL_law_209 dL_law_210 dL_law_212 dL_law_213 dL_law_214 rfl rfl (by decide) (by omega) (by omega) ?_
  refine t_arg (k := 2) hE hT dL_law_215 dL_law_216 dL_law_218 dL_law_219 dL_law_220 rfl rfl (by decide) (by omega) (by omega) ?_
  refine t_arg (k := 3) hE hT dL_law_221 dL_law_222 dL_law_224 dL_law_225 dL_law_226 rfl rfl (by decide) (by omega) (by omega) ?_
  refine t_arg (k := 4) hE hT dL_law_227 dL_law_228 dL_law_230 dL_law_231 dL_law_232 rfl rfl (by decide) (by omega) (by omega) ?_
  refine t_arg (k := 5) hE hT dL_law_233 dL_law_234 dL_law_236 dL_law_237 dL_law_238 rfl rfl (by decide) (by omega) (by omega) ?_
  obtain ⟨e9, he9, e64, e169⟩ := G.2.2.2.1
  obtain ⟨hv, hG⟩ := z_feed G e64 he9 (a := (f (i + 1))) (b := (f (i + 2))) (c := (f (i + 3))) (d := (f (i + 4))) (e := (f (i + 5)))
  have k9_169 : ((K_feed D e9 ((f (i + 1))) ((f (i + 2))) ((f (i + 3))) ((f (i + 4))) ((f (i + 5)))).2 169).1 5 = (D 169).1 5 := by
    unfold K_feed
    split
    · rfl
    · rfl
  refine t_invv (r := some (.int ((K_feed D e9 ((f (i + 1))) ((f (i + 2))) ((f (i + 3))) ((f (i + 4))) ((f (i + 5)))).1))) (S2 := y_mk n L ((K_feed D e9 ((f (i + 1))) ((f (i + 2))) ((f (i + 3))) ((f (i + 4))) ((f (i + 5)))).2)) (st := []) hE [.int (f (i + 1)), .int (f (i + 2)), .int (f (i + 3)), .int (f (i + 4)), .int (f (i + 5))] (k_feed hL e64 he9) v_yX10_feed m_L_121 dL_law_239 rfl (hL 64 (by decide)) (y_l_64 (D 64)) rfl (by decide) ⟨by omega, by omega⟩ (Nat.le_of_ble_eq_true rfl) ?_
  change E ce sl 242 [(0, .ref 63), (1, .ref 64), (2, .ref 169), (3, .ref 189), (4, .int (nI i))] [.int ((K_feed D e9 ((f (i + 1))) ((f (i + 2))) ((f (i + 3))) ((f (i + 4))) ((f (i + 5)))).1)] (y_mk n L ((K_feed D e9 ((f (i + 1))) ((f (i + 2))) ((f (i + 3))) ((f (i + 4))) ((f (i + 5)))).2))
  refine r_aload_n hE dL_law_242 rfl ?_
  refine t_arg (k := 1) hE hT dL_law_243 dL_law_244 dL_law_246 dL_law_247 dL_law_248 rfl rfl (by decide) (by omega) (by omega) ?_
  refine t_arg (k := 2) hE hT dL_law_249 dL_law_250 dL_law_252 dL_law_253 dL_law_254 rfl rfl (by decide) (by omega) (by omega) ?_
  refine t_arg (k := 3) hE hT dL_law_255 dL_law_256 dL_law_258 dL_law_259 dL_law_260 rfl rfl (by decide) (by omega) (by omega) ?_
  refine t_arg (k := 4) hE hT dL_law_261 dL_law_262 dL_law_264 dL_law_265 dL_law_266 rfl rfl (by decide) (by omega) (by omega) ?_
  refine t_arg (k := 5) hE hT dL_law_267 dL_law_268 dL_law_270 dL_law_271 dL_law_272 rfl rfl (by decide) (by omega) (by omega) ?_
  refine t_invv (r := some (.int ((M_feed (K_feed D e9 ((f (i + 1))) ((f (i + 2))) ((f (i + 3))) ((f (i + 4))) ((f (i + 5)))).2 e9 ((f (i + 1))) ((f (i + 2))) ((f (i + 3))) ((f (i + 4))) ((f (i + 5)))).1))) (S2 := y_mk n L ((M_feed (K_feed D e9 ((f (i + 1))) ((f (i + 2))) ((f (i + 3))) ((f (i + 4))) ((f (i + 5)))).2 e9 ((f (i + 1))) ((f (i + 2))) ((f (i + 3))) ((f (i + 4))) ((f (i + 5)))).2)) (st := [.int ((K_feed D e9 ((f (i + 1))) ((f (i + 2))) ((f (i + 3))) ((f (i + 4))) ((f (i + 5)))).1)]) hE [.int (f (i + 1)), .int (f (i + 2)), .int (f (i + 3)), .int (f (i + 4)), .int (f (i + 5))] (c_feed hL (by rw [k9_169]; exact e169) he9) v_yX11_feed m_L_124 dL_law_273 rfl (hL 169 (by decide)) (y_l_169 (((K_feed D e9 ((f (i + 1))) ((f (i + 2))) ((f (i + 3))) ((f (i + 4))) ((f (i + 5)))).2) 169)) rfl (by decide) ⟨by omega, by omega⟩ (Nat.le_of_ble_eq_true rfl) ?_
  change E ce sl 276 [(0, .ref 63), (1, .ref 64), (2, .ref 169), (3, .ref 189), (4, .int (nI i))] [.int ((M_feed (K_feed D e9 ((f (i + 1))) ((f (i + 2))) ((f (i + 3))) ((f (i + 4))) ((f (i + 5)))).2 e9 ((f (i + 1))) ((f (i + 2))) ((f (i + 3))) ((f (i + 4))) ((f (i + 5)))).1), .int ((K_feed D e9 ((f (i + 1))) ((f (i + 2))) ((f (i + 3))) ((f (i + 4))) ((f (i + 5)))).1)] (y_mk n L ((M_feed (K_feed D e9 ((f (i + 1))) ((f (i + 2))) ((f (i + 3))) ((f (i + 4))) ((f (i + 5)))).2 e9 ((f (i + 1))) ((f (i + 2))) ((f (i + 3))) ((f (i + 4))) ((f (i + 5)))).2))
  refine r_icmp_eq (tgt := 2607) hE dL_law_276 (by decide) (fun _ => ?_) (fun c9 => absurd hv c9)
  refine r_locs hE (ls2 := [(0, .ref 63), (1, .ref 64), (2, .ref 169), (3, .ref 189), (4, .int (nI i))]) (fun q hq => by simp only [List.mem_cons, List.not_mem_nil, or_false] at hq; rcases hq with rfl | rfl | rfl | rfl | rfl <;> rfl) ?_
  exact kk n L _ ce sl hG (by omega) (by omega)
theorem law_end {V : x_E} (hV : y_V V) (hF : y_fm V) {N i ce sl MC MS n : Nat} {f : Nat → Int32} {L : List Nat} {D : y_D} {E : x_P} (hT : law_S V N f) (hE : x_X V RL cL_law 8 (some .boolean) 40 MC MS "law" (fun r _ => r = some (.int 1)) E) (G : g_G n L D) (hi : i + 6 ≤ N) (hN : N ≤ 3072) (hce : ce + 4 ≤ MC) (hsl : sl + 816 ≤ MS) (kk : ∀ (n2 : Nat) (L2 : List Nat) (D2 : y_D) (ce2 sl2 : Nat), g_G n2 L2 D2 → ce2 ≤ ce + 4 → sl2 ≤ sl + 816 → E ce2 sl2 2607 [(0, .ref 63), (1, .ref 64), (2, .ref 169), (3, .ref 189), (4, .int (nI i))] [] (y_mk n2 L2 D2)) : E ce sl 281 [(0, .ref 63), (1, .ref 64), (2, .ref 169), (3, .ref 189), (4, .int (nI i))] [] (y_mk n L D) := by
  have hL := G.1.1
  refine r_aload_n hE dL_law_281 rfl ?_
  refine t_arg (k := 1) hE hT dL_law_282 dL_law_283 dL_law_285 dL_law_286 dL_law_287 rfl rfl (by decide) (by omega) (by omega) ?_
  obtain ⟨hv, hG⟩ := z_end G (p := (f (i + 1)))
  refine t_invv (r := some (.int ((K_end D ((f (i + 1)))).1))) (S2 := y_mk n L ((K_end D ((f (i + 1)))).2)) (st := []) hE [.int (f (i + 1))] (k_end hL) v_yX10_end m_L_125 dL_law_288 rfl (hL 64 (by decide)) (y_l_64 (D 64)) rfl (by decide) ⟨by omega, by omega⟩ (Nat.le_of_ble_eq_true rfl) ?_
  change E ce sl 291 [(0, .ref 63), (1, .ref 64), (2, .ref 169), (3, .ref 189), (4, .int (nI i))] [.int ((K_end D ((f (i + 1)))).1)] (y_mk n L ((K_end D ((f (i + 1)))).2))
  refine r_aload_n hE dL_law_291 rfl ?_
  refine t_arg (k := 1) hE hT dL_law_292 dL_law_293 dL_law_295 dL_law_296 dL_law_297 rfl rfl (by decide) (by omega) (by omega) ?_
  refine t_invv (r := some (.int ((M_end (K_end D ((f (i + 1)))).2 ((f (i + 1)))).1))) (S2 := y_mk n L ((M_end (K_end D ((f (i + 1)))).2 ((f (i + 1)))).2)) (st := [.int ((K_end D ((f (i + 1)))).1)]) hE [.int (f (i + 1))] (c_end hL) v_yX11_end m_L_129 dL_law_298 rfl (hL 169 (by decide)) (y_l_169 (((K_end D ((f (i + 1)))).2) 169)) rfl (by decide) ⟨by omega, by omega⟩ (Nat.le_of_ble_eq_true rfl) ?_
  change E ce sl 301 [(0, .ref 63), (1, .ref 64), (2, .ref 169), (3, .ref 189), (4, .int (nI i))] [.int ((M_end (K_end D ((f (i + 1)))).2 ((f (i + 1)))).1), .int ((K_end D ((f (i + 1)))).1)] (y_mk n L ((M_end (K_end D ((f (i + 1)))).2 ((f (i + 1)))).2))
  refine r_icmp_eq (tgt := 2607) hE dL_law_301 (by decide) (fun _ => ?_) (fun c9 => absurd hv c9)
  refine r_locs hE (ls2 := [(0, .ref 63), (1, .ref 64), (2, .ref 169), (3, .ref 189), (4, .int (nI i))]) (fun q hq => by simp only [List.mem_cons, List.not_mem_nil, or_false] at hq; rcases hq with rfl | rfl | rfl | rfl | rfl <;> rfl) ?_
  exact kk n L _ ce sl hG (by omega) (by omega)
theorem law_person {V : x_E} (hV : y_V V) (hF : y_fm V) {N i ce sl MC MS n : Nat} {f : Nat → Int32} {L : List Nat} {D : y_D} {E : x_P} (hT : law_S V N f) (hE : x_X V RL cL_law 8 (some .boolean) 40 MC MS "law" (fun r _ => r = some (.int 1)) E) (G : g_G n L D) (hi : i + 6 ≤ N) (hN : N ≤ 3072) (hce : ce + 4 ≤ MC) (hsl : sl + 816 ≤ MS) (kk : ∀ (n2 : Nat) (L2 : List Nat) (D2 : y_D) (ce2 sl2 : Nat), g_G n2 L2 D2 → ce2 ≤ ce + 4 → sl2 ≤ sl + 816 → E ce2 sl2 2607 [(0, .ref 63), (1, .ref 64), (2, .ref 169), (3, .ref 189), (4, .int (nI i))] [] (y_mk n2 L2 D2)) : E ce sl 306 [(0, .ref 63), (1, .ref 64), (2, .ref 169), (3, .ref 189), (4, .int (nI i))] [] (y_mk n L D) := by
  have hL := G.1.1
  refine r_aload_n hE dL_law_306 rfl ?_
  refine t_arg (k := 1) hE hT dL_law_307 dL_law_308 dL_law_310 dL_law_311 dL_law_312 rfl rfl (by decide) (by omega) (by omega) ?_
  refine t_arg (k := 2) hE hT dL_law_313 dL_law_314 dL_law_316 dL_law_317 dL_law_318 rfl rfl (by decide) (by omega) (by omega) ?_
  refine r_aload_n hE dL_law_319 rfl ?_
  have t9 := G.2.1.1.1
  have hw := w_person (n := n) (D := D) hV hL (f_person hV hL (t9.1.1.trans t9.2.1.1) t9.1.2.1 t9.2.1.2 (p := (f (i + 1))) (q := (f (i + 2)))) (fun E9 h => by grind)
  refine r_invsW hE (st := []) [.ref 64, .int (f (i + 1)), .int (f (i + 2)), .ref 189] hw w_YW_person m_L_130 dL_law_320 rfl (by decide) ⟨by omega, by omega⟩ (Nat.le_of_ble_eq_true rfl) ⟨rfl, rfl⟩ (fun r9 S9 h9 => ?_)
  rcases h9 with ⟨v, D2, hp, rfl, rfl⟩ | ⟨j, E9, n2, hj, hx, rfl, hn, rfl⟩
  · obtain ⟨D0, hD0⟩ : ∃ z, z = y_sl D2 189 0 (y_gi v) := ⟨_, rfl⟩
    rw [← hD0]
    have h170 : D0 170 = D 170 := by
      rw [hD0, y_sl_n (by decide)]
      rw [hp.2.2.2, y_Tadd_n (by decide) (by decide), y_sw_ne (by decide)]
    have zz := (z_person G t9.2.1.1 t9.2.1.2 (p := (f (i + 1))) (q := (f (i + 2)))).1 v D2 (y_gi v) hp
    rw [← hD0] at zz
    change E (ce + 2) (sl + 12) 323 [(0, .ref 63), (1, .ref 64), (2, .ref 169), (3, .ref 189), (4, .int (nI i))] [.int 0] (y_mk n L D0)
    refine r_istore (ls2 := [(0, .ref 63), (1, .ref 64), (2, .ref 169), (3, .ref 189), (4, .int (nI i)), (5, .int 0)]) hE dL_law_323 (by decide) rfl ?_
    refine r_aload_n hE dL_law_325 rfl ?_
    refine t_arg (k := 1) hE hT dL_law_326 dL_law_327 dL_law_329 dL_law_330 dL_law_331 rfl rfl (by decide) (by omega) (by omega) ?_
    refine t_arg (k := 2) hE hT dL_law_332 dL_law_333 dL_law_335 dL_law_336 dL_law_337 rfl rfl (by decide) (by omega) (by omega) ?_
    refine t_invv (r := some (.int (M_person D0 (q_n (D 170).1 0) ((f (i + 1))) ((f (i + 2)))).1)) (S2 := y_mk n L (M_person D0 (q_n (D 170).1 0) ((f (i + 1))) ((f (i + 2)))).2) (st := []) hE [.int (f (i + 1)), .int (f (i + 2))] (c_person hL (by rw [h170]; exact t9.2.1.1) t9.2.1.2) v_yX11_person m_L_135 dL_law_338 rfl (hL 169 (by decide)) (y_l_169 (D0 169)) rfl (by decide) ⟨by omega, by omega⟩ (Nat.le_of_ble_eq_true rfl) ?_
    have zz := zz _ _ ⟨rfl, rfl⟩
    generalize (M_person D0 (q_n (D 170).1 0) ((f (i + 1))) ((f (i + 2)))).2 = D3 at zz ⊢
    generalize (M_person D0 (q_n (D 170).1 0) ((f (i + 1))) ((f (i + 2)))).1 = b at zz ⊢
    obtain ⟨hv, h0, hG, h189⟩ := zz
    change E (ce + 2) (sl + 12) 341 [(0, .ref 63), (1, .ref 64), (2, .ref 169), (3, .ref 189), (4, .int (nI i)), (5, .int 0)] [.int b] (y_mk n L D3)
    refine r_istore (ls2 := [(0, .ref 63), (1, .ref 64), (2, .ref 169), (3, .ref 189), (4, .int (nI i)), (5, .int 0), (6, .int b)]) hE dL_law_341 (by decide) rfl ?_
    refine t_thr hE hL dL_law_343 dL_law_344 dL_law_347 dL_law_349 rfl rfl h0 (by decide) ⟨by omega, by omega⟩ ?_
    refine t_oki hE hL dL_law_354 dL_law_356 dL_law_359 dL_law_360 dL_law_361 dL_law_362 dL_law_364 dL_law_365 dL_law_366 rfl rfl rfl (by rw [h189, hD0, ← hv]; rfl) ?_
    refine r_goto (tgt := 2607) hE dL_law_371 (by decide) ?_
    refine r_locs hE (ls2 := [(0, .ref 63), (1, .ref 64), (2, .ref 169), (3, .ref 189), (4, .int (nI i))]) (fun q hq => by simp only [List.mem_cons, List.not_mem_nil, or_false] at hq; rcases hq with rfl | rfl | rfl | rfl | rfl <;> rfl) ?_
    exact kk n L _ (ce + 2) (sl + 12) hG (by omega) (by omega)
  · have h170 : D 170 = D 170 := rfl
    have zz := (z_person G t9.2.1.1 t9.2.1.2 (p := (f (i + 1))) (q := (f (i + 2)))).2 j E9 n2 hj hx hn
    change E (ce + 2) (sl + 12) 323 [(0, .ref 63), (1, .ref 64), (2, .ref 169), (3, .ref 189), (4, .int (nI i))] [.int (nI (j + 1))] (y_mk n2 L D)
    refine r_istore (ls2 := [(0, .ref 63), (1, .ref 64), (2, .ref 169), (3, .ref 189), (4, .int (nI i)), (5, .int (nI (j + 1)))]) hE dL_law_323 (by decide) rfl ?_
    refine r_aload_n hE dL_law_325 rfl ?_
    refine t_arg (k := 1) hE hT dL_law_326 dL_law_327 dL_law_329 dL_law_330 dL_law_331 rfl rfl (by decide) (by omega) (by omega) ?_
    refine t_arg (k := 2) hE hT dL_law_332 dL_law_333 dL_law_335 dL_law_336 dL_law_337 rfl rfl (by decide) (by omega) (by omega) ?_
    refine t_invv (r := some (.int (M_person D (q_n (D 170).1 0) ((f (i + 1))) ((f (i + 2)))).1)) (S2 := y_mk n2 L (M_person D (q_n (D 170).1 0) ((f (i + 1))) ((f (i + 2)))).2) (st := []) hE [.int (f (i + 1)), .int (f (i + 2))] (c_person hL (by rw [h170]; exact t9.2.1.1) t9.2.1.2) v_yX11_person m_L_135 dL_law_338 rfl (hL 169 (by decide)) (y_l_169 (D 169)) rfl (by decide) ⟨by omega, by omega⟩ (Nat.le_of_ble_eq_true rfl) ?_
    have zz := zz _ _ ⟨rfl, rfl⟩
    generalize (M_person D (q_n (D 170).1 0) ((f (i + 1))) ((f (i + 2)))).2 = D3 at zz ⊢
    generalize (M_person D (q_n (D 170).1 0) ((f (i + 1))) ((f (i + 2)))).1 = b at zz ⊢
    obtain ⟨h0, hG⟩ := zz
    change E (ce + 2) (sl + 12) 341 [(0, .ref 63), (1, .ref 64), (2, .ref 169), (3, .ref 189), (4, .int (nI i)), (5, .int (nI (j + 1)))] [.int b] (y_mk n2 L D3)
    refine r_istore (ls2 := [(0, .ref 63), (1, .ref 64), (2, .ref 169), (3, .ref 189), (4, .int (nI i)), (5, .int (nI (j + 1))), (6, .int b)]) hE dL_law_341 (by decide) rfl ?_
    refine t_thr hE hL dL_law_343 dL_law_344 dL_law_347 dL_law_349 rfl rfl h0 (by decide) ⟨by omega, by omega⟩ ?_
    refine t_ex (tgt := 371) hE dL_law_354 dL_law_356 rfl (t_nlt hj (by decide)) (by decide) ?_
    refine r_goto (tgt := 2607) hE dL_law_371 (by decide) ?_
    refine r_locs hE (ls2 := [(0, .ref 63), (1, .ref 64), (2, .ref 169), (3, .ref 189), (4, .int (nI i))]) (fun q hq => by simp only [List.mem_cons, List.not_mem_nil, or_false] at hq; rcases hq with rfl | rfl | rfl | rfl | rfl <;> rfl) ?_
    exact kk n2 L _ (ce + 2) (sl + 12) hG (by omega) (by omega)
theorem law_rule {V : x_E} (hV : y_V V) (hF : y_fm V) {N i ce sl MC MS n : Nat} {f : Nat → Int32} {L : List Nat} {D : y_D} {E : x_P} (hT : law_S V N f) (hE : x_X V RL cL_law 8 (some .boolean) 40 MC MS "law" (fun r _ => r = some (.int 1)) E) (G : g_G n L D) (hi : i + 6 ≤ N) (hN : N ≤ 3072) (hce : ce + 4 ≤ MC) (hsl : sl + 816 ≤ MS) (kk : ∀ (n2 : Nat) (L2 : List Nat) (D2 : y_D) (ce2 sl2 : Nat), g_G n2 L2 D2 → ce2 ≤ ce + 4 → sl2 ≤ sl + 816 → E ce2 sl2 2607 [(0, .ref 63), (1, .ref 64), (2, .ref 169), (3, .ref 189), (4, .int (nI i))] [] (y_mk n2 L2 D2)) : E ce sl 374 [(0, .ref 63), (1, .ref 64), (2, .ref 169), (3, .ref 189), (4, .int (nI i))] [] (y_mk n L D) := by
  have hL := G.1.1
  refine r_aload_n hE dL_law_374 rfl ?_
  refine r_aload_n hE dL_law_375 rfl ?_
  have hn := G.1.2.1
  obtain ⟨e9, he9, e64, e169⟩ := G.2.2.2.1
  have t9 := G.2.1.2.1
  have hk : (D 73).1 2 = nI (q_n (D 170).1 1) := t9.1.trans t9.2.1.1
  have hw := w_rule (n := n) (D := D) hV hL (f_rule hV hF hL hn e64 he9 hk t9.2.1.2) (fun r S1 h => by obtain ⟨nx2, wr2, lc2, LN2, g, h1, hl3, hk4, hr, hg, hS⟩ := h; exact ⟨_, _, _, _, hr, hS, fun h hh => v_mem3.mpr (Or.inl (hL h hh))⟩) (fun E9 S1 h => by obtain ⟨ok, nx2, wr2, lc2, LN2, n2, h1, hn2, hS, hX⟩ := h; exact ⟨by grind, n2, _, hS⟩)
  refine r_invsW hE (st := []) [.ref 64, .ref 189] hw w_YW_rule m_L_139 dL_law_376 rfl (by decide) ⟨by omega, by omega⟩ (Nat.le_of_ble_eq_true rfl) ⟨rfl, rfl⟩ (fun r9 S9 h9 => ?_)
  rcases h9 with ⟨v, n2, L2, D2, hQ, rfl, rfl⟩ | ⟨j, E9, hj, hQ, rfl⟩
  · obtain ⟨nx2, wr2, lc2, LN2, g, h1, hl3, hk4, hr, hg, hS⟩ := hQ
    have ev : v = nI (q_n (D 170).1 1) := by injection hr with hr; injection hr
    rw [y_mk_sl hS]
    obtain ⟨D0, hD0⟩ : ∃ z, z = y_sl (y_si (y_sq (k_nr (y_si (k_Q (k_D1 D e9) nx2 wr2 lc2 0 1 0 0 LN2 (k_D1 D e9 72).1) 64 1 0) n g lc2) 76 (q_n (D 170).1 1) n) 73 2 (nI (q_n (D 170).1 1 + 1))) 189 0 (y_gi v) := ⟨_, rfl⟩
    rw [← hD0]
    have hL2 : y_ok (L ++ [n] ++ [n + 1]) := fun h hh => v_mem3.mpr (Or.inl (hL h hh))
    have h169 : D0 169 = D 169 := by rw [hD0, y_sl_n (by decide), y_si_n (by decide), y_sq_n (by decide), k_nr_n (by omega) (by omega), y_si_n (by decide), k_Q_n (by decide), k_D1_n (by decide)]
    have h170 : D0 170 = D 170 := by rw [hD0, y_sl_n (by decide), y_si_n (by decide), y_sq_n (by decide), k_nr_n (by omega) (by omega), y_si_n (by decide), k_Q_n (by decide), k_D1_n (by decide)]
    change E (ce + 4) (sl + 43) 379 [(0, .ref 63), (1, .ref 64), (2, .ref 169), (3, .ref 189), (4, .int (nI i))] [.int 0] (y_mk (n + 2) (L ++ [n] ++ [n + 1]) D0)
    refine r_istore (ls2 := [(0, .ref 63), (1, .ref 64), (2, .ref 169), (3, .ref 189), (4, .int (nI i)), (5, .int 0)]) hE dL_law_379 (by decide) rfl ?_
    refine r_aload_n hE dL_law_381 rfl ?_
    refine t_invvRi (st := []) hE [] (c_rule hV hF hL2 (by rw [h169]; exact e169) he9 (by rw [h170]; exact t9.2.1.1) t9.2.1.2) v_yX11_rule m_L_142 dL_law_382 rfl (hL2 169 (by decide)) (y_l_169 (D0 169)) rfl (by decide) ⟨by omega, by omega⟩ (Nat.le_of_ble_eq_true rfl) (fun b D3 hR => ?_)
    obtain ⟨hb, h0, hG, h189⟩ := z_rule1 G he9 hk h1 hk4 hg hD0 hR
    change E (ce + 4) (sl + 43) 385 [(0, .ref 63), (1, .ref 64), (2, .ref 169), (3, .ref 189), (4, .int (nI i)), (5, .int 0)] [.int b] (y_mk (n + 2) (L ++ [n] ++ [n + 1]) D3)
    refine r_istore (ls2 := [(0, .ref 63), (1, .ref 64), (2, .ref 169), (3, .ref 189), (4, .int (nI i)), (5, .int 0), (6, .int b)]) hE dL_law_385 (by decide) rfl ?_
    refine t_thr hE hL2 dL_law_387 dL_law_388 dL_law_391 dL_law_393 rfl rfl h0 (by decide) ⟨by omega, by omega⟩ ?_
    refine t_oki hE hL2 dL_law_398 dL_law_400 dL_law_403 dL_law_404 dL_law_405 dL_law_406 dL_law_408 dL_law_409 dL_law_410 rfl rfl rfl (by rw [h189, hD0, hb, ← ev]; rfl) ?_
    refine r_goto (tgt := 2607) hE dL_law_415 (by decide) ?_
    refine r_locs hE (ls2 := [(0, .ref 63), (1, .ref 64), (2, .ref 169), (3, .ref 189), (4, .int (nI i))]) (fun q hq => by simp only [List.mem_cons, List.not_mem_nil, or_false] at hq; rcases hq with rfl | rfl | rfl | rfl | rfl <;> rfl) ?_
    exact kk (n + 2) (L ++ [n] ++ [n + 1]) _ (ce + 4) (sl + 43) hG (by omega) (by omega)
  · obtain ⟨ok, nx2, wr2, lc2, LN2, n2, h1, hn2, hS, hX⟩ := hQ
    rw [hS]
    obtain ⟨D0, hD0⟩ : ∃ z, z = y_si (k_Q (k_D1 D e9) nx2 wr2 lc2 0 1 0 0 LN2 (k_D1 D e9 72).1) 64 1 0 := ⟨_, rfl⟩
    rw [← hD0]
    have h169 : D0 169 = D 169 := by rw [hD0, y_si_n (by decide), k_Q_n (by decide), k_D1_n (by decide)]
    have h170 : D0 170 = D 170 := by rw [hD0, y_si_n (by decide), k_Q_n (by decide), k_D1_n (by decide)]
    change E (ce + 4) (sl + 43) 379 [(0, .ref 63), (1, .ref 64), (2, .ref 169), (3, .ref 189), (4, .int (nI i))] [.int (nI (j + 1))] (y_mk n2 L D0)
    refine r_istore (ls2 := [(0, .ref 63), (1, .ref 64), (2, .ref 169), (3, .ref 189), (4, .int (nI i)), (5, .int (nI (j + 1)))]) hE dL_law_379 (by decide) rfl ?_
    refine r_aload_n hE dL_law_381 rfl ?_
    refine t_invvRi (st := []) hE [] (c_rule hV hF hL (by rw [h169]; exact e169) he9 (by rw [h170]; exact t9.2.1.1) t9.2.1.2) v_yX11_rule m_L_142 dL_law_382 rfl (hL 169 (by decide)) (y_l_169 (D0 169)) rfl (by decide) ⟨by omega, by omega⟩ (Nat.le_of_ble_eq_true rfl) (fun b D3 hR => ?_)
    obtain ⟨h0, hG⟩ := z_rule2 G he9 h1 hn2 hj hX hD0 hR
    change E (ce + 4) (sl + 43) 385 [(0, .ref 63), (1, .ref 64), (2, .ref 169), (3, .ref 189), (4, .int (nI i)), (5, .int (nI (j + 1)))] [.int b] (y_mk n2 L D3)
    refine r_istore (ls2 := [(0, .ref 63), (1, .ref 64), (2, .ref 169), (3, .ref 189), (4, .int (nI i)), (5, .int (nI (j + 1))), (6, .int b)]) hE dL_law_385 (by decide) rfl ?_
    refine t_thr hE hL dL_law_387 dL_law_388 dL_law_391 dL_law_393 rfl rfl h0 (by decide) ⟨by omega, by omega⟩ ?_
    refine t_ex (tgt := 415) hE dL_law_398 dL_law_400 rfl (t_nlt hj (by decide)) (by decide) ?_
    refine r_goto (tgt := 2607) hE dL_law_415 (by decide) ?_
    refine r_locs hE (ls2 := [(0, .ref 63), (1, .ref 64), (2, .ref 169), (3, .ref 189), (4, .int (nI i))]) (fun q hq => by simp only [List.mem_cons, List.not_mem_nil, or_false] at hq; rcases hq with rfl | rfl | rfl | rfl | rfl <;> rfl) ?_
    exact kk n2 L _ (ce + 4) (sl + 43) hG (by omega) (by omega)
theorem law_way {V : x_E} (hV : y_V V) (hF : y_fm V) {N i ce sl MC MS n : Nat} {f : Nat → Int32} {L : List Nat} {D : y_D} {E : x_P} (hT : law_S V N f) (hE : x_X V RL cL_law 8 (some .boolean) 40 MC MS "law" (fun r _ => r = some (.int 1)) E) (G : g_G n L D) (hi : i + 6 ≤ N) (hN : N ≤ 3072) (hce : ce + 4 ≤ MC) (hsl : sl + 816 ≤ MS) (kk : ∀ (n2 : Nat) (L2 : List Nat) (D2 : y_D) (ce2 sl2 : Nat), g_G n2 L2 D2 → ce2 ≤ ce + 4 → sl2 ≤ sl + 816 → E ce2 sl2 2607 [(0, .ref 63), (1, .ref 64), (2, .ref 169), (3, .ref 189), (4, .int (nI i))] [] (y_mk n2 L2 D2)) : E ce sl 418 [(0, .ref 63), (1, .ref 64), (2, .ref 169), (3, .ref 189), (4, .int (nI i))] [] (y_mk n L D) := by
  have hL := G.1.1
  refine r_aload_n hE dL_law_418 rfl ?_
  refine r_aload_n hE dL_law_419 rfl ?_
  have hn := G.1.2.1
  obtain ⟨e9, he9, e64, e169⟩ := G.2.2.2.1
  have t9 := G.2.1.2.2.1
  have hk : (D 73).1 4 = nI (q_n (D 170).1 2) := t9.1.trans t9.2.1.1
  have hw := w_way (n := n) (D := D) hV hL (f_way hV hF hL hn e64 he9 hk t9.2.1.2) (fun r S1 h => by obtain ⟨nx2, wr2, fr2, tk2, rc2, sc2, ST2, g, h1, hsc, hk4, hr, hg, hS⟩ := h; exact ⟨_, _, _, _, hr, hS, fun h hh => v_mem3.mpr (Or.inl (hL h hh))⟩) (fun E9 S1 h => by obtain ⟨ok, nx2, wr2, fr2, tk2, rc2, sc2, ST2, n2, h1, hn2, hS, hX⟩ := h; exact ⟨by grind, n2, _, hS⟩)
  refine r_invsW hE (st := []) [.ref 64, .ref 189] hw w_YW_way m_L_143 dL_law_420 rfl (by decide) ⟨by omega, by omega⟩ (Nat.le_of_ble_eq_true rfl) ⟨rfl, rfl⟩ (fun r9 S9 h9 => ?_)
  rcases h9 with ⟨v, n2, L2, D2, hQ, rfl, rfl⟩ | ⟨j, E9, hj, hQ, rfl⟩
  · obtain ⟨nx2, wr2, fr2, tk2, rc2, sc2, ST2, g, h1, hsc, hk4, hr, hg, hS⟩ := hQ
    have ev : v = nI (q_n (D 170).1 2) := by injection hr with hr; injection hr
    rw [y_mk_sl hS]
    obtain ⟨D0, hD0⟩ : ∃ z, z = y_sl (y_si (y_sq (k_nw (y_si (k_Q (k_D1 D e9) nx2 wr2 0 fr2 tk2 rc2 sc2 (k_D1 D e9 71).1 ST2) 64 1 0) n fr2 tk2 rc2 g sc2) 77 (q_n (D 170).1 2) n) 73 4 (nI (q_n (D 170).1 2 + 1))) 189 0 (y_gi v) := ⟨_, rfl⟩
    rw [← hD0]
    have hL2 : y_ok (L ++ [n] ++ [n + 1]) := fun h hh => v_mem3.mpr (Or.inl (hL h hh))
    have h169 : D0 169 = D 169 := by rw [hD0, y_sl_n (by decide), y_si_n (by decide), y_sq_n (by decide), k_nw_n (by omega) (by omega), y_si_n (by decide), k_Q_n (by decide), k_D1_n (by decide)]
    have h170 : D0 170 = D 170 := by rw [hD0, y_sl_n (by decide), y_si_n (by decide), y_sq_n (by decide), k_nw_n (by omega) (by omega), y_si_n (by decide), k_Q_n (by decide), k_D1_n (by decide)]
    change E (ce + 4) (sl + 816) 423 [(0, .ref 63), (1, .ref 64), (2, .ref 169), (3, .ref 189), (4, .int (nI i))] [.int 0] (y_mk (n + 2) (L ++ [n] ++ [n + 1]) D0)
    refine r_istore (ls2 := [(0, .ref 63), (1, .ref 64), (2, .ref 169), (3, .ref 189), (4, .int (nI i)), (5, .int 0)]) hE dL_law_423 (by decide) rfl ?_
    refine r_aload_n hE dL_law_425 rfl ?_
    refine t_invvRi (st := []) hE [] (c_way hV hF hL2 (by rw [h169]; exact e169) he9 (by rw [h170]; exact t9.2.1.1) t9.2.1.2) v_yX11_way m_L_145 dL_law_426 rfl (hL2 169 (by decide)) (y_l_169 (D0 169)) rfl (by decide) ⟨by omega, by omega⟩ (Nat.le_of_ble_eq_true rfl) (fun b D3 hR => ?_)
    obtain ⟨hb, h0, hG, h189⟩ := z_way1 G he9 hk h1 hsc hk4 hg hD0 hR
    change E (ce + 4) (sl + 816) 429 [(0, .ref 63), (1, .ref 64), (2, .ref 169), (3, .ref 189), (4, .int (nI i)), (5, .int 0)] [.int b] (y_mk (n + 2) (L ++ [n] ++ [n + 1]) D3)
    refine r_istore (ls2 := [(0, .ref 63), (1, .ref 64), (2, .ref 169), (3, .ref 189), (4, .int (nI i)), (5, .int 0), (6, .int b)]) hE dL_law_429 (by decide) rfl ?_
    refine t_thr hE hL2 dL_law_431 dL_law_432 dL_law_435 dL_law_437 rfl rfl h0 (by decide) ⟨by omega, by omega⟩ ?_
    refine t_oki hE hL2 dL_law_442 dL_law_444 dL_law_447 dL_law_448 dL_law_449 dL_law_450 dL_law_452 dL_law_453 dL_law_454 rfl rfl rfl (by rw [h189, hD0, hb, ← ev]; rfl) ?_
    refine r_goto (tgt := 2607) hE dL_law_459 (by decide) ?_
    refine r_locs hE (ls2 := [(0, .ref 63), (1, .ref 64), (2, .ref 169), (3, .ref 189), (4, .int (nI i))]) (fun q hq => by simp only [List.mem_cons, List.not_mem_nil, or_false] at hq; rcases hq with rfl | rfl | rfl | rfl | rfl <;> rfl) ?_
    exact kk (n + 2) (L ++ [n] ++ [n + 1]) _ (ce + 4) (sl + 816) hG (by omega) (by omega)
  · obtain ⟨ok, nx2, wr2, fr2, tk2, rc2, sc2, ST2, n2, h1, hn2, hS, hX⟩ := hQ
    rw [hS]
    obtain ⟨D0, hD0⟩ : ∃ z, z = y_si (k_Q (k_D1 D e9) nx2 wr2 0 fr2 tk2 rc2 sc2 (k_D1 D e9 71).1 ST2) 64 1 0 := ⟨_, rfl⟩
    rw [← hD0]
    have h169 : D0 169 = D 169 := by rw [hD0, y_si_n (by decide), k_Q_n (by decide), k_D1_n (by decide)]
    have h170 : D0 170 = D 170 := by rw [hD0, y_si_n (by decide), k_Q_n (by decide), k_D1_n (by decide)]
    change E (ce + 4) (sl + 816) 423 [(0, .ref 63), (1, .ref 64), (2, .ref 169), (3, .ref 189), (4, .int (nI i))] [.int (nI (j + 1))] (y_mk n2 L D0)
    refine r_istore (ls2 := [(0, .ref 63), (1, .ref 64), (2, .ref 169), (3, .ref 189), (4, .int (nI i)), (5, .int (nI (j + 1)))]) hE dL_law_423 (by decide) rfl ?_
    refine r_aload_n hE dL_law_425 rfl ?_
    refine t_invvRi (st := []) hE [] (c_way hV hF hL (by rw [h169]; exact e169) he9 (by rw [h170]; exact t9.2.1.1) t9.2.1.2) v_yX11_way m_L_145 dL_law_426 rfl (hL 169 (by decide)) (y_l_169 (D0 169)) rfl (by decide) ⟨by omega, by omega⟩ (Nat.le_of_ble_eq_true rfl) (fun b D3 hR => ?_)
    obtain ⟨h0, hG⟩ := z_way2 G he9 h1 hn2 hj hX hD0 hR
    change E (ce + 4) (sl + 816) 429 [(0, .ref 63), (1, .ref 64), (2, .ref 169), (3, .ref 189), (4, .int (nI i)), (5, .int (nI (j + 1)))] [.int b] (y_mk n2 L D3)
    refine r_istore (ls2 := [(0, .ref 63), (1, .ref 64), (2, .ref 169), (3, .ref 189), (4, .int (nI i)), (5, .int (nI (j + 1))), (6, .int b)]) hE dL_law_429 (by decide) rfl ?_
    refine t_thr hE hL dL_law_431 dL_law_432 dL_law_435 dL_law_437 rfl rfl h0 (by decide) ⟨by omega, by omega⟩ ?_
    refine t_ex (tgt := 459) hE dL_law_442 dL_law_444 rfl (t_nlt hj (by decide)) (by decide) ?_
    refine r_goto (tgt := 2607) hE dL_law_459 (by decide) ?_
    refine r_locs hE (ls2 := [(0, .ref 63), (1, .ref 64), (2, .ref 169), (3, .ref 189), (4, .int (nI i))]) (fun q hq => by simp only [List.mem_cons, List.not_mem_nil, or_false] at hq; rcases hq with rfl | rfl | rfl | rfl | rfl <;> rfl) ?_
    exact kk n2 L _ (ce + 4) (sl + 816) hG (by omega) (by omega)
theorem law_fault {V : x_E} (hV : y_V V) (hF : y_fm V) {N i ce sl MC MS n : Nat} {f : Nat → Int32} {L : List Nat} {D : y_D} {E : x_P} (hT : law_S V N f) (hE : x_X V RL cL_law 8 (some .boolean) 40 MC MS "law" (fun r _ => r = some (.int 1)) E) (G : g_G n L D) (hi : i + 6 ≤ N) (hN : N ≤ 3072) (hce : ce + 4 ≤ MC) (hsl : sl + 816 ≤ MS) (kk : ∀ (n2 : Nat) (L2 : List Nat) (D2 : y_D) (ce2 sl2 : Nat), g_G n2 L2 D2 → ce2 ≤ ce + 4 → sl2 ≤ sl + 816 → E ce2 sl2 2607 [(0, .ref 63), (1, .ref 64), (2, .ref 169), (3, .ref 189), (4, .int (nI i))] [] (y_mk n2 L2 D2)) : E ce sl 462 [(0, .ref 63), (1, .ref 64), (2, .ref 169), (3, .ref 189), (4, .int (nI i))] [] (y_mk n L D) := by
  have hL := G.1.1
  refine r_aload_n hE dL_law_462 rfl ?_
  obtain ⟨hv, hG⟩ := z_fault G
  refine t_invv (r := some (.int ((D 66).1 2))) (S2 := y_mk n L (D)) (st := []) hE [] (k_fault hL) v_yX10_fault m_L_146 dL_law_463 rfl (hL 64 (by decide)) (y_l_64 (D 64)) rfl (by decide) ⟨by omega, by omega⟩ (Nat.le_of_ble_eq_true rfl) ?_
  change E ce sl 466 [(0, .ref 63), (1, .ref 64), (2, .ref 169), (3, .ref 189), (4, .int (nI i))] [.int ((D 66).1 2)] (y_mk n L (D))
  refine r_aload_n hE dL_law_466 rfl ?_
  refine t_invv (r := some (.int ((D 169).1 10))) (S2 := y_mk n L (y_si D 169 0 0)) (st := [.int ((D 66).1 2)]) hE [] (c_fault hL) v_yX11_fault m_L_149 dL_law_467 rfl (hL 169 (by decide)) (y_l_169 ((D) 169)) rfl (by decide) ⟨by omega, by omega⟩ (Nat.le_of_ble_eq_true rfl) ?_
  change E ce sl 470 [(0, .ref 63), (1, .ref 64), (2, .ref 169), (3, .ref 189), (4, .int (nI i))] [.int ((D 169).1 10), .int ((D 66).1 2)] (y_mk n L (y_si D 169 0 0))
  refine r_icmp_eq (tgt := 2607) hE dL_law_470 (by decide) (fun _ => ?_) (fun c9 => absurd hv c9)
  refine r_locs hE (ls2 := [(0, .ref 63), (1, .ref 64), (2, .ref 169), (3, .ref 189), (4, .int (nI i))]) (fun q hq => by simp only [List.mem_cons, List.not_mem_nil, or_false] at hq; rcases hq with rfl | rfl | rfl | rfl | rfl <;> rfl) ?_
  exact kk n L _ ce sl hG (by omega) (by omega)
theorem law_thing {V : x_E} (hV : y_V V) (hF : y_fm V) {N i ce sl MC MS n : Nat} {f : Nat → Int32} {L : List Nat} {D : y_D} {E : x_P} (hT : law_S V N f) (hE : x_X V RL cL_law 8 (some .boolean) 40 MC MS "law" (fun r _ => r = some (.int 1)) E) (G : g_G n L D) (hi : i + 6 ≤ N) (hN : N ≤ 3072) (hce : ce + 4 ≤ MC) (hsl : sl + 816 ≤ MS) (kk : ∀ (n2 : Nat) (L2 : List Nat) (D2 : y_D) (ce2 sl2 : Nat), g_G n2 L2 D2 → ce2 ≤ ce + 4 → sl2 ≤ sl + 816 → E ce2 sl2 2607 [(0, .ref 63), (1, .ref 64), (2, .ref 169), (3, .ref 189), (4, .int (nI i))] [] (y_mk n2 L2 D2)) : E ce sl 475 [(0, .ref 63), (1, .ref 64), (2, .ref 169), (3, .ref 189), (4, .int (nI i))] [] (y_mk n L D) := by
  have hL := G.1.1
  refine r_aload_n hE dL_law_475 rfl ?_
  refine t_arg (k := 1) hE hT dL_law_476 dL_law_477 dL_law_479 dL_law_480 dL_law_481 rfl rfl (by decide) (by omega) (by omega) ?_
  refine t_arg (k := 2) hE hT dL_law_482 dL_law_483 dL_law_485 dL_law_486 dL_law_487 rfl rfl (by decide) (by omega) (by omega) ?_
  refine t_arg (k := 3) hE hT dL_law_488 dL_law_489 dL_law_491 dL_law_492 dL_law_493 rfl rfl (by decide) (by omega) (by omega) ?_
  refine r_aload_n hE dL_law_494 rfl ?_
  have t9 := G.2.1.1.2.1
  have hw := w_thing (n := n) (D := D) hV hL (f_thing hV hL (t9.1.1.trans t9.2.1.1) t9.1.2.1 t9.2.1.2 (p := (f (i + 1))) (q := (f (i + 2))) (r := (f (i + 3)))) (fun E9 h => by grind)
  refine r_invsW hE (st := []) [.ref 64, .int (f (i + 1)), .int (f (i + 2)), .int (f (i + 3)), .ref 189] hw w_YW_thing m_L_150 dL_law_495 rfl (by decide) ⟨by omega, by omega⟩ (Nat.le_of_ble_eq_true rfl) ⟨rfl, rfl⟩ (fun r9 S9 h9 => ?_)
  rcases h9 with ⟨v, D2, hp, rfl, rfl⟩ | ⟨j, E9, n2, hj, hx, rfl, hn, rfl⟩
  · obtain ⟨D0, hD0⟩ : ∃ z, z = y_sl D2 189 0 (y_gi v) := ⟨_, rfl⟩
    rw [← hD0]
    have h170 : D0 170 = D 170 := by
      rw [hD0, y_sl_n (by decide)]
      rw [hp.2.2.2, y_Tadd_n (by decide) (by decide)]
    have zz := (z_thing G t9.2.1.1 t9.2.1.2 (p := (f (i + 1))) (q := (f (i + 2))) (r := (f (i + 3)))).1 v D2 (y_gi v) hp
    rw [← hD0] at zz
    change E (ce + 2) (sl + 12) 498 [(0, .ref 63), (1, .ref 64), (2, .ref 169), (3, .ref 189), (4, .int (nI i))] [.int 0] (y_mk n L D0)
    refine r_istore (ls2 := [(0, .ref 63), (1, .ref 64), (2, .ref 169), (3, .ref 189), (4, .int (nI i)), (5, .int 0)]) hE dL_law_498 (by decide) rfl ?_
    refine r_aload_n hE dL_law_500 rfl ?_
    refine t_arg (k := 1) hE hT dL_law_501 dL_law_502 dL_law_504 dL_law_505 dL_law_506 rfl rfl (by decide) (by omega) (by omega) ?_
    refine t_arg (k := 2) hE hT dL_law_507 dL_law_508 dL_law_510 dL_law_511 dL_law_512 rfl rfl (by decide) (by omega) (by omega) ?_
    refine t_arg (k := 3) hE hT dL_law_513 dL_law_514 dL_law_516 dL_law_517 dL_law_518 rfl rfl (by decide) (by omega) (by omega) ?_
    refine t_invv (r := some (.int (M_thing D0 (q_n (D 170).1 3) ((f (i + 1))) ((f (i + 2))) ((f (i + 3)))).1)) (S2 := y_mk n L (M_thing D0 (q_n (D 170).1 3) ((f (i + 1))) ((f (i + 2))) ((f (i + 3)))).2) (st := []) hE [.int (f (i + 1)), .int (f (i + 2)), .int (f (i + 3))] (c_thing hL (by rw [h170]; exact t9.2.1.1) t9.2.1.2) v_yX11_thing m_L_153 dL_law_519 rfl (hL 169 (by decide)) (y_l_169 (D0 169)) rfl (by decide) ⟨by omega, by omega⟩ (Nat.le_of_ble_eq_true rfl) ?_
    have zz := zz _ _ ⟨rfl, rfl⟩
    generalize (M_thing D0 (q_n (D 170).1 3) ((f (i + 1))) ((f (i + 2))) ((f (i + 3)))).2 = D3 at zz ⊢
    generalize (M_thing D0 (q_n (D 170).1 3) ((f (i + 1))) ((f (i + 2))) ((f (i + 3)))).1 = b at zz ⊢
    obtain ⟨hv, h0, hG, h189⟩ := zz
    change E (ce + 2) (sl + 12) 522 [(0, .ref 63), (1, .ref 64), (2, .ref 169), (3, .ref 189), (4, .int (nI i)), (5, .int 0)] [.int b] (y_mk n L D3)
    refine r_istore (ls2 := [(0, .ref 63), (1, .ref 64), (2, .ref 169), (3, .ref 189), (4, .int (nI i)), (5, .int 0), (6, .int b)]) hE dL_law_522 (by decide) rfl ?_
    refine t_thr hE hL dL_law_524 dL_law_525 dL_law_528 dL_law_530 rfl rfl h0 (by decide) ⟨by omega, by omega⟩ ?_
    refine t_oki hE hL dL_law_535 dL_law_537 dL_law_540 dL_law_541 dL_law_542 dL_law_543 dL_law_545 dL_law_546 dL_law_547 rfl rfl rfl (by rw [h189, hD0, ← hv]; rfl) ?_
    refine r_goto (tgt := 2607) hE dL_law_552 (by decide) ?_
    refine r_locs hE (ls2 := [(0, .ref 63), (1, .ref 64), (2, .ref 169), (3, .ref 189), (4, .int (nI i))]) (fun q hq => by simp only [List.mem_cons, List.not_mem_nil, or_false] at hq; rcases hq with rfl | rfl | rfl | rfl | rfl <;> rfl) ?_
    exact kk n L _ (ce + 2) (sl + 12) hG (by omega) (by omega)
  · have h170 : D 170 = D 170 := rfl
    have zz := (z_thing G t9.2.1.1 t9.2.1.2 (p := (f (i + 1))) (q := (f (i + 2))) (r := (f (i + 3)))).2 j E9 n2 hj hx hn
    change E (ce + 2) (sl + 12) 498 [(0, .ref 63), (1, .ref 64), (2, .ref 169), (3, .ref 189), (4, .int (nI i))] [.int (nI (j + 1))] (y_mk n2 L D)
    refine r_istore (ls2 := [(0, .ref 63), (1, .ref 64), (2, .ref 169), (3, .ref 189), (4, .int (nI i)), (5, .int (nI (j + 1)))]) hE dL_law_498 (by decide) rfl ?_
    refine r_aload_n hE dL_law_500 rfl ?_
    refine t_arg (k := 1) hE hT dL_law_501 dL_law_502 dL_law_504 dL_law_505 dL_law_506 rfl rfl (by decide) (by omega) (by omega) ?_
    refine t_arg (k := 2) hE hT dL_law_507 dL_law_508 dL_law_510 dL_law_511 dL_law_512 rfl rfl (by decide) (by omega) (by omega) ?_
    refine t_arg (k := 3) hE hT dL_law_513 dL_law_514 dL_law_516 dL_law_517 dL_law_518 rfl rfl (by decide) (by omega) (by omega) ?_
    refine t_invv (r := some (.int (M_thing D (q_n (D 170).1 3) ((f (i + 1))) ((f (i + 2))) ((f (i + 3)))).1)) (S2 := y_mk n2 L (M_thing D (q_n (D 170).1 3) ((f (i + 1))) ((f (i + 2))) ((f (i + 3)))).2) (st := []) hE [.int (f (i + 1)), .int (f (i + 2)), .int (f (i + 3))] (c_thing hL (by rw [h170]; exact t9.2.1.1) t9.2.1.2) v_yX11_thing m_L_153 dL_law_519 rfl (hL 169 (by decide)) (y_l_169 (D 169)) rfl (by decide) ⟨by omega, by omega⟩ (Nat.le_of_ble_eq_true rfl) ?_
    have zz := zz _ _ ⟨rfl, rfl⟩
    generalize (M_thing D (q_n (D 170).1 3) ((f (i + 1))) ((f (i + 2))) ((f (i + 3)))).2 = D3 at zz ⊢
    generalize (M_thing D (q_n (D 170).1 3) ((f (i + 1))) ((f (i + 2))) ((f (i + 3)))).1 = b at zz ⊢
    obtain ⟨h0, hG⟩ := zz
    change E (ce + 2) (sl + 12) 522 [(0, .ref 63), (1, .ref 64), (2, .ref 169), (3, .ref 189), (4, .int (nI i)), (5, .int (nI (j + 1)))] [.int b] (y_mk n2 L D3)
    refine r_istore (ls2 := [(0, .ref 63), (1, .ref 64), (2, .ref 169), (3, .ref 189), (4, .int (nI i)), (5, .int (nI (j + 1))), (6, .int b)]) hE dL_law_522 (by decide) rfl ?_
    refine t_thr hE hL dL_law_524 dL_law_525 dL_law_528 dL_law_530 rfl rfl h0 (by decide) ⟨by omega, by omega⟩ ?_
    refine t_ex (tgt := 552) hE dL_law_535 dL_law_537 rfl (t_nlt hj (by decide)) (by decide) ?_
    refine r_goto (tgt := 2607) hE dL_law_552 (by decide) ?_
    refine r_locs hE (ls2 := [(0, .ref 63), (1, .ref 64), (2, .ref 169), (3, .ref 189), (4, .int (nI i))]) (fun q hq => by simp only [List.mem_cons, List.not_mem_nil, or_false] at hq; rcases hq with rfl | rfl | rfl | rfl | rfl <;> rfl) ?_
    exact kk n2 L _ (ce + 2) (sl + 12) hG (by omega) (by omega)
theorem law_look {V : x_E} (hV : y_V V) (hF : y_fm V) {N i ce sl MC MS n : Nat} {f : Nat → Int32} {L : List Nat} {D : y_D} {E : x_P} (hT : law_S V N f) (hE : x_X V RL cL_law 8 (some .boolean) 40 MC MS "law" (fun r _ => r = some (.int 1)) E) (G : g_G n L D) (hi : i + 6 ≤ N) (hN : N ≤ 3072) (hce : ce + 4 ≤ MC) (hsl : sl + 816 ≤ MS) (kk : ∀ (n2 : Nat) (L2 : List Nat) (D2 : y_D) (ce2 sl2 : Nat), g_G n2 L2 D2 → ce2 ≤ ce + 4 → sl2 ≤ sl + 816 → E ce2 sl2 2607 [(0, .ref 63), (1, .ref 64), (2, .ref 169), (3, .ref 189), (4, .int (nI i))] [] (y_mk n2 L2 D2)) : E ce sl 555 [(0, .ref 63), (1, .ref 64), (2, .ref 169), (3, .ref 189), (4, .int (nI i))] [] (y_mk n L D) := by
  have hL := G.1.1
  refine r_aload_n hE dL_law_555 rfl ?_
  refine t_arg (k := 1) hE hT dL_law_556 dL_law_557 dL_law_559 dL_law_560 dL_law_561 rfl rfl (by decide) (by omega) (by omega) ?_
  refine t_arg (k := 2) hE hT dL_law_562 dL_law_563 dL_law_565 dL_law_566 dL_law_567 rfl rfl (by decide) (by omega) (by omega) ?_
  refine r_aload_n hE dL_law_568 rfl ?_
  have hw := w_look (n := n) (D := D) hV hL (f_look hV hL (g_k_B G.2.1) G.2.2.1 (p := (f (i + 1))) (x := (f (i + 2)))) (fun E9 h => by grind)
  refine r_invsW hE (st := []) [.ref 64, .int (f (i + 1)), .int (f (i + 2)), .ref 189] hw w_YW_look m_L_154 dL_law_569 rfl (by decide) ⟨by omega, by omega⟩ (Nat.le_of_ble_eq_true rfl) ⟨rfl, rfl⟩ (fun r9 S9 h9 => ?_)
  rcases h9 with ⟨v, D2, hp, rfl, rfl⟩ | ⟨j, E9, n2, hj, hx, rfl, hn, rfl⟩
  · obtain ⟨D0, hD0⟩ : ∃ z, z = y_sl D2 189 0 (y_gi v) := ⟨_, rfl⟩
    rw [← hD0]
    have h170 : D0 170 = D 170 := by
      rw [hD0, y_sl_n (by decide)]
      exact hp.1.1.1 170 (by decide)
    have zz := (z_look G (p := (f (i + 1))) (x := (f (i + 2)))).1 v D2 (y_gi v) hp
    rw [← hD0] at zz
    change E (ce + 2) (sl + 12) 572 [(0, .ref 63), (1, .ref 64), (2, .ref 169), (3, .ref 189), (4, .int (nI i))] [.int 0] (y_mk n L D0)
    refine r_istore (ls2 := [(0, .ref 63), (1, .ref 64), (2, .ref 169), (3, .ref 189), (4, .int (nI i)), (5, .int 0)]) hE dL_law_572 (by decide) rfl ?_
    refine r_aload_n hE dL_law_574 rfl ?_
    refine t_arg (k := 1) hE hT dL_law_575 dL_law_576 dL_law_578 dL_law_579 dL_law_580 rfl rfl (by decide) (by omega) (by omega) ?_
    refine t_arg (k := 2) hE hT dL_law_581 dL_law_582 dL_law_584 dL_law_585 dL_law_586 rfl rfl (by decide) (by omega) (by omega) ?_
    refine t_invvRi (st := []) hE [.int (f (i + 1)), .int (f (i + 2))] (c_look hL (by rw [h170]; exact g_m_W G.2.1)) v_yX11_look m_L_156 dL_law_587 rfl (hL 169 (by decide)) (y_l_169 (D0 169)) rfl (by decide) ⟨by omega, by omega⟩ (Nat.le_of_ble_eq_true rfl) (fun b D3 hR => ?_)
    have zz := zz _ _ hR
    obtain ⟨hv, h0, hG, h189⟩ := zz
    change E (ce + 2) (sl + 12) 590 [(0, .ref 63), (1, .ref 64), (2, .ref 169), (3, .ref 189), (4, .int (nI i)), (5, .int 0)] [.int b] (y_mk n L D3)
    refine r_istore (ls2 := [(0, .ref 63), (1, .ref 64), (2, .ref 169), (3, .ref 189), (4, .int (nI i)), (5, .int 0), (6, .int b)]) hE dL_law_590 (by decide) rfl ?_
    refine t_thr hE hL dL_law_592 dL_law_593 dL_law_596 dL_law_598 rfl rfl h0 (by decide) ⟨by omega, by omega⟩ ?_
    refine t_oki hE hL dL_law_603 dL_law_605 dL_law_608 dL_law_609 dL_law_610 dL_law_611 dL_law_613 dL_law_614 dL_law_615 rfl rfl rfl (by rw [h189, hD0, ← hv]; rfl) ?_
    refine r_goto (tgt := 2607) hE dL_law_620 (by decide) ?_
    refine r_locs hE (ls2 := [(0, .ref 63), (1, .ref 64), (2, .ref 169), (3, .ref 189), (4, .int (nI i))]) (fun q hq => by simp only [List.mem_cons, List.not_mem_nil, or_false] at hq; rcases hq with rfl | rfl | rfl | rfl | rfl <;> rfl) ?_
    exact kk n L _ (ce + 2) (sl + 12) hG (by omega) (by omega)
  · have h170 : D 170 = D 170 := rfl
    have zz := (z_look G (p := (f (i + 1))) (x := (f (i + 2)))).2 j E9 n2 hj hx hn
    change E (ce + 2) (sl + 12) 572 [(0, .ref 63), (1, .ref 64), (2, .ref 169), (3, .ref 189), (4, .int (nI i))] [.int (nI (j + 1))] (y_mk n2 L D)
    refine r_istore (ls2 := [(0, .ref 63), (1, .ref 64), (2, .ref 169), (3, .ref 189), (4, .int (nI i)), (5, .int (nI (j + 1)))]) hE dL_law_572 (by decide) rfl ?_
    refine r_aload_n hE dL_law_574 rfl ?_
    refine t_arg (k := 1) hE hT dL_law_575 dL_law_576 dL_law_578 dL_law_579 dL_law_580 rfl rfl (by decide) (by omega) (by omega) ?_
    refine t_arg (k := 2) hE hT dL_law_581 dL_law_582 dL_law_584 dL_law_585 dL_law_586 rfl rfl (by decide) (by omega) (by omega) ?_
    refine t_invvRi (st := []) hE [.int (f (i + 1)), .int (f (i + 2))] (c_look hL (by rw [h170]; exact g_m_W G.2.1)) v_yX11_look m_L_156 dL_law_587 rfl (hL 169 (by decide)) (y_l_169 (D 169)) rfl (by decide) ⟨by omega, by omega⟩ (Nat.le_of_ble_eq_true rfl) (fun b D3 hR => ?_)
    have zz := zz _ _ hR
    obtain ⟨h0, hG⟩ := zz
    change E (ce + 2) (sl + 12) 590 [(0, .ref 63), (1, .ref 64), (2, .ref 169), (3, .ref 189), (4, .int (nI i)), (5, .int (nI (j + 1)))] [.int b] (y_mk n2 L D3)
    refine r_istore (ls2 := [(0, .ref 63), (1, .ref 64), (2, .ref 169), (3, .ref 189), (4, .int (nI i)), (5, .int (nI (j + 1))), (6, .int b)]) hE dL_law_590 (by decide) rfl ?_
    refine t_thr hE hL dL_law_592 dL_law_593 dL_law_596 dL_law_598 rfl rfl h0 (by decide) ⟨by omega, by omega⟩ ?_
    refine t_ex (tgt := 620) hE dL_law_603 dL_law_605 rfl (t_nlt hj (by decide)) (by decide) ?_
    refine r_goto (tgt := 2607) hE dL_law_620 (by decide) ?_
    refine r_locs hE (ls2 := [(0, .ref 63), (1, .ref 64), (2, .ref 169), (3, .ref 189), (4, .int (nI i))]) (fun q hq => by simp only [List.mem_cons, List.not_mem_nil, or_false] at hq; rcases hq with rfl | rfl | rfl | rfl | rfl <;> rfl) ?_
    exact kk n2 L _ (ce + 2) (sl + 12) hG (by omega) (by omega)
theorem law_needs {V : x_E} (hV : y_V V) (hF : y_fm V) {N i ce sl MC MS n : Nat} {f : Nat → Int32} {L : List Nat} {D : y_D} {E : x_P} (hT : law_S V N f) (hE : x_X V RL cL_law 8 (some .boolean) 40 MC MS "law" (fun r _ => r = some (.int 1)) E) (G : g_G n L D) (hi : i + 6 ≤ N) (hN : N ≤ 3072) (hce : ce + 4 ≤ MC) (hsl : sl + 816 ≤ MS) (kk : ∀ (n2 : Nat) (L2 : List Nat) (D2 : y_D) (ce2 sl2 : Nat), g_G n2 L2 D2 → ce2 ≤ ce + 4 → sl2 ≤ sl + 816 → E ce2 sl2 2607 [(0, .ref 63), (1, .ref 64), (2, .ref 169), (3, .ref 189), (4, .int (nI i))] [] (y_mk n2 L2 D2)) : E ce sl 623 [(0, .ref 63), (1, .ref 64), (2, .ref 169), (3, .ref 189), (4, .int (nI i))] [] (y_mk n L D) := by
  have hL := G.1.1
  refine r_aload_n hE dL_law_623 rfl ?_
  refine t_arg (k := 1) hE hT dL_law_624 dL_law_625 dL_law_627 dL_law_628 dL_law_629 rfl rfl (by decide) (by omega) (by omega) ?_
  refine t_arg (k := 2) hE hT dL_law_630 dL_law_631 dL_law_633 dL_law_634 dL_law_635 rfl rfl (by decide) (by omega) (by omega) ?_
  refine t_arg (k := 3) hE hT dL_law_636 dL_law_637 dL_law_639 dL_law_640 dL_law_641 rfl rfl (by decide) (by omega) (by omega) ?_
  refine t_arg (k := 4) hE hT dL_law_642 dL_law_643 dL_law_645 dL_law_646 dL_law_647 rfl rfl (by decide) (by omega) (by omega) ?_
  refine t_arg (k := 5) hE hT dL_law_648 dL_law_649 dL_law_651 dL_law_652 dL_law_653 rfl rfl (by decide) (by omega) (by omega) ?_
  refine t_nz hE dL_law_654 dL_law_657 dL_law_658 dL_law_661 ?_
  refine r_aload_n hE dL_law_662 rfl ?_
  have hw := w_needs (n := n) (D := D) hV hL (f_needs hV hL (g_k_B G.2.1) G.2.2.1 (p := (f (i + 1))) (q := (f (i + 2))) (x := (f (i + 3))) (y := (f (i + 4))) (hl := (y_tf (f (i + 5))))) (fun E9 h => by grind)
  refine r_invsW hE (st := []) [.ref 64, .int (f (i + 1)), .int (f (i + 2)), .int (f (i + 3)), .int (f (i + 4)), .int (y_tf (f (i + 5))), .ref 189] hw w_YW_needs m_L_157 dL_law_663 rfl (by decide) ⟨by omega, by omega⟩ (Nat.le_of_ble_eq_true rfl) ⟨rfl, rfl⟩ (fun r9 S9 h9 => ?_)
  rcases h9 with ⟨v, D2, hp, rfl, rfl⟩ | ⟨j, E9, n2, hj, hx, rfl, hn, rfl⟩
  · obtain ⟨D0, hD0⟩ : ∃ z, z = y_sl D2 189 0 (y_gb v) := ⟨_, rfl⟩
    rw [← hD0]
    have h170 : D0 170 = D 170 := by
      rw [hD0, y_sl_n (by decide)]
      exact hp.1.1.1 170 (by decide)
    have zz := (z_needs G (p := (f (i + 1))) (q := (f (i + 2))) (x := (f (i + 3))) (y := (f (i + 4))) (hl := (y_tf (f (i + 5))))).1 v D2 (y_gb v) hp
    rw [← hD0] at zz
    change E (ce + 3) (sl + 18) 666 [(0, .ref 63), (1, .ref 64), (2, .ref 169), (3, .ref 189), (4, .int (nI i))] [.int 0] (y_mk n L D0)
    refine r_istore (ls2 := [(0, .ref 63), (1, .ref 64), (2, .ref 169), (3, .ref 189), (4, .int (nI i)), (5, .int 0)]) hE dL_law_666 (by decide) rfl ?_
    refine r_aload_n hE dL_law_668 rfl ?_
    refine t_arg (k := 1) hE hT dL_law_669 dL_law_670 dL_law_672 dL_law_673 dL_law_674 rfl rfl (by decide) (by omega) (by omega) ?_
    refine t_arg (k := 2) hE hT dL_law_675 dL_law_676 dL_law_678 dL_law_679 dL_law_680 rfl rfl (by decide) (by omega) (by omega) ?_
    refine t_arg (k := 3) hE hT dL_law_681 dL_law_682 dL_law_684 dL_law_685 dL_law_686 rfl rfl (by decide) (by omega) (by omega) ?_
    refine t_arg (k := 4) hE hT dL_law_687 dL_law_688 dL_law_690 dL_law_691 dL_law_692 rfl rfl (by decide) (by omega) (by omega) ?_
    refine t_arg (k := 5) hE hT dL_law_693 dL_law_694 dL_law_696 dL_law_697 dL_law_698 rfl rfl (by decide) (by omega) (by omega) ?_
    refine t_nz hE dL_law_699 dL_law_702 dL_law_703 dL_law_706 ?_
    refine t_invvRi (st := []) hE [.int (f (i + 1)), .int (f (i + 2)), .int (f (i + 3)), .int (f (i + 4)), .int (y_tf (f (i + 5)))] (c_needs hL (by rw [h170]; exact g_m_W G.2.1)) v_yX11_needs m_L_160 dL_law_707 rfl (hL 169 (by decide)) (y_l_169 (D0 169)) rfl (by decide) ⟨by omega, by omega⟩ (Nat.le_of_ble_eq_true rfl) (fun b D3 hR => ?_)
    have zz := zz _ _ hR
    obtain ⟨hv, h0, hG, h189⟩ := zz
    change E (ce + 3) (sl + 18) 710 [(0, .ref 63), (1, .ref 64), (2, .ref 169), (3, .ref 189), (4, .int (nI i)), (5, .int 0)] [.int b] (y_mk n L D3)
    refine r_istore (ls2 := [(0, .ref 63), (1, .ref 64), (2, .ref 169), (3, .ref 189), (4, .int (nI i)), (5, .int 0), (6, .int b)]) hE dL_law_710 (by decide) rfl ?_
    refine t_thr hE hL dL_law_712 dL_law_713 dL_law_716 dL_law_718 rfl rfl h0 (by decide) ⟨by omega, by omega⟩ ?_
    refine t_okb hE hL dL_law_723 dL_law_725 dL_law_728 dL_law_729 dL_law_730 dL_law_731 dL_law_733 dL_law_736 dL_law_737 dL_law_740 dL_law_741 dL_law_742 rfl rfl rfl (by rw [h189, hD0, ← hv]; rfl) ?_
    refine r_goto (tgt := 2607) hE dL_law_747 (by decide) ?_
    refine r_locs hE (ls2 := [(0, .ref 63), (1, .ref 64), (2, .ref 169), (3, .ref 189), (4, .int (nI i))]) (fun q hq => by simp only [List.mem_cons, List.not_mem_nil, or_false] at hq; rcases hq with rfl | rfl | rfl | rfl | rfl <;> rfl) ?_
    exact kk n L _ (ce + 3) (sl + 18) hG (by omega) (by omega)
  · have h170 : D 170 = D 170 := rfl
    have zz := (z_needs G (p := (f (i + 1))) (q := (f (i + 2))) (x := (f (i + 3))) (y := (f (i + 4))) (hl := (y_tf (f (i + 5))))).2 j E9 n2 hj hx hn
    change E (ce + 3) (sl + 18) 666 [(0, .ref 63), (1, .ref 64), (2, .ref 169), (3, .ref 189), (4, .int (nI i))] [.int (nI (j + 1))] (y_mk n2 L D)
    refine r_istore (ls2 := [(0, .ref 63), (1, .ref 64), (2, .ref 169), (3, .ref 189), (4, .int (nI i)), (5, .int (nI (j + 1)))]) hE dL_law_666 (by decide) rfl ?_
    refine r_aload_n hE dL_law_668 rfl ?_
    refine t_arg (k := 1) hE hT dL_law_669 dL_law_670 dL_law_672 dL_law_673 dL_law_674 rfl rfl (by decide) (by omega) (by omega) ?_
    refine t_arg (k := 2) hE hT dL_law_675 dL_law_676 dL_law_678 dL_law_679 dL_law_680 rfl rfl (by decide) (by omega) (by omega) ?_
    refine t_arg (k := 3) hE hT dL_law_681 dL_law_682 dL_law_684 dL_law_685 dL_law_686 rfl rfl (by decide) (by omega) (by omega) ?_
    refine t_arg (k := 4) hE hT dL_law_687 dL_law_688 dL_law_690 dL_law_691 dL_law_692 rfl rfl (by decide) (by omega) (by omega) ?_
    refine t_arg (k := 5) hE hT dL_law_693 dL_law_694 dL_law_696 dL_law_697 dL_law_698 rfl rfl (by decide) (by omega) (by omega) ?_
    refine t_nz hE dL_law_699 dL_law_702 dL_law_703 dL_law_706 ?_
    refine t_invvRi (st := []) hE [.int (f (i + 1)), .int (f (i + 2)), .int (f (i + 3)), .int (f (i + 4)), .int (y_tf (f (i + 5)))] (c_needs hL (by rw [h170]; exact g_m_W G.2.1)) v_yX11_needs m_L_160 dL_law_707 rfl (hL 169 (by decide)) (y_l_169 (D 169)) rfl (by decide) ⟨by omega, by omega⟩ (Nat.le_of_ble_eq_true rfl) (fun b D3 hR => ?_)
    have zz := zz _ _ hR
    obtain ⟨h0, hG⟩ := zz
    change E (ce + 3) (sl + 18) 710 [(0, .ref 63), (1, .ref 64), (2, .ref 169), (3, .ref 189), (4, .int (nI i)), (5, .int (nI (j + 1)))] [.int b] (y_mk n2 L D3)
    refine r_istore (ls2 := [(0, .ref 63), (1, .ref 64), (2, .ref 169), (3, .ref 189), (4, .int (nI i)), (5, .int (nI (j + 1))), (6, .int b)]) hE dL_law_710 (by decide) rfl ?_
    refine t_thr hE hL dL_law_712 dL_law_713 dL_law_716 dL_law_718 rfl rfl h0 (by decide) ⟨by omega, by omega⟩ ?_
    refine t_ex (tgt := 747) hE dL_law_723 dL_law_725 rfl (t_nlt hj (by decide)) (by decide) ?_
    refine r_goto (tgt := 2607) hE dL_law_747 (by decide) ?_
    refine r_locs hE (ls2 := [(0, .ref 63), (1, .ref 64), (2, .ref 169), (3, .ref 189), (4, .int (nI i))]) (fun q hq => by simp only [List.mem_cons, List.not_mem_nil, or_false] at hq; rcases hq with rfl | rfl | rfl | rfl | rfl <;> rfl) ?_
    exact kk n2 L _ (ce + 3) (sl + 18) hG (by omega) (by omega)
theorem law_note {V : x_E} (hV : y_V V) (hF : y_fm V) {N i ce sl MC MS n : Nat} {f : Nat → Int32} {L : List Nat} {D : y_D} {E : x_P} (hT : law_S V N f) (hE : x_X V RL cL_law 8 (some .boolean) 40 MC MS "law" (fun r _ => r = some (.int 1)) E) (G : g_G n L D) (hi : i + 6 ≤ N) (hN : N ≤ 3072) (hce : ce + 4 ≤ MC) (hsl : sl + 816 ≤ MS) (kk : ∀ (n2 : Nat) (L2 : List Nat) (D2 : y_D) (ce2 sl2 : Nat), g_G n2 L2 D2 → ce2 ≤ ce + 4 → sl2 ≤ sl + 816 → E ce2 sl2 2607 [(0, .ref 63), (1, .ref 64), (2, .ref 169), (3, .ref 189), (4, .int (nI i))] [] (y_mk n2 L2 D2)) : E ce sl 750 [(0, .ref 63), (1, .ref 64), (2, .ref 169), (3, .ref 189), (4, .int (nI i))] [] (y_mk n L D) := by
  have hL := G.1.1
  refine r_aload_n hE dL_law_750 rfl ?_
  refine t_arg (k := 1) hE hT dL_law_751 dL_law_752 dL_law_754 dL_law_755 dL_law_756 rfl rfl (by decide) (by omega) (by omega) ?_
  refine t_arg (k := 2) hE hT dL_law_757 dL_law_758 dL_law_760 dL_law_761 dL_law_762 rfl rfl (by decide) (by omega) (by omega) ?_
  refine r_aload_n hE dL_law_763 rfl ?_
  have t9 := G.2.1.1.2.2.1
  have hw := w_note (n := n) (D := D) hV hL (f_note hV hL (t9.1.1.trans t9.2.1.1) t9.1.2.1 t9.2.1.2 (p := (f (i + 1))) (q := (f (i + 2)))) (fun E9 h => by grind)
  refine r_invsW hE (st := []) [.ref 64, .int (f (i + 1)), .int (f (i + 2)), .ref 189] hw w_YW_note m_L_161 dL_law_764 rfl (by decide) ⟨by omega, by omega⟩ (Nat.le_of_ble_eq_true rfl) ⟨rfl, rfl⟩ (fun r9 S9 h9 => ?_)
  rcases h9 with ⟨v, D2, hp, rfl, rfl⟩ | ⟨j, E9, n2, hj, hx, rfl, hn, rfl⟩
  · obtain ⟨D0, hD0⟩ : ∃ z, z = y_sl D2 189 0 (y_gi v) := ⟨_, rfl⟩
    rw [← hD0]
    have h170 : D0 170 = D 170 := by
      rw [hD0, y_sl_n (by decide)]
      rw [hp.2.2.2, y_Tadd_n (by decide) (by decide)]
    have zz := (z_note G t9.2.1.1 t9.2.1.2 (p := (f (i + 1))) (q := (f (i + 2)))).1 v D2 (y_gi v) hp
    rw [← hD0] at zz
    change E (ce + 3) (sl + 18) 767 [(0, .ref 63), (1, .ref 64), (2, .ref 169), (3, .ref 189), (4, .int (nI i))] [.int 0] (y_mk n L D0)
    refine r_istore (ls2 := [(0, .ref 63), (1, .ref 64), (2, .ref 169), (3, .ref 189), (4, .int (nI i)), (5, .int 0)]) hE dL_law_767 (by decide) rfl ?_
    refine r_aload_n hE dL_law_769 rfl ?_
    refine t_arg (k := 1) hE hT dL_law_770 dL_law_771 dL_law_773 dL_law_774 dL_law_775 rfl rfl (by decide) (by omega) (by omega) ?_
    refine t_arg (k := 2) hE hT dL_law_776 dL_law_777 dL_law_779 dL_law_780 dL_law_781 rfl rfl (by decide) (by omega) (by omega) ?_
    refine t_invv (r := some (.int (M_note D0 (q_n (D 170).1 4) ((f (i + 1))) ((f (i + 2)))).1)) (S2 := y_mk n L (M_note D0 (q_n (D 170).1 4) ((f (i + 1))) ((f (i + 2)))).2) (st := []) hE [.int (f (i + 1)), .int (f (i + 2))] (c_note hL (by rw [h170]; exact t9.2.1.1) t9.2.1.2) v_yX11_note m_L_163 dL_law_782 rfl (hL 169 (by decide)) (y_l_169 (D0 169)) rfl (by decide) ⟨by omega, by omega⟩ (Nat.le_of_ble_eq_true rfl) ?_
    have zz := zz _ _ ⟨rfl, rfl⟩
    generalize (M_note D0 (q_n (D 170).1 4) ((f (i + 1))) ((f (i + 2)))).2 = D3 at zz ⊢
    generalize (M_note D0 (q_n (D 170).1 4) ((f (i + 1))) ((f (i + 2)))).1 = b at zz ⊢
    obtain ⟨hv, h0, hG, h189⟩ := zz
    change E (ce + 3) (sl + 18) 785 [(0, .ref 63), (1, .ref 64), (2, .ref 169), (3, .ref 189), (4, .int (nI i)), (5, .int 0)] [.int b] (y_mk n L D3)
    refine r_istore (ls2 := [(0, .ref 63), (1, .ref 64), (2, .ref 169), (3, .ref 189), (4, .int (nI i)), (5, .int 0), (6, .int b)]) hE dL_law_785 (by decide) rfl ?_
    refine t_thr hE hL dL_law_787 dL_law_788 dL_law_791 dL_law_793 rfl rfl h0 (by decide) ⟨by omega, by omega⟩ ?_
    refine t_oki hE hL dL_law_798 dL_law_800 dL_law_803 dL_law_804 dL_law_805 dL_law_806 dL_law_808 dL_law_809 dL_law_810 rfl rfl rfl (by rw [h189, hD0, ← hv]; rfl) ?_
    refine r_goto (tgt := 2607) hE dL_law_815 (by decide) ?_
    refine r_locs hE (ls2 := [(0, .ref 63), (1, .ref 64), (2, .ref 169), (3, .ref 189), (4, .int (nI i))]) (fun q hq => by simp only [List.mem_cons, List.not_mem_nil, or_false] at hq; rcases hq with rfl | rfl | rfl | rfl | rfl <;> rfl) ?_
    exact kk n L _ (ce + 3) (sl + 18) hG (by omega) (by omega)
  · have h170 : D 170 = D 170 := rfl
    have zz := (z_note G t9.2.1.1 t9.2.1.2 (p := (f (i + 1))) (q := (f (i + 2)))).2 j E9 n2 hj hx hn
    change E (ce + 3) (sl + 18) 767 [(0, .ref 63), (1, .ref 64), (2, .ref 169), (3, .ref 189), (4, .int (nI i))] [.int (nI (j + 1))] (y_mk n2 L D)
    refine r_istore (ls2 := [(0, .ref 63), (1, .ref 64), (2, .ref 169), (3, .ref 189), (4, .int (nI i)), (5, .int (nI (j + 1)))]) hE dL_law_767 (by decide) rfl ?_
    refine r_aload_n hE dL_law_769 rfl ?_
    refine t_arg (k := 1) hE hT dL_law_770 dL_law_771 dL_law_773 dL_law_774 dL_law_775 rfl rfl (by decide) (by omega) (by omega) ?_
    refine t_arg (k := 2) hE hT dL_law_776 dL_law_777 dL_law_779 dL_law_780 dL_law_781 rfl rfl (by decide) (by omega) (by omega) ?_
    refine t_invv (r := some (.int (M_note D (q_n (D 170).1 4) ((f (i + 1))) ((f (i + 2)))).1)) (S2 := y_mk n2 L (M_note D (q_n (D 170).1 4) ((f (i + 1))) ((f (i + 2)))).2) (st := []) hE [.int (f (i + 1)), .int (f (i + 2))] (c_note hL (by rw [h170]; exact t9.2.1.1) t9.2.1.2) v_yX11_note m_L_163 dL_law_782 rfl (hL 169 (by decide)) (y_l_169 (D 169)) rfl (by decide) ⟨by omega, by omega⟩ (Nat.le_of_ble_eq_true rfl) ?_
    have zz := zz _ _ ⟨rfl, rfl⟩
    generalize (M_note D (q_n (D 170).1 4) ((f (i + 1))) ((f (i + 2)))).2 = D3 at zz ⊢
    generalize (M_note D (q_n (D 170).1 4) ((f (i + 1))) ((f (i + 2)))).1 = b at zz ⊢
    obtain ⟨h0, hG⟩ := zz
    change E (ce + 3) (sl + 18) 785 [(0, .ref 63), (1, .ref 64), (2, .ref 169), (3, .ref 189), (4, .int (nI i)), (5, .int (nI (j + 1)))] [.int b] (y_mk n2 L D3)
    refine r_istore (ls2 := [(0, .ref 63), (1, .ref 64), (2, .ref 169), (3, .ref 189), (4, .int (nI i)), (5, .int (nI (j + 1))), (6, .int b)]) hE dL_law_785 (by decide) rfl ?_
    refine t_thr hE hL dL_law_787 dL_law_788 dL_law_791 dL_law_793 rfl rfl h0 (by decide) ⟨by omega, by omega⟩ ?_
    refine t_ex (tgt := 815) hE dL_law_798 dL_law_800 rfl (t_nlt hj (by decide)) (by decide) ?_
    refine r_goto (tgt := 2607) hE dL_law_815 (by decide) ?_
    refine r_locs hE (ls2 := [(0, .ref 63), (1, .ref 64), (2, .ref 169), (3, .ref 189), (4, .int (nI i))]) (fun q hq => by simp only [List.mem_cons, List.not_mem_nil, or_false] at hq; rcases hq with rfl | rfl | rfl | rfl | rfl <;> rfl) ?_
    exact kk n2 L _ (ce + 3) (sl + 18) hG (by omega) (by omega)
theorem law_torn {V : x_E} (hV : y_V V) (hF : y_fm V) {N i ce sl MC MS n : Nat} {f : Nat → Int32} {L : List Nat} {D : y_D} {E : x_P} (hT : law_S V N f) (hE : x_X V RL cL_law 8 (some .boolean) 40 MC MS "law" (fun r _ => r = some (.int 1)) E) (G : g_G n L D) (hi : i + 6 ≤ N) (hN : N ≤ 3072) (hce : ce + 4 ≤ MC) (hsl : sl + 816 ≤ MS) (kk : ∀ (n2 : Nat) (L2 : List Nat) (D2 : y_D) (ce2 sl2 : Nat), g_G n2 L2 D2 → ce2 ≤ ce + 4 → sl2 ≤ sl + 816 → E ce2 sl2 2607 [(0, .ref 63), (1, .ref 64), (2, .ref 169), (3, .ref 189), (4, .int (nI i))] [] (y_mk n2 L2 D2)) : E ce sl 818 [(0, .ref 63), (1, .ref 64), (2, .ref 169), (3, .ref 189), (4, .int (nI i))] [] (y_mk n L D) := by
  have hL := G.1.1
  refine r_aload_n hE dL_law_818 rfl ?_
  obtain ⟨hv, hG⟩ := z_torn G
  refine t_invv (r := some (.int ((D 80).1 2))) (S2 := y_mk n L (y_si D 80 2 0)) (st := []) hE [] (k_torn hL) v_yX10_torn m_L_164 dL_law_819 rfl (hL 64 (by decide)) (y_l_64 (D 64)) rfl (by decide) ⟨by omega, by omega⟩ (Nat.le_of_ble_eq_true rfl) ?_
  change E ce sl 822 [(0, .ref 63), (1, .ref 64), (2, .ref 169), (3, .ref 189), (4, .int (nI i))] [.int ((D 80).1 2)] (y_mk n L (y_si D 80 2 0))
  refine r_aload_n hE dL_law_822 rfl ?_
  refine t_invv (r := some (.int (((y_si D 80 2 0) 170).1 4))) (S2 := y_mk n L (y_si (y_si (y_si D 80 2 0) 169 0 0) 170 4 0)) (st := [.int ((D 80).1 2)]) hE [] (c_torn hL) v_yX11_torn m_L_167 dL_law_823 rfl (hL 169 (by decide)) (y_l_169 ((y_si D 80 2 0) 169)) rfl (by decide) ⟨by omega, by omega⟩ (Nat.le_of_ble_eq_true rfl) ?_
  change E ce sl 826 [(0, .ref 63), (1, .ref 64), (2, .ref 169), (3, .ref 189), (4, .int (nI i))] [.int (((y_si D 80 2 0) 170).1 4), .int ((D 80).1 2)] (y_mk n L (y_si (y_si (y_si D 80 2 0) 169 0 0) 170 4 0))
  refine r_icmp_eq (tgt := 2607) hE dL_law_826 (by decide) (fun _ => ?_) (fun c9 => absurd hv c9)
  refine r_locs hE (ls2 := [(0, .ref 63), (1, .ref 64), (2, .ref 169), (3, .ref 189), (4, .int (nI i))]) (fun q hq => by simp only [List.mem_cons, List.not_mem_nil, or_false] at hq; rcases hq with rfl | rfl | rfl | rfl | rfl <;> rfl) ?_
  exact kk n L _ ce sl hG (by omega) (by omega)
theorem law_can {V : x_E} (hV : y_V V) (hF : y_fm V) {N i ce sl MC MS n : Nat} {f : Nat → Int32} {L : List Nat} {D : y_D} {E : x_P} (hT : law_S V N f) (hE : x_X V RL cL_law 8 (some .boolean) 40 MC MS "law" (fun r _ => r = some (.int 1)) E) (G : g_G n L D) (hi : i + 6 ≤ N) (hN : N ≤ 3072) (hce : ce + 4 ≤ MC) (hsl : sl + 816 ≤ MS) (kk : ∀ (n2 : Nat) (L2 : List Nat) (D2 : y_D) (ce2 sl2 : Nat), g_G n2 L2 D2 → ce2 ≤ ce + 4 → sl2 ≤ sl + 816 → E ce2 sl2 2607 [(0, .ref 63), (1, .ref 64), (2, .ref 169), (3, .ref 189), (4, .int (nI i))] [] (y_mk n2 L2 D2)) : E ce sl 831 [(0, .ref 63), (1, .ref 64), (2, .ref 169), (3, .ref 189), (4, .int (nI i))] [] (y_mk n L D) := by
  have hL := G.1.1
  refine r_aload_n hE dL_law_831 rfl ?_
  refine t_arg (k := 1) hE hT dL_law_832 dL_law_833 dL_law_835 dL_law_836 dL_law_837 rfl rfl (by decide) (by omega) (by omega) ?_
  refine t_arg (k := 2) hE hT dL_law_838 dL_law_839 dL_law_841 dL_law_842 dL_law_843 rfl rfl (by decide) (by omega) (by omega) ?_
  refine t_arg (k := 3) hE hT dL_law_844 dL_law_845 dL_law_847 dL_law_848 dL_law_849 rfl rfl (by decide) (by omega) (by omega) ?_
  refine t_nz hE dL_law_850 dL_law_853 dL_law_854 dL_law_857 ?_
  refine r_aload_n hE dL_law_858 rfl ?_
  have hw := w_can (n := n) (D := D) hV hL (f_can hV hL (g_k_B G.2.1) G.2.2.1 (p := (f (i + 1))) (u := (f (i + 2))) (hl := (y_tf (f (i + 3))))) (fun E9 h => by grind)
  refine r_invsW hE (st := []) [.ref 64, .int (f (i + 1)), .int (f (i + 2)), .int (y_tf (f (i + 3))), .ref 189] hw w_YW_can m_L_168 dL_law_859 rfl (by decide) ⟨by omega, by omega⟩ (Nat.le_of_ble_eq_true rfl) ⟨rfl, rfl⟩ (fun r9 S9 h9 => ?_)
  rcases h9 with ⟨v, D2, hp, rfl, rfl⟩ | ⟨j, E9, n2, hj, hx, rfl, hn, rfl⟩
  · obtain ⟨D0, hD0⟩ : ∃ z, z = y_sl D2 189 0 (y_gb v) := ⟨_, rfl⟩
    rw [← hD0]
    have h170 : D0 170 = D 170 := by
      rw [hD0, y_sl_n (by decide)]
      exact hp.1.1.1 170 (by decide)
    have zz := (z_can G (p := (f (i + 1))) (u := (f (i + 2))) (hl := (y_tf (f (i + 3))))).1 v D2 (y_gb v) hp
    rw [← hD0] at zz
    change E (ce + 1) (sl + 6) 862 [(0, .ref 63), (1, .ref 64), (2, .ref 169), (3, .ref 189), (4, .int (nI i))] [.int 0] (y_mk n L D0)
    refine r_istore (ls2 := [(0, .ref 63), (1, .ref 64), (2, .ref 169), (3, .ref 189), (4, .int (nI i)), (5, .int 0)]) hE dL_law_862 (by decide) rfl ?_
    refine r_aload_n hE dL_law_864 rfl ?_
    refine t_arg (k := 1) hE hT dL_law_865 dL_law_866 dL_law_868 dL_law_869 dL_law_870 rfl rfl (by decide) (by omega) (by omega) ?_
    refine t_arg (k := 2) hE hT dL_law_871 dL_law_872 dL_law_874 dL_law_875 dL_law_876 rfl rfl (by decide) (by omega) (by omega) ?_
    refine t_arg (k := 3) hE hT dL_law_877 dL_law_878 dL_law_880 dL_law_881 dL_law_882 rfl rfl (by decide) (by omega) (by omega) ?_
    refine t_nz hE dL_law_883 dL_law_886 dL_law_887 dL_law_890 ?_
    refine t_invvRi (st := []) hE [.int (f (i + 1)), .int (f (i + 2)), .int (y_tf (f (i + 3)))] (c_can hL (by rw [h170]; exact g_m_W G.2.1)) v_yX11_can m_L_171 dL_law_891 rfl (hL 169 (by decide)) (y_l_169 (D0 169)) rfl (by decide) ⟨by omega, by omega⟩ (Nat.le_of_ble_eq_true rfl) (fun b D3 hR => ?_)
    have zz := zz _ _ hR
    obtain ⟨hv, h0, hG, h189⟩ := zz
    change E (ce + 1) (sl + 6) 894 [(0, .ref 63), (1, .ref 64), (2, .ref 169), (3, .ref 189), (4, .int (nI i)), (5, .int 0)] [.int b] (y_mk n L D3)
    refine r_istore (ls2 := [(0, .ref 63), (1, .ref 64), (2, .ref 169), (3, .ref 189), (4, .int (nI i)), (5, .int 0), (6, .int b)]) hE dL_law_894 (by decide) rfl ?_
    refine t_thr hE hL dL_law_896 dL_law_897 dL_law_900 dL_law_902 rfl rfl h0 (by decide) ⟨by omega, by omega⟩ ?_
    refine t_okb hE hL dL_law_907 dL_law_909 dL_law_912 dL_law_913 dL_law_914 dL_law_915 dL_law_917 dL_law_920 dL_law_921 dL_law_924 dL_law_925 dL_law_926 rfl rfl rfl (by rw [h189, hD0, ← hv]; rfl) ?_
    refine r_goto (tgt := 2607) hE dL_law_931 (by decide) ?_
    refine r_locs hE (ls2 := [(0, .ref 63), (1, .ref 64), (2, .ref 169), (3, .ref 189), (4, .int (nI i))]) (fun q hq => by simp only [List.mem_cons, List.not_mem_nil, or_false] at hq; rcases hq with rfl | rfl | rfl | rfl | rfl <;> rfl) ?_
    exact kk n L _ (ce + 1) (sl + 6) hG (by omega) (by omega)
  · have h170 : D 170 = D 170 := rfl
    have zz := (z_can G (p := (f (i + 1))) (u := (f (i + 2))) (hl := (y_tf (f (i + 3))))).2 j E9 n2 hj hx hn
    change E (ce + 1) (sl + 6) 862 [(0, .ref 63), (1, .ref 64), (2, .ref 169), (3, .ref 189), (4, .int (nI i))] [.int (nI (j + 1))] (y_mk n2 L D)
    refine r_istore (ls2 := [(0, .ref 63), (1, .ref 64), (2, .ref 169), (3, .ref 189), (4, .int (nI i)), (5, .int (nI (j + 1)))]) hE dL_law_862 (by decide) rfl ?_
    refine r_aload_n hE dL_law_864 rfl ?_
    refine t_arg (k := 1) hE hT dL_law_865 dL_law_866 dL_law_868 dL_law_869 dL_law_870 rfl rfl (by decide) (by omega) (by omega) ?_
    refine t_arg (k := 2) hE hT dL_law_871 dL_law_872 dL_law_874 dL_law_875 dL_law_876 rfl rfl (by decide) (by omega) (by omega) ?_
    refine t_arg (k := 3) hE hT dL_law_877 dL_law_878 dL_law_880 dL_law_881 dL_law_882 rfl rfl (by decide) (by omega) (by omega) ?_
    refine t_nz hE dL_law_883 dL_law_886 dL_law_887 dL_law_890 ?_
    refine t_invvRi (st := []) hE [.int (f (i + 1)), .int (f (i + 2)), .int (y_tf (f (i + 3)))] (c_can hL (by rw [h170]; exact g_m_W G.2.1)) v_yX11_can m_L_171 dL_law_891 rfl (hL 169 (by decide)) (y_l_169 (D 169)) rfl (by decide) ⟨by omega, by omega⟩ (Nat.le_of_ble_eq_true rfl) (fun b D3 hR => ?_)
    have zz := zz _ _ hR
    obtain ⟨h0, hG⟩ := zz
    change E (ce + 1) (sl + 6) 894 [(0, .ref 63), (1, .ref 64), (2, .ref 169), (3, .ref 189), (4, .int (nI i)), (5, .int (nI (j + 1)))] [.int b] (y_mk n2 L D3)
    refine r_istore (ls2 := [(0, .ref 63), (1, .ref 64), (2, .ref 169), (3, .ref 189), (4, .int (nI i)), (5, .int (nI (j + 1))), (6, .int b)]) hE dL_law_894 (by decide) rfl ?_
    refine t_thr hE hL dL_law_896 dL_law_897 dL_law_900 dL_law_902 rfl rfl h0 (by decide) ⟨by omega, by omega⟩ ?_
    refine t_ex (tgt := 931) hE dL_law_907 dL_law_909 rfl (t_nlt hj (by decide)) (by decide) ?_
    refine r_goto (tgt := 2607) hE dL_law_931 (by decide) ?_
    refine r_locs hE (ls2 := [(0, .ref 63), (1, .ref 64), (2, .ref 169), (3, .ref 189), (4, .int (nI i))]) (fun q hq => by simp only [List.mem_cons, List.not_mem_nil, or_false] at hq; rcases hq with rfl | rfl | rfl | rfl | rfl <;> rfl) ?_
    exact kk n2 L _ (ce + 1) (sl + 6) hG (by omega) (by omega)

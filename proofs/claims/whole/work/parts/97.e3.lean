set_option maxRecDepth 100000 in
theorem y_th_demandWhat {V : x_E} (hV : y_V V) : nx_Th V "DarkSitting" cX10_demandWhat 9 y_NSE y_nms := by
  refine ⟨"there is no such what", 324, 326, 328, V.2.2.2.2.1 5, 13, prog_34_method_4_code, ⟨by decide +kernel, by decide +kernel, by decide +kernel, by decide +kernel⟩, by decide +kernel, by decide +kernel, (x_gin (List.mem_append_right _ (tb_4 _ (List.mem_of_getElem? (i := 128) rfl))) rfl), (x_gin (List.mem_append_right _ (tb_1 _ (List.mem_of_getElem? (i := 27) rfl))) rfl), fun U H hI => (hV.2 U H hI).2.1 5 _ rfl, fun U H A hI hts w hw => ?_, by decide +kernel, fun U H hI => (hV.2 U H hI).2.2.2.2.2.2.2.1, dX10_demandWhat_9, dX10_demandWhat_12, dX10_demandWhat_13, dX10_demandWhat_16, dX10_demandWhat_19⟩
  have hat : ∀ w ∈ nx_at "DarkSitting" 328 y_NSE 13 prog_34_method_4_code y_nms, w ∈ gT ∨ w ∈ y_nw := by decide +kernel
  rcases hat w hw with h | h
  · exact hts w h
  · exact va_Nw.use (y_nw_on w h) ((hV.2 U H hI).2.2.2.2.2.2.1 w h)
theorem k_demandWhat {V : x_E} (hV : y_V V) {n : Nat} {L : List Nat} {D : y_D} {r k : Int32} : x_Cx V yX10_demandWhat cX10_demandWhat 2 none 6 1 6 (fun a0 S0 => a0 = [.int r, .int k] ∧ S0 = y_mk n L D) (fun _ _ r9 S' => r9 = none ∧ (0 ≤ r ∧ r ≤ k) ∧ S' = y_mk n L D) (fun _ _ E9 S' => E9 = y_NSE ∧ ¬ (0 ≤ r ∧ r ≤ k) ∧ ∃ n2, n ≤ n2 ∧ S' = y_mk n2 L D) := by
  refine nx_cx (by decide) hV.1 (fun a0 S0 h => by rw [h.1]; exact Nat.le_of_ble_eq_true rfl) (fun a0 S0 h E EX hX hT9 => ?_)
  obtain ⟨rfl, rfl⟩ := h
  have hE := hX.x
  change E 0 0 0 [(0, .int r), (1, .int k)] [] (y_mk n L D)
  refine r_iload_n hE dX10_demandWhat_0 rfl ?_
  refine r_if_lt (tgt := 9) hE dX10_demandWhat_1 (by decide) (fun c1 => ?_) (fun c1 => ?_)
  · exact hT9 _ _ _ _ _ _ _ (y_th_demandWhat hV) (by decide) (fun k9 hk9 => ⟨rfl, by grind, k9, hk9, rfl⟩) (by decide) (by decide)
  · refine r_iload_n hE dX10_demandWhat_4 rfl ?_
    refine r_iload_n hE dX10_demandWhat_5 rfl ?_
    refine r_icmp_le (tgt := 20) hE dX10_demandWhat_6 (by decide) (fun c6 => ?_) (fun c6 => ?_)
    · refine r_return hE dX10_demandWhat_20 rfl (Nat.zero_le _) (Nat.zero_le _) ?_
      exact ⟨rfl, by grind, rfl⟩
    · exact hT9 _ _ _ _ _ _ _ (y_th_demandWhat hV) (by decide) (fun k9 hk9 => ⟨rfl, by grind, k9, hk9, rfl⟩) (by decide) (by decide)
section R97
variable {V : x_E} {own nm : String} {cc : ByteArray} {nL d MC MS pc ce sl : Nat} {ret : Option FieldType} {hh : List (Nat × Nat × Nat × Nat)} {Q : Option Value → x_S → Prop} {QX : String → x_S → Prop} {E : x_P} {EX : x_PX} {ls : List (Nat × Value)} {st st0 : List Value} {n i : Nat} {L : List Nat} {D : y_D}
theorem t_demandWhat (hX : x_XX V own cc nL ret d MC MS nm hh Q QX E EX) (hV : y_V V) {r k : Int32} (a : List Value) (hd : decode cc pc = .ok (.invokestatic i, 3)) (hl : Cond.methodLink own i yX10_demandWhat ∈ gT) (ha : a = [.int r, .int k]) (hdd : 7 ≤ d) (hcap : ce + 1 ≤ MC ∧ sl + 6 ≤ MS) (hW : (st.map fun v => v.category).sum ≤ 8) (kk : (0 ≤ r ∧ r ≤ k) → E (ce + 1) (sl + 6) (pc + 3) ls st (y_mk n L D)) (kx : ¬ (0 ≤ r ∧ r ≤ k) → ∀ n2, n ≤ n2 → EX (ce + 1) (sl + 6) pc ls st (y_mk n2 L D) y_NSE) : E ce sl pc ls (a.reverse ++ st) (y_mk n L D) := by
  subst ha
  exact r_invsX hX [.int r, .int k] (k_demandWhat hV) s_yX10_demandWhat hl hd rfl hdd hcap hW ⟨rfl, rfl⟩ (fun r S2 h => by obtain ⟨rfl, hp, rfl⟩ := h; exact kk hp) (fun E9 S2 h => by obtain ⟨rfl, hp, n2, hn2, rfl⟩ := h; exact kx hp n2 hn2)
end R97

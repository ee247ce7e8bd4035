/-- 1 or 0 -/
def y_b (p : Prop) [Decidable p] : Int32 := if p then 1 else 0
theorem y_b_t {p : Prop} [Decidable p] (h : p) : y_b p = 1 := if_pos h
theorem y_b_f {p : Prop} [Decidable p] (h : ¬ p) : y_b p = 0 := if_neg h
theorem y_nb (p : Prop) [Decidable p] : narrow .boolean (.int (y_b p)) = .int (y_b p) := by
  unfold y_b; split <;> rfl
theorem y_nb2 (p : Prop) [Decidable p] : vp_nar .boolean (y_b p) = y_b p := by
  unfold y_b; split <;> rfl
section R14
variable {V : x_E} {own nm : String} {cc : ByteArray} {nL d MC MS pc ce sl : Nat} {ret : Option FieldType} {Q : Option Value → x_S → Prop} {E : x_P} {ls : List (Nat × Value)} {st : List Value} {S : x_S}
theorem r_ifb_eq (hE : x_X V own cc nL ret d MC MS nm Q E) {p : Prop} [Decidable p] {off : Int} {tgt : Nat} (hd : decode cc pc = .ok (.ifCond .eq off, 3)) (ht : (pc : Int) + off = (tgt : Int)) (kt : ¬ p → E ce sl tgt ls st S) (kf : p → E ce sl (pc + 3) ls st S) : E ce sl pc ls (.int (y_b p) :: st) S := by
  by_cases hp : p
  · refine r_if_eq hE hd ht (fun h => ?_) (fun _ => kf hp)
    rw [y_b_t hp] at h
    exact absurd h (by decide)
  · refine r_if_eq hE hd ht (fun _ => kt hp) (fun h => ?_)
    rw [y_b_f hp] at h
    exact absurd rfl h
theorem r_ifb_ne (hE : x_X V own cc nL ret d MC MS nm Q E) {p : Prop} [Decidable p] {off : Int} {tgt : Nat} (hd : decode cc pc = .ok (.ifCond .ne off, 3)) (ht : (pc : Int) + off = (tgt : Int)) (kt : p → E ce sl tgt ls st S) (kf : ¬ p → E ce sl (pc + 3) ls st S) : E ce sl pc ls (.int (y_b p) :: st) S := by
  by_cases hp : p
  · refine r_if_ne hE hd ht (fun _ => kt hp) (fun h => ?_)
    rw [y_b_t hp] at h
    exact absurd h (by decide)
  · refine r_if_ne hE hd ht (fun h => ?_) (fun _ => kf hp)
    rw [y_b_f hp] at h
    exact absurd rfl h
end R14
abbrev y_ok (L : List Nat) : Prop := ∀ h, 64 ≤ h ∧ h < 191 → h ∈ L
section R14N
variable {V : x_E} {own nm : String} {cc : ByteArray} {nL d MC MS pc ce sl : Nat} {ret : Option FieldType} {Q : Option Value → x_S → Prop} {E : x_P} {ls : List (Nat × Value)} {st : List Value} {S : x_S} {n : Nat} {L : List Nat} {D : y_D}
theorem r_iaddN (hE : x_X V own cc nL ret d MC MS nm Q E) {a b : Nat} (hd : decode cc pc = .ok (.iadd, 1)) (kk : E ce sl (pc + 1) ls (.int (nI (a + b)) :: st) S) : E ce sl pc ls (.int (nI b) :: .int (nI a) :: st) S := r_iadd hE hd (by rw [nI_add]; exact kk)
theorem r_imulN (hE : x_X V own cc nL ret d MC MS nm Q E) {a b : Nat} (hd : decode cc pc = .ok (.imul, 1)) (kk : E ce sl (pc + 1) ls (.int (nI (a * b)) :: st) S) : E ce sl pc ls (.int (nI b) :: .int (nI a) :: st) S := r_imul hE hd (by rw [pk_mul]; exact kk)
theorem r_isubN (hE : x_X V own cc nL ret d MC MS nm Q E) {a b : Nat} (hd : decode cc pc = .ok (.isub, 1)) (h : b ≤ a) (kk : E ce sl (pc + 1) ls (.int (nI (a - b)) :: st) S) : E ce sl pc ls (.int (nI b) :: .int (nI a) :: st) S := r_isub hE hd (by rw [pk_sub h]; exact kk)
theorem r_idivN (hE : x_X V own cc nL ret d MC MS nm Q E) {a b : Nat} (hd : decode cc pc = .ok (.idiv, 1)) (ha : a < 2 ^ 31) (h0 : 0 < b) (hb : b < 2 ^ 31) (kk : E ce sl (pc + 1) ls (.int (nI (a / b)) :: st) S) : E ce sl pc ls (.int (nI b) :: .int (nI a) :: st) S := r_idiv hE hd (nI_ne0 h0 hb) (by rw [pk_div ha h0 hb]; exact kk)
theorem r_iremN (hE : x_X V own cc nL ret d MC MS nm Q E) {a b : Nat} (hd : decode cc pc = .ok (.irem, 1)) (ha : a < 2 ^ 31) (h0 : 0 < b) (hb : b < 2 ^ 31) (kk : E ce sl (pc + 1) ls (.int (nI (a % b)) :: st) S) : E ce sl pc ls (.int (nI b) :: .int (nI a) :: st) S := r_irem hE hd (nI_ne0 h0 hb) (by rw [pk_rem ha h0 hb]; exact kk)
theorem y_shl1 : ∀ k, k < 31 → (1 : Int32) <<< (nI k &&& 31) = nI (2 ^ k) := by decide +kernel
theorem r_shl1N (hE : x_X V own cc nL ret d MC MS nm Q E) {k : Nat} (hd : decode cc pc = .ok (.ishl, 1)) (hk : k < 31) (kk : E ce sl (pc + 1) ls (.int (nI (2 ^ k)) :: st) S) : E ce sl pc ls (.int (nI k) :: .int 1 :: st) S := r_ishl hE hd (by rw [y_shl1 k hk]; exact kk)
theorem r_iincN (hE : x_X V own cc nL ret d MC MS nm Q E) {i a b : Nat} {n2 : Int} {ls2 : List (Nat × Value)} (hd : decode cc pc = .ok (.iinc i n2, 3)) (hn2 : n2 = (b : Int)) (hl0 : x_lk ls i = some (.int (nI a))) (hi : i < nL) (hs : x_set1 ls i (.int (nI (a + b))) = ls2) (kk : E ce sl (pc + 3) ls2 st S) : E ce sl pc ls st S := r_iinc hE hd hl0 (by rw [hn2, ← nI_add]; rfl) hi hs kk
theorem r_icmp_eqN (hE : x_X V own cc nL ret d MC MS nm Q E) {a b : Nat} {off : Int} {tgt : Nat} (hd : decode cc pc = .ok (.if_icmp .eq off, 3)) (ht : (pc : Int) + off = (tgt : Int)) (ha : a < 2 ^ 31) (hb : b < 2 ^ 31) (kt : a = b → E ce sl tgt ls st S) (kf : a ≠ b → E ce sl (pc + 3) ls st S) : E ce sl pc ls (.int (nI b) :: .int (nI a) :: st) S := r_icmp_eq hE hd ht (fun h => kt ((nI_eq ha hb).mp h)) (fun h => kf (fun q => h ((nI_eq ha hb).mpr q)))
theorem r_icmp_neN (hE : x_X V own cc nL ret d MC MS nm Q E) {a b : Nat} {off : Int} {tgt : Nat} (hd : decode cc pc = .ok (.if_icmp .ne off, 3)) (ht : (pc : Int) + off = (tgt : Int)) (ha : a < 2 ^ 31) (hb : b < 2 ^ 31) (kt : a ≠ b → E ce sl tgt ls st S) (kf : a = b → E ce sl (pc + 3) ls st S) : E ce sl pc ls (.int (nI b) :: .int (nI a) :: st) S := r_icmp_ne hE hd ht (fun h => kt (fun q => h ((nI_eq ha hb).mpr q))) (fun h => kf ((nI_eq ha hb).mp h))
theorem r_icmp_ltN (hE : x_X V own cc nL ret d MC MS nm Q E) {a b : Nat} {off : Int} {tgt : Nat} (hd : decode cc pc = .ok (.if_icmp .lt off, 3)) (ht : (pc : Int) + off = (tgt : Int)) (ha : a < 2 ^ 31) (hb : b < 2 ^ 31) (kt : a < b → E ce sl tgt ls st S) (kf : b ≤ a → E ce sl (pc + 3) ls st S) : E ce sl pc ls (.int (nI b) :: .int (nI a) :: st) S := r_icmp_lt hE hd ht (fun h => kt ((nI_ltI ha hb).mp h)) (fun h => kf (Nat.le_of_not_lt (fun q => h ((nI_ltI ha hb).mpr q))))
theorem r_icmp_geN (hE : x_X V own cc nL ret d MC MS nm Q E) {a b : Nat} {off : Int} {tgt : Nat} (hd : decode cc pc = .ok (.if_icmp .ge off, 3)) (ht : (pc : Int) + off = (tgt : Int)) (ha : a < 2 ^ 31) (hb : b < 2 ^ 31) (kt : b ≤ a → E ce sl tgt ls st S) (kf : a < b → E ce sl (pc + 3) ls st S) : E ce sl pc ls (.int (nI b) :: .int (nI a) :: st) S := r_icmp_ge hE hd ht (fun h => kt ((nI_leI hb ha).mp h)) (fun h => kf (Nat.lt_of_not_le (fun q => h ((nI_leI hb ha).mpr q))))
theorem r_icmp_gtN (hE : x_X V own cc nL ret d MC MS nm Q E) {a b : Nat} {off : Int} {tgt : Nat} (hd : decode cc pc = .ok (.if_icmp .gt off, 3)) (ht : (pc : Int) + off = (tgt : Int)) (ha : a < 2 ^ 31) (hb : b < 2 ^ 31) (kt : b < a → E ce sl tgt ls st S) (kf : a ≤ b → E ce sl (pc + 3) ls st S) : E ce sl pc ls (.int (nI b) :: .int (nI a) :: st) S := r_icmp_gt hE hd ht (fun h => kt ((nI_ltI hb ha).mp h)) (fun h => kf (Nat.le_of_not_lt (fun q => h ((nI_ltI hb ha).mpr q))))
theorem r_icmp_leN (hE : x_X V own cc nL ret d MC MS nm Q E) {a b : Nat} {off : Int} {tgt : Nat} (hd : decode cc pc = .ok (.if_icmp .le off, 3)) (ht : (pc : Int) + off = (tgt : Int)) (ha : a < 2 ^ 31) (hb : b < 2 ^ 31) (kt : a ≤ b → E ce sl tgt ls st S) (kf : b < a → E ce sl (pc + 3) ls st S) : E ce sl pc ls (.int (nI b) :: .int (nI a) :: st) S := r_icmp_le hE hd ht (fun h => kt ((nI_leI ha hb).mp h)) (fun h => kf (Nat.lt_of_not_le (fun q => h ((nI_leI ha hb).mpr q))))
theorem t_ialdN (hE : x_X V own cc nL ret d MC MS nm Q E) {len h e : Nat} (hA : y_A h 0 len) (hd : decode cc pc = .ok (.iaload, 1)) (hm : h ∈ L) (hin : e < len) (hlen : len < 2 ^ 31) (kk : E ce sl (pc + 1) ls (.int ((D h).1 e) :: st) (y_mk n L D)) : E ce sl pc ls (.int (nI e) :: .ref h :: st) (y_mk n L D) := t_iald hE hA hd hm (vp_in_nI hin hlen) (by rw [nI_clamp (by omega)]; exact kk)
theorem t_iastN (hE : x_X V own cc nL ret d MC MS nm Q E) {len h e : Nat} {x : Int32} (hA : y_A h 0 len) (hd : decode cc pc = .ok (.iastore, 1)) (hm : h ∈ L) (hin : e < len) (hlen : len < 2 ^ 31) (kk : E ce sl (pc + 1) ls st (y_mk n L (y_si D h e x))) : E ce sl pc ls (.int x :: .int (nI e) :: .ref h :: st) (y_mk n L D) := t_iast hE hA hd hm (vp_in_nI hin hlen) (by rw [nI_clamp (by omega)]; exact kk)
theorem t_baldN (hE : x_X V own cc nL ret d MC MS nm Q E) {len h e : Nat} (hA : y_A h 1 len) (hd : decode cc pc = .ok (.baload, 1)) (hm : h ∈ L) (hin : e < len) (hlen : len < 2 ^ 31) (kk : E ce sl (pc + 1) ls (.int ((D h).1 e) :: st) (y_mk n L D)) : E ce sl pc ls (.int (nI e) :: .ref h :: st) (y_mk n L D) := t_bald hE hA hd hm (vp_in_nI hin hlen) (by rw [nI_clamp (by omega)]; exact kk)
theorem t_bastN (hE : x_X V own cc nL ret d MC MS nm Q E) {len h e : Nat} {x : Int32} (hA : y_A h 1 len) (hd : decode cc pc = .ok (.bastore, 1)) (hm : h ∈ L) (hin : e < len) (hlen : len < 2 ^ 31) (kk : E ce sl (pc + 1) ls st (y_mk n L (y_si D h e (vp_nar .byte x)))) : E ce sl pc ls (.int x :: .int (nI e) :: .ref h :: st) (y_mk n L D) := t_bast hE hA hd hm (vp_in_nI hin hlen) (by rw [nI_clamp (by omega)]; exact kk)
theorem t_zaldN (hE : x_X V own cc nL ret d MC MS nm Q E) {len h e : Nat} (hA : y_A h 2 len) (hd : decode cc pc = .ok (.baload, 1)) (hm : h ∈ L) (hin : e < len) (hlen : len < 2 ^ 31) (kk : E ce sl (pc + 1) ls (.int ((D h).1 e) :: st) (y_mk n L D)) : E ce sl pc ls (.int (nI e) :: .ref h :: st) (y_mk n L D) := t_zald hE hA hd hm (vp_in_nI hin hlen) (by rw [nI_clamp (by omega)]; exact kk)
theorem t_zastN (hE : x_X V own cc nL ret d MC MS nm Q E) {len h e : Nat} {x : Int32} (hA : y_A h 2 len) (hd : decode cc pc = .ok (.bastore, 1)) (hm : h ∈ L) (hin : e < len) (hlen : len < 2 ^ 31) (kk : E ce sl (pc + 1) ls st (y_mk n L (y_si D h e (vp_nar .boolean x)))) : E ce sl pc ls (.int x :: .int (nI e) :: .ref h :: st) (y_mk n L D) := t_zast hE hA hd hm (vp_in_nI hin hlen) (by rw [nI_clamp (by omega)]; exact kk)
theorem t_laldN (hE : x_X V own cc nL ret d MC MS nm Q E) {len h e : Nat} (hA : y_J h len) (hd : decode cc pc = .ok (.laload, 1)) (hm : h ∈ L) (hin : e < len) (hlen : len < 2 ^ 31) (kk : E ce sl (pc + 1) ls (.long ((D h).2.1 e) :: st) (y_mk n L D)) : E ce sl pc ls (.int (nI e) :: .ref h :: st) (y_mk n L D) := t_lald hE hA hd hm (vp_in_nI hin hlen) (by rw [nI_clamp (by omega)]; exact kk)
theorem t_lastN (hE : x_X V own cc nL ret d MC MS nm Q E) {len h e : Nat} {x : Int64} (hA : y_J h len) (hd : decode cc pc = .ok (.lastore, 1)) (hm : h ∈ L) (hin : e < len) (hlen : len < 2 ^ 31) (kk : E ce sl (pc + 1) ls st (y_mk n L (y_sl D h e x))) : E ce sl pc ls (.long x :: .int (nI e) :: .ref h :: st) (y_mk n L D) := t_last hE hA hd hm (vp_in_nI hin hlen) (by rw [nI_clamp (by omega)]; exact kk)
theorem t_aaldN (hE : x_X V own cc nL ret d MC MS nm Q E) {t len h e h2 : Nat} (hA : y_Q h t len) (ht : t = 4 ∨ t = 5) (hd : decode cc pc = .ok (.aaload, 1)) (hm : h ∈ L) (hin : e < len) (hlen : len < 2 ^ 31) (hv : (D h).2.2.1 e = some h2) (kk : E ce sl (pc + 1) ls (.ref h2 :: st) (y_mk n L D)) : E ce sl pc ls (.int (nI e) :: .ref h :: st) (y_mk n L D) := t_aald hE hA ht hd hm (vp_in_nI hin hlen) (by rw [nI_clamp (by omega), hv]; exact kk)
theorem t_aastN (hE : x_X V own cc nL ret d MC MS nm Q E) {t len h v ci e : Nat} {vs : List Value} (hA : y_Q h t len) (ht : (t = 4 ∧ ci = 4) ∨ (t = 5 ∧ ci = 8)) (hd : decode cc pc = .ok (.aastore, 1)) (hm : h ∈ L) (hm2 : v ∈ L) (hc2 : y_lay v (D v) = .inr (ci, vs)) (hin : e < len) (hlen : len < 2 ^ 31) (kk : E ce sl (pc + 1) ls st (y_mk n L (y_sq D h e v))) : E ce sl pc ls (.ref v :: .int (nI e) :: .ref h :: st) (y_mk n L D) := t_aast hE hA ht hd hm hm2 hc2 (vp_in_nI hin hlen) (by rw [nI_clamp (by omega)]; exact kk)
/-- another name for the number on top -/
theorem r_top {x y : Int32} (h : x = y) (kk : E ce sl pc ls (.int y :: st) S) : E ce sl pc ls (.int x :: st) S := by rw [h]; exact kk
end R14N
theorem n_lit (k : Nat) : (OfNat.ofNat k : Int32) = nI k := rfl

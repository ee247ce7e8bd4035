/-! the heap as the proofs see it: cells by number; what stands below 64 is fixed (texts, static rows, the script), the own cells are 64 and on -/
def gB (w : Cond) : Bool := (w.onTables && w.keeps) || (match w with | .arrayClass _ => true | _ => false)
def gT : List Cond := lw_tbl.filter gB
abbrev x_C : Type := (Nat × vp_A) ⊕ (Nat × List Value)
/-- how many numbers are given, which are known, what they hold -/
abbrev x_S : Type := Nat × List Nat × (Nat → x_C)
/-- launch, classes, slots, array classes, where the fixed cells lie, where the own ones begin, what never changes -/
abbrev x_E : Type := Launch × (Nat → ClassId) × (Nat → Nat → Nat) × (Nat → ClassId) × (Nat → Nat) × Nat × (State → Heap → Prop)
/-- the own cell h is the x_pm h-th that is made; x_pi: which one that is (one row of the class has the number 190, behind all others) -/
def x_pm (h : Nat) : Nat := if h = 190 then 160 else if 160 ≤ h ∧ h < 190 then h + 1 else h
def x_pi (n : Nat) : Nat := if n = 160 then 190 else if n ≤ 160 then n else if n ≤ 190 then n - 1 else n
theorem x_pm_ge {h : Nat} (hh : 64 ≤ h) : 64 ≤ x_pm h := by unfold x_pm; split <;> (try split) <;> omega
theorem x_pi_ge {n : Nat} (hh : 64 ≤ n) : 64 ≤ x_pi n := by unfold x_pi; split <;> (try split) <;> (try split) <;> omega
theorem x_pm_inj {a b : Nat} (h : x_pm a = x_pm b) : a = b := by unfold x_pm at h; split at h <;> (try split at h) <;> (try split at h) <;> (try split at h) <;> omega
theorem x_pm_pi (n : Nat) : x_pm (x_pi n) = n := by unfold x_pm x_pi; grind
theorem x_pi_pm (h : Nat) : x_pi (x_pm h) = h := by unfold x_pm x_pi; grind
theorem x_pi_hi {n : Nat} (h : 191 ≤ n) : x_pi n = n := by unfold x_pi; grind
theorem x_pm_hi {n : Nat} (h : 191 ≤ n) : x_pm n = n := by unfold x_pm; grind
theorem x_pm_lt {n h : Nat} (h1 : 191 ≤ n) : x_pm h < n ↔ h < n := by unfold x_pm; grind
def x_sg (V : x_E) (h : Nat) : Nat := if h < 64 then V.2.2.2.2.1 h else V.2.2.2.2.2.1 + (x_pm h - 64)
def x_tv (V : x_E) (v : Value) : Value := match v with
  | .ref h => .ref (x_sg V h)
  | .int a => .int a
  | .long a => .long a
  | .null => .null
  | z => z
def x_ta (V : x_E) (a : vp_A) : vp_A := match a with
  | (n, .inl f) => (n, .inl f)
  | (n, .inr (.inl f)) => (n, .inr (.inl f))
  | (n, .inr (.inr (.inr (.inr f)))) => (n, .inr (.inr (.inr (.inr (fun j => (f j).map (x_sg V))))))
  | z => z
def x_tc (V : x_E) (x : x_C) : va_E := match x with
  | .inl a => .inl (V.2.2.2.1 a.1, x_ta V a.2)
  | .inr o => .inr (o.1, o.2.map (x_tv V))
def x_ws (V : x_E) (S : x_S) : va_W := S.2.1.map (fun h => (x_sg V h, x_tc V (S.2.2 h)))
def x_tys : List FieldType := [.int, .byte, .boolean, .long, .object "DarkSitting$Rule", .object "DarkSitting$Way"]
def x_ty (V : x_E) : List (ClassId × FieldType) := [(V.2.2.2.1 0, .int), (V.2.2.2.1 1, .byte), (V.2.2.2.1 2, .boolean), (V.2.2.2.1 3, .long), (V.2.2.2.1 4, .object "DarkSitting$Rule"), (V.2.2.2.1 5, .object "DarkSitting$Way")]
def x_A (V : x_E) : Nat → Prop := fun q => V.2.2.2.2.2.1 ≤ q
abbrev x_D (V : x_E) : va_G := (V.2.1, V.2.2.1)
/-- the heap H holds S -/
def x_H (V : x_E) (S : x_S) (H : Heap) : Prop := H.size = V.2.2.2.2.2.1 + (S.1 - 64) ∧ 64 ≤ S.1 ∧ va_P (x_D V) vwCl (x_ws V S) H ∧ S.2.1.Nodup ∧ ∀ h ∈ S.2.1, 64 ≤ h ∧ x_pm h < S.1
def x_ok (V : x_E) : Prop := (∀ (u U : State) (H : Heap), u.WarmedH U.vm → V.2.2.2.2.2.2 u H → V.2.2.2.2.2.2 U H) ∧ ∀ (U : State) (H H1 : Heap), V.2.2.2.2.2.1 ≤ H.size → (∀ a : Nat, a < H.size → ¬ x_A V a → H1[a]? = H[a]?) → V.2.2.2.2.2.2 U H → V.2.2.2.2.2.2 U H1
def x_G (V : x_E) (s : State) (H : Heap) : Prop := x_ok V ∧ va_K (x_D V) vwCl (x_ty V) s ∧ V.2.2.2.2.2.2 s H
def x_R (V : x_E) (S : x_S) (U : State) : Prop := x_H V S U.heap ∧ x_G V U U.heap
theorem x_G.moved {V : x_E} {u U : State} {H : Heap} (hvm : u.WarmedH U.vm) (h : x_G V u H) : x_G V U H := ⟨h.1, h.2.1.moved hvm.alike, h.1.1 u U H hvm h.2.2⟩
theorem x_G.kept {V : x_E} {u : State} {H H1 : Heap} (hz : V.2.2.2.2.2.1 ≤ H.size) (hq : ∀ a : Nat, a < H.size → ¬ x_A V a → H1[a]? = H[a]?) (h : x_G V u H) : x_G V u H1 := ⟨h.1, h.2.1, h.1.2 u H H1 hz hq h.2.2⟩
theorem x_sg_own {V : x_E} {h : Nat} (hh : 64 ≤ h) : x_sg V h = V.2.2.2.2.2.1 + (x_pm h - 64) := by unfold x_sg; rw [if_neg (by omega)]
theorem x_sg_inj {V : x_E} {a b : Nat} (ha : 64 ≤ a) (hb : 64 ≤ b) (h : x_sg V a = x_sg V b) : a = b := by
  rw [x_sg_own ha, x_sg_own hb] at h
  have h1 := x_pm_ge ha
  have h2 := x_pm_ge hb
  exact x_pm_inj (by omega)
theorem x_sg_A {V : x_E} {h : Nat} (hh : 64 ≤ h) : x_A V (x_sg V h) := by unfold x_A; rw [x_sg_own hh]; omega
theorem x_in {V : x_E} {S : x_S} {h : Nat} (hh : h ∈ S.2.1) : ∃ k : Nat, S.2.1[k]? = some h ∧ (x_ws V S)[k]? = some (x_sg V h, x_tc V (S.2.2 h)) := by
  obtain ⟨k, hk⟩ := List.getElem?_of_mem hh
  exact ⟨k, hk, by unfold x_ws; rw [List.getElem?_map, hk]; rfl⟩
theorem x_DD {V : x_E} {S : x_S} {H : Heap} (hH : x_H V S H) : va_D (x_A V) (x_ws V S) := by
  obtain ⟨-, -, -, hn, hl⟩ := hH
  have at' : ∀ (i : Nat) (p : Nat × va_E), (x_ws V S)[i]? = some p → ∃ h, S.2.1[i]? = some h ∧ p.1 = x_sg V h := by
    intro i p hp
    unfold x_ws at hp
    rw [List.getElem?_map] at hp
    cases hi : S.2.1[i]? with
    | none => rw [hi] at hp; cases hp
    | some h => rw [hi] at hp; cases hp; exact ⟨h, rfl, rfl⟩
  refine ⟨fun i j p q hp hq e => ?_, fun k q hq => ?_⟩
  · obtain ⟨a, ha, ea⟩ := at' i p hp
    obtain ⟨b, hb, eb⟩ := at' j q hq
    have hab := x_sg_inj (hl a (List.mem_of_getElem? ha)).1 (hl b (List.mem_of_getElem? hb)).1 (by rw [← ea, ← eb]; exact e)
    subst hab
    have hi := (List.getElem?_eq_some_iff.mp ha).1
    exact (List.getElem?_inj hi hn).mp (ha.trans hb.symm)
  · obtain ⟨a, ha, ea⟩ := at' k q hq
    rw [ea]
    exact x_sg_A (hl a (List.mem_of_getElem? ha)).1
/-- a cell of S changed -/
def x_put (S : x_S) (h : Nat) (e : x_C) : x_S := (S.1, S.2.1, fun j => if j = h then e else S.2.2 j)
theorem x_ws_put {V : x_E} {S : x_S} {h k : Nat} {e : x_C} (hn : S.2.1.Nodup) (hk : S.2.1[k]? = some h) : (x_ws V S).set k (x_sg V h, x_tc V e) = x_ws V (x_put S h e) := by
  apply List.ext_getElem?
  intro i
  unfold x_ws x_put
  dsimp only
  rw [List.getElem?_set, List.getElem?_map, List.length_map]
  have hlt := (List.getElem?_eq_some_iff.mp hk).1
  by_cases hi : k = i
  · subst hi
    rw [if_pos rfl, if_pos hlt, List.getElem?_map, hk]
    simp
  · rw [if_neg hi, List.getElem?_map]
    cases hj : S.2.1[i]? with
    | none => rfl
    | some j =>
      have hne : j ≠ h := fun q => hi ((List.getElem?_inj hlt hn).mp (by rw [hk, hj, q]))
      simp [hne]
theorem x_H_put {V : x_E} {S : x_S} {h k : Nat} {e : x_C} {H H1 : Heap} (hH : x_H V S H) (hk : S.2.1[k]? = some h) (hP : va_P (x_D V) vwCl ((x_ws V S).set k (x_sg V h, x_tc V e)) H1) (hz : H1.size = H.size) : x_H V (x_put S h e) H1 := by
  obtain ⟨h1, h2, -, h4, h5⟩ := hH
  rw [x_ws_put h4 hk] at hP
  exact ⟨by rw [hz]; exact h1, h2, hP, h4, h5⟩
/-- locals by their numbers -/
def x_tl (V : x_E) (ls : List (Nat × Value)) : List (Nat × Value) := ls.map (fun q => (q.1, x_tv V q.2))
def x_lk : List (Nat × Value) → Nat → Option Value
  | [], _ => none
  | q :: r, i => if q.1 = i then some q.2 else x_lk r i
def x_ins : List (Nat × Value) → Nat → Value → List (Nat × Value)
  | [], i, v => [(i, v)]
  | q :: r, i, v => if q.1 < i then q :: x_ins r i v else if q.1 = i then (i, v) :: r else (i, v) :: q :: r
def x_dr : List (Nat × Value) → Nat → List (Nat × Value)
  | [], _ => []
  | q :: r, i => if q.1 = i then x_dr r i else q :: x_dr r i
def x_d2 : List (Nat × Value) → Nat → List (Nat × Value)
  | [], _ => []
  | q :: r, i => if q.1 + 1 = i ∧ q.2.category = 2 then x_d2 r i else q :: x_d2 r i
def x_set1 (ls : List (Nat × Value)) (i : Nat) (v : Value) : List (Nat × Value) := x_ins (x_dr (x_d2 ls i) i) i v
def x_set2 (ls : List (Nat × Value)) (i : Nat) (v : Value) : List (Nat × Value) := x_ins (x_dr (x_dr (x_d2 ls i) i) (i + 1)) i v
theorem x_cat (V : x_E) (v : Value) : (x_tv V v).category = v.category := by cases v <;> rfl
theorem x_lk_mem {V : x_E} : ∀ {ls : List (Nat × Value)} {i : Nat} {v : Value}, x_lk ls i = some v → (i, x_tv V v) ∈ x_tl V ls
  | [], _, _, h => by cases h
  | q :: r, i, v, h => by
    unfold x_lk at h
    by_cases hq : q.1 = i
    · rw [if_pos hq] at h
      cases h
      subst hq
      exact List.mem_cons_self
    · rw [if_neg hq] at h
      exact List.mem_cons_of_mem _ (x_lk_mem h)
theorem x_at {V : x_E} {ls : List (Nat × Value)} {arr : Array Slot} {nL i : Nat} {v : Value} (hl : lv_has arr nL (x_tl V ls)) (h : x_lk ls i = some v) : arr[i]? = some (.val (x_tv V v)) := hl.2.2 _ (x_lk_mem h)
theorem x_ins_mem : ∀ {ls : List (Nat × Value)} {i : Nat} {v : Value} {q : Nat × Value}, q ∈ x_ins ls i v → q = (i, v) ∨ q ∈ ls
  | [], _, _, _, h => by unfold x_ins at h; exact Or.inl (List.mem_singleton.mp h)
  | p :: r, i, v, q, h => by
    unfold x_ins at h
    by_cases h1 : p.1 < i
    · rw [if_pos h1] at h
      rcases List.mem_cons.mp h with e | e
      · exact Or.inr (by rw [e]; exact List.mem_cons_self)
      · rcases x_ins_mem e with e | e
        · exact Or.inl e
        · exact Or.inr (List.mem_cons_of_mem _ e)
    · rw [if_neg h1] at h
      by_cases h2 : p.1 = i
      · rw [if_pos h2] at h
        rcases List.mem_cons.mp h with e | e
        · exact Or.inl e
        · exact Or.inr (List.mem_cons_of_mem _ e)
      · rw [if_neg h2] at h
        rcases List.mem_cons.mp h with e | e
        · exact Or.inl e
        · exact Or.inr e
theorem x_dr_mem : ∀ {ls : List (Nat × Value)} {i : Nat} {q : Nat × Value}, q ∈ x_dr ls i → q ∈ ls ∧ q.1 ≠ i
  | [], _, _, h => by cases h
  | p :: r, i, q, h => by
    unfold x_dr at h
    by_cases h1 : p.1 = i
    · rw [if_pos h1] at h
      exact ⟨List.mem_cons_of_mem _ (x_dr_mem h).1, (x_dr_mem h).2⟩
    · rw [if_neg h1] at h
      rcases List.mem_cons.mp h with e | e
      · exact ⟨by rw [e]; exact List.mem_cons_self, by rw [e]; exact h1⟩
      · exact ⟨List.mem_cons_of_mem _ (x_dr_mem e).1, (x_dr_mem e).2⟩
theorem x_d2_mem : ∀ {ls : List (Nat × Value)} {i : Nat} {q : Nat × Value}, q ∈ x_d2 ls i → q ∈ ls ∧ ¬ (q.1 + 1 = i ∧ q.2.category = 2)
  | [], _, _, h => by cases h
  | p :: r, i, q, h => by
    unfold x_d2 at h
    by_cases h1 : p.1 + 1 = i ∧ p.2.category = 2
    · rw [if_pos h1] at h
      exact ⟨List.mem_cons_of_mem _ (x_d2_mem h).1, (x_d2_mem h).2⟩
    · rw [if_neg h1] at h
      rcases List.mem_cons.mp h with e | e
      · exact ⟨by rw [e]; exact List.mem_cons_self, by rw [e]; exact h1⟩
      · exact ⟨List.mem_cons_of_mem _ (x_d2_mem e).1, (x_d2_mem e).2⟩
theorem x_set1_has {V : x_E} {ls : List (Nat × Value)} {arr : Array Slot} {nL i : Nat} {v : Value} (h : lv_has arr nL ((i, x_tv V v) :: (x_tl V ls).filter (fun q => !(q.1 == i) && !(q.1 + 1 == i && q.2.category == 2)))) : lv_has arr nL (x_tl V (x_set1 ls i v)) := by
  refine ⟨h.1, h.2.1, fun q hq => h.2.2 q ?_⟩
  unfold x_tl at hq
  obtain ⟨q', h1, rfl⟩ := List.mem_map.mp hq
  rcases x_ins_mem h1 with e | e
  · rw [e]; exact List.mem_cons_self
  · obtain ⟨h2, h3⟩ := x_dr_mem e
    obtain ⟨h4, h5⟩ := x_d2_mem h2
    refine List.mem_cons_of_mem _ (List.mem_filter.mpr ⟨List.mem_map.mpr ⟨q', h4, rfl⟩, ?_⟩)
    have h5' : ¬ (q'.1 + 1 = i ∧ (x_tv V q'.2).category = 2) := by rw [x_cat]; exact h5
    simp only [Bool.and_eq_true, Bool.not_eq_true', beq_eq_false_iff_ne, ne_eq, Bool.and_eq_false_iff]
    exact ⟨h3, by by_cases z : q'.1 + 1 = i
                  · exact Or.inr (fun y => h5' ⟨z, y⟩)
                  · exact Or.inl z⟩
theorem x_set2_has {V : x_E} {ls : List (Nat × Value)} {arr : Array Slot} {nL i : Nat} {v : Value} (h : lv_has arr nL ((i, x_tv V v) :: (x_tl V ls).filter (fun q => !(q.1 == i) && (!(q.1 == i + 1) && !(q.1 + 1 == i && q.2.category == 2))))) : lv_has arr nL (x_tl V (x_set2 ls i v)) := by
  refine ⟨h.1, h.2.1, fun q hq => h.2.2 q ?_⟩
  unfold x_tl at hq
  obtain ⟨q', h1, rfl⟩ := List.mem_map.mp hq
  rcases x_ins_mem h1 with e | e
  · rw [e]; exact List.mem_cons_self
  · obtain ⟨h2', h3'⟩ := x_dr_mem e
    obtain ⟨h2, h3⟩ := x_dr_mem h2'
    obtain ⟨h4, h5⟩ := x_d2_mem h2
    refine List.mem_cons_of_mem _ (List.mem_filter.mpr ⟨List.mem_map.mpr ⟨q', h4, rfl⟩, ?_⟩)
    have h5' : ¬ (q'.1 + 1 = i ∧ (x_tv V q'.2).category = 2) := by rw [x_cat]; exact h5
    simp only [Bool.and_eq_true, Bool.not_eq_true', beq_eq_false_iff_ne, ne_eq, Bool.and_eq_false_iff]
    exact ⟨h3, h3', by by_cases z : q'.1 + 1 = i
                       · exact Or.inr (fun y => h5' ⟨z, y⟩)
                       · exact Or.inl z⟩

/-! THE MACHINE OVER A SMALL MEMORY: cells with numbers of their own; a method's walk as a judgement 'zk_Go' in continuation style. -/
/-- a method: its name, its code, its locals, its type -/
abbrev zk_MI : Type := MethodName × ByteArray × Nat × Option FieldType
/-- a memory: for each cell its kind (below 100: an object of that class; from 100 on: an array; from 1000 on: none) and its length; how many cells; what they hold -/
abbrev zk_M : Type := (Nat → Nat × Nat) × Nat × (Nat → Nat → Value)
def zk_tg : List Cond := lw_tbl.filter goodWord
def zk_ws (I : zk_MI) : List Cond := .code I.1 I.2.1 I.2.2.1 I.2.2.2 :: zk_tg
theorem zk_tg_good {w : Cond} (h : w ∈ zk_tg) : (w.onTables && w.keeps) = true ∨ ∃ ty, w = .arrayClass ty := good_of_word (List.mem_filter.mp h).2
theorem zk_in {w : Cond} (k : Nat) (h : tables_1[k]? = some w) (hg : goodWord w = true) : w ∈ zk_tg := List.mem_filter.mpr ⟨List.mem_append_right _ (List.mem_of_getElem? h), hg⟩
theorem zk_sel {y : MethodName} (k : Nat) {n : Nat} (h : lw_privs[k]? = some (y, n)) : Cond.selects y.cls y y ∈ zk_tg := by
  exact List.mem_filter.mpr ⟨List.mem_append_left _ (List.mem_map.mpr ⟨(y, n), List.mem_of_getElem? h, rfl⟩), rfl⟩
/-- the arrays' kinds -/
def zk_ty : Nat → FieldType := fun k => match k with
  | 0 => .int
  | 1 => .long
  | 2 => .boolean
  | 3 => .byte
  | 4 => .object "Heliographs$Kind"
  | 5 => .array .int
  | _ => .char
/-- a value of the small memory in the machine -/
def zk_v (ρ : Nat → Nat) (v : Value) : Value := match v with
  | .ref a => .ref (ρ a)
  | w => w
/-- a value names cells that there are -/
def zk_in_n (n : Nat) (v : Value) : Prop := match v with
  | .ref a => a < n
  | _ => True
def zk_wf (n : Nat) : List Value → Prop
  | [] => True
  | v :: st => zk_in_n n v ∧ zk_wf n st
/-- two slots wide -/
def zk_c2 (v : Value) : Bool := match v with
  | .long _ => true
  | .double _ => true
  | _ => false
/-- a store into the locals: what stands in the way of it goes -/
def zk_cl (L : List (Option Value)) (i : Nat) : List (Option Value) := match i with
  | 0 => L
  | j + 1 => match L[j]? with
    | some (some w) => if zk_c2 w = true then L.set j none else L
    | _ => L
def zk_put (L : List (Option Value)) (i : Nat) (v : Value) : List (Option Value) := if zk_c2 v = true then ((zk_cl L i).set i (some v)).set (i + 1) none else (zk_cl L i).set i (some v)
def zk_Lr (ρ : Nat → Nat) (n nL : Nat) (L : List (Option Value)) (ls : Array Slot) : Prop :=
  ls.size = nL ∧ L.length = nL ∧ lv_wf ls ∧ ∀ (i : Nat) (v : Value), L[i]? = some (some v) → ls[i]? = some (.val (zk_v ρ v)) ∧ zk_in_n n v
theorem zk_v_cat (ρ : Nat → Nat) (v : Value) : (zk_v ρ v).category = v.category := by cases v <;> rfl
theorem zk_c2_iff (v : Value) : zk_c2 v = true ↔ v.category = 2 := by cases v <;> simp [zk_c2, Value.category]
theorem zk_Lr_has {ρ : Nat → Nat} {n nL : Nat} {L : List (Option Value)} {ls : Array Slot} (h : zk_Lr ρ n nL L ls) : ∃ l : List (Nat × Value), lv_has ls nL l ∧ ∀ i v, L[i]? = some (some v) → (i, zk_v ρ v) ∈ l := by
  refine ⟨(List.range nL).filterMap (fun i => (L[i]?.join).map (fun v => (i, zk_v ρ v))), ⟨h.1, h.2.2.1, fun q hq => ?_⟩, fun i v hi => ?_⟩
  · obtain ⟨i, -, hi⟩ := List.mem_filterMap.mp hq
    cases hL : L[i]? with
    | none => simp [hL] at hi
    | some x =>
      cases x with
      | none => simp [hL] at hi
      | some v =>
        simp [hL] at hi
        subst hi
        exact (h.2.2.2 i v hL).1
  · refine List.mem_filterMap.mpr ⟨i, List.mem_range.mpr ?_, ?_⟩
    · have := (List.getElem?_eq_some_iff.mp hi).1
      rw [h.2.1] at this
      exact this
    · simp [hi]
theorem zk_cl_get {L : List (Option Value)} {i j : Nat} {w : Value} (h : (zk_cl L i)[j]? = some (some w)) : L[j]? = some (some w) ∧ ¬ (j + 1 = i ∧ zk_c2 w = true) := by
  unfold zk_cl at h
  cases i with
  | zero => exact ⟨h, fun q => by omega⟩
  | succ k =>
    dsimp only at h
    cases hk : L[k]? with
    | none =>
      rw [hk] at h
      refine ⟨h, fun q => ?_⟩
      have e : j = k := by omega
      subst e
      rw [hk] at h
      cases h
    | some x =>
      rw [hk] at h
      cases x with
      | none =>
        refine ⟨h, fun q => ?_⟩
        have e : j = k := by omega
        subst e
        rw [hk] at h
        cases h
      | some w0 =>
        dsimp only at h
        by_cases hc : zk_c2 w0 = true
        · rw [if_pos hc] at h
          by_cases e : j = k
          · subst e
            rw [List.getElem?_set_self (List.getElem?_eq_some_iff.mp hk).1] at h
            cases h
          · rw [List.getElem?_set_ne (Ne.symm e)] at h
            exact ⟨h, fun q => e (by omega)⟩
        · rw [if_neg hc] at h
          refine ⟨h, fun q => ?_⟩
          have e : j = k := by omega
          subst e
          rw [hk] at h
          cases h
          exact hc q.2
theorem zk_cl_len (L : List (Option Value)) (i : Nat) : (zk_cl L i).length = L.length := by
  unfold zk_cl
  cases i with
  | zero => rfl
  | succ k =>
    dsimp only
    split
    · split
      · rw [List.length_set]
      · rfl
    · rfl
theorem zk_put_len (L : List (Option Value)) (i : Nat) (v : Value) : (zk_put L i v).length = L.length := by
  unfold zk_put
  split
  · rw [List.length_set, List.length_set, zk_cl_len]
  · rw [List.length_set, zk_cl_len]
/-- the store in the machine -/
theorem zk_store {ρ : Nat → Nat} {n nL : Nat} {L : List (Option Value)} {ls : Array Slot} (h : zk_Lr ρ n nL L ls) {i : Nat} {v : Value} (hv : zk_in_n n v) (hi : (if zk_c2 v = true then i + 1 else i) < L.length) :
    ∃ ls', storeLocals ls i (zk_v ρ v) = some ls' ∧ zk_Lr ρ n nL (zk_put L i v) ls' := by
  obtain ⟨l, hl, hm⟩ := zk_Lr_has h
  have hlen := h.2.1
  by_cases hc : zk_c2 v = true
  · rw [if_pos hc] at hi
    obtain ⟨ls', e, h'⟩ := lv_store2 (v := zk_v ρ v) hl (i := i) (by omega) (by rw [zk_v_cat]; exact (zk_c2_iff v).mp hc)
    refine ⟨ls', e, h'.1, (zk_put_len L i v).trans hlen, h'.2.1, fun j w hj => ?_⟩
    unfold zk_put at hj
    rw [if_pos hc] at hj
    by_cases e2 : j = i + 1
    · subst e2
      rw [List.getElem?_set_self (by rw [List.length_set, zk_cl_len]; omega)] at hj
      cases hj
    · rw [List.getElem?_set_ne (Ne.symm e2)] at hj
      by_cases e3 : j = i
      · subst e3
        rw [List.getElem?_set_self (by rw [zk_cl_len]; omega)] at hj
        cases hj
        exact ⟨h'.2.2 (j, zk_v ρ v) List.mem_cons_self, hv⟩
      · rw [List.getElem?_set_ne (Ne.symm e3)] at hj
        obtain ⟨a1, a2⟩ := zk_cl_get hj
        refine ⟨h'.2.2 (j, zk_v ρ w) (List.mem_cons_of_mem _ (List.mem_filter.mpr ⟨hm j w a1, ?_⟩)), (h.2.2.2 j w a1).2⟩
        simp only [Bool.and_eq_true, Bool.not_eq_true', beq_eq_false_iff_ne, ne_eq, Bool.and_eq_false_iff]
        refine ⟨e3, e2, ?_⟩
        by_cases e4 : j + 1 = i
        · refine Or.inr ?_
          intro q
          rw [zk_v_cat] at q
          exact a2 ⟨e4, (zk_c2_iff w).mpr q⟩
        · exact Or.inl e4
  · rw [if_neg hc] at hi
    obtain ⟨ls', e, h'⟩ := lv_store1 (v := zk_v ρ v) hl (i := i) (by omega) (by
      rw [zk_v_cat]
      rcases lv_cat v with q | q
      · exact q
      · exact absurd ((zk_c2_iff v).mpr q) hc)
    refine ⟨ls', e, h'.1, (zk_put_len L i v).trans hlen, h'.2.1, fun j w hj => ?_⟩
    unfold zk_put at hj
    rw [if_neg hc] at hj
    by_cases e3 : j = i
    · subst e3
      rw [List.getElem?_set_self (by rw [zk_cl_len]; omega)] at hj
      cases hj
      exact ⟨h'.2.2 (j, zk_v ρ v) List.mem_cons_self, hv⟩
    · rw [List.getElem?_set_ne (Ne.symm e3)] at hj
      obtain ⟨a1, a2⟩ := zk_cl_get hj
      refine ⟨h'.2.2 (j, zk_v ρ w) (List.mem_cons_of_mem _ (List.mem_filter.mpr ⟨hm j w a1, ?_⟩)), (h.2.2.2 j w a1).2⟩
      simp only [Bool.and_eq_true, Bool.not_eq_true', beq_eq_false_iff_ne, ne_eq, Bool.and_eq_false_iff]
      refine ⟨e3, ?_⟩
      by_cases e4 : j + 1 = i
      · refine Or.inr ?_
        intro q
        rw [zk_v_cat] at q
        exact a2 ⟨e4, (zk_c2_iff w).mpr q⟩
      · exact Or.inl e4

/-! WHAT A PREMISE SHOWS OF A CELL -/
section
variable {A : Array Value} {s : State}
abbrev ev (A : Array Value) (s : State) (t : Term) : Option Value := t.eval A s none [] s
theorem ev_int {t : Term} {x : Int32} (h : (Cond.eq t (.int x)).before A s = true) : ev A s t = some (.int x) := by
  simp only [Cond.before, Cond.holds, Cond.value, Term.eval] at h
  unfold ev
  cases ha : t.eval A s none [] s with
  | none => simp [ha] at h
  | some v => cases v <;> simp [ha] at h ⊢ <;> exact h
theorem ev_ref {t u : Term} {q : Nat} (h : (Cond.eq t u).before A s = true) (hu : ev A s u = some (.ref q)) : ev A s t = some (.ref q) := Cond.eq_refs h hu rfl
theorem ev_exact {t : Term} {C : String} (h : (Cond.exactly t C).before A s = true) : ∃ (q : Nat) (cell : Cell), ev A s t = some (.ref q) ∧ s.heap[q]? = some cell ∧ s.vm.findClass C = some cell.cls ∧ cell.vm.isStatics = false := by
  obtain ⟨a, c, cell, k, h1, h2, h3, h4, h5, h6, h7⟩ := Cond.exactly_spec h
  exact ⟨a, cell, h1, h3, by rw [h6]; exact h2, h5⟩
/-- an object's field -/
theorem ev_field {t : Term} {C n ds : String} {q sl : Nat} {v : Value} {cell : Cell} (hf : ∃ cf kf fi f, s.fieldFound? C n ds = some (cf, kf, fi, f) ∧ f.isStatic = false ∧ f.slot = sl) (ht : ev A s t = some (.ref q)) (hc : s.heap[q]? = some cell) (h : ev A s (.field t C n ds) = some v) : cell.vm ≠ .unknown ∧ cell.slots[sl]? = some v := by
  obtain ⟨cf, kf, fi, f, h1, h2, h3⟩ := hf
  obtain ⟨-, cell2, g1, g2, g3, g4, g5⟩ := Term.field_spec h1 ht h
  cases hc.symm.trans g1
  exact ⟨g2, by rw [← h3]; exact g5⟩
theorem ev_lt {t : Term} {v : Value} (h : ev A s (.length t) = some v) : ∃ (q : Nat) (cell : Cell), ev A s t = some (.ref q) ∧ s.arrayAt? q = some cell ∧ cell.slots.size < 2147483648 ∧ v = .int cell.slots.size.toInt32 := by
  unfold ev at h ⊢
  simp only [Term.eval, Option.bind_eq_bind] at h
  cases ht : t.eval A s none [] s with
  | none => simp [ht] at h
  | some x =>
    cases x <;> simp [ht] at h
    case ref a =>
      obtain ⟨cell, hcell, h⟩ := Option.bind_eq_some_iff.mp h
      by_cases hn : cell.slots.size < 2147483648
      · rw [if_pos hn] at h; cases h; exact ⟨a, cell, rfl, hcell, hn, rfl⟩
      · rw [if_neg hn] at h; cases h
/-- a row -/
theorem ev_arr {t : Term} {ty : FieldType} {n : Nat} (hn : n < 1000) (h1 : (Cond.arrayOf t ty).before A s = true) (h2 : (Cond.eq (.length t) (.int (iZ (n : Int)))).before A s = true) : ∃ (q : Nat) (cell : Cell), ev A s t = some (.ref q) ∧ s.heap[q]? = some cell ∧ cell.vm ≠ .unknown ∧ cell.vm.isStatics = false ∧ s.isArrayOf cell ty ∧ cell.slots.size = n := by
  have h3 := ev_int h2
  obtain ⟨q, cell, g1, g2, g4, g3⟩ := ev_lt h3
  obtain ⟨k1, k2, k3, -⟩ := State.arrayAt?_spec g2
  have g5 := (Cond.arrayOf_spec h1 g1 k1).1
  injection g3 with g3
  have g6 : iZ (n : Int) = iZ (cell.slots.size : Int) := g3
  have g7 := (iZ_inj ⟨by omega, by omega, by omega, by omega⟩).mp g6
  exact ⟨q, cell, g1, k1, k2, k3, g5, by omega⟩
theorem ev_elem {t : Term} {q j : Nat} {v : Value} {cell : Cell} (hj : j < 1000) (ht : ev A s t = some (.ref q)) (hc : s.heap[q]? = some cell) (h : ev A s (.elem t (.int (iZ (j : Int)))) = some v) : cell.slots[j]? = some v := by
  obtain ⟨a, jj, cell2, g1, g2, g3, g4, g5⟩ := Term.elem_spec h
  cases ht.symm.trans g1
  obtain ⟨k1, -⟩ := State.arrayAt?_spec g3
  cases hc.symm.trans k1
  cases g2
  rw [iZ_clamp ⟨by omega, by omega⟩, Int.toNat_natCast] at g5
  exact g5
theorem ev_fcong {t u : Term} {C n ds : String} (h : ev A s t = ev A s u) : ev A s (.field t C n ds) = ev A s (.field u C n ds) := by
  unfold ev at h ⊢
  simp only [Term.eval, h]
/-- a field that is read is there -/
theorem ev_ff {t : Term} {C n ds : String} {v : Value} (h : ev A s (.field t C n ds) = some v) : ∃ (cf : ClassId) (kf : Class) (fi : Nat) (f : Field), s.fieldFound? C n ds = some (cf, kf, fi, f) ∧ f.isStatic = false := by
  unfold ev at h
  obtain ⟨q, hq⟩ := Term.field_ref h
  cases hf : s.fieldFound? C n ds with
  | none =>
    simp [Term.eval, State.fieldOf?, State.fieldNamed?, hf, hq] at h
  | some w =>
    obtain ⟨cf, kf, fi, f⟩ := w
    exact ⟨cf, kf, fi, f, rfl, (Term.field_spec hf hq h).1⟩
end

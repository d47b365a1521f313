/-! WHAT LIES IN THE OLD CELLS -/
section
variable {b : Nat} {s : State}
theorem o_kind (h : oGv b s) {i : Nat} (hi : i < 48) : ∃ (q : Nat) (cell : Cell), ev #[Value.ref b] s (oK i) = some (.ref q) ∧ s.heap[q]? = some cell ∧ s.vm.findClass "Heliographs$Kind" = some cell.cls ∧ cell.vm.isStatics = false ∧
    ev #[Value.ref b] s (.field (oK i) "java/lang/Enum" "ordinal" "I") = some (.int (iZ (i : Int))) ∧ (Cond.eq (.field (oK i) "Heliographs$Kind" "text" "Ljava/lang/String;") (.string "Heliographs$Kind" (oE i))).before #[Value.ref b] s = true := by
  obtain ⟨q, cell, h1, h2, h3, h4⟩ := ev_exact (h.k hi (c := .exactly (oK i) "Heliographs$Kind") List.mem_cons_self)
  exact ⟨q, cell, h1, h2, h3, h4, ev_int (h.k hi (List.mem_cons_of_mem _ List.mem_cons_self)), h.k hi (List.mem_cons_of_mem _ (List.mem_cons_of_mem _ List.mem_cons_self))⟩
theorem o_sz : ∀ q ∈ zk_sr, (zo_s (q.2.2.2 + 100)).2 < 1000 := by decide +kernel
theorem o_str (h : oGv b s) {q : String × Nat × String × Nat} (hq : q ∈ zk_sr) : ∃ (a : Nat) (cell : Cell) (v : Nat) (vc : Cell), ev #[Value.ref b] s (.string q.1 q.2.1) = some (.ref a) ∧ s.heap[a]? = some cell ∧ s.vm.findClass "java/lang/String" = some cell.cls ∧ cell.vm.isStatics = false ∧
    ev #[Value.ref b] s (.field (.string q.1 q.2.1) "java/lang/String" "coder" "B") = some (.int (iZ 0)) ∧ ev #[Value.ref b] s (oV q.1 q.2.1) = some (.ref v) ∧ s.heap[v]? = some vc ∧ vc.vm ≠ .unknown ∧ vc.vm.isStatics = false ∧ s.isArrayOf vc .byte ∧
    vc.slots.size = (zo_s (q.2.2.2 + 100)).2 ∧ ∀ j, j < (zo_s (q.2.2.2 + 100)).2 → vc.slots[j]? = some (.int (oZ (zo_v (q.2.2.2 + 100) j))) := by
  have hm : ∀ c ∈ ov_S q, c.before #[Value.ref b] s = true := fun c hc => h.s hq hc
  unfold ov_S at hm
  obtain ⟨a, cell, h1, h2, h3, h4⟩ := ev_exact (hm _ List.mem_cons_self)
  have h5 := ev_int (hm _ (List.mem_cons_of_mem _ List.mem_cons_self))
  obtain ⟨v, vc, g1, g2, g3, g4, g5, g6⟩ := ev_arr (o_sz q hq) (hm _ (List.mem_cons_of_mem _ (List.mem_cons_of_mem _ List.mem_cons_self))) (hm _ (List.mem_cons_of_mem _ (List.mem_cons_of_mem _ (List.mem_cons_of_mem _ List.mem_cons_self))))
  refine ⟨a, cell, v, vc, h1, h2, h3, h4, h5, g1, g2, g3, g4, g5, g6, fun j hj => ?_⟩
  have hz := o_sz q hq
  exact ev_elem (by omega) g1 g2 (oGv.r (fun w hw => hm w (List.mem_cons_of_mem _ (List.mem_cons_of_mem _ (List.mem_cons_of_mem _ (List.mem_cons_of_mem _ hw))))) hj)
theorem o_dig {T : Term} {c : Nat} (h : ∀ w ∈ ov_D T c, w.before #[Value.ref b] s = true) : ∃ (v : Nat) (vc : Cell), ev #[Value.ref b] s T = some (.ref v) ∧ s.heap[v]? = some vc ∧ vc.vm ≠ .unknown ∧ vc.vm.isStatics = false ∧ s.isArrayOf vc .byte ∧ vc.slots.size = 100 ∧ ∀ j, j < 100 → vc.slots[j]? = some (.int (oZ (zo_v c j))) := by
  unfold ov_D at h
  obtain ⟨v, vc, g1, g2, g3, g4, g5, g6⟩ := ev_arr (n := 100) (by omega) (h _ List.mem_cons_self) (h _ (List.mem_cons_of_mem _ List.mem_cons_self))
  exact ⟨v, vc, g1, g2, g3, g4, g5, g6, fun j hj => ev_elem (by omega) g1 g2 (oGv.r (fun w hw => h w (List.mem_cons_of_mem _ (List.mem_cons_of_mem _ hw))) hj)⟩
theorem o_kinds (h : oGv b s) : ∃ (v : Nat) (vc : Cell), ev #[Value.ref b] s oKs = some (.ref v) ∧ s.heap[v]? = some vc ∧ vc.vm ≠ .unknown ∧ vc.vm.isStatics = false ∧ s.isArrayOf vc (.object "Heliographs$Kind") ∧ vc.slots.size = 48 ∧ ∀ j q, j < 48 → ev #[Value.ref b] s (oK j) = some (.ref q) → vc.slots[j]? = some (.ref q) := by
  have hm : ∀ c ∈ ov_A, c.before #[Value.ref b] s = true := fun c hc => h.a hc
  unfold ov_A at hm
  obtain ⟨v, vc, g1, g2, g3, g4, g5, g6⟩ := ev_arr (n := 48) (by omega) (hm _ List.mem_cons_self) (hm _ (List.mem_cons_of_mem _ List.mem_cons_self))
  refine ⟨v, vc, g1, g2, g3, g4, g5, g6, fun j q hj hq => ?_⟩
  have h9 : (Cond.eq (.elem oKs (.int (iZ (j : Int)))) (oK j)).before #[Value.ref b] s = true := hm _ (List.mem_cons_of_mem _ (List.mem_cons_of_mem _ (List.mem_map.mpr ⟨j, List.mem_range.mpr hj, rfl⟩)))
  exact ev_elem (by omega) g1 g2 (ev_ref h9 hq)
theorem oT_k {i : Nat} (hi : i < 48) : oT i = oK i := if_pos hi
theorem o_rp : ∀ q ∈ zk_sr, (60 ≤ q.2.2.2 ∧ q.2.2.2 < 156) ∧ (oT q.2.2.2 = .string q.1 q.2.1 ∨ (q.1 = "Heliographs$Kind" ∧ q.2.1 = 292 ∧ q.2.2.2 = 99) ∨ (q.1 = "Heliographs$Kind" ∧ q.2.1 = 274 ∧ q.2.2.2 = 93)) := by decide +kernel
theorem o_r9 : oT 99 = .string "HeliographsLaw" 64 ∧ oT 93 = .string "HeliographsLaw" 101 := by decide +kernel
/-- each constant lies where its cell lies -/
theorem o_rep (h : oGv b s) {q : String × Nat × String × Nat} (hq : q ∈ zk_sr) : ev #[Value.ref b] s (.string q.1 q.2.1) = some (.ref (oR b s q.2.2.2)) := by
  obtain ⟨a, cell, v, vc, h1, -⟩ := o_str h hq
  have e : ev #[Value.ref b] s (oT q.2.2.2) = some (.ref a) := by
    rcases (o_rp q hq).2 with e | ⟨e1, e2, e3⟩ | ⟨e1, e2, e3⟩
    · rw [e]; exact h1
    · rw [e1, e2] at h1
      rw [e3, o_r9.1]
      exact ev_ref (h _ (oW_x _ (by first | decide +kernel | simp))) h1
    · rw [e1, e2] at h1
      rw [e3, o_r9.2]
      exact ev_ref (h _ (oW_x _ (by first | decide +kernel | simp))) h1
  rw [h1, oR_of e]
theorem o_sr : ∀ a : Fin 96, ∃ q ∈ zk_sr, q.2.2.2 = a.val + 60 ∧ oT (a.val + 60) = .string q.1 q.2.1 ∧ oT (a.val + 160) = oV q.1 q.2.1 := by decide +kernel
theorem o_kt : ∀ i : Fin 48, ∃ q ∈ zk_sr, q.1 = "Heliographs$Kind" ∧ q.2.1 = oE i.val ∧ zo_v i.val 0 = .ref q.2.2.2 := by decide +kernel
/-- the cells' addresses -/
theorem o_ev (h : oGv b s) {a : Nat} (ha : a < 51 ∨ a = 56 ∨ (60 ≤ a ∧ a < 256 ∧ ¬ (156 ≤ a ∧ a < 160))) : ev #[Value.ref b] s (oT a) = some (.ref (oR b s a)) := by
  have k : ∃ q, ev #[Value.ref b] s (oT a) = some (.ref q) := by
    by_cases h1 : a < 48
    · obtain ⟨q, cell, g, -⟩ := o_kind h h1
      exact ⟨q, by rw [oT_k h1]; exact g⟩
    by_cases h2 : a = 48
    · subst h2
      obtain ⟨v, vc, g, -⟩ := o_kinds h
      exact ⟨v, g⟩
    by_cases h3 : a = 49
    · subst h3
      obtain ⟨v, vc, g, -⟩ := o_dig (fun w hw => h.d1 hw)
      exact ⟨v, g⟩
    by_cases h4 : a = 50
    · subst h4
      obtain ⟨v, vc, g, -⟩ := o_dig (fun w hw => h.d2 hw)
      exact ⟨v, g⟩
    by_cases h5 : a = 56
    · subst h5
      exact ⟨b, rfl⟩
    by_cases h6 : a < 156
    · obtain ⟨q, hq, e1, e2, -⟩ := o_sr ⟨a - 60, by omega⟩
      obtain ⟨x, cell, v, vc, g, -⟩ := o_str h hq
      rw [show (⟨a - 60, by omega⟩ : Fin 96).val + 60 = a from by show a - 60 + 60 = a; omega] at e2
      exact ⟨x, by rw [e2]; exact g⟩
    · obtain ⟨q, hq, e1, -, e2⟩ := o_sr ⟨a - 160, by omega⟩
      obtain ⟨x, cell, v, vc, -, -, -, -, -, g, -⟩ := o_str h hq
      rw [show (⟨a - 160, by omega⟩ : Fin 96).val + 160 = a from by show a - 160 + 160 = a; omega] at e2
      exact ⟨v, by rw [e2]; exact g⟩
  obtain ⟨q, hq⟩ := k
  rw [hq, oR_of hq]
theorem o_arg : oR b s 56 = b := oR_of rfl
/-- the kinds are apart -/
theorem o_apart (h : oGv b s) {i j : Nat} (hi : i < 48) (hj : j < 48) (e : oR b s i = oR b s j) : i = j := by
  obtain ⟨q1, c1, a1, a2, a3, a4, a5, a6⟩ := o_kind h hi
  obtain ⟨q2, c2, b1, b2, b3, b4, b5, b6⟩ := o_kind h hj
  have e1 := o_ev h (a := i) (Or.inl (by omega))
  have e2 := o_ev h (a := j) (Or.inl (by omega))
  rw [oT_k hi] at e1
  rw [oT_k hj] at e2
  have e3 : ev #[Value.ref b] s (oK i) = ev #[Value.ref b] s (oK j) := by rw [e1, e2, e]
  have e4 := (a5.symm.trans (ev_fcong e3)).trans b5
  injection e4 with e4
  injection e4 with e4
  have e5 := (iZ_inj ⟨by omega, by omega, by omega, by omega⟩).mp e4
  omega
end

/-! THE HEAP AT THE START SHOWS THE FIRST MEMORY -/
section
variable {b : Nat} {s : State}
theorem o_shape : ∀ a : Nat, a < 320 → a < 48 ∨ a = 48 ∨ (a = 49 ∨ a = 50 ∨ (160 ≤ a ∧ a < 256)) ∨ (60 ≤ a ∧ a < 156) ∨ zo_s a = (1000, 0) := by decide +kernel
theorem o_k10 : ∀ i : Fin 48, zo_s i.val = (10, 1) ∧ zo_v 48 i.val = .ref i.val := by decide +kernel
theorem o_ints : (∀ j ∈ List.range 100, zo_v 49 j = .int (oZ (zo_v 49 j)) ∧ zo_v 50 j = .int (oZ (zo_v 50 j))) ∧ ∀ a : Fin 96, ∀ j ∈ List.range (zo_s (a.val + 160)).2, zo_v (a.val + 160) j = .int (oZ (zo_v (a.val + 160) j)) := by decide +kernel
theorem o_int {a j : Nat} (ha : a = 49 ∨ a = 50 ∨ (160 ≤ a ∧ a < 256)) (hj : j < (zo_s a).2) : zo_v a j = .int (oZ (zo_v a j)) := by
  rcases ha with rfl | rfl | ⟨h1, h2⟩
  · rw [o_digs.2.1] at hj
    exact (o_ints.1 j (List.mem_range.mpr hj)).1
  · rw [o_digs.2.2] at hj
    exact (o_ints.1 j (List.mem_range.mpr hj)).2
  · have q := o_ints.2 ⟨a - 160, by omega⟩ j
    rw [show (⟨a - 160, by omega⟩ : Fin 96).val + 160 = a from by show a - 160 + 160 = a; omega] at q
    exact q (List.mem_range.mpr hj)
theorem o_b103 {a : Nat} (ha : a = 49 ∨ a = 50 ∨ (160 ≤ a ∧ a < 256)) : (zo_s a).1 = 103 ∧ (zo_s a).2 < 1000 ∧ (a, 3) ∈ zk_oa := by
  rcases ha with rfl | rfl | ⟨h1, h2⟩
  · rw [o_digs.2.1]; exact ⟨rfl, by decide, by decide +kernel⟩
  · rw [o_digs.2.2]; exact ⟨rfl, by decide, by decide +kernel⟩
  · have q := (o_fin ⟨a - 160, by omega⟩).2
    rw [show (⟨a - 160, by omega⟩ : Fin 96).val + 160 = a from by show a - 160 + 160 = a; omega] at q
    exact q
/-- a kind -/
theorem o_okK (hT : oTs b s) (h : oGv b s) {a : Nat} (ha : a < 48) {f : Nat → Value} (hf : f 0 = zo_v a 0) : zk_ok (oGa b s) (oR b s) s.heap a (10, 1) f := by
  obtain ⟨q, cell, h1, h2, h3, h4, h5, h6⟩ := o_kind h ha
  have e : oR b s a = q := oR_of (by rw [oT_k ha]; exact h1)
  refine ⟨fun _ => ⟨⟨_, rfl, Nat.le_refl _⟩, cell, by rw [e]; exact h2, (oGa_cls (k := 10) rfl h3).symm, ?_, h4, fun q => absurd q (by show ¬ 320 ≤ a; omega), fun j hj => ?_⟩, fun q => absurd q (by decide)⟩
  · obtain ⟨t, g1, g2⟩ := o_text h ha
    exact (ev_field ((o_kc hT h 10 _ rfl).2 0 (by decide)) h1 h2 g2).1
  · have e0 : j = 0 := by
      have : j < 1 := hj
      omega
    subst e0
    obtain ⟨t, g1, g2⟩ := o_text h ha
    rw [hf, g1]
    exact (ev_field ((o_kc hT h 10 _ rfl).2 0 (by decide)) h1 h2 g2).2
/-- a string -/
theorem o_okS (hT : oTs b s) (h : oGv b s) {a : Nat} (ha : 60 ≤ a ∧ a < 156) {f : Nat → Value} (hf : ∀ j, f j = zo_v a j) : zk_ok (oGa b s) (oR b s) s.heap a (8, 2) f := by
  obtain ⟨q, hq, e1, e2, e3⟩ := o_sr ⟨a - 60, by omega⟩
  obtain ⟨x, cell, v, vc, h1, h2, h3, h4, h5, h6, -⟩ := o_str h hq
  have f1 : (⟨a - 60, by omega⟩ : Fin 96).val + 60 = a := by show a - 60 + 60 = a; omega
  have f2 : (⟨a - 60, by omega⟩ : Fin 96).val + 160 = a + 100 := by show a - 60 + 160 = a + 100; omega
  have z := (o_fin ⟨a - 60, by omega⟩).1
  rw [f1] at e2 z
  rw [f2] at e3 z
  have e : oR b s a = x := oR_of (by rw [e2]; exact h1)
  have ev2 : oR b s (a + 100) = v := oR_of (by rw [e3]; exact h6)
  have g0 := ev_field ((o_kc hT h 8 _ rfl).2 0 (by decide)) h1 h2 h6
  have g1 := ev_field ((o_kc hT h 8 _ rfl).2 1 (by decide)) h1 h2 h5
  refine ⟨fun _ => ⟨⟨_, rfl, by decide⟩, cell, by rw [e]; exact h2, (oGa_cls (k := 8) rfl h3).symm, g0.1, h4, fun q => absurd q (by show ¬ 320 ≤ a; omega), fun j hj => ?_⟩, fun q => absurd q (by decide)⟩
  have hj2 : j < 2 := hj
  rcases (show j = 0 ∨ j = 1 by omega) with rfl | rfl
  · rw [hf 0, z.2.1]
    show _ = some (Value.ref (oR b s (a + 100)))
    rw [ev2]
    exact g0.2
  · rw [hf 1, z.2.2]
    exact g1.2
theorem o_okB (h : oGv b s) {a : Nat} (ha : a = 49 ∨ a = 50 ∨ (160 ≤ a ∧ a < 256)) {f : Nat → Value} (hf : ∀ j, f j = zo_v a j) : zk_ok (oGa b s) (oR b s) s.heap a (zo_s a) f := by
  obtain ⟨cell, h1, h2, h3, h4, h5, h6⟩ := o_byte h ha
  obtain ⟨z1, z2, z3⟩ := o_b103 ha
  have ez : zo_s a = (103, (zo_s a).2) := by rw [← z1]
  have ha3 : a < 320 := by omega
  rw [ez]
  refine ⟨fun q => absurd q (by show ¬ (103 : Nat) < 100; decide), fun _ _ => ⟨by show (103 : Nat) < 106; decide, by show (zo_s a).2 < 2147483648; omega, fun _ => z3, cell, h1, (oGa_old (k := 3) ha3 h1).symm, h2, h3, fun q => absurd q (by show ¬ 320 ≤ a; omega), h5, fun j hj => ?_⟩⟩
  rw [hf j, o_int ha hj]
  exact h6 j hj
theorem o_okL (h : oGv b s) {f : Nat → Value} (hf : ∀ j, f j = zo_v 48 j) : zk_ok (oGa b s) (oR b s) s.heap 48 (104, 48) f := by
  obtain ⟨v, vc, g1, g2, g3, g4, g5, g6, g7⟩ := o_kinds h
  have e : oR b s 48 = v := oR_of g1
  have g2' : s.heap[oR b s 48]? = some vc := by rw [e]; exact g2
  refine ⟨fun q => absurd q (by decide), fun _ _ => ⟨by decide, by decide, fun _ => by decide +kernel, vc, g2', (oGa_old (k := 4) (by omega) g2').symm, g3, g4, fun q => absurd q (by decide), g6, fun j hj => ?_⟩⟩
  have hj2 : j < 48 := hj
  rw [hf j, (o_k10 ⟨j, hj2⟩).2]
  refine g7 j _ hj2 ?_
  have q := o_ev h (a := j) (Or.inl (by omega))
  rw [oT_k hj2] at q
  exact q
theorem o_okX {L : Nat} {xs : Nat → Int32} (hX : va_X b L xs s s.heap) (hL : L ≤ 260) {f : Nat → Value} (hf : ∀ j, f j = .int (xs j)) : zk_ok (oGa b s) (oR b s) s.heap 56 (100, L) f := by
  obtain ⟨scr, g1, g2, g3, g4, g5⟩ := hX
  have g1' : s.heap[oR b s 56]? = some scr := by rw [o_arg]; exact g1
  have hst : scr.vm.isStatics = false := by
    have q := g2.1
    cases hv : scr.vm with
    | statics k => exact absurd hv (q k)
    | _ => rfl
  refine ⟨fun q => absurd q (by show ¬ (100 : Nat) < 100; decide), fun _ _ => ⟨by show (100 : Nat) < 106; decide, by show L < 2147483648; omega, fun _ => (by show ((56, 0) : Nat × Nat) ∈ zk_oa; decide +kernel), scr, g1', (oGa_old (k := 0) (by omega) g1').symm, g3, hst, fun q => absurd q (by decide), g4, fun j hj => ?_⟩⟩
  rw [hf j]
  exact g5 j hj
/-- THE HEAP SHOWS THE FIRST MEMORY -/
theorem o_rl (hT : oTs b s) (h : oGv b s) {L : Nat} {xs : Nat → Int32} (hX : va_X b L xs s s.heap) (hL : L ≤ 260) : zk_Rl (oGa b s) (oGa b s).2.2.2.1 (lw_M L xs) (fun _ => True) s.heap := by
  have hO := lw_M_ol L xs
  have es : ∀ a, a < 320 → a ≠ 56 → (lw_M L xs).1 a = zo_s a := fun a h1 h2 => (hO.2.1 a h1 h2).1
  have ee : ∀ a, a < 320 → a ≠ 56 → (lw_M L xs).2.2 a = zo_v a := fun a h1 h2 => (hO.2.1 a h1 h2).2
  refine ⟨⟨fun a ha => ?_, fun x y hx hy hx1 hy1 hxy e => ?_, ⟨fun q hq => rfl, Nat.le_refl _⟩, fun a h1 h2 => absurd (show a < 320 from h2) (Nat.not_lt_of_le h1), fun a ha => rfl, fun a j x ha hj hx => ?_, Nat.le_refl _⟩, trivial, fun H1 H2 _ _ _ _ => trivial, fun q hq => hq.elim, fun a h1 h2 => absurd (show a < 320 from h2) (Nat.not_lt_of_le h1)⟩
  · have ha : a < 320 := ha
    by_cases h56 : a = 56
    · subst h56
      rw [hO.2.2.1]
      exact o_okX hX hL (fun j => lw_M_56 L xs j)
    rw [es a ha h56, ee a ha h56]
    rcases o_shape a ha with q | q | q | q | q
    · rw [(o_k10 ⟨a, q⟩).1]
      exact o_okK hT h q rfl
    · subst q
      rw [o_digs.1]
      exact o_okL h (fun j => rfl)
    · exact o_okB h q (fun j => rfl)
    · have z := (o_fin ⟨a - 60, by omega⟩).1.1
      rw [show (⟨a - 60, by omega⟩ : Fin 96).val + 60 = a from by show a - 60 + 60 = a; omega] at z
      rw [z]
      exact o_okS hT h q (fun j => rfl)
    · rw [q]
      exact ⟨fun z => absurd z (by decide), fun _ z => absurd z (by decide)⟩
  · rcases hxy with z | z
    · exact absurd (show y < 320 from hy) (Nat.not_lt_of_le z)
    · exact o_apart h z.1 z.2 e
  · have ha : a < 320 := ha
    by_cases h56 : a = 56
    · subst h56
      rw [lw_M_56 L xs j] at hx
      cases hx
    rw [es a ha h56] at hj
    rw [ee a ha h56] at hx
    exact zo_r ha hj hx
end

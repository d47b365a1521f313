/-! THE CLASS WITHIN A LARGER MEMORY; CELLS NUMBERED ANEW -/
section
variable {l : Launch} {Γ : zk_G} {d : Nat} {Z : Nat → Nat → Int} {F : Heap → Prop}
theorem zk_ent_mem {nL : Nat} {As : List Value} {i : Nat} {v : Value} (h : (zk_ent nL As)[i]? = some (some v)) : v ∈ As := by
  unfold zk_ent at h
  by_cases hlt : i < (zk_es As).length
  · rw [List.getElem?_append_left hlt] at h
    exact (zk_es_at (fun x => x) As i v h).2
  · rw [List.getElem?_append_right (by omega)] at h
    rw [List.getElem?_replicate] at h
    split at h <;> cases h
/-- what the class's cells name are cells of the class -/
def zin (Z : zV) : Prop := ∀ a j x, a < 424 → j < (zb_s a).2 → zb_v Z a j = .ref x → x < 424
/-- a memory whose first cells are the class's -/
def zk_has (M : zk_M) (Z : zV) : Prop := 424 ≤ M.2.1 ∧ (∀ a, a < 424 → M.1 a = zb_s a) ∧ (∀ a, a < 424 → M.2.2 a = zb_v Z a) ∧ zin Z
def zk_with (M : zk_M) (Z : zV) : zk_M := (M.1, M.2.1, fun a => if a < 424 then zb_v Z a else M.2.2 a)
theorem zk_with_has {M : zk_M} {Z Z' : zV} (h : zk_has M Z) (hz : zin Z') : zk_has (zk_with M Z') Z' := ⟨h.1, h.2.1, fun a ha => if_pos ha, hz⟩
theorem zk_frame {J : zk_MI} {kc ks : Nat} {As : List Value} {M : zk_M} {R : Option Value → zV → Prop} {Q : Option Value → zk_M → (Heap → Prop) → Prop}
    (h : ∀ (Γ : zk_G) (F : Heap → Prop) (Q1 : Option Value → zk_M → (Heap → Prop) → Prop), (∀ v Z', R v Z' → Q1 v (zb_M Z') F) → zk_Go l Γ J d kc ks Q1 0 (zk_ent J.2.2.1 As) [] (zb_M Z) F)
    (hM : zk_has M Z) (hAs : ∀ v ∈ As, zk_in_n 424 v) (hRv : ∀ v Z', R v Z' → ∀ w, v = some w → zk_in_n 424 w) (hq : ∀ v Z', R v Z' → zin Z' → Q v (zk_with M Z') F) : zk_Go l Γ J d kc ks Q 0 (zk_ent J.2.2.1 As) [] M F := by
  intro p e R9 s m args below meth c H locs cells slots Qf A ρ ls hc hr hs9 hRl hA hS hL hW hE
  obtain ⟨hn, hs, hv, hz⟩ := hM
  obtain ⟨⟨b1, b2, b3, b4, b5, b6, b7⟩, f1, f2, f3, f4⟩ := hRl
  obtain ⟨Γ1, hΓ⟩ : ∃ G : zk_G, G = (Γ.1, Γ.2.1, Γ.2.2.1, Γ.2.2.2.1, fun q => Γ.2.2.2.2 q ∨ ∃ a, 424 ≤ a ∧ a < M.2.1 ∧ (M.1 a).1 < 1000 ∧ q = ρ a) := ⟨_, rfl⟩
  obtain ⟨F1, hF1⟩ : ∃ f : Heap → Prop, f = fun H2 => F H2 ∧ ∀ a, 424 ≤ a → a < M.2.1 → zk_ok Γ ρ H2 a (M.1 a) (M.2.2 a) := ⟨_, rfl⟩
  have okc : ∀ {ρ0 : Nat → Nat} {H0 : Heap} {a : Nat} {kl : Nat × Nat} {f : Nat → Value}, zk_ok Γ1 ρ0 H0 a kl f ↔ zk_ok Γ ρ0 H0 a kl f := by
    intro ρ0 H0 a kl f
    rw [hΓ]
    exact Iff.rfl
  have hcx : zk_Cx Γ1 J p s m args meth c := by rw [hΓ]; exact hc
  have N320 : zk_N = 320 := rfl
  have far1 : ∀ q, Γ1.2.2.2.2 q ↔ (Γ.2.2.2.2 q ∨ ∃ a, 424 ≤ a ∧ a < M.2.1 ∧ (M.1 a).1 < 1000 ∧ q = ρ a) := fun q => by rw [hΓ]
  have sz1 : Γ1.2.1 = Γ.2.1 := by rw [hΓ]
  have hR1 : zk_Rl Γ1 ρ (zb_M Z) F1 H := by
    refine ⟨⟨fun a ha => ?_, fun a b ha hb ka kb hab e9 => ?_, by rw [sz1]; exact b3, fun a g1 g2 g3 => ?_, fun a ha => ?_, fun a j x ha hj hx => hz a j x ha hj hx, by show zk_N ≤ 424; omega⟩, ?_, fun H1 H2 g1 g2 g3 g4 => ?_, fun q g => ?_, fun a g1 g2 g3 g4 => ?_⟩
    · have q := b1 a (Nat.lt_of_lt_of_le ha hn)
      rw [hs a ha, hv a ha] at q
      exact okc.mpr q
    · refine b2 a b (Nat.lt_of_lt_of_le ha hn) (Nat.lt_of_lt_of_le hb hn) ?_ ?_ hab e9
      · rw [hs a ha]; exact ka
      · rw [hs b hb]; exact kb
    · rw [sz1]
      refine b4 a g1 (Nat.lt_of_lt_of_le g2 hn) ?_
      rw [hs a g2]; exact g3
    · rw [hΓ]; exact b5 a ha
    · rw [hF1]
      exact ⟨f1, fun a g1 g2 => b1 a g2⟩
    · rw [hF1] at g4 ⊢
      rw [sz1] at g2
      exact ⟨f2 H1 H2 (fun q hq => g1 q ((far1 q).mpr (Or.inl hq))) g2 g3 g4.1, fun a k1 k2 => (g4.2 a k1 k2).kept (fun hk => g1 _ ((far1 _).mpr (Or.inr ⟨a, k1, k2, hk, rfl⟩)))⟩
    · rw [sz1]
      rcases (far1 q).mp g with g | ⟨a, g1, g2, g3, rfl⟩
      · exact f3 q g
      · exact ⟨(b1 a g2).lt g3, b4 a (by omega) g2 g3⟩
    · rcases (far1 _).mp g4 with g4 | ⟨x, k1, k2, k3, k4⟩
      · exact f4 a g1 (Nat.lt_of_lt_of_le g2 hn) (by rw [hs a g2]; exact g3) g4
      · have := b2 a x (Nat.lt_of_lt_of_le g2 hn) k2 (by rw [hs a g2]; exact g3) k3 (Or.inl (by omega)) k4
        have g5 : a < 424 := g2
        omega
  have hA1 : zk_A Γ1 ρ (zb_M Z) s.heap.size A := by
    refine ⟨fun a g1 g2 g3 => hA.1 a g1 (Nat.lt_of_lt_of_le g2 hn) (by rw [hs a g2]; exact g3), hA.2.1, fun q g => ?_⟩
    rcases (far1 q).mp g with g | ⟨a, g1, g2, g3, rfl⟩
    · exact hA.2.2 q g
    · exact hA.1 a (by omega) g2 g3
  have hL1 : zk_Lr ρ (zb_M Z).2.1 J.2.2.1 (zk_ent J.2.2.1 As) ls := ⟨hL.1, hL.2.1, hL.2.2.1, fun i v hi => ⟨(hL.2.2.2 i v hi).1, hAs v (zk_ent_mem hi)⟩⟩
  have back : ∀ (Z' : zV) (ρ' : Nat → Nat) (H' : Heap), zk_Rl Γ1 ρ' (zb_M Z') F1 H' → zk_ext ρ (zb_M Z) H ρ' (zb_M Z') H' → zin Z' ∧ zk_Rl Γ ρ (zk_with M Z') F H' ∧ zk_ext ρ M H ρ (zk_with M Z') H' ∧ ∀ a, a < 424 → ρ' a = ρ a := by
    intro Z' ρ' H' hR' hx
    obtain ⟨⟨c1, c2, c3, c4, c5, c6, c7⟩, g1, g2, g3, g4⟩ := hR'
    have hz' : zin Z' := fun a j x ha hj hx => c6 a j x ha hj hx
    have hρ : ∀ a, a < 424 → ρ' a = ρ a := fun a ha => (hx.1 a ha).1
    rw [hF1] at g1
    rw [sz1] at c3
    refine ⟨hz', ⟨⟨fun a ha => ?_, b2, c3, b4, b5, fun a j x ha hj hxx => ?_, b7⟩, g1.1, f2, fun q hq => ⟨Nat.lt_of_lt_of_le (f3 q hq).1 hx.2.2.1, (f3 q hq).2⟩, f4⟩, ⟨fun a ha => ⟨rfl, Or.inl rfl⟩, Nat.le_refl _, hx.2.2.1, fun a k1 k2 => absurd (show a < M.2.1 from k2) (by omega)⟩, hρ⟩
    · by_cases q : a < 424
      · show zk_ok Γ ρ H' a (M.1 a) (if a < 424 then zb_v Z' a else M.2.2 a)
        rw [if_pos q, hs a q]
        exact (okc.mp (c1 a q)).re (fun j hj => by
          have hin : zk_in_n 424 (zb_v Z' a j) := by
            unfold zk_in_n
            split
            · rename_i x hx9
              exact hz' a j x q hj hx9
            · trivial
          exact (zk_v_re hρ hin).symm) (hρ a q).symm
      · show zk_ok Γ ρ H' a (M.1 a) (if a < 424 then zb_v Z' a else M.2.2 a)
        rw [if_neg q]
        exact g1.2 a (by omega) ha
    · by_cases q : a < 424
      · have hj2 : j < (zb_s a).2 := by rw [← hs a q]; exact hj
        have hx2 : (if a < 424 then zb_v Z' a else M.2.2 a) j = .ref x := hxx
        rw [if_pos q] at hx2
        exact Nat.lt_of_lt_of_le (hz' a j x q hj2 hx2) hn
      · have hx2 : (if a < 424 then zb_v Z' a else M.2.2 a) j = .ref x := hxx
        rw [if_neg q] at hx2
        exact b6 a j x ha hj hx2
  refine h Γ1 F1 (fun v M' F' => ∃ Z', R v Z' ∧ M' = zb_M Z' ∧ F' = F1) (fun v Z' hr => ⟨Z', hr, rfl, rfl⟩) p e R9 s m args below meth c H locs cells slots Qf A ρ ls hcx hr hs9 hR1 hA1 hS hL1 trivial ⟨?_, ?_⟩
  · intro v M' F' ρ' H' locs' cells' slots' pc' ls' hq1 hR' hx hwf hS' k1 k2 hret
    obtain ⟨Z', hr', rfl, rfl⟩ := hq1
    obtain ⟨hz', hR2, hx2, hρ⟩ := back Z' ρ' H' hR' hx
    have hin := hRv v Z' hr'
    have ev : v.map (zk_v ρ') = v.map (zk_v ρ) := by
      cases v with
      | none => rfl
      | some w => exact congrArg some (zk_v_re hρ (hin w rfl))
    rw [ev]
    exact hE.1 v (zk_with M Z') F ρ H' locs' cells' slots' pc' ls' (hq v Z' hr' hz') hR2 hx2 (fun w hw => zk_in_le hn (hin w hw)) hS' k1 k2 hret
  · intro M' F' ρ' H' locs' cells' slots' pc' ls' hq1 hR' hx hS' k1 k2 k3 k4
    obtain ⟨Z', hr', rfl, rfl⟩ := hq1
    obtain ⟨hz', hR2, hx2, hρ⟩ := back Z' ρ' H' hR' hx
    exact hE.2 (zk_with M Z') F ρ H' locs' cells' slots' pc' ls' (hq _ Z' hr' hz') hR2 hx2 hS' k1 k2 k3 k4
/-- cells numbered anew, where the answer alone counts -/
theorem zk_renum {I : zk_MI} {kc ks : Nat} {Q : Option Value → zk_M → (Heap → Prop) → Prop} {pc : Nat} {L L2 : List (Option Value)} {M M2 : zk_M} (ι : Nat → Nat) (hnt : I.1.name ∉ zk_mt) (hqi : ∀ v M' F', Q v M' F' → ∃ x, v = some (.int x)) (hqq : ∀ v M' F' M3 F3, Q v M' F' → Q v M3 F3)
    (h0 : ∀ a, a < 320 → ι a = a) (hn : 320 ≤ M2.2.1) (h1 : ∀ a, a < M2.2.1 → (M2.1 a).1 < 1000 → ι a < M.2.1 ∧ M.1 (ι a) = M2.1 a ∧ (320 ≤ a → 320 ≤ ι a) ∧ ∀ j, j < (M2.1 a).2 → M.2.2 (ι a) j = zk_v ι (M2.2.2 a j))
    (h2 : ∀ a b, a < M2.2.1 → b < M2.2.1 → (M2.1 a).1 < 1000 → (M2.1 b).1 < 1000 → ι a = ι b → a = b) (h3 : ∀ a j x, a < M2.2.1 → j < (M2.1 a).2 → M2.2.2 a j = .ref x → x < M2.2.1) (hll : L2.length = L.length) (hL2 : ∀ i v, L2[i]? = some (some v) → L[i]? = some (some (zk_v ι v)) ∧ zk_in_n M2.2.1 v)
    (k : zk_Go l Γ I d kc ks Q pc L2 [] M2 F) : zk_Go l Γ I d kc ks Q pc L [] M F := by
  intro p e R9 s m args below meth c H locs cells slots Qf A ρ ls hc hr hs9 hRl hA hS hL hW hE
  obtain ⟨⟨b1, b2, b3, b4, b5, b6, b7⟩, f1, f2, f3, f4⟩ := hRl
  have N320 : zk_N = 320 := rfl
  have zz : ∀ v, zk_v ρ (zk_v ι v) = zk_v (fun a => ρ (ι a)) v := fun v => by cases v <;> rfl
  have hKa := hc.2.2.2.2.2.2.2.2.2.1.1
  have hcls : ∀ kx a, kx < 6 → a < M2.2.1 → (M2.1 a).1 < 1000 → Γ.2.2.1 kx (ι a) = Γ.2.2.1 kx a := fun kx a hk ha hl => by
    by_cases q : a < 320
    · rw [h0 a q]
    · have := (h1 a ha hl).2.2.1 (by omega)
      exact Option.some.inj ((hKa kx (ι a) hk (by omega)).1.symm.trans (hKa kx a hk (by omega)).1)
  have hR2 : zk_Rl Γ (fun a => ρ (ι a)) M2 F H := by
    refine ⟨⟨fun a ha => ?_, fun a b ha hb ka kb hab e9 => ?_, b3, fun a g1 g2 g3 => ?_, fun a ha => ?_, h3, hn⟩, f1, f2, f3, fun a g1 g2 g3 => ?_⟩
    · by_cases hl : (M2.1 a).1 < 1000
      · obtain ⟨i1, i2, i3, i4⟩ := h1 a ha hl
        have q := b1 (ι a) i1
        rw [i2] at q
        have flag : zk_N ≤ a → zk_N ≤ ι a := fun q => by have := i3 (by omega); omega
        refine ⟨fun g1 => ⟨(q.1 g1).1, ?_⟩, fun g1 g2 => ⟨(q.2 g1 g2).1, (q.2 g1 g2).2.1, fun g3 => ?_, ?_⟩⟩
        · obtain ⟨cell, c1, c2, c3, c4, c5, c6⟩ := (q.1 g1).2
          exact ⟨cell, c1, c2, c3, c4, fun g => c5 (flag g), fun j hj => by rw [c6 j hj, i4 j hj, zz]⟩
        · have e9 := h0 a (by omega)
          have q3 := (q.2 g1 g2).2.2.1
          rw [e9] at q3
          exact q3 g3
        · obtain ⟨cell, c1, c2, c3, c4, c5, c6, c7⟩ := (q.2 g1 g2).2.2.2
          have hk6 := (q.2 g1 g2).1
          exact ⟨cell, c1, by rw [c2]; exact hcls _ a (by omega) ha hl, c3, c4, fun g => c5 (flag g), c6, fun j hj => by rw [c7 j hj, i4 j hj, zz]⟩
      · exact ⟨fun g => absurd g (by omega), fun g1 g2 => absurd g2 hl⟩
    · obtain ⟨i1, i2, i3, -⟩ := h1 a ha ka
      obtain ⟨j1, j2, j3, -⟩ := h1 b hb kb
      refine h2 a b ha hb ka kb (b2 (ι a) (ι b) i1 j1 (by rw [i2]; exact ka) (by rw [j2]; exact kb) ?_ e9)
      rcases hab with q | q
      · exact Or.inl (by have := j3 (by omega); omega)
      · exact Or.inr (by rw [h0 a (by omega), h0 b (by omega)]; exact q)
    · obtain ⟨i1, i2, i3, -⟩ := h1 a g2 g3
      exact b4 (ι a) (by have := i3 (by omega); omega) i1 (by rw [i2]; exact g3)
    · show ρ (ι a) = _
      rw [h0 a (by omega)]
      exact b5 a ha
    · obtain ⟨i1, i2, i3, -⟩ := h1 a g2 g3
      exact f4 (ι a) (by have := i3 (by omega); omega) i1 (by rw [i2]; exact g3)
  have hA2 : zk_A Γ (fun a => ρ (ι a)) M2 s.heap.size A := ⟨fun a g1 g2 g3 => by
    obtain ⟨i1, i2, i3, -⟩ := h1 a g2 g3
    exact hA.1 (ι a) (by have := i3 (by omega); omega) i1 (by rw [i2]; exact g3), hA.2.1, hA.2.2⟩
  have hL3 : zk_Lr (fun a => ρ (ι a)) M2.2.1 I.2.2.1 L2 ls := ⟨hL.1, hll.trans hL.2.1, hL.2.2.1, fun i v hi => by
    obtain ⟨g1, g2⟩ := hL2 i v hi
    exact ⟨by rw [(hL.2.2.2 i _ g1).1, zz], g2⟩⟩
  refine k p e R9 s m args below meth c H locs cells slots Qf A (fun a => ρ (ι a)) ls hc hr hs9 hR2 hA2 hS hL3 trivial ⟨?_, fun M' F' ρ' H' locs' cells' slots' pc' ls' a1 a2 a3 a4 a5 a6 a7 a8 => absurd a8.1 hnt⟩
  intro v M' F' ρ' H' locs' cells' slots' pc' ls' hq1 hR' hx hwf hS' k1 k2 hret
  obtain ⟨x, rfl⟩ := hqi _ _ _ hq1
  obtain ⟨⟨c1, c2, c3, c4, c5, c6, c7⟩, g1, g2, g3, g4⟩ := hR'
  exact hE.1 (some (.int x)) (fun _ => (1000, 0), M.2.1, fun _ _ => .null) F' ρ H' locs' cells' slots' pc' ls' (hqq _ _ _ _ _ hq1)
    ⟨⟨fun a ha => ⟨fun q => absurd (show 1000 < 100 from q) (by omega), fun _ q => absurd (show 1000 < 1000 from q) (by omega)⟩, fun a b ha hb ka => absurd (show 1000 < 1000 from ka) (by omega), c3, fun a _ _ q => absurd (show 1000 < 1000 from q) (by omega), b5, fun a j y ha hj => absurd (show j < 0 from hj) (by omega), b7⟩, g1, g2, g3, fun a _ _ q => absurd (show 1000 < 1000 from q) (by omega)⟩
    ⟨fun a ha => ⟨rfl, Or.inr (Nat.le_refl _)⟩, Nat.le_refl _, hx.2.2.1, fun a q1 q2 => absurd (show a < M.2.1 from q2) (by omega)⟩ (fun w hw => by cases hw; trivial) hS' k1 k2 hret
end

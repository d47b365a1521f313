/-! THE CLASS WITHIN A LARGER MEMORY; CELLS NUMBERED ANEW -/
section
variable {l : Launch} {Γ : zk_G} {d : Nat} {Z : Nat → Nat → Int} {F : Heap → Prop}
theorem zk_ent_mem {nL : Nat} {As : List Value} {i : Nat} {v : Value} (h : (zk_ent nL As)[i]? = some (some v)) : v ∈ As := by
  unfold zk_ent at h
  by_cases hlt : i < (zk_es As).length
  · rw [List.getElem?_append_left hlt] at h
    exact (zk_es_at (fun x => x) As i v h).2
  · rw [List.getElem?_append_right (by omega)] at h
    rw [List.getElem?_replicate] at h
    split at h <;> cases h
theorem zk_c2_v (ι : Nat → Nat) (v : Value) : zk_c2 (zk_v ι v) = zk_c2 v := by cases v <;> rfl
theorem zk_es_map (ι : Nat → Nat) (As : List Value) : zk_es (As.map (zk_v ι)) = (zk_es As).map (Option.map (zk_v ι)) := by
  induction As with
  | nil => rfl
  | cons v As ih =>
    unfold zk_es at ih ⊢
    rw [List.map_cons, List.flatMap_cons, List.flatMap_cons, List.map_append, ih, zk_c2_v]
    split <;> rfl
theorem zk_ent_map (ι : Nat → Nat) (nL : Nat) (As : List Value) : zk_ent nL (As.map (zk_v ι)) = (zk_ent nL As).map (Option.map (zk_v ι)) := by
  unfold zk_ent
  rw [zk_es_map, List.length_map, List.map_append, List.map_replicate]
  rfl
/-- a small memory seen within a larger one -/
def zk_vw (ι : Nat → Nat) (M2 M : zk_M) : Prop :=
  (∀ a, a < 320 → ι a = a ∧ (M.1 a = M2.1 a ∨ 1000 ≤ (M2.1 a).1)) ∧ 320 ≤ M2.2.1 ∧ (∀ a, a < M2.2.1 → ι a < M.2.1) ∧
  (∀ a, a < M2.2.1 → (M2.1 a).1 < 1000 → M.1 (ι a) = M2.1 a ∧ (320 ≤ a → 320 ≤ ι a) ∧ ∀ j, j < (M2.1 a).2 → M.2.2 (ι a) j = zk_v ι (M2.2.2 a j)) ∧
  (∀ a b, a < M2.2.1 → b < M2.2.1 → (M2.1 a).1 < 1000 → (M2.1 b).1 < 1000 → ι a = ι b → a = b) ∧
  ∀ a j x, a < M2.2.1 → j < (M2.1 a).2 → M2.2.2 a j = .ref x → x < M2.2.1
/-- the small memory's numbers, those made later too -/
def zk_io (ι : Nat → Nat) (n2 n : Nat) (b : Nat) : Nat := if b < n2 then ι b else n + (b - n2)
theorem zk_io_lt {ι : Nat → Nat} {n2 n b : Nat} (h : b < n2) : zk_io ι n2 n b = ι b := if_pos h
theorem zk_io_ge {ι : Nat → Nat} {n2 n b : Nat} (h : n2 ≤ b) : zk_io ι n2 n b = n + (b - n2) := if_neg (by omega)
/-- the larger memory, when the small one has become another -/
def zk_lf (ι : Nat → Nat) (M2 M M2' M' : zk_M) : Prop := M'.2.1 = M.2.1 + (M2'.2.1 - M2.2.1) ∧ M2.2.1 ≤ M2'.2.1 ∧ zk_vw (zk_io ι M2.2.1 M.2.1) M2' M' ∧
  ∀ a, a < M.2.1 → (∀ b, b < M2.2.1 → (M2.1 b).1 < 1000 → ι b ≠ a) → M'.1 a = M.1 a ∧ M'.2.2 a = M.2.2 a
theorem zk_ivs {ι : Nat → Nat} {M2 M : zk_M} (h : zk_vw ι M2 M) (h9 : 320 ≤ M.2.1) : ∃ iv : Nat → Option Nat,
    (∀ b, (M2.2.1 ≤ b ∨ (M2.1 b).1 < 1000) → iv (zk_io ι M2.2.1 M.2.1 b) = some b) ∧
    (∀ a b, iv a = some b → zk_io ι M2.2.1 M.2.1 b = a ∧ (320 ≤ a ↔ 320 ≤ b) ∧ (b < M2.2.1 → (M2.1 b).1 < 1000) ∧ (M.2.1 ≤ a ↔ M2.2.1 ≤ b)) ∧
    (∀ a, iv a = none → a < M.2.1 ∧ (a < 320 → 1000 ≤ (M2.1 a).1) ∧ ∀ b, b < M2.2.1 → (M2.1 b).1 < 1000 → ι b ≠ a) := by
  classical
  obtain ⟨h1, h2, h3, h4, h5, h6⟩ := h
  refine ⟨fun a => if M.2.1 ≤ a then some (M2.2.1 + (a - M.2.1)) else if hb : ∃ b, b < M2.2.1 ∧ (M2.1 b).1 < 1000 ∧ ι b = a then some hb.choose else none, fun b hb => ?_, fun a b hab => ?_, fun a ha => ?_⟩
  · dsimp only
    by_cases q2 : M2.2.1 ≤ b
    · rw [zk_io_ge q2, if_pos (by omega)]
      congr 1
      omega
    have hl : (M2.1 b).1 < 1000 := by
      rcases hb with q | q
      · exact absurd q q2
      · exact q
    have q3 : b < M2.2.1 := by omega
    have g2 := h3 b q3
    have hex : ∃ b', b' < M2.2.1 ∧ (M2.1 b').1 < 1000 ∧ ι b' = ι b := ⟨b, q3, hl, rfl⟩
    rw [zk_io_lt q3, if_neg (by omega), dif_pos hex]
    obtain ⟨k2, k3, k4⟩ := hex.choose_spec
    exact congrArg some (h5 _ _ k2 q3 k3 hl k4)
  · dsimp only at hab
    by_cases q2 : M.2.1 ≤ a
    · rw [if_pos q2] at hab
      cases hab
      exact ⟨by rw [zk_io_ge (by omega)]; omega, by omega, fun q => absurd q (by omega), by omega⟩
    rw [if_neg q2] at hab
    split at hab
    · rename_i hex
      cases hab
      obtain ⟨k2, k3, k4⟩ := hex.choose_spec
      have k5 : 320 ≤ a ↔ 320 ≤ hex.choose := by
        constructor
        · intro q
          by_cases q7 : hex.choose < 320
          · have := (h1 _ q7).1
            omega
          · omega
        · intro q
          have := (h4 _ k2 k3).2.1 q
          omega
      exact ⟨by rw [zk_io_lt k2]; exact k4, k5, fun _ => k3, by omega⟩
    · cases hab
  · dsimp only at ha
    by_cases q2 : M.2.1 ≤ a
    · rw [if_pos q2] at ha
      cases ha
    rw [if_neg q2] at ha
    split at ha
    · cases ha
    · rename_i hex
      refine ⟨by omega, fun q => ?_, fun b k2 k3 k4 => hex ⟨b, k2, k3, k4⟩⟩
      by_cases q7 : (M2.1 a).1 < 1000
      · exact absurd ⟨a, by omega, q7, (h1 a q).1⟩ hex
      · omega
theorem zk_ok.mv {Γ : zk_G} {ρ ρ' : Nat → Nat} {H : Heap} {a b : Nat} {kl : Nat × Nat} {f g : Nat → Value} (h : zk_ok Γ ρ H b kl f) (ha : ρ' a = ρ b) (hk : ∀ k, k < 6 → Γ.2.2.1 k a = Γ.2.2.1 k b) (h1 : zk_N ≤ a → zk_N ≤ b) (h2 : a < zk_N → a = b) (hv : ∀ j, j < kl.2 → zk_v ρ' (g j) = zk_v ρ (f j)) : zk_ok Γ ρ' H a kl g := by
  refine ⟨fun g1 => ⟨(h.1 g1).1, ?_⟩, fun g1 g2 => ⟨(h.2 g1 g2).1, (h.2 g1 g2).2.1, fun g3 => ?_, ?_⟩⟩
  · obtain ⟨cell, c1, c2, c3, c4, c5, c6⟩ := (h.1 g1).2
    exact ⟨cell, by rw [ha]; exact c1, c2, c3, c4, fun q => c5 (h1 q), fun j hj => by rw [hv j hj]; exact c6 j hj⟩
  · have e := h2 g3
    subst e
    exact (h.2 g1 g2).2.2.1 g3
  · obtain ⟨cell, c1, c2, c3, c4, c5, c6, c7⟩ := (h.2 g1 g2).2.2.2
    have hk6 := (h.2 g1 g2).1
    exact ⟨cell, by rw [ha]; exact c1, by rw [c2]; exact (hk _ (by omega)).symm, c3, c4, fun q => c5 (h1 q), c6, fun j hj => by rw [hv j hj]; exact c7 j hj⟩
/-- WHAT HOLDS IN A SMALL MEMORY HOLDS WITHIN A LARGER ONE -/
theorem zk_lift {J : zk_MI} {kc ks : Nat} {As2 : List Value} {ι : Nat → Nat} {M2 M : zk_M} {R : Option Value → zk_M → Prop} {Q : Option Value → zk_M → (Heap → Prop) → Prop}
    (h : ∀ (Γ : zk_G) (F : Heap → Prop) (Q1 : Option Value → zk_M → (Heap → Prop) → Prop), (∀ v M2', R v M2' → Q1 v M2' F) → zk_Go l Γ J d kc ks Q1 0 (zk_ent J.2.2.1 As2) [] M2 F)
    (hM : zk_vw ι M2 M) (hold9 : ∀ a, a < 320 → 1000 ≤ (M2.1 a).1 → (M.1 a).1 < 1000 → Γ.2.2.2.1 a < Γ.2.1.size) (hAs : ∀ v ∈ As2, zk_in_n M2.2.1 v) (hq : ∀ v M2' M', R v M2' → zk_lf ι M2 M M2' M' → Q (v.map (zk_v (zk_io ι M2.2.1 M.2.1))) M' F) : zk_Go l Γ J d kc ks Q 0 (zk_ent J.2.2.1 (As2.map (zk_v ι))) [] M F := by
  intro p e R9 s m args below meth c H locs cells slots Qf A ρ ls hc hr hs9 hRl hA hS hL hW hE
  obtain ⟨⟨b1, b2, b3, b4, b5, b6, b7⟩, f1, f2, f3, f4⟩ := hRl
  have N320 : zk_N = 320 := rfl
  obtain ⟨iv, iv1, iv2, iv3⟩ := zk_ivs hM (by omega)
  obtain ⟨h1, h2, h3, h4, h5, h6⟩ := hM
  obtain ⟨Γ1, hΓ⟩ : ∃ G : zk_G, G = (Γ.1, Γ.2.1, Γ.2.2.1, Γ.2.2.2.1, fun q => Γ.2.2.2.2 q ∨ ∃ a, 320 ≤ a ∧ a < M.2.1 ∧ iv a = none ∧ (M.1 a).1 < 1000 ∧ q = ρ a) := ⟨_, rfl⟩
  obtain ⟨F1, hF1⟩ : ∃ f : Heap → Prop, f = fun H2 => F H2 ∧ ∀ a, a < M.2.1 → iv a = none → zk_ok Γ ρ H2 a (M.1 a) (M.2.2 a) := ⟨_, rfl⟩
  have okc : ∀ {ρ0 : Nat → Nat} {H0 : Heap} {a : Nat} {kl : Nat × Nat} {f : Nat → Value}, zk_ok Γ1 ρ0 H0 a kl f ↔ zk_ok Γ ρ0 H0 a kl f := by
    intro ρ0 H0 a kl f
    rw [hΓ]
    exact Iff.rfl
  have zz : ∀ v, zk_v ρ (zk_v ι v) = zk_v (fun a => ρ (ι a)) v := fun v => by cases v <;> rfl
  have hcx : zk_Cx Γ1 J p s m args meth c := by rw [hΓ]; exact hc
  have hKa := hc.2.2.2.2.2.2.2.2.2.1.1
  have far1 : ∀ q, Γ1.2.2.2.2 q ↔ (Γ.2.2.2.2 q ∨ ∃ a, 320 ≤ a ∧ a < M.2.1 ∧ iv a = none ∧ (M.1 a).1 < 1000 ∧ q = ρ a) := fun q => by rw [hΓ]
  have sz1 : Γ1.2.1 = Γ.2.1 := by rw [hΓ]
  have g41 : Γ1.2.2.2.1 = Γ.2.2.2.1 := by rw [hΓ]
  have hcl : ∀ k a b, k < 6 → (zk_N ≤ a → zk_N ≤ b) → (a < zk_N → a = b) → Γ.2.2.1 k a = Γ.2.2.1 k b := fun k a b hk q1 q2 => by
    by_cases q : a < zk_N
    · rw [q2 q]
    · exact Option.some.inj ((hKa k a hk (by omega)).1.symm.trans (hKa k b hk (q1 (by omega))).1)
  have hR1 : zk_Rl Γ1 (fun a => ρ (ι a)) M2 F1 H := by
    refine ⟨⟨fun a ha => ?_, fun a b ha hb ka kb hab e9 => ?_, by rw [sz1]; exact b3, fun a g1 g2 g3 => ?_, fun a ha => ?_, h6, by omega⟩, ?_, fun H1 H2 g1 g2 g3 g4 => ?_, fun q g => ?_, fun a g1 g2 g3 g4 => ?_⟩
    · by_cases hl : (M2.1 a).1 < 1000
      · obtain ⟨i2, i3, i4⟩ := h4 a ha hl
        have q := b1 (ι a) (h3 a ha)
        rw [i2] at q
        have q1 : zk_N ≤ a → zk_N ≤ ι a := fun q => i3 (by omega)
        have q2 : a < zk_N → a = ι a := fun q => ((h1 a (by omega)).1).symm
        exact okc.mpr (q.mv rfl (fun k hk => hcl k a (ι a) hk q1 q2) q1 q2 (fun j hj => by rw [i4 j hj, zz]))
      · exact ⟨fun g => absurd g (by omega), fun g1 g2 => absurd g2 hl⟩
    · obtain ⟨i2, i3, -⟩ := h4 a ha ka
      obtain ⟨j2, j3, -⟩ := h4 b hb kb
      refine h5 a b ha hb ka kb (b2 (ι a) (ι b) (h3 a ha) (h3 b hb) (by rw [i2]; exact ka) (by rw [j2]; exact kb) ?_ e9)
      rcases hab with q | q
      · exact Or.inl (by have := j3 (by omega); omega)
      · exact Or.inr (by rw [(h1 a (by omega)).1, (h1 b (by omega)).1]; exact q)
    · obtain ⟨i2, i3, -⟩ := h4 a g2 g3
      rw [sz1]
      exact b4 (ι a) (by have := i3 (by omega); omega) (h3 a g2) (by rw [i2]; exact g3)
    · show ρ (ι a) = _
      rw [(h1 a (by omega)).1, g41]
      exact b5 a ha
    · rw [hF1]
      exact ⟨f1, fun a g1 g2 => b1 a g1⟩
    · rw [hF1] at g4 ⊢
      rw [sz1] at g2
      exact ⟨f2 H1 H2 (fun q hq => g1 q ((far1 q).mpr (Or.inl hq))) g2 g3 g4.1, fun a k1 k2 => (g4.2 a k1 k2).kept (fun hk => by
        by_cases k3 : 320 ≤ a
        · exact g1 _ ((far1 _).mpr (Or.inr ⟨a, k3, k1, k2, hk, rfl⟩))
        · refine g2 _ ?_
          rw [b5 a (by omega)]
          exact hold9 a (by omega) ((iv3 a k2).2.1 (by omega)) hk)⟩
    · rw [sz1]
      rcases (far1 q).mp g with g | ⟨a, g0, g1, g2, g3, rfl⟩
      · exact f3 q g
      · exact ⟨(b1 a g1).lt g3, b4 a (by omega) g1 g3⟩
    · obtain ⟨i2, i3, -⟩ := h4 a g2 g3
      rcases (far1 _).mp g4 with g4 | ⟨x, k0, k1, k2, k3, k4⟩
      · exact f4 (ι a) (by have := i3 (by omega); omega) (h3 a g2) (by rw [i2]; exact g3) g4
      · have e9 := b2 (ι a) x (h3 a g2) k1 (by rw [i2]; exact g3) k3 (Or.inl (by omega)) k4
        have e8 := iv1 a (Or.inr g3)
        rw [zk_io_lt g2, e9, k2] at e8
        cases e8
  have hA1 : zk_A Γ1 (fun a => ρ (ι a)) M2 s.heap.size A := by
    refine ⟨fun a g1 g2 g3 => ?_, hA.2.1, fun q g => ?_⟩
    · obtain ⟨i2, i3, -⟩ := h4 a g2 g3
      exact hA.1 (ι a) (by have := i3 (by omega); omega) (h3 a g2) (by rw [i2]; exact g3)
    · rcases (far1 q).mp g with g | ⟨a, g0, g1, g2, g3, rfl⟩
      · exact hA.2.2 q g
      · exact hA.1 a (by omega) g1 g3
  have hL1 : zk_Lr (fun a => ρ (ι a)) M2.2.1 J.2.2.1 (zk_ent J.2.2.1 As2) ls := by
    obtain ⟨k1, k2, k3, k4⟩ := hL
    rw [zk_ent_map] at k2 k4
    rw [List.length_map] at k2
    refine ⟨k1, k2, k3, fun i v hi => ⟨?_, hAs v (zk_ent_mem hi)⟩⟩
    have e9 : ((zk_ent J.2.2.1 As2).map (Option.map (zk_v ι)))[i]? = some (some (zk_v ι v)) := by rw [List.getElem?_map, hi]; rfl
    rw [(k4 i _ e9).1, zz]
  have back : ∀ (M2' : zk_M) (ρ2 : Nat → Nat) (H' : Heap), zk_Rl Γ1 ρ2 M2' F1 H' → zk_ext (fun a => ρ (ι a)) M2 H ρ2 M2' H' →
      ∃ (M' : zk_M) (ρ' : Nat → Nat), zk_lf ι M2 M M2' M' ∧ zk_Rl Γ ρ' M' F H' ∧ zk_ext ρ M H ρ' M' H' ∧ ∀ v, zk_in_n M2'.2.1 v → zk_v ρ' (zk_v (zk_io ι M2.2.1 M.2.1) v) = zk_v ρ2 v ∧ zk_in_n M'.2.1 (zk_v (zk_io ι M2.2.1 M.2.1) v) := by
    intro M2' ρ2 H' hR' hx
    obtain ⟨⟨c1, c2, c3, c4, c5, c6, c7⟩, g1, g2, g3, g4⟩ := hR'
    obtain ⟨x1, x2, x3, x4⟩ := hx
    rw [hF1] at g1
    rw [sz1] at c3
    obtain ⟨io, hio⟩ : ∃ f : Nat → Nat, f = zk_io ι M2.2.1 M.2.1 := ⟨_, rfl⟩
    have io1 : ∀ b, b < M2.2.1 → io b = ι b := fun b hb => by rw [hio]; exact zk_io_lt hb
    have io2 : ∀ b, M2.2.1 ≤ b → io b = M.2.1 + (b - M2.2.1) := fun b hb => by rw [hio]; exact zk_io_ge hb
    rw [← hio] at iv1 ⊢
    have iv2' : ∀ a b, iv a = some b → io b = a ∧ (320 ≤ a ↔ 320 ≤ b) ∧ (b < M2.2.1 → (M2.1 b).1 < 1000) ∧ (M.2.1 ≤ a ↔ M2.2.1 ≤ b) := by rw [hio]; exact iv2
    obtain ⟨ρ', hρ⟩ : ∃ r : Nat → Nat, r = fun a => if a < M.2.1 then ρ a else ρ2 (M2.2.1 + (a - M.2.1)) := ⟨_, rfl⟩
    have ho : ∀ a, a < M.2.1 → ρ' a = ρ a := fun a ha => by rw [hρ]; exact if_pos ha
    have hn : ∀ a, M.2.1 ≤ a → ρ' a = ρ2 (M2.2.1 + (a - M.2.1)) := fun a ha => by rw [hρ]; exact if_neg (by omega)
    have hk : ∀ b, b < M2'.2.1 → ρ' (io b) = ρ2 b := fun b hb => by
      by_cases q : b < M2.2.1
      · rw [io1 b q, ho _ (h3 b q), (x1 b q).1]
      · rw [io2 b (by omega), hn _ (by omega)]
        congr 1
        omega
    have hin : ∀ b, b < M2'.2.1 → io b < M.2.1 + (M2'.2.1 - M2.2.1) := fun b hb => by
      by_cases q : b < M2.2.1
      · rw [io1 b q]
        have := h3 b q
        omega
      · rw [io2 b (by omega)]
        omega
    have hv : ∀ v, zk_in_n M2'.2.1 v → zk_v ρ' (zk_v io v) = zk_v ρ2 v ∧ zk_in_n (M.2.1 + (M2'.2.1 - M2.2.1)) (zk_v io v) := fun v hv => by
      cases v with
      | ref x => exact ⟨congrArg Value.ref (hk x hv), hin x hv⟩
      | _ => exact ⟨rfl, trivial⟩
    have c6' : ∀ b j, b < M2'.2.1 → j < (M2'.1 b).2 → zk_in_n M2'.2.1 (M2'.2.2 b j) := fun b j hb hj => by
      unfold zk_in_n
      split
      · rename_i x hx9
        exact c6 b j x hb hj hx9
      · trivial
    have hlv : ∀ b, b < M2'.2.1 → (M2'.1 b).1 < 1000 → (M2.2.1 ≤ b ∨ (M2.1 b).1 < 1000) := fun b hb hl => by
      by_cases q : b < M2.2.1
      · rcases (x1 b q).2 with k | k
        · rw [k] at hl; exact Or.inr hl
        · exact absurd hl (by omega)
      · exact Or.inl (by omega)
    obtain ⟨M', hM'⟩ : ∃ m : zk_M, m = ((fun a => match iv a with | some b => M2'.1 b | none => M.1 a), M.2.1 + (M2'.2.1 - M2.2.1), fun a => match iv a with | some b => fun j => zk_v io (M2'.2.2 b j) | none => M.2.2 a) := ⟨_, rfl⟩
    have m1 : ∀ a b, iv a = some b → M'.1 a = M2'.1 b ∧ M'.2.2 a = fun j => zk_v io (M2'.2.2 b j) := fun a b hab => by rw [hM']; dsimp only; rw [hab]; exact ⟨rfl, rfl⟩
    have m2 : ∀ a, iv a = none → M'.1 a = M.1 a ∧ M'.2.2 a = M.2.2 a := fun a hab => by rw [hM']; dsimp only; rw [hab]; exact ⟨rfl, rfl⟩
    have m3 : M'.2.1 = M.2.1 + (M2'.2.1 - M2.2.1) := by rw [hM']
    have hb9 : ∀ a b, a < M'.2.1 → iv a = some b → b < M2'.2.1 := fun a b ha hab => by
      obtain ⟨k1, k2, k3, k4⟩ := iv2' a b hab
      rw [m3] at ha
      by_cases q : b < M2.2.1
      · omega
      · rw [io2 b (by omega)] at k1
        omega
    have vw9 : zk_vw io M2' M' := by
      refine ⟨fun a ha => ?_, by omega, fun b hb => by rw [m3]; exact hin b hb, fun b hb hl => ?_, fun a b ha hb la lb e9 => ?_, c6⟩
      · have e1 : io a = a := (io1 a (by omega)).trans (h1 a ha).1
        refine ⟨e1, ?_⟩
        by_cases hl : (M2.1 a).1 < 1000
        · have e2 := iv1 a (Or.inr hl)
          rw [e1] at e2
          exact Or.inl (m1 a a e2).1
        · right
          rcases (x1 a (by omega)).2 with k | k
          · rw [k]; omega
          · exact k
      · have e2 := iv1 b (hlv b hb hl)
        have e3 := iv2' _ _ e2
        refine ⟨(m1 _ _ e2).1, fun q => e3.2.1.mpr q, fun j hj => ?_⟩
        rw [(m1 _ _ e2).2]
      · have e1 := iv1 a (hlv a ha la)
        have e2 := iv1 b (hlv b hb lb)
        rw [e9, e2] at e1
        exact (Option.some.inj e1).symm
    refine ⟨M', ρ', ⟨m3, x2, by rw [← hio]; exact vw9, fun a k2 k3 => ?_⟩, ⟨⟨fun a ha => ?_, fun a b ha hb ka kb hab e9 => ?_, c3, fun a k1 k2 k3 => ?_, fun a ha => (ho a (by omega)).trans (b5 a ha), fun a j x ha hj hxx => ?_, by rw [m3]; omega⟩, g1.1, f2, fun q hq => ⟨Nat.lt_of_lt_of_le (f3 q hq).1 x3, (f3 q hq).2⟩, fun a k1 k2 k3 => ?_⟩, ⟨fun a ha => ⟨ho a ha, ?_⟩, by rw [m3]; omega, x3, fun a k1 k2 k3 => ?_⟩, fun v hw => by rw [m3]; exact hv v hw⟩
    · cases hab : iv a with
      | none => exact m2 a hab
      | some b =>
        obtain ⟨i1, i2, i3, i4⟩ := iv2' a b hab
        have q : b < M2.2.1 := by omega
        rw [io1 b q] at i1
        exact absurd i1 (k3 b q (i3 q))
    · cases hab : iv a with
      | none =>
        rw [(m2 a hab).1, (m2 a hab).2]
        have ha2 := (iv3 a hab).1
        exact (g1.2 a ha2 hab).re (fun j hj => by
          have hin9 : zk_in_n M.2.1 (M.2.2 a j) := by
            unfold zk_in_n
            split
            · rename_i x hx9
              exact b6 a j x ha2 hj hx9
            · trivial
          exact zk_v_re ho hin9) (ho a ha2)
      | some b =>
        obtain ⟨i1, i2, i3, i4⟩ := iv2' a b hab
        have hb := hb9 a b ha hab
        rw [(m1 a b hab).1, (m1 a b hab).2]
        have q1 : zk_N ≤ a → zk_N ≤ b := fun q => i2.mp q
        have q2 : a < zk_N → a = b := fun q => by
          have hb3 : b < 320 := by omega
          rw [io1 b (by omega), (h1 b hb3).1] at i1
          exact i1.symm
        refine (okc.mp (c1 b hb)).mv ?_ (fun k hk => hcl k a b hk q1 q2) q1 q2 (fun j hj => (hv _ (c6' b j hb hj)).1)
        rw [← i1]
        exact hk b hb
    · cases qa : iv a with
      | none =>
        obtain ⟨a2, a1, a3⟩ := iv3 a qa
        rw [(m2 a qa).1] at ka
        rw [ho a a2] at e9
        cases qb : iv b with
        | none =>
          obtain ⟨d2, d1, d3⟩ := iv3 b qb
          rw [(m2 b qb).1] at kb
          rw [ho b d2] at e9
          exact b2 a b a2 d2 ka kb hab e9
        | some y =>
          obtain ⟨i1, i2, i3, i4⟩ := iv2' b y qb
          have hy := hb9 b y hb qb
          rw [(m1 b y qb).1] at kb
          rw [← i1, hk y hy] at e9
          by_cases q : y < M2.2.1
          · have e8 : ι y = b := (io1 y q).symm.trans i1
            rw [(x1 y q).1] at e9
            dsimp only at e9
            rw [e8] at e9
            have g := (h4 y q (i3 q)).1
            rw [e8] at g
            exact b2 a b a2 (by have := h3 y q; omega) ka (by rw [g]; exact i3 q) hab e9
          · exfalso
            have s1 := x4 y (by omega) hy kb
            have s2 := (b1 a a2).lt ka
            omega
      | some x =>
        obtain ⟨j1, j2, j3, j4⟩ := iv2' a x qa
        have hx9 := hb9 a x ha qa
        rw [(m1 a x qa).1] at ka
        rw [← j1, hk x hx9] at e9
        cases qb : iv b with
        | none =>
          obtain ⟨d2, d1, d3⟩ := iv3 b qb
          rw [(m2 b qb).1] at kb
          rw [ho b d2] at e9
          by_cases q : x < M2.2.1
          · have e8 : ι x = a := (io1 x q).symm.trans j1
            rw [(x1 x q).1] at e9
            dsimp only at e9
            rw [e8] at e9
            have g := (h4 x q (j3 q)).1
            rw [e8] at g
            exact b2 a b (by have := h3 x q; omega) d2 (by rw [g]; exact j3 q) kb hab e9
          · exfalso
            have s1 := x4 x (by omega) hx9 ka
            have s2 := (b1 b d2).lt kb
            omega
        | some y =>
          obtain ⟨i1, i2, i3, i4⟩ := iv2' b y qb
          have hy := hb9 b y hb qb
          rw [(m1 b y qb).1] at kb
          rw [← i1, hk y hy] at e9
          have e7 := c2 x y hx9 hy ka kb ?_ e9
          · rw [← j1, ← i1, e7]
          · rcases hab with q | q
            · exact Or.inl (i2.mp (by omega))
            · refine Or.inr ?_
              have hx3 : x < 320 := by have := j2; omega
              have hy3 : y < 320 := by have := i2; omega
              rw [io1 x (by omega), (h1 x hx3).1] at j1
              rw [io1 y (by omega), (h1 y hy3).1] at i1
              omega
    · cases qa : iv a with
      | none =>
        obtain ⟨a2, a1, a3⟩ := iv3 a qa
        rw [(m2 a qa).1] at k3
        rw [ho a a2]
        exact b4 a k1 a2 k3
      | some x =>
        obtain ⟨j1, j2, j3, j4⟩ := iv2' a x qa
        have hx9 := hb9 a x k2 qa
        rw [(m1 a x qa).1] at k3
        rw [← j1, hk x hx9]
        have q := c4 x (j2.mp (by omega)) hx9 k3
        rw [sz1] at q
        exact q
    · cases qa : iv a with
      | none =>
        obtain ⟨a2, a1, a3⟩ := iv3 a qa
        rw [(m2 a qa).1] at hj
        rw [(m2 a qa).2] at hxx
        rw [m3]
        exact Nat.lt_of_lt_of_le (b6 a j x a2 hj hxx) (Nat.le_add_right _ _)
      | some y =>
        have hy := hb9 a y ha qa
        rw [(m1 a y qa).1] at hj
        rw [(m1 a y qa).2] at hxx
        have q := (hv _ (c6' y j hy hj)).2
        dsimp only at hxx
        rw [hxx] at q
        rw [m3]
        exact q
    · cases qa : iv a with
      | none =>
        obtain ⟨a2, a1, a3⟩ := iv3 a qa
        rw [(m2 a qa).1] at k3
        rw [ho a a2]
        exact f4 a k1 a2 k3
      | some x =>
        obtain ⟨j1, j2, j3, j4⟩ := iv2' a x qa
        have hx9 := hb9 a x k2 qa
        rw [(m1 a x qa).1] at k3
        rw [← j1, hk x hx9]
        exact fun q => g4 x (j2.mp (by omega)) hx9 k3 ((far1 _).mpr (Or.inl q))
    · cases qa : iv a with
      | none => exact Or.inl (m2 a qa).1
      | some x =>
        obtain ⟨j1, j2, j3, j4⟩ := iv2' a x qa
        have q : x < M2.2.1 := by omega
        rw [(m1 a x qa).1]
        rcases (x1 x q).2 with k | k
        · rw [k]
          rw [io1 x q] at j1
          by_cases hl : (M2.1 x).1 < 1000
          · rw [← j1, (h4 x q hl).1]
            exact Or.inl rfl
          · exact Or.inr (by omega)
        · exact Or.inr k
    · cases qa : iv a with
      | none => exact absurd (iv3 a qa).1 (by omega)
      | some x =>
        obtain ⟨j1, j2, j3, j4⟩ := iv2' a x qa
        have hx9 := hb9 a x k2 qa
        rw [(m1 a x qa).1] at k3
        rw [← j1, hk x hx9]
        exact x4 x (j4.mp k1) hx9 k3
  refine h Γ1 F1 (fun v M' F' => R v M' ∧ F' = F1) (fun v M' hr => ⟨hr, rfl⟩) p e R9 s m args below meth c H locs cells slots Qf A (fun a => ρ (ι a)) ls hcx hr hs9 hR1 hA1 hS hL1 trivial ⟨?_, ?_⟩
  · intro v M2' F' ρ2 H' locs' cells' slots' pc' ls' hq1 hR' hx hwf hS' k1 k2 hret
    obtain ⟨hr', rfl⟩ := hq1
    obtain ⟨M', ρ', y1, y2, y3, y4⟩ := back M2' ρ2 H' hR' hx
    have ev : v.map (zk_v ρ2) = (v.map (zk_v (zk_io ι M2.2.1 M.2.1))).map (zk_v ρ') := by
      cases v with
      | none => rfl
      | some w => exact congrArg some (y4 w (hwf w rfl)).1.symm
    rw [ev]
    refine hE.1 _ M' F ρ' H' locs' cells' slots' pc' ls' (hq v M2' M' hr' y1) y2 y3 (fun w hw => ?_) hS' k1 k2 ?_
    · cases v with
      | none => cases hw
      | some w0 => cases hw; exact (y4 w0 (hwf w0 rfl)).2
    · cases v with
      | none => exact hret
      | some w0 => cases w0 <;> exact hret
  · intro M2' F' ρ2 H' locs' cells' slots' pc' ls' hq1 hR' hx hS' k1 k2 k3 k4
    obtain ⟨hr', rfl⟩ := hq1
    obtain ⟨M', ρ', y1, y2, y3, y4⟩ := back M2' ρ2 H' hR' hx
    exact hE.2 M' F ρ' H' locs' cells' slots' pc' ls' (hq _ M2' M' hr' y1) y2 y3 hS' k1 k2 k3 k4
/-- cells numbered anew, where the answer alone counts -/
theorem zk_renum {I : zk_MI} {kc ks : Nat} {Q : Option Value → zk_M → (Heap → Prop) → Prop} {pc : Nat} {L L2 : List (Option Value)} {M M2 : zk_M} (ι : Nat → Nat) (hnt : I.1.name ∉ zk_mt) (hqi : ∀ v M' F', Q v M' F' → ∃ x, v = some (.int x)) (hqq : ∀ v M' F' M3 F3, Q v M' F' → Q v M3 F3)
    (h0 : ∀ a, a < 320 → ι a = a) (hn : 320 ≤ M2.2.1) (h1 : ∀ a, a < M2.2.1 → (M2.1 a).1 < 1000 → ι a < M.2.1 ∧ M.1 (ι a) = M2.1 a ∧ (320 ≤ a → 320 ≤ ι a) ∧ ∀ j, j < (M2.1 a).2 → M.2.2 (ι a) j = zk_v ι (M2.2.2 a j))
    (h2 : ∀ a b, a < M2.2.1 → b < M2.2.1 → (M2.1 a).1 < 1000 → (M2.1 b).1 < 1000 → ι a = ι b → a = b) (h3 : ∀ a j x, a < M2.2.1 → j < (M2.1 a).2 → M2.2.2 a j = .ref x → x < M2.2.1) (hll : L2.length = L.length) (hL2 : ∀ (i : Nat) (v : Value), L2[i]? = some (some v) → L[i]? = some (some (zk_v ι v)) ∧ zk_in_n M2.2.1 v)
    (k : zk_Go l Γ I d kc ks Q pc L2 [] M2 F) : zk_Go l Γ I d kc ks Q pc L [] M F := by
  intro p e R9 s m args below meth c H locs cells slots Qf A ρ ls hc hr hs9 hRl hA hS hL hW hE
  obtain ⟨⟨b1, b2, b3, b4, b5, b6, b7⟩, f1, f2, f3, f4⟩ := hRl
  have N320 : zk_N = 320 := rfl
  have zz : ∀ v, zk_v ρ (zk_v ι v) = zk_v (fun a => ρ (ι a)) v := fun v => by cases v <;> rfl
  have hKa := hc.2.2.2.2.2.2.2.2.2.1.1
  have hcls : ∀ kx a, kx < 6 → a < M2.2.1 → (M2.1 a).1 < 1000 → Γ.2.2.1 kx (ι a) = Γ.2.2.1 kx a := fun kx a hk ha hl => by
    by_cases q : a < 320
    · rw [h0 a q]
    · have := (h1 a ha hl).2.2.1 (by omega)
      exact Option.some.inj ((hKa kx (ι a) hk (by omega)).1.symm.trans (hKa kx a hk (by omega)).1)
  have hR2 : zk_Rl Γ (fun a => ρ (ι a)) M2 F H := by
    refine ⟨⟨fun a ha => ?_, fun a b ha hb ka kb hab e9 => ?_, b3, fun a g1 g2 g3 => ?_, fun a ha => ?_, h3, hn⟩, f1, f2, f3, fun a g1 g2 g3 => ?_⟩
    · by_cases hl : (M2.1 a).1 < 1000
      · obtain ⟨i1, i2, i3, i4⟩ := h1 a ha hl
        have q := b1 (ι a) i1
        rw [i2] at q
        have flag : zk_N ≤ a → zk_N ≤ ι a := fun q => by have := i3 (by omega); omega
        refine ⟨fun g1 => ⟨(q.1 g1).1, ?_⟩, fun g1 g2 => ⟨(q.2 g1 g2).1, (q.2 g1 g2).2.1, fun g3 => ?_, ?_⟩⟩
        · obtain ⟨cell, c1, c2, c3, c4, c5, c6⟩ := (q.1 g1).2
          exact ⟨cell, c1, c2, c3, c4, fun g => c5 (flag g), fun j hj => by rw [c6 j hj, i4 j hj, zz]⟩
        · have e9 := h0 a (by omega)
          have q3 := (q.2 g1 g2).2.2.1
          rw [e9] at q3
          exact q3 g3
        · obtain ⟨cell, c1, c2, c3, c4, c5, c6, c7⟩ := (q.2 g1 g2).2.2.2
          have hk6 := (q.2 g1 g2).1
          exact ⟨cell, c1, by rw [c2]; exact hcls _ a (by omega) ha hl, c3, c4, fun g => c5 (flag g), c6, fun j hj => by rw [c7 j hj, i4 j hj, zz]⟩
      · exact ⟨fun g => absurd g (by omega), fun g1 g2 => absurd g2 hl⟩
    · obtain ⟨i1, i2, i3, -⟩ := h1 a ha ka
      obtain ⟨j1, j2, j3, -⟩ := h1 b hb kb
      refine h2 a b ha hb ka kb (b2 (ι a) (ι b) i1 j1 (by rw [i2]; exact ka) (by rw [j2]; exact kb) ?_ e9)
      rcases hab with q | q
      · exact Or.inl (by have := j3 (by omega); omega)
      · exact Or.inr (by rw [h0 a (by omega), h0 b (by omega)]; exact q)
    · obtain ⟨i1, i2, i3, -⟩ := h1 a g2 g3
      exact b4 (ι a) (by have := i3 (by omega); omega) i1 (by rw [i2]; exact g3)
    · show ρ (ι a) = _
      rw [h0 a (by omega)]
      exact b5 a ha
    · obtain ⟨i1, i2, i3, -⟩ := h1 a g2 g3
      exact f4 (ι a) (by have := i3 (by omega); omega) i1 (by rw [i2]; exact g3)
  have hA2 : zk_A Γ (fun a => ρ (ι a)) M2 s.heap.size A := ⟨fun a g1 g2 g3 => by
    obtain ⟨i1, i2, i3, -⟩ := h1 a g2 g3
    exact hA.1 (ι a) (by have := i3 (by omega); omega) i1 (by rw [i2]; exact g3), hA.2.1, hA.2.2⟩
  have hL3 : zk_Lr (fun a => ρ (ι a)) M2.2.1 I.2.2.1 L2 ls := ⟨hL.1, hll.trans hL.2.1, hL.2.2.1, fun i v hi => by
    obtain ⟨g1, g2⟩ := hL2 i v hi
    exact ⟨by rw [(hL.2.2.2 i _ g1).1, zz], g2⟩⟩
  refine k p e R9 s m args below meth c H locs cells slots Qf A (fun a => ρ (ι a)) ls hc hr hs9 hR2 hA2 hS hL3 trivial ⟨?_, fun M' F' ρ' H' locs' cells' slots' pc' ls' a1 a2 a3 a4 a5 a6 a7 a8 => absurd a8.1 hnt⟩
  intro v M' F' ρ' H' locs' cells' slots' pc' ls' hq1 hR' hx hwf hS' k1 k2 hret
  obtain ⟨x, rfl⟩ := hqi _ _ _ hq1
  obtain ⟨⟨c1, c2, c3, c4, c5, c6, c7⟩, g1, g2, g3, g4⟩ := hR'
  exact hE.1 (some (.int x)) (fun _ => (1000, 0), M.2.1, fun _ _ => .null) F' ρ H' locs' cells' slots' pc' ls' (hqq _ _ _ _ _ hq1)
    ⟨⟨fun a ha => ⟨fun q => absurd (show 1000 < 100 from q) (by omega), fun _ q => absurd (show 1000 < 1000 from q) (by omega)⟩, fun a b ha hb ka => absurd (show 1000 < 1000 from ka) (by omega), c3, fun a _ _ q => absurd (show 1000 < 1000 from q) (by omega), b5, fun a j y ha hj => absurd (show j < 0 from hj) (by omega), b7⟩, g1, g2, g3, fun a _ _ q => absurd (show 1000 < 1000 from q) (by omega)⟩
    ⟨fun a ha => ⟨rfl, Or.inr (Nat.le_refl _)⟩, Nat.le_refl _, hx.2.2.1, fun a q1 q2 => absurd (show a < M.2.1 from q2) (by omega)⟩ (fun w hw => by cases hw; trivial) hS' k1 k2 hret
end

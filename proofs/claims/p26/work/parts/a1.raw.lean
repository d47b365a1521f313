/-! THE CHAIN BY HAND AS IT IS MADE: its cells, wherever they lie -/
section
variable {l : Launch} {Γ : zk_G} {d : Nat} {F : Heap → Prop}
def fu {α : Type} (f : Nat → α) (k : Nat) (v : α) : Nat → α := fun x => if x = k then v else f x
theorem fu_a {α : Type} {f : Nat → α} {k : Nat} {v : α} : fu f k v k = v := if_pos rfl
theorem fu_n {α : Type} {f : Nat → α} {k x : Nat} {v : α} (h : x ≠ k) : fu f k v x = f x := if_neg h
/-- the old cells, and the script -/
def zOl0 (len : Nat) (s : Nat → Int32) (M : zk_M) : Prop := 320 ≤ M.2.1 ∧ (∀ a, a < 320 → a ≠ 56 → M.1 a = zo_s a ∧ M.2.2 a = zo_v a) ∧ M.1 56 = (100, len) ∧ ∀ j, j < len → M.2.2 56 j = .int (s j)
theorem zOl0.keep {len : Nat} {s : Nat → Int32} {M M' : zk_M} (h : zOl0 len s M) (hn : M.2.1 ≤ M'.2.1) (e : ∀ c, c < 320 → M'.1 c = M.1 c ∧ M'.2.2 c = M.2.2 c) : zOl0 len s M' := by
  obtain ⟨h1, h2, h3, h4⟩ := h
  refine ⟨by omega, fun a ha hb => ⟨(e a ha).1.trans (h2 a ha hb).1, (e a ha).2.trans (h2 a ha hb).2⟩, (e 56 (by omega)).1.trans h3, fun j hj => ?_⟩
  rw [(e 56 (by omega)).2]
  exact h4 j hj
theorem zOl0.ol {len : Nat} {s : Nat → Int32} {M M' : zk_M} (h : zOl0 len s M) (e : zOl M M') : zOl0 len s M' := h.keep e.1 (fun c hc => ⟨e.2.1 c (by have := h.1; omega), e.2.2 c (by have := h.1; omega)⟩)
theorem zOl0.kp {len : Nat} {s : Nat → Int32} {M M' : zk_M} {a b b' : Nat} (h : zOl0 len s M) (ha : 320 ≤ a ∧ 320 ≤ b) (e : zKp M M' a b b') : zOl0 len s M' := h.keep e.1 (fun c hc => ⟨e.2.1 c (by have := h.1; omega), e.2.2.1 c (by have := h.1; omega) (by omega) (by omega)⟩)
theorem zOl0.up {len : Nat} {s : Nat → Int32} {M : zk_M} (h : zOl0 len s M) {q i : Nat} {v : Value} (hq : 320 ≤ q) : zOl0 len s (M.1, M.2.1, zk_up M.2.2 q i v) := h.keep (Nat.le_refl _) (fun c hc => ⟨rfl, zk_up_ne (by omega)⟩)
theorem zOl0.dig {len : Nat} {s : Nat → Int32} {M : zk_M} (h : zOl0 len s M) : zDig M := by
  obtain ⟨h1, h2, h3, h4⟩ := h
  refine ⟨(h2 49 (by decide) (by decide)).1, (h2 50 (by decide) (by decide)).1, fun j hj => ?_⟩
  rw [(h2 49 (by decide) (by decide)).2, (h2 50 (by decide) (by decide)).2]
  exact ⟨rfl, rfl⟩
theorem zOl0.cell {len : Nat} {s : Nat → Int32} {M : zk_M} (h : zOl0 len s M) (hl : len < 2147483648) {k : Nat} (hk : k < 100000) : zk_Does l Γ mL_cell d 0 0 [.ref 56, .int (iZ (k : Int))] M F (some (.int (lC s len k))) M F := zL_cell h.2.2.1 h.2.2.2 hl hk
/-- a string constant -/
theorem zOl0.str {len : Nat} {s : Nat → Int32} {M : zk_M} (h : zOl0 len s M) (i n : Nat) (g : List Int) (hi : i + 100 < 320) (h5 : i ≠ 56 ∧ i + 100 ≠ 56) (e1 : zo_s i = (8, 2)) (e2 : zo_v i 0 = .ref (i + 100)) (e3 : zo_v i 1 = .int (iZ 0)) (e4 : zo_s (i + 100) = (103, n)) (e5 : g.length = n) (e6 : n < 100000) (e7 : ∀ j, j < n → zo_v (i + 100) j = .int (iZ (g.getD j 0)) ∧ 0 ≤ g.getD j 0 ∧ g.getD j 0 < 128) : zSg M i (i + 100) g := by
  obtain ⟨h1, h2, h3, h4⟩ := h
  obtain ⟨a1, a2⟩ := h2 i (by omega) h5.1
  obtain ⟨b1, b2⟩ := h2 (i + 100) hi h5.2
  refine ⟨2, a1.trans e1, Nat.le_refl _, by rw [a2]; exact e2, by rw [a2]; exact e3, by rw [b1, e4, e5], by omega, fun j hj => ?_⟩
  rw [b2]
  exact e7 j (by omega)
theorem zSB.up {M : zk_M} {a b cap : Nat} {t : List Int} (h : zSB M a b cap t) {q i : Nat} {v : Value} (hq : q ≠ a ∧ q ≠ b) : zSB (M.1, M.2.1, zk_up M.2.2 q i v) a b cap t := by
  obtain ⟨s1, b1, r⟩ := h
  refine ⟨s1, b1, ?_⟩
  show (zk_up M.2.2 q i v a 0 = _ ∧ zk_up M.2.2 q i v a 1 = _ ∧ zk_up M.2.2 q i v a 3 = _) ∧ _ ∧ _ ∧ (∀ j, j < cap → ∃ z, zk_up M.2.2 q i v b j = _ ∧ _) ∧ (∀ j, j < t.length → zk_up M.2.2 q i v b j = _) ∧ _
  rw [zk_up_ne (Ne.symm hq.1), zk_up_ne (Ne.symm hq.2)]
  exact r
theorem zOl.up {M M' : zk_M} (h : zOl M M') {q i : Nat} {v : Value} (hq : M.2.1 ≤ q) : zOl M (M'.1, M'.2.1, zk_up M'.2.2 q i v) := ⟨h.1, h.2.1, fun c hc => (zk_up_ne (by omega)).trans (h.2.2 c hc)⟩
theorem zOl.rfl' {M : zk_M} : zOl M M := ⟨Nat.le_refl _, fun _ _ => rfl, fun _ _ => rfl⟩
/-- a table at t of N rows of w numbers, of which n are there -/
def zRw (M : zk_M) (t N n w : Nat) (r : Nat → Nat) (V : Nat → Nat → Int) : Prop :=
  (M.1 t = (105, N) ∧ 320 ≤ t ∧ t < M.2.1) ∧ ∀ j, j < n → M.2.2 t j = .ref (r j) ∧ M.1 (r j) = (100, w) ∧ 320 ≤ r j ∧ r j < M.2.1 ∧ ∀ i, i < w → M.2.2 (r j) i = .int (iZ (V j i))
/-- the chain by hand, at S -/
def zLI (M : zk_M) (S : Nat) (tk c n : Nat → Nat) (r : Nat → Nat → Nat) (V : Nat → Nat → Nat → Int) : Prop :=
  (M.1 S = (7, 8) ∧ 320 ≤ S ∧ S < M.2.1) ∧ (M.2.2 S 0 = .int (iZ 0) ∧ M.2.2 S 1 = .int (iZ 0) ∧ M.2.2 S 2 = .int (iZ (-1)) ∧ ∀ k, k < 5 → M.2.2 S (3 + k) = .ref (tk k)) ∧
  (∀ k, k < 5 → zRw M (tk k) (c k) (n k) (zG_w k) (r k) (V k)) ∧ (∀ k k', k < 5 → k' < 5 → tk k = tk k' → k = k') ∧
  ∀ k k' j j', k < 5 → k' < 5 → j < n k → j' < n k' → r k j = r k' j' → k = k' ∧ j = j'
section
variable {M M' : zk_M} {S : Nat} {tk c n : Nat → Nat} {r : Nat → Nat → Nat} {V : Nat → Nat → Nat → Int}
/-- what the cells of the chain by hand hold stays -/
theorem zLI.fr (h : zLI M S tk c n r V) (hn : M.2.1 ≤ M'.2.1) (h1 : ∀ x, x < M.2.1 → M'.1 x = M.1 x) (h2 : ∀ x, x < M.2.1 → ((M.1 x).1 = 7 ∨ (M.1 x).1 = 105 ∨ (M.1 x).1 = 100) → M'.2.2 x = M.2.2 x) : zLI M' S tk c n r V := by
  obtain ⟨⟨s1, s2, s3⟩, s4, t1, t2, t3⟩ := h
  refine ⟨⟨(h1 S s3).trans s1, s2, by omega⟩, by rw [h2 S s3 (Or.inl (by rw [s1]))]; exact s4, fun k hk => ?_, t2, t3⟩
  obtain ⟨⟨q1, q2, q3⟩, q4⟩ := t1 k hk
  refine ⟨⟨(h1 _ q3).trans q1, q2, by omega⟩, fun j hj => ?_⟩
  obtain ⟨p1, p2, p3, p4, p5⟩ := q4 j hj
  rw [h2 _ q3 (Or.inr (Or.inl (by rw [q1]))), h2 _ p4 (Or.inr (Or.inr (by rw [p2])))]
  exact ⟨p1, (h1 _ p4).trans p2, p3, by omega, p5⟩
theorem zLI.ol (h : zLI M S tk c n r V) (e : zOl M M') : zLI M' S tk c n r V := h.fr e.1 e.2.1 (fun x hx _ => e.2.2 x hx)
theorem zLI.kp {a b b' cap : Nat} {t : List Int} (h : zLI M S tk c n r V) (g : zSB M a b cap t) (e : zKp M M' a b b') : zLI M' S tk c n r V := h.fr e.1 e.2.1 (fun x hx q => e.2.2.1 x hx (fun k => by rw [k, g.1.1] at q; rcases q with q | q | q <;> cases q) (fun k => by rw [k, g.2.1.1] at q; rcases q with q | q | q <;> cases q))
/-- a row more -/
theorem zLI.push {W : Nat → Int} {k q : Nat} (h : zLI M S tk c n r V) (e : zOl M M') (hk : k < 5) (hq : M.2.1 ≤ q ∧ q < M'.2.1) (hq1 : M'.1 q = (100, zG_w k)) (hq2 : ∀ i, i < zG_w k → M'.2.2 q i = .int (iZ (W i))) (hq3 : 320 ≤ q) :
    zLI (M'.1, M'.2.1, zk_up M'.2.2 (tk k) (n k) (.ref q)) S tk c (fu n k (n k + 1)) (fu r k (fu (r k) (n k) q)) (fu V k (fu (V k) (n k) W)) := by
  have hT := (h.2.2.1 k hk).1
  obtain ⟨⟨s1, s2, s3⟩, s4, t1, t2, t3⟩ := h.ol e
  have nS : S ≠ tk k := fun q => by
    have := (t1 k hk).1.1
    rw [← q, s1] at this
    cases this
  have cS : zk_up M'.2.2 (tk k) (n k) (.ref q) S = M'.2.2 S := zk_up_ne nS
  have nr : ∀ x, (M'.1 x).1 = 100 → zk_up M'.2.2 (tk k) (n k) (.ref q) x = M'.2.2 x := fun x hx => zk_up_ne (fun w => by
    rw [w, (t1 k hk).1.1] at hx
    cases hx)
  have old : ∀ k', k' < 5 → ∀ j, j < n k' → r k' j < M.2.1 := fun k' hk' j hj => ((h.2.2.1 k' hk').2 j hj).2.2.2.1
  refine ⟨⟨s1, s2, s3⟩, ?_, fun k' hk' => ?_, t2, fun k1 k2 j1 j2 hk1 hk2 hj1 hj2 he => ?_⟩
  · dsimp only
    rw [cS]
    exact s4
  · refine ⟨(t1 k' hk').1, fun j hj => ?_⟩
    by_cases ek : k' = k
    · subst ek
      rw [fu_a] at hj ⊢
      by_cases ej : j = n k'
      · subst ej
        rw [fu_a, fu_a, fu_a]
        refine ⟨zk_up_a2, hq1, hq3, hq.2, fun i hi => ?_⟩
        show zk_up M'.2.2 (tk k') (n k') (.ref q) q i = _
        rw [nr q (by rw [hq1])]
        exact hq2 i hi
      · obtain ⟨p1, p2, p3, p4, p5⟩ := (t1 k' hk').2 j (by omega)
        rw [fu_n ej, fu_a, fu_n ej]
        refine ⟨(zk_up_n2 (Or.inr ej)).trans p1, p2, p3, p4, fun i hi => ?_⟩
        show zk_up M'.2.2 (tk k') (n k') (.ref q) _ i = _
        rw [nr _ (by rw [p2])]
        exact p5 i hi
    · rw [fu_n ek] at hj ⊢
      rw [fu_n ek]
      obtain ⟨p1, p2, p3, p4, p5⟩ := (t1 k' hk').2 j hj
      refine ⟨(zk_up_n2 (Or.inl (fun w => ek (t2 k' k hk' hk w)))).trans p1, p2, p3, p4, fun i hi => ?_⟩
      show zk_up M'.2.2 (tk k) (n k) (.ref q) _ i = _
      rw [nr _ (by rw [p2])]
      exact p5 i hi
  · have lt : ∀ k', k' < 5 → ∀ j, j < fu n k (n k + 1) k' → (k' = k ∧ j = n k ∧ fu r k (fu (r k) (n k) q) k' j = q) ∨ (j < n k' ∧ fu r k (fu (r k) (n k) q) k' j = r k' j ∧ ¬ (k' = k ∧ j = n k)) := fun k' hk' j hj => by
      by_cases ek : k' = k
      · subst ek
        rw [fu_a] at hj ⊢
        by_cases ej : j = n k'
        · subst ej
          rw [fu_a]
          exact Or.inl ⟨rfl, rfl, rfl⟩
        · rw [fu_n ej]
          exact Or.inr ⟨by omega, rfl, fun w => ej w.2⟩
      · rw [fu_n ek] at hj ⊢
        exact Or.inr ⟨hj, rfl, fun w => ek w.1⟩
    rcases lt k1 hk1 j1 hj1 with ⟨a1, a2, a3⟩ | ⟨a1, a2, a3⟩ <;> rcases lt k2 hk2 j2 hj2 with ⟨b1, b2, b3⟩ | ⟨b1, b2, b3⟩
    · exact ⟨a1.trans b1.symm, a2.trans b2.symm⟩
    · rw [a3, b2] at he
      have := old k2 hk2 j2 b1
      omega
    · rw [a2, b3] at he
      have := old k1 hk1 j1 a1
      omega
    · rw [a2, b2] at he
      exact t3 k1 k2 j1 j2 hk1 hk2 a1 b1 he
/-- a table anew -/
theorem zLI.table {k q N : Nat} (h : zLI M S tk c n r V) (e : zOl M M') (hk : k < 5) (hq : M.2.1 ≤ q ∧ q < M'.2.1) (hq1 : M'.1 q = (105, N)) (hq3 : 320 ≤ q) : zLI (M'.1, M'.2.1, zk_up M'.2.2 S (3 + k) (.ref q)) S (fu tk k q) (fu c k N) (fu n k 0) r V := by
  obtain ⟨⟨s1, s2, s3⟩, ⟨f0, f1, f2, f3⟩, t1, t2, t3⟩ := h.ol e
  have old : ∀ k', k' < 5 → tk k' < M.2.1 := fun k' hk' => (h.2.2.1 k' hk').1.2.2
  have nS : ∀ x, (M'.1 x).1 ≠ 7 → zk_up M'.2.2 S (3 + k) (.ref q) x = M'.2.2 x := fun x hx => zk_up_ne (fun w => hx (by rw [w, s1]))
  refine ⟨⟨s1, s2, s3⟩, ⟨(zk_up_n2 (Or.inr (by omega))).trans f0, (zk_up_n2 (Or.inr (by omega))).trans f1, (zk_up_n2 (Or.inr (by omega))).trans f2, fun k' hk' => ?_⟩, fun k' hk' => ?_, fun k1 k2 hk1 hk2 he => ?_, fun k1 k2 j1 j2 hk1 hk2 hj1 hj2 he => ?_⟩
  · show zk_up M'.2.2 S (3 + k) (.ref q) S (3 + k') = _
    by_cases ek : k' = k
    · subst ek
      rw [fu_a]
      exact zk_up_a2
    · rw [fu_n ek]
      exact (zk_up_n2 (Or.inr (by omega))).trans (f3 k' hk')
  · by_cases ek : k' = k
    · subst ek
      rw [fu_a, fu_a, fu_a]
      exact ⟨⟨hq1, hq3, hq.2⟩, fun j hj => absurd hj (by omega)⟩
    · rw [fu_n ek, fu_n ek, fu_n ek]
      refine ⟨(t1 k' hk').1, fun j hj => ?_⟩
      obtain ⟨p1, p2, p3, p4, p5⟩ := (t1 k' hk').2 j hj
      have e1 := nS (tk k') (by rw [(t1 k' hk').1.1]; show 105 ≠ 7; decide)
      have e2 := nS (r k' j) (by rw [p2]; show 100 ≠ 7; decide)
      refine ⟨(congrFun e1 j).trans p1, p2, p3, p4, fun i hi => (congrFun e2 i).trans (p5 i hi)⟩
  · by_cases e1 : k1 = k <;> by_cases e2 : k2 = k
    · exact e1.trans e2.symm
    · subst e1
      rw [fu_a, fu_n e2] at he
      have := old k2 hk2
      omega
    · subst e2
      rw [fu_a, fu_n e1] at he
      have := old k1 hk1
      omega
    · rw [fu_n e1, fu_n e2] at he
      exact t2 k1 k2 hk1 hk2 he
  · have lt : ∀ k' j, j < fu n k 0 k' → j < n k' := fun k' j hj => by
      by_cases e1 : k' = k
      · subst e1
        rw [fu_a] at hj
        omega
      · rw [fu_n e1] at hj
        exact hj
    exact t3 k1 k2 j1 j2 hk1 hk2 (lt k1 j1 hj1) (lt k2 j2 hj2) he
end
end

/-! THE CHAIN BY HAND: the words of a minute -/
section
variable {l : Launch} {Γ : zk_G} {d : Nat} {F : Heap → Prop}
theorem sNum_eq {f g : Nat → Bool} : ∀ (n i : Nat), (∀ j, i ≤ j → j < i + n → f j = g j) → sNum f i n = sNum g i n
  | 0, _, _ => rfl
  | n + 1, i, h => by
    show bI (f i) + _ = bI (g i) + _
    rw [h i (Nat.le_refl _) (by omega), sNum_eq n (i + 1) (fun j h1 h2 => h j (by omega) (by omega))]
theorem sNum_one {f g : Nat → Bool} {k : Nat} : ∀ (n i : Nat), i ≤ k → k < i + n → (∀ j, j ≠ k → f j = g j) → sNum g i n = sNum f i n - bI (f k) + bI (g k)
  | 0, i, h1, h2, _ => by omega
  | n + 1, i, h1, h2, h => by
    show bI (g i) + _ = bI (f i) + _ - _ + _
    by_cases e : i = k
    · subst e
      rw [sNum_eq (f := f) (g := g) n (i + 1) (fun j h3 h4 => h j (by omega))]
      omega
    · rw [sNum_one n (i + 1) (by omega) (by omega) h, h i e]
      omega
theorem sm_w {c : Nat → Nat} {W π σ : zV} (h : sm c W π σ) (hb : c 0 ≤ 8 ∧ c 1 ≤ 12 ∧ c 2 ≤ 8 ∧ c 3 ≤ 8) {w : Nat} (hw : w < c 1) (z : Int) : sm c (zb_u W (440 + w) 3 z) π (zb_u σ 10 w z) := by
  obtain ⟨h1, h2, h3, h4, h5, h6⟩ := h
  have fW : ∀ a j, a ≠ 440 + w → zb_u W (440 + w) 3 z a j = W a j := fun a j h => zb_u_no _ _ (by omega)
  have fσ : ∀ i j, i ≠ 10 → zb_u σ 10 w z i j = σ i j := fun i j h => zb_u_no _ _ (by omega)
  refine ⟨h1, ?_, fun k hk => ?_, fun k hk => ?_, fun k hk => ?_, fun k hk => ?_⟩
  · rw [fW 424 0 (by omega), fW 424 1 (by omega), fW 424 2 (by omega), fσ 0 1 (by omega), fσ 0 13 (by omega), fσ 0 2 (by omega)]
    exact h2
  · rw [fW (432 + k) 0 (by omega), fW (432 + k) 1 (by omega), fW (432 + k) 2 (by omega), fσ 1 k (by omega)]
    exact h3 k hk
  · have q := h4 k hk
    refine ⟨(zb_u_no _ _ (by omega)).trans q.1, (zb_u_no _ _ (by omega)).trans q.2.1, (zb_u_no _ _ (by omega)).trans q.2.2.1, ?_⟩
    by_cases e : k = w
    · rw [e, zb_u_at, zb_u_at]
    · rw [zb_u_no _ _ (by omega), zb_u_no _ _ (by omega)]
      exact q.2.2.2
  · rw [fW (452 + k) 0 (by omega), fW (452 + k) 1 (by omega), fW (452 + k) 2 (by omega), fW (452 + k) 3 (by omega)]
    exact h5 k hk
  · have q := h6 k hk
    have g : ∀ j, zb_u W (440 + w) 3 z (460 + k) j = W (460 + k) j := fun j => fW (460 + k) j (by omega)
    rw [g 0, g 1, g 2, g 3, g 4, g 5, g 6, g 7, g 8, g 9, fσ 2 k (by omega), fσ 3 k (by omega), fσ 4 k (by omega), fσ 5 k (by omega), fσ 6 k (by omega), fσ 7 k (by omega), fσ 8 k (by omega), fσ 9 k (by omega)]
    exact q
/-- one of the object's own numbers -/
theorem sm_o {c : Nat → Nat} {W W' π σ σ' : zV} (h : sm c W π σ) (hW : ∀ a j, a ≠ 424 → W' a j = W a j) (hσ : ∀ i j, i ≠ 0 → σ' i j = σ i j) (h1 : W' 424 0 = σ' 0 1 ∧ W' 424 1 = σ' 0 13 ∧ W' 424 2 = σ' 0 2) : sm c W' π σ' := by
  obtain ⟨g1, g2, g3, g4, g5, g6⟩ := h
  refine ⟨g1, h1, fun k hk => ?_, fun k hk => ?_, fun k hk => ?_, fun k hk => ?_⟩
  · simp only [hW (432 + k) _ (by omega), hσ 1 _ (by omega)]
    exact g3 k hk
  · simp only [hW (440 + k) _ (by omega), hσ 10 _ (by omega)]
    exact g4 k hk
  · simp only [hW (452 + k) _ (by omega)]
    exact g5 k hk
  · simp only [hW (460 + k) _ (by omega), hσ 2 _ (by omega), hσ 3 _ (by omega), hσ 4 _ (by omega), hσ 5 _ (by omega), hσ 6 _ (by omega), hσ 7 _ (by omega), hσ 8 _ (by omega), hσ 9 _ (by omega)]
    exact g6 k hk
/-- a message's row -/
theorem sm_row {c : Nat → Nat} {W W' π σ σ' : zV} (h : sm c W π σ) (hb : c 0 ≤ 8 ∧ c 1 ≤ 12 ∧ c 2 ≤ 8 ∧ c 3 ≤ 8) {k : Nat} (hW : ∀ a j, a ≠ 460 + k → W' a j = W a j) (hσ : ∀ i j, (j ≠ k ∨ i < 2 ∨ 9 < i) → σ' i j = σ i j)
    (h1 : k < c 3 → W' (460 + k) 0 = W (460 + k) 0 ∧ W' (460 + k) 1 = σ' 2 k ∧ W' (460 + k) 2 = σ' 3 k ∧ W' (460 + k) 3 = W (460 + k) 3 ∧ W' (460 + k) 4 = σ' 4 k ∧ W' (460 + k) 5 = σ' 7 k ∧ W' (460 + k) 6 = σ' 5 k ∧ W' (460 + k) 7 = σ' 8 k ∧ W' (460 + k) 8 = σ' 6 k ∧ W' (460 + k) 9 = σ' 9 k) : sm c W' π σ' := by
  obtain ⟨g1, g2, g3, g4, g5, g6⟩ := h
  refine ⟨g1, ?_, fun j hj => ?_, fun j hj => ?_, fun j hj => ?_, fun j hj => ?_⟩
  · have f : ∀ j, σ' 0 j = σ 0 j := fun j => hσ 0 j (Or.inr (Or.inl (by decide)))
    rw [hW 424 0 (by omega), hW 424 1 (by omega), hW 424 2 (by omega), f, f, f]
    exact g2
  · rw [hW (432 + j) 0 (by omega), hW (432 + j) 1 (by omega), hW (432 + j) 2 (by omega), hσ 1 j (Or.inr (Or.inl (by decide)))]
    exact g3 j hj
  · rw [hW (440 + j) 0 (by omega), hW (440 + j) 1 (by omega), hW (440 + j) 2 (by omega), hW (440 + j) 3 (by omega), hσ 10 j (Or.inr (Or.inr (by decide)))]
    exact g4 j hj
  · rw [hW (452 + j) 0 (by omega), hW (452 + j) 1 (by omega), hW (452 + j) 2 (by omega), hW (452 + j) 3 (by omega)]
    exact g5 j hj
  · by_cases e : j = k
    · subst e
      obtain ⟨q0, q1, q2, q3, q4, q5, q6, q7, q8, q9⟩ := h1 hj
      exact ⟨q0.trans (g6 j hj).1, q1, q2, q3.trans (g6 j hj).2.2.2.1, q4, q5, q6, q7, q8, q9⟩
    · simp only [hW (460 + j) _ (by omega), fun i => hσ i j (Or.inl e)]
      exact g6 j hj
section
variable {I : zk_MI} {kc ks : Nat} {Q : Option Value → zk_M → (Heap → Prop) → Prop} {pc : Nat} {L : List (Option Value)} {st : List Value} {E : Nat → Nat × Nat} {e : Nat} {c : Nat → Nat} {W : zV}
theorem zG_up0 {j : Nat} {z : Int} (hj : j < 3) : ((zG E e W).1, (zG E e W).2.1, zk_up (zG E e W).2.2 424 j (.int (iZ z))) = zG E e (zb_u W 424 j z) := by
  refine Prod.ext rfl (Prod.ext rfl (funext fun x => funext fun y => ?_))
  show zk_up (zG_v E W) 424 j _ x y = zG_v E (zb_u W 424 j z) x y
  by_cases hx : x = 424
  · subst hx
    rw [zk_up_at]
    dsimp only
    by_cases hy : y = j
    · rw [if_pos hy, hy]
      unfold zG_v
      rw [if_neg (by omega), if_neg (by omega), if_pos rfl, zb_u_at]
      rcases (show j = 0 ∨ j = 1 ∨ j = 2 by omega) with rfl | rfl | rfl <;> rfl
    · rw [if_neg hy]
      unfold zG_v
      rw [zb_u_no W z (show ¬ (424 = 424 ∧ y = j) by omega)]
  · rw [zk_up_ne hx]
    unfold zG_v
    rw [zb_u_a W z hx]
theorem gg_putf (hE : zE E e c) {i : Nat} {z : Int} (j : Nat) (hd : decode I.2.1 pc = .ok (.putfield i, 3)) (hw : Cond.fieldLink I.1.cls i (TX8 j).1 (TX8 j).2.1 (TX8 j).2.2.1 ∈ zk_tg) (hj : j < 3)
    (kk : zk_Go l Γ I d kc ks Q (pc + 3) L st (zG E e (zb_u W 424 j z)) F) : zk_Go l Γ I d kc ks Q pc L (.int (iZ z) :: .ref 424 :: st) (zG E e W) F := by
  refine gz_putf (M := zG E e W) (k := 7) (len := 8) (T := TX8) (N := 8) (C := RX8) (ty := .int) j hd hE.1 rfl hw (by omega) (by decide) jo_HeliographsLaw_Sim ju_HeliographsLaw_Sim ?_ tyX8 tyX8_ok nmX8 ?_ (fun _ => ⟨rfl, rfl⟩) ?_
  · rcases (show j = 0 ∨ j = 1 ∨ j = 2 by omega) with rfl | rfl | rfl <;> rfl
  · rcases (show j = 0 ∨ j = 1 ∨ j = 2 by omega) with rfl | rfl | rfl <;> rfl
  · rw [zG_up0 hj]
    exact kk
end
theorem sm_break {c : Nat → Nat} {W π σ : zV} (h : sm c W π σ) (hb : c 0 ≤ 8 ∧ c 1 ≤ 12 ∧ c 2 ≤ 8 ∧ c 3 ≤ 8) {m : Nat} : sm c (zb_u (zb_u (zb_u (zb_u W (460 + m) 4 0) (460 + m) 5 (-1)) (460 + m) 6 (π 7 m)) (460 + m) 7 (σ 8 m + 1)) π (sBreak π σ m) := by
  refine sm_row (k := m) h hb (fun a j ha => by repeat rw [zb_u_no _ _ (by omega)]) (fun i j hij => by unfold sBreak sWait; repeat rw [zb_u_no _ _ (by omega)]) (fun hm => ?_)
  have g := h.2.2.2.2.2 m hm
  unfold sBreak sWait
  simp (decide := true) only [zb_u, false_and, and_false, true_and, and_true, and_self, if_true, if_false, ↓reduceIte]
  exact ⟨g.2.1, g.2.2.1, g.2.2.2.2.2.2.2.2.1, g.2.2.2.2.2.2.2.2.2⟩
theorem sm_word {c : Nat → Nat} {W π σ : zV} (h : sm c W π σ) (hb : c 0 ≤ 8 ∧ c 1 ≤ 12 ∧ c 2 ≤ 8 ∧ c 3 ≤ 8) {m : Nat} (z : Int) : sm c (zb_u W (460 + m) 6 z) π (zb_u σ 5 m z) := by
  refine sm_row (k := m) h hb (fun a j ha => by repeat rw [zb_u_no _ _ (by omega)]) (fun i j hij => by repeat rw [zb_u_no _ _ (by omega)]) (fun hm => ?_)
  have g := h.2.2.2.2.2 m hm
  simp (decide := true) only [zb_u, false_and, and_false, true_and, and_true, and_self, if_true, if_false, ↓reduceIte]
  exact ⟨g.2.1, g.2.2.1, g.2.2.2.2.1, g.2.2.2.2.2.1, g.2.2.2.2.2.2.2.1, g.2.2.2.2.2.2.2.2.1, g.2.2.2.2.2.2.2.2.2⟩
theorem sm_there {c : Nat → Nat} {W π σ : zV} (h : sm c W π σ) (hb : c 0 ≤ 8 ∧ c 1 ≤ 12 ∧ c 2 ≤ 8 ∧ c 3 ≤ 8) {m : Nat} {x : Int} (hx : x = σ 3 m) : sm c (zb_u (zb_u (zb_u (zb_u (zb_u (zb_u W (460 + m) 1 x) (460 + m) 9 (σ 9 m + 1)) (460 + m) 5 (-1)) (460 + m) 4 2) (460 + m) 6 0) (460 + m) 8 (σ 0 1)) π (sArr π σ m x) := by
  refine sm_row (k := m) h hb (fun a j ha => by repeat rw [zb_u_no _ _ (by omega)]) (fun i j hij => by unfold sArr; rw [if_pos hx]; unfold sWait; repeat rw [zb_u_no _ _ (by omega)]) (fun hm => ?_)
  have g := h.2.2.2.2.2 m hm
  unfold sArr
  rw [if_pos hx]
  unfold sWait
  simp (decide := true) only [zb_u, false_and, and_false, true_and, and_true, and_self, if_true, if_false, ↓reduceIte]
  exact ⟨g.2.2.1, g.2.2.2.2.2.2.2.1⟩
theorem sm_wait {c : Nat → Nat} {W π σ : zV} (h : sm c W π σ) (hb : c 0 ≤ 8 ∧ c 1 ≤ 12 ∧ c 2 ≤ 8 ∧ c 3 ≤ 8) {m : Nat} {x : Int} (hx : x ≠ σ 3 m) : sm c (zb_u (zb_u (zb_u (zb_u (zb_u W (460 + m) 1 x) (460 + m) 9 (σ 9 m + 1)) (460 + m) 5 (-1)) (460 + m) 4 0) (460 + m) 6 (π 7 m)) π (sArr π σ m x) := by
  refine sm_row (k := m) h hb (fun a j ha => by repeat rw [zb_u_no _ _ (by omega)]) (fun i j hij => by unfold sArr; rw [if_neg hx]; unfold sWait; repeat rw [zb_u_no _ _ (by omega)]) (fun hm => ?_)
  have g := h.2.2.2.2.2 m hm
  unfold sArr
  rw [if_neg hx]
  unfold sWait
  simp (decide := true) only [zb_u, false_and, and_false, true_and, and_true, and_self, if_true, if_false, ↓reduceIte]
  exact ⟨g.2.2.1, g.2.2.2.2.2.2.2.1, g.2.2.2.2.2.2.2.2.1⟩
end

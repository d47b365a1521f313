/-! WHAT STAYS TRUE OF A CHAIN: what the law asks of its messages -/
section
variable {π : zV}
/-- a message as the law has it; B: the last minute at which it can have come -/
def lM (π σ : zV) (B : Int) (k : Nat) : Prop := (σ 4 k = 0 → σ 5 k = π 7 k) ∧ (σ 4 k = 1 → 1 ≤ σ 5 k ∧ σ 5 k ≤ π 7 k) ∧ (σ 4 k = 2 → σ 5 k = 0) ∧ (σ 4 k = 2 ↔ σ 2 k = σ 3 k) ∧ (σ 4 k = 2 ↔ 0 ≤ σ 6 k) ∧ (-1 ≤ σ 6 k ∧ σ 6 k ≤ B) ∧ (0 ≤ σ 4 k ∧ σ 4 k ≤ 2)
/-- no pass has two messages -/
def lU (π σ : zV) : Prop := ∀ j k : Nat, (j : Int) < π 0 3 → (k : Int) < π 0 3 → 0 ≤ σ 7 j → σ 7 j = σ 7 k → j = k
/-- no peak flashes more than it has mirrors -/
def lF (π σ : zV) : Prop := ∀ p : Nat, (p : Int) < π 0 0 → 0 ≤ sFree π σ (p : Int)
theorem lM_row {σ τ : zV} {B : Int} {k : Nat} (h : lM π σ B k) (e : ∀ i, 2 ≤ i → i ≤ 6 → τ i k = σ i k) : lM π τ B k := by
  unfold lM at h ⊢
  rw [e 2 (by omega) (by omega), e 3 (by omega) (by omega), e 4 (by omega) (by omega), e 5 (by omega) (by omega), e 6 (by omega) (by omega)]
  exact h
theorem lM_flash {σ : zV} {B N : Int} (hw : wP π) (hc : wC π σ N) {k j : Nat} (hj : (j : Int) < π 0 3) (h : lM π σ B j) (hB : σ 0 1 ≤ B) : lM π (sFlash π σ k) B j := by
  by_cases e : j = k
  · subst e
    have hM := wC_m hc hj
    unfold wM at hM
    have h0 := wC_n hc
    by_cases q1 : σ 4 j = 1
    · obtain ⟨w, hw7⟩ : ∃ w : Nat, σ 7 j = (w : Int) := ⟨(σ 7 j).toNat, by have := hM.2.2.2.2.2.2.2.2.1 q1; omega⟩
      unfold lM at h
      by_cases q2 : σ 11 w ≠ 0
      · by_cases q3 : 7 ≤ π 6 w ∧ (σ 0 1 + σ 5 j) % 5 = 0
        · rw [fl_2 q1 hw7 q2 q3]
          unfold lM
          simp (decide := true) only [zb_u, false_and, and_false, true_and, and_true, and_self, if_true, if_false, true_iff, iff_true, false_iff, iff_false, true_implies, false_implies, implies_true, not_true_eq_false, not_false_eq_true, ↓reduceIte]
          exact h
        · by_cases q4 : σ 5 j = 1
          · rw [fl_4 q1 hw7 q2 q3 q4 rfl]
            by_cases q5 : sAcross π w (σ 2 j) = σ 3 j
            · unfold sArr
              rw [if_pos (by rw [zb_u_no _ _ (by omega), zb_u_no _ _ (by omega)]; exact q5)]
              unfold sWait lM
              simp (decide := true) only [zb_u, false_and, and_false, true_and, and_true, and_self, if_true, if_false, true_iff, iff_true, false_iff, iff_false, true_implies, false_implies, implies_true, not_true_eq_false, not_false_eq_true, ↓reduceIte]
              omega
            · unfold sArr
              rw [if_neg (by rw [zb_u_no _ _ (by omega), zb_u_no _ _ (by omega)]; exact q5)]
              unfold sWait lM
              simp (decide := true) only [zb_u, false_and, and_false, true_and, and_true, and_self, if_true, if_false, true_iff, iff_true, false_iff, iff_false, true_implies, false_implies, implies_true, not_true_eq_false, not_false_eq_true, ↓reduceIte]
              omega
          · rw [fl_3 q1 hw7 q2 q3 q4]
            unfold lM
            simp (decide := true) only [zb_u, false_and, and_false, true_and, and_true, and_self, if_true, if_false, true_iff, iff_true, false_iff, iff_false, true_implies, false_implies, implies_true, not_true_eq_false, not_false_eq_true, ↓reduceIte]
            omega
      · rw [fl_1 q1 hw7 q2]
        unfold sBreak sWait lM
        simp (decide := true) only [zb_u, false_and, and_false, true_and, and_true, and_self, if_true, if_false, true_iff, iff_true, false_iff, iff_false, true_implies, false_implies, implies_true, not_true_eq_false, not_false_eq_true, ↓reduceIte]
        omega
    · rw [fl_0 q1]
      exact h
  · exact lM_row h (fun i h1 h2 => sFlash_o π σ k (Or.inl ⟨by omega, e, fun q => by omega⟩))
theorem sFlash_7 {σ : zV} {k : Nat} : sFlash π σ k 7 k = σ 7 k ∨ sFlash π σ k 7 k = -1 := by
  unfold sFlash
  split
  · split
    · split
      · left
        simp (decide := true) only [zb_u, false_and, and_false, true_and, and_true, and_self, if_true, if_false, true_iff, iff_true, false_iff, iff_false, true_implies, false_implies, implies_true, not_true_eq_false, not_false_eq_true, ↓reduceIte]
      · split
        · unfold sArr
          split
          · right
            unfold sWait
            simp (decide := true) only [zb_u, false_and, and_false, true_and, and_true, and_self, if_true, if_false, true_iff, iff_true, false_iff, iff_false, true_implies, false_implies, implies_true, not_true_eq_false, not_false_eq_true, ↓reduceIte]
          · right
            unfold sWait
            simp (decide := true) only [zb_u, false_and, and_false, true_and, and_true, and_self, if_true, if_false, true_iff, iff_true, false_iff, iff_false, true_implies, false_implies, implies_true, not_true_eq_false, not_false_eq_true, ↓reduceIte]
        · left
          simp (decide := true) only [zb_u, false_and, and_false, true_and, and_true, and_self, if_true, if_false, true_iff, iff_true, false_iff, iff_false, true_implies, false_implies, implies_true, not_true_eq_false, not_false_eq_true, ↓reduceIte]
    · right
      unfold sBreak sWait
      simp (decide := true) only [zb_u, false_and, and_false, true_and, and_true, and_self, if_true, if_false, true_iff, iff_true, false_iff, iff_false, true_implies, false_implies, implies_true, not_true_eq_false, not_false_eq_true, ↓reduceIte]
  · exact Or.inl rfl
theorem lU_flash {σ : zV} {k : Nat} (h : lU π σ) : lU π (sFlash π σ k) := by
  have f : ∀ j, sFlash π σ k 7 j = σ 7 j ∨ sFlash π σ k 7 j = -1 := fun j => by
    by_cases e : j = k
    · rw [e]; exact sFlash_7
    · exact Or.inl (sFlash_o π σ k (Or.inl ⟨by decide, e, fun q => by omega⟩))
  intro i j hi hj h0 he
  have g1 := f i
  have g2 := f j
  exact h i j hi hj (by omega) (by omega)
theorem sFlash_at {σ : zV} {k : Nat} (h : sFlash π σ k 4 k = 1) : σ 4 k = 1 ∧ sFlash π σ k 2 k = σ 2 k := by
  unfold sFlash at h ⊢
  split at h
  · rename_i q1
    rw [if_pos q1]
    refine ⟨q1, ?_⟩
    split at h
    · rename_i q2
      rw [if_pos q2]
      split at h
      · rename_i q3
        rw [if_pos q3]
        simp (decide := true) only [zb_u, false_and, and_false, true_and, and_true, and_self, if_true, if_false, true_iff, iff_true, false_iff, iff_false, true_implies, false_implies, implies_true, not_true_eq_false, not_false_eq_true, ↓reduceIte]
      · rename_i q3
        rw [if_neg q3]
        split at h
        · exfalso
          unfold sArr at h
          split at h
          · revert h
            simp (decide := true) only [zb_u, false_and, and_false, true_and, and_true, and_self, if_true, if_false, true_iff, iff_true, false_iff, iff_false, true_implies, false_implies, implies_true, not_true_eq_false, not_false_eq_true, ↓reduceIte]
          · revert h
            unfold sWait
            simp (decide := true) only [zb_u, false_and, and_false, true_and, and_true, and_self, if_true, if_false, true_iff, iff_true, false_iff, iff_false, true_implies, false_implies, implies_true, not_true_eq_false, not_false_eq_true, ↓reduceIte]
        · rename_i q4
          rw [if_neg q4]
          simp (decide := true) only [zb_u, false_and, and_false, true_and, and_true, and_self, if_true, if_false, true_iff, iff_true, false_iff, iff_false, true_implies, false_implies, implies_true, not_true_eq_false, not_false_eq_true, ↓reduceIte]
    · exfalso
      revert h
      unfold sBreak sWait
      simp (decide := true) only [zb_u, false_and, and_false, true_and, and_true, and_self, if_true, if_false, true_iff, iff_true, false_iff, iff_false, true_implies, false_implies, implies_true, not_true_eq_false, not_false_eq_true, ↓reduceIte]
  · rename_i q1
    exact absurd h q1
theorem lF_flash {σ : zV} {k : Nat} (h : lF π σ) : lF π (sFlash π σ k) := by
  intro p hp
  have q := h p hp
  unfold sFree at q ⊢
  rw [sFlash_o π σ k (Or.inr (Or.inl rfl))]
  have hle := sNum_le (f := sAt (sFlash π σ k) (p : Int) 1) (g := sAt σ (p : Int) 1) (π 0 3).toNat 0 (fun j _ _ hj => by
    unfold sAt at hj ⊢
    rw [decide_eq_true_eq] at hj ⊢
    by_cases e : j = k
    · subst e
      have s := sFlash_at hj.2
      exact ⟨by rw [← s.2]; exact hj.1, s.1⟩
    · rw [sFlash_o π σ k (Or.inl ⟨by decide, e, fun q => by omega⟩), sFlash_o π σ k (Or.inl ⟨by decide, e, fun q => by omega⟩)] at hj
      exact hj)
  omega
theorem lM_send {σ : zV} {H : zV → Nat → Bool} {B : Int} (hw : wP π) {k j : Nat} (hj : (j : Int) < π 0 3) (h : lM π σ B j) : lM π (sSend π H σ k) B j := by
  by_cases e : j = k
  · subst e
    have h7 := hw.2.2.2.2.2.2.2 j hj
    unfold lM at h
    unfold sSend
    split
    · unfold lM
      simp (decide := true) only [zb_u, false_and, and_false, true_and, and_true, and_self, if_true, if_false, true_iff, iff_true, false_iff, iff_false, true_implies, false_implies, implies_true, not_true_eq_false, not_false_eq_true, ↓reduceIte]
      omega
    · exact h
  · exact lM_row h (fun i h1 h2 => sSend_o π H σ k (Or.inl e))
theorem lU_send {σ : zV} {H : zV → Nat → Bool} {k : Nat} (hk : (k : Int) < π 0 3) (h : lU π σ) : lU π (sSend π H σ k) := by
  unfold sSend
  split
  · rename_i q
    have q6 := q.2.2.2.2.2
    have hno : ∀ j : Nat, (j : Int) < π 0 3 → σ 7 j ≠ sFirst π σ (σ 2 k) (σ 3 k) := fun j hj he => by
      have key : ∀ n i : Nat, i ≤ j → j < i + n → ¬ sFind (fun m => decide (σ 7 m = sFirst π σ (σ 2 k) (σ 3 k))) i n < 0 := by
        intro n
        induction n with
        | zero => intro i h1 h2; omega
        | succ n ih =>
          intro i h1 h2
          by_cases e : i = j
          · rw [sFind_t (by rw [e, decide_eq_true_eq]; exact he)]; omega
          · by_cases f : (decide (σ 7 i = sFirst π σ (σ 2 k) (σ 3 k))) = true
            · rw [sFind_t f]; omega
            · rw [sFind_f f]
              exact ih (i + 1) (by omega) (by omega)
      exact key (π 0 3).toNat 0 (by omega) (by omega) q6
    have v : ∀ j : Nat, zb_u (zb_u (zb_u σ 4 k 1) 7 k (sFirst π σ (σ 2 k) (σ 3 k))) 5 k (π 7 k) 7 j = if j = k then sFirst π σ (σ 2 k) (σ 3 k) else σ 7 j := fun j => by
      by_cases e : j = k
      · rw [e, if_pos rfl, zb_u_no _ _ (by omega), zb_u_at]
      · rw [if_neg e, zb_u_no _ _ (by omega), zb_u_no _ _ (by omega), zb_u_no _ _ (by omega)]
    intro i j hi hj h0 he
    rw [v i] at h0 he
    rw [v j] at he
    by_cases e1 : i = k
    · by_cases e2 : j = k
      · omega
      · rw [if_pos e1, if_neg e2] at he
        exact absurd he.symm (hno j hj)
    · by_cases e2 : j = k
      · rw [if_neg e1, if_pos e2] at he
        exact absurd he (hno i hi)
      · rw [if_neg e1] at h0
        rw [if_neg e1, if_neg e2] at he
        exact h i j hi hj h0 he
  · exact h
end

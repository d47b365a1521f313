/-! WHAT STAYS TRUE OF A CHAIN: over a minute, and by hand -/
section
variable {π : zV}
theorem lF_send {σ : zV} {H : zV → Nat → Bool} {k : Nat} (hk : (k : Int) < π 0 3) (h : lF π σ) : lF π (sSend π H σ k) := by
  intro p hp
  have q := h p hp
  by_cases hc : (σ 4 k = 0 ∧ π 10 k ≤ σ 0 1 ∧ 0 < sFree π σ (σ 2 k) ∧ H σ k = false ∧ 0 ≤ sFirst π σ (σ 2 k) (σ 3 k) ∧ sFind (fun m => decide (σ 7 m = sFirst π σ (σ 2 k) (σ 3 k))) 0 (π 0 3).toNat < 0)
  · have e : sSend π H σ k = zb_u (zb_u (zb_u σ 4 k 1) 7 k (sFirst π σ (σ 2 k) (σ 3 k))) 5 k (π 7 k) := if_pos hc
    have e2 : ∀ j, sSend π H σ k 2 j = σ 2 j := fun j => sSend_o π H σ k (by omega)
    have e1 : ∀ j, sSend π H σ k 1 j = σ 1 j := fun j => sSend_o π H σ k (by omega)
    have e4 : sSend π H σ k 4 k = 1 := by
      rw [e, zb_u_no _ _ (by omega), zb_u_no _ _ (by omega), zb_u_at]
    unfold sFree at q ⊢
    rw [e1, sNum_one (f := sAt σ (p : Int) 1) (g := sAt (sSend π H σ k) (p : Int) 1) (k := k) _ 0 (by omega) (by omega) (fun j hj => by unfold sAt; rw [e2, sSend_o π H σ k (Or.inl hj)])]
    have b0 : bI (sAt σ (p : Int) 1 k) = 0 := bI_f (by unfold sAt; rw [decide_eq_true_eq]; omega)
    by_cases hx : σ 2 k = (p : Int)
    · have b1 : bI (sAt (sSend π H σ k) (p : Int) 1 k) = 1 := bI_t (by unfold sAt; rw [decide_eq_true_eq, e2]; exact ⟨hx, e4⟩)
      have h3 := hc.2.2.1
      rw [hx] at h3
      unfold sFree at h3
      omega
    · have b1 : bI (sAt (sSend π H σ k) (p : Int) 1 k) = 0 := bI_f (by unfold sAt; rw [decide_eq_true_eq, e2]; exact fun q => hx q.1)
      omega
  · have e : sSend π H σ k = σ := if_neg hc
    rw [e]
    exact q
theorem lI_f {B : Int} (hw : wP π) : ∀ (n k : Nat) (σ : zV) (N : Int), (k : Int) + n = π 0 3 → wC π σ N → N + n ≤ 90000 → (∀ j : Nat, (j : Int) < π 0 3 → lM π σ B j) → σ 0 1 ≤ B → lU π σ → lF π σ → (∀ j : Nat, (j : Int) < π 0 3 → lM π (sIt (sFlash π) k n σ) B j) ∧ lU π (sIt (sFlash π) k n σ) ∧ lF π (sIt (sFlash π) k n σ)
  | 0, _, _, _, _, _, _, h1, _, h2, h3 => ⟨h1, h2, h3⟩
  | n + 1, k, σ, N, hk, hc, hN, h1, hB, h2, h3 => lI_f hw n (k + 1) (sFlash π σ k) (N + 1) (by omega) (wC_flash hw hc (by omega) (by omega)) (by omega) (fun j hj => lM_flash hw hc hj (h1 j hj) hB) (by rw [sFlash_o π σ k (by omega)]; exact hB) (lU_flash h2) (lF_flash h3)
theorem lI_s {H : zV → Nat → Bool} {B : Int} (hw : wP π) : ∀ (n k : Nat) (σ : zV), (k : Int) + n = π 0 3 → (∀ j : Nat, (j : Int) < π 0 3 → lM π σ B j) → lU π σ → lF π σ → (∀ j : Nat, (j : Int) < π 0 3 → lM π (sIt (sSend π H) k n σ) B j) ∧ lU π (sIt (sSend π H) k n σ) ∧ lF π (sIt (sSend π H) k n σ)
  | 0, _, _, _, h1, h2, h3 => ⟨h1, h2, h3⟩
  | n + 1, k, σ, hk, h1, h2, h3 => lI_s hw n (k + 1) (sSend π H σ k) (by omega) (fun j hj => lM_send hw hj (h1 j hj)) (lU_send (by omega) h2) (lF_send (by omega) h3)
theorem lU_row {σ τ : zV} (h : lU π σ) (e : ∀ j, τ 7 j = σ 7 j) : lU π τ := fun i j hi hj h0 he => h i j hi hj (by rw [← e]; exact h0) (by rw [← e, ← e]; exact he)
theorem lF_row {σ τ : zV} (h : lF π σ) (e : ∀ i j, i = 1 ∨ i = 2 ∨ i = 4 → τ i j = σ i j) : lF π τ := fun p hp => by
  have q := h p hp
  unfold sFree at q ⊢
  rw [e 1 _ (by omega), sNum_eq (f := sAt τ (p : Int) 1) (g := sAt σ (p : Int) 1) _ 0 (fun j _ _ => by unfold sAt; rw [e 2 j (by omega), e 4 j (by omega)])]
  exact q
/-- A CHAIN AS THE LAW HAS IT -/
def lOk (π σ : zV) : Prop := (∀ j : Nat, (j : Int) < π 0 3 → lM π σ (σ 0 1 - 1) j) ∧ lU π σ ∧ lF π σ
theorem lM_le {σ : zV} {B B2 : Int} {j : Nat} (h : lM π σ B j) (hB : B ≤ B2) : lM π σ B2 j := by
  unfold lM at h ⊢
  omega
theorem lOk_min {σ : zV} {H : zV → Nat → Bool} {N : Int} (hw : wP π) (hc : wC π σ N) (hN : N + 8 ≤ 90000) (h : lOk π σ) : lOk π (sMin π H σ) := by
  have n0 := wP_n hw
  obtain ⟨h1, h2, h3⟩ := h
  have f : ∀ i j, i ≠ 11 → sLook π σ i j = σ i j := fun i j hi => sLook_o π σ hi j
  have g := lI_f (B := σ 0 1) hw (π 0 3).toNat 0 (sLook π σ) N (by omega) (wC_look hc) (by omega) (fun j hj => lM_row (lM_le (h1 j hj) (by omega)) (fun i a b => f i j (by omega))) (by rw [f 0 1 (by decide)]; omega) (lU_row h2 (fun j => f 7 j (by decide))) (lF_row h3 (fun i j a => f i j (by omega)))
  have g2 := lI_s (H := H) hw (π 0 3).toNat 0 _ (by omega) g.1 g.2.1 g.2.2
  have t : ∀ (τ : zV) i j, i ≠ 0 → sTick τ i j = τ i j := fun τ i j hi => zb_u_no _ _ (by omega)
  have e1 : sMin π H σ 0 1 = σ 0 1 + 1 := sMin_t π H σ
  refine ⟨fun j hj => ?_, ?_, ?_⟩
  · rw [e1, show σ 0 1 + 1 - 1 = σ 0 1 by omega]
    exact lM_row (g2.1 j hj) (fun i a b => t _ i j (by omega))
  · exact lU_row g2.2.1 (fun j => t _ 7 j (by decide))
  · exact lF_row g2.2.2 (fun i j a => t _ i j (by omega))
theorem lOk_run {H : zV → Nat → Bool} (hw : wP π) : ∀ (n : Nat) (σ : zV) (N : Int), wC π σ N → N + 9 * n ≤ 90000 → lOk π σ → lOk π (sRun π H n σ)
  | 0, _, _, _, _, h => h
  | n + 1, σ, N, hc, hN, h => lOk_run hw n (sMin π H σ) (N + 9) (wC_min hw hc (by omega)) (by omega) (lOk_min hw hc (by omega) h)
theorem lOk_break {σ : zV} {k : Nat} (hk : (k : Int) < π 0 3) (hs : σ 4 k = 1) (h : lOk π σ) : lOk π (sBreak π σ k) := by
  obtain ⟨h1, h2, h3⟩ := h
  have o : ∀ i j, (j ≠ k ∨ i < 4 ∨ i = 6 ∨ 8 < i) → sBreak π σ k i j = σ i j := fun i j hij => by unfold sBreak sWait; repeat rw [zb_u_no _ _ (by omega)]
  have o7 : sBreak π σ k 7 k = -1 := by unfold sBreak sWait; simp (decide := true) only [zb_u, false_and, and_false, true_and, and_true, and_self, if_true, if_false, true_iff, iff_true, false_iff, iff_false, true_implies, false_implies, implies_true, not_true_eq_false, not_false_eq_true, ↓reduceIte]
  have o4 : sBreak π σ k 4 k = 0 := by unfold sBreak sWait; simp (decide := true) only [zb_u, false_and, and_false, true_and, and_true, and_self, if_true, if_false, true_iff, iff_true, false_iff, iff_false, true_implies, false_implies, implies_true, not_true_eq_false, not_false_eq_true, ↓reduceIte]
  refine ⟨fun j hj => ?_, fun i j hi hj h0 he => ?_, fun p hp => ?_⟩
  · rw [o 0 1 (by omega)]
    have g := h1 j hj
    by_cases e : j = k
    · subst e
      unfold lM at g
      unfold sBreak sWait lM
      simp (decide := true) only [zb_u, false_and, and_false, true_and, and_true, and_self, if_true, if_false, true_iff, iff_true, false_iff, iff_false, true_implies, false_implies, implies_true, not_true_eq_false, not_false_eq_true, ↓reduceIte]
      omega
    · exact lM_row g (fun i a b => o i j (Or.inl e))
  · by_cases e1 : i = k
    · rw [e1, o7] at h0; omega
    · by_cases e2 : j = k
      · rw [e2, o7] at he; omega
      · rw [o 7 i (Or.inl e1)] at h0 he
        rw [o 7 j (Or.inl e2)] at he
        exact h2 i j hi hj h0 he
  · have q := h3 p hp
    unfold sFree at q ⊢
    rw [o 1 _ (by omega)]
    have hle := sNum_le (f := sAt (sBreak π σ k) (p : Int) 1) (g := sAt σ (p : Int) 1) (π 0 3).toNat 0 (fun j _ _ hj => by
      unfold sAt at hj ⊢
      rw [decide_eq_true_eq] at hj ⊢
      by_cases e : j = k
      · rw [e, o4] at hj; omega
      · rw [o 2 j (by omega), o 4 j (Or.inl e)] at hj
        exact hj)
    omega
theorem lOk_forw {σ : zV} {k : Nat} {x : Int} (hk : (k : Int) < π 0 3) (hs : σ 4 k = 2) (hx : σ 2 k ≠ x) (h : lOk π σ) : lOk π (sForw π σ k x) := by
  obtain ⟨h1, h2, h3⟩ := h
  have o : ∀ i j, (j ≠ k ∨ i < 3 ∨ 7 < i) → sForw π σ k x i j = σ i j := fun i j hij => by unfold sForw sWait; repeat rw [zb_u_no _ _ (by omega)]
  have o7 : sForw π σ k x 7 k = -1 := by unfold sForw sWait; simp (decide := true) only [zb_u, false_and, and_false, true_and, and_true, and_self, if_true, if_false, true_iff, iff_true, false_iff, iff_false, true_implies, false_implies, implies_true, not_true_eq_false, not_false_eq_true, ↓reduceIte]
  have o4 : sForw π σ k x 4 k = 0 := by unfold sForw sWait; simp (decide := true) only [zb_u, false_and, and_false, true_and, and_true, and_self, if_true, if_false, true_iff, iff_true, false_iff, iff_false, true_implies, false_implies, implies_true, not_true_eq_false, not_false_eq_true, ↓reduceIte]
  refine ⟨fun j hj => ?_, fun i j hi hj h0 he => ?_, fun p hp => ?_⟩
  · rw [o 0 1 (by omega)]
    have g := h1 j hj
    by_cases e : j = k
    · subst e
      unfold lM at g
      unfold sForw sWait lM
      simp (decide := true) only [zb_u, false_and, and_false, true_and, and_true, and_self, if_true, if_false, true_iff, iff_true, false_iff, iff_false, true_implies, false_implies, implies_true, not_true_eq_false, not_false_eq_true, ↓reduceIte]
      omega
    · exact lM_row g (fun i a b => o i j (Or.inl e))
  · by_cases e1 : i = k
    · rw [e1, o7] at h0; omega
    · by_cases e2 : j = k
      · rw [e2, o7] at he; omega
      · rw [o 7 i (Or.inl e1)] at h0 he
        rw [o 7 j (Or.inl e2)] at he
        exact h2 i j hi hj h0 he
  · have q := h3 p hp
    unfold sFree at q ⊢
    rw [o 1 _ (by omega)]
    have hle := sNum_le (f := sAt (sForw π σ k x) (p : Int) 1) (g := sAt σ (p : Int) 1) (π 0 3).toNat 0 (fun j _ _ hj => by
      unfold sAt at hj ⊢
      rw [decide_eq_true_eq] at hj ⊢
      by_cases e : j = k
      · rw [e, o4] at hj; omega
      · rw [o 2 j (by omega), o 4 j (Or.inl e)] at hj
        exact hj)
    omega
theorem lOk_mir {σ : zV} {k : Nat} {b : Bool} (hb : b = false → 0 < sFree π σ (k : Int)) (h : lOk π σ) : lOk π (sMir σ k b) := by
  obtain ⟨h1, h2, h3⟩ := h
  have o : ∀ i j, (i ≠ 1 ∨ j ≠ k) → sMir σ k b i j = σ i j := fun i j hij => by unfold sMir; rw [zb_u_no _ _ (by omega)]
  have o1 : sMir σ k b 1 k = σ 1 k + if b = true then 1 else -1 := by unfold sMir; rw [zb_u_at]
  refine ⟨fun j hj => ?_, lU_row h2 (fun j => o 7 j (by omega)), fun p hp => ?_⟩
  · rw [o 0 1 (by omega)]
    exact lM_row (h1 j hj) (fun i a c => o i j (by omega))
  · have q := h3 p hp
    have e : sNum (sAt (sMir σ k b) (p : Int) 1) 0 (π 0 3).toNat = sNum (sAt σ (p : Int) 1) 0 (π 0 3).toNat := sNum_eq _ 0 (fun j _ _ => by unfold sAt; rw [o 2 j (by omega), o 4 j (by omega)])
    unfold sFree at q ⊢
    rw [e, Int.toNat_natCast] at *
    by_cases hp2 : p = k
    · subst hp2
      rw [o1]
      cases b with
      | true => rw [if_pos rfl]; omega
      | false =>
        have r := hb rfl
        unfold sFree at r
        rw [Int.toNat_natCast] at r
        rw [if_neg (by decide)]
        omega
    · rw [o 1 p (Or.inr hp2)]
      exact q
theorem lOk_ini {σ : zV} (hw : wP π) (hi : sIni π σ) (hm : ∀ k : Nat, (k : Int) < π 0 0 → 0 ≤ π 3 k) : lOk π σ := by
  obtain ⟨i1, i2, i3⟩ := hi
  refine ⟨fun j hj => ?_, fun i j _ _ h0 _ => ?_, fun p hp => ?_⟩
  · have g := i2 j
    have w7 := hw.2.2.2.2.2.2.2 j hj
    unfold lM
    omega
  · have := (i2 i).2.2.2.2.2.2.1
    omega
  · have e : sNum (sAt σ (p : Int) 1) 0 (π 0 3).toNat = sNum (fun _ => false) 0 (π 0 3).toNat := sNum_eq _ 0 (fun j _ _ => by unfold sAt; rw [(i2 j).2.2.2.1]; simp)
    have z : ∀ n i, sNum (fun _ => false) i n = 0 := by
      intro n
      induction n with
      | zero => intro i; rfl
      | succ n ih => intro i; rw [sNum_f (by decide)]; exact ih _
    unfold sFree
    rw [e, z, Int.toNat_natCast, (i2 p).1]
    have := hm p hp
    omega
end

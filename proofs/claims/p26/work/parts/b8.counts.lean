/-! WHAT A MINUTE COUNTS -/
section
variable {l : Launch} {Γ : zk_G} {d : Nat} {F : Heap → Prop}
theorem sSum_eq {f g : Nat → Int} : ∀ (n i : Nat), (∀ j, i ≤ j → j < i + n → f j = g j) → sSum f i n = sSum g i n
  | 0, _, _ => rfl
  | n + 1, i, h => by
    show f i + _ = g i + _
    rw [h i (Nat.le_refl _) (by omega), sSum_eq n (i + 1) (fun j h1 h2 => h j (by omega) (by omega))]
theorem sSum_one {f g : Nat → Int} {k : Nat} : ∀ (n i : Nat), i ≤ k → k < i + n → (∀ j, j ≠ k → f j = g j) → sSum g i n = sSum f i n - f k + g k
  | 0, i, h1, h2, _ => by omega
  | n + 1, i, h1, h2, h => by
    show g i + _ = f i + _ - _ + _
    by_cases e : i = k
    · subst e
      rw [sSum_eq (f := f) (g := g) n (i + 1) (fun j h3 h4 => h j (by omega))]
      omega
    · rw [sSum_one n (i + 1) (by omega) (by omega) h, h i e]
      omega
/-- a message that is flashed breaks off, or flashes a word -/
theorem fl_cnt {π τ : zV} {k : Nat} (h : τ 4 k = 1) : ((∀ j, sFlash π τ k 10 j = if j = (τ 7 k).toNat then τ 10 j + 1 else τ 10 j) ∧ (∀ j, sFlash π τ k 8 j = τ 8 j) ∧ τ 0 13 ≤ sFlash π τ k 0 13 ∧ sFlash π τ k 0 13 ≤ τ 0 13 + 1) ∨ ((∀ j, sFlash π τ k 10 j = τ 10 j) ∧ (∀ j, sFlash π τ k 8 j = if j = k then τ 8 j + 1 else τ 8 j) ∧ sFlash π τ k 0 13 = τ 0 13) := by
  have hten : ∀ (ρ : zV) (w j : Nat), zb_u ρ 10 w (ρ 10 w + 1) 10 j = if j = w then ρ 10 j + 1 else ρ 10 j := fun ρ w j => by
    by_cases e : j = w
    · rw [if_pos e, e, zb_u_at]
    · rw [if_neg e, zb_u_no _ _ (by omega)]
  unfold sFlash
  rw [if_pos h]
  by_cases h1 : τ 11 (τ 7 k).toNat ≠ 0
  · rw [if_pos h1]
    refine Or.inl ?_
    by_cases h2 : 7 ≤ π 6 (τ 7 k).toNat ∧ (τ 0 1 + τ 5 k) % 5 = 0
    · rw [if_pos h2]
      refine ⟨fun j => ?_, fun j => ?_, ?_, ?_⟩
      · rw [zb_u_no _ _ (by omega), hten]
      · rw [zb_u_no _ _ (by omega), zb_u_no _ _ (by omega)]
      · rw [zb_u_at]; omega
      · rw [zb_u_at]; omega
    · rw [if_neg h2]
      by_cases h3 : τ 5 k = 1
      · rw [if_pos h3]
        unfold sArr sWait
        split
        · refine ⟨fun j => ?_, fun j => ?_, ?_, ?_⟩
          · repeat rw [zb_u_no _ _ (show ¬ (10 = _ ∧ j = _) from fun q => absurd q.1 (by decide))]
            exact hten τ _ j
          · repeat rw [zb_u_no _ _ (show ¬ (8 = _ ∧ j = _) from fun q => absurd q.1 (by decide))]
          · repeat rw [zb_u_no _ _ (show ¬ (0 = _ ∧ 13 = _) from fun q => absurd q.1 (by decide))]
            omega
          · repeat rw [zb_u_no _ _ (show ¬ (0 = _ ∧ 13 = _) from fun q => absurd q.1 (by decide))]
            omega
        · refine ⟨fun j => ?_, fun j => ?_, ?_, ?_⟩
          · repeat rw [zb_u_no _ _ (show ¬ (10 = _ ∧ j = _) from fun q => absurd q.1 (by decide))]
            exact hten τ _ j
          · repeat rw [zb_u_no _ _ (show ¬ (8 = _ ∧ j = _) from fun q => absurd q.1 (by decide))]
          · repeat rw [zb_u_no _ _ (show ¬ (0 = _ ∧ 13 = _) from fun q => absurd q.1 (by decide))]
            omega
          · repeat rw [zb_u_no _ _ (show ¬ (0 = _ ∧ 13 = _) from fun q => absurd q.1 (by decide))]
            omega
      · rw [if_neg h3]
        refine ⟨fun j => ?_, fun j => ?_, ?_, ?_⟩
        · rw [zb_u_no _ _ (by omega), hten]
        · rw [zb_u_no _ _ (by omega), zb_u_no _ _ (by omega)]
        · rw [zb_u_no _ _ (by omega), zb_u_no _ _ (by omega)]; omega
        · rw [zb_u_no _ _ (by omega), zb_u_no _ _ (by omega)]; omega
  · rw [if_neg h1]
    refine Or.inr ?_
    unfold sBreak sWait
    refine ⟨fun j => ?_, fun j => ?_, ?_⟩
    · repeat rw [zb_u_no _ _ (by omega)]
    · by_cases e : j = k
      · rw [if_pos e, e, zb_u_no _ _ (by omega), zb_u_no _ _ (by omega), zb_u_no _ _ (by omega), zb_u_at]
      · rw [if_neg e]
        repeat rw [zb_u_no _ _ (by omega)]
    · repeat rw [zb_u_no _ _ (by omega)]
theorem fls_cnt {π : zV} {nw nm : Nat} : ∀ (n i : Nat) (τ : zV), i + n = nm → (∀ j, i ≤ j → j < nm → τ 4 j = 1 → 0 ≤ τ 7 j ∧ τ 7 j < nw) →
    sSum (sIt (sFlash π) i n τ 10) 0 nw + sSum (sIt (sFlash π) i n τ 8) 0 nm = sSum (τ 10) 0 nw + sSum (τ 8) 0 nm + sNum (sIn τ 1) i n ∧ τ 0 13 ≤ sIt (sFlash π) i n τ 0 13 ∧ sIt (sFlash π) i n τ 0 13 - τ 0 13 ≤ sSum (sIt (sFlash π) i n τ 10) 0 nw - sSum (τ 10) 0 nw
  | 0, i, τ, _, _ => by
    show sSum (τ 10) 0 nw + sSum (τ 8) 0 nm = _ + 0 ∧ τ 0 13 ≤ τ 0 13 ∧ τ 0 13 - τ 0 13 ≤ sSum (τ 10) 0 nw - _
    omega
  | n + 1, i, τ, hi, h => by
    have o : ∀ r j, r ≤ 9 → j ≠ i → (r = 0 → j ≠ 13) → sFlash π τ i r j = τ r j := fun r j h1 h2 h3 => sFlash_o π τ i (Or.inl ⟨h1, h2, h3⟩)
    obtain ⟨a1, a2, a3⟩ := fls_cnt (π := π) (nw := nw) (nm := nm) n (i + 1) (sFlash π τ i) (by omega) (fun j h1 h2 h3 => by
      rw [o 4 j (by omega) (by omega) (by omega)] at h3
      rw [o 7 j (by omega) (by omega) (by omega)]
      exact h j (by omega) h2 h3)
    have e4 : sNum (sIn (sFlash π τ i) 1) (i + 1) n = sNum (sIn τ 1) (i + 1) n := sNum_eq n (i + 1) (fun j h1 h2 => by unfold sIn; rw [o 4 j (by omega) (by omega) (by omega)])
    rw [e4] at a1
    have es : sIt (sFlash π) i (n + 1) τ = sIt (sFlash π) (i + 1) n (sFlash π τ i) := rfl
    rw [es]
    by_cases q : τ 4 i = 1
    · rw [sNum_t (by unfold sIn; rw [q]; decide)]
      have hb := h i (Nat.le_refl _) (by omega) q
      rcases fl_cnt (π := π) q with ⟨f1, f2, f3, f4⟩ | ⟨f1, f2, f3⟩
      · have s1 := sSum_one (f := τ 10) (g := sFlash π τ i 10) (k := (τ 7 i).toNat) nw 0 (Nat.zero_le _) (by omega) (fun j hj => by rw [f1 j, if_neg hj])
        rw [f1 _, if_pos rfl] at s1
        have s2 := sSum_eq (f := sFlash π τ i 8) (g := τ 8) nm 0 (fun j _ _ => f2 j)
        omega
      · have s1 := sSum_eq (f := sFlash π τ i 10) (g := τ 10) nw 0 (fun j _ _ => f1 j)
        have s2 := sSum_one (f := τ 8) (g := sFlash π τ i 8) (k := i) nm 0 (Nat.zero_le _) (by omega) (fun j hj => by rw [f2 j, if_neg hj])
        rw [f2 _, if_pos rfl] at s2
        omega
    · rw [sNum_f (by unfold sIn; rw [decide_eq_true_eq]; exact q)]
      have e : sFlash π τ i = τ := by unfold sFlash; rw [if_neg q]
      rw [e] at a1 a2 a3 ⊢
      exact ⟨a1, a2, a3⟩
/-- a minute -/
theorem min_cnt {π σ : zV} {N : Int} {H : zV → Nat → Bool} (hc : wC π σ N) (hw : wP π) :
    sSum (zap (sRun π H 1 σ) 10) 0 (π 0 1).toNat + sSum (zap (sRun π H 1 σ) 8) 0 (π 0 3).toNat = sSum (σ 10) 0 (π 0 1).toNat + sSum (σ 8) 0 (π 0 3).toNat + sNum (sIn σ 1) 0 (π 0 3).toNat ∧ σ 0 13 ≤ zap (sRun π H 1 σ) 0 13 ∧ zap (sRun π H 1 σ) 0 13 - σ 0 13 ≤ sSum (zap (sRun π H 1 σ) 10) 0 (π 0 1).toNat - sSum (σ 10) 0 (π 0 1).toNat := by
  have n := wP_n hw
  have lk : ∀ r j, r ≠ 11 → sLook π σ r j = σ r j := fun r j h => sLook_o _ _ h _
  have key := fls_cnt (π := π) (nw := (π 0 1).toNat) (nm := (π 0 3).toNat) (π 0 3).toNat 0 (sLook π σ) (by omega) (fun j _ h2 h3 => by
    rw [lk 4 j (by omega)] at h3
    rw [lk 7 j (by omega)]
    have m := wC_m hc (k := j) (by omega)
    unfold wM at m
    have := m.2.2.2.2.2.2.2.2.1 h3
    omega)
  have st : ∀ r j, (r = 8 ∨ r = 10 ∨ (r = 0 ∧ j = 13)) → zap (sRun π H 1 σ) r j = sIt (sFlash π) 0 (π 0 3).toNat (sLook π σ) r j := fun r j h => by
    show (if r < 11 then sMin π H σ r j else 0) = _
    rw [if_pos (by omega)]
    unfold sMin sTick
    rw [zb_u_no _ _ (by omega)]
    exact sIt_s_o π H (by omega) _ _ _
  have e10 : zap (sRun π H 1 σ) 10 = sIt (sFlash π) 0 (π 0 3).toNat (sLook π σ) 10 := funext fun j => st 10 j (by omega)
  have e8 : zap (sRun π H 1 σ) 8 = sIt (sFlash π) 0 (π 0 3).toNat (sLook π σ) 8 := funext fun j => st 8 j (by omega)
  have l10 : sLook π σ 10 = σ 10 := funext fun j => lk 10 j (by omega)
  have l8 : sLook π σ 8 = σ 8 := funext fun j => lk 8 j (by omega)
  have lI : sIn (sLook π σ) 1 = sIn σ 1 := funext fun j => by unfold sIn; rw [lk 4 j (by omega)]
  rw [e10, e8, st 0 13 (by omega)]
  rw [l10, l8, lI, lk 0 13 (by omega)] at key
  exact key
theorem sUnt_bd (π : zV) (H : zV → Nat → Bool) (x : Nat) : ∀ n i τ, sUnt π H x n i τ = -1 ∨ ((i : Int) ≤ sUnt π H x n i τ ∧ sUnt π H x n i τ < (i : Int) + n)
  | 0, _, _ => Or.inl rfl
  | n + 1, i, τ => by
    by_cases h : τ 4 x = 2
    · rw [sUnt_t h]; omega
    · rw [sUnt_f h]
      have := sUnt_bd π H x n (i + 1) (zap (sRun π H 1 τ))
      omega
theorem sUnt_sh (π : zV) (H : zV → Nat → Bool) (x : Nat) : ∀ n i τ, sUnt π H x n (i + 1) τ = if sUnt π H x n i τ < 0 then -1 else sUnt π H x n i τ + 1
  | 0, _, _ => rfl
  | n + 1, i, τ => by
    by_cases h : τ 4 x = 2
    · rw [sUnt_t h, sUnt_t h, if_neg (by omega)]
      omega
    · rw [sUnt_f h, sUnt_f h]
      exact sUnt_sh π H x n (i + 1) _
theorem sUnt_more (π : zV) (H : zV → Nat → Bool) (x : Nat) : ∀ n i τ, 0 ≤ sUnt π H x n i τ → sUnt π H x (n + 1) i τ = sUnt π H x n i τ
  | 0, _, _, h => absurd h (by show ¬ (0 : Int) ≤ -1; omega)
  | n + 1, i, τ, h => by
    by_cases q : τ 4 x = 2
    · rw [sUnt_t q, sUnt_t q]
    · rw [sUnt_f q] at h
      rw [sUnt_f q, sUnt_f q]
      exact sUnt_more π H x n (i + 1) _ h
/-- what was foreseen comes -/
theorem unt_next {π σ : zV} {H : zV → Nat → Bool} {x : Nat} (h : 0 < sUnt π H x 361 0 σ) : sUnt π H x 361 0 (zap (sRun π H 1 σ)) = sUnt π H x 361 0 σ - 1 := by
  have q : ¬ σ 4 x = 2 := fun q => by rw [sUnt_t q] at h; omega
  rw [sUnt_f q] at h ⊢
  rw [sUnt_sh] at h ⊢
  by_cases k : sUnt π H x 360 0 (zap (sRun π H 1 σ)) < 0
  · rw [if_pos k] at h; omega
  · rw [if_neg k]
    rw [sUnt_more π H x 360 0 _ (by omega)]
    omega
theorem unt_0 {π σ : zV} {H : zV → Nat → Bool} {x : Nat} : (sUnt π H x 361 0 σ = 0 ↔ σ 4 x = 2) ∧ -1 ≤ sUnt π H x 361 0 σ ∧ sUnt π H x 361 0 σ ≤ 360 := by
  have b := sUnt_bd π H x 361 0 σ
  by_cases q : σ 4 x = 2
  · rw [sUnt_t q]; omega
  · have b2 := sUnt_bd π H x 360 (0 + 1) (zap (sRun π H 1 σ))
    rw [sUnt_f q] at b ⊢
    omega
theorem sNum_z {f : Nat → Bool} {n k : Nat} (h : sNum f 0 n = 0) (hk : k < n) : f k = false := by
  cases q : f k with
  | false => rfl
  | true =>
    have e := sNum_one (f := fun j => f j && decide (j ≠ k)) (g := f) (k := k) n 0 (Nat.zero_le _) (by omega) (fun j hj => by
      try dsimp only
      rw [decide_eq_true hj, Bool.and_true])
    have b := sNum_bd (fun j => f j && decide (j ≠ k)) n 0
    try dsimp only at e
    rw [h, q, decide_eq_false (by omega : ¬ k ≠ k), bI_t rfl, bI_f (by decide)] at e
    omega
theorem no_cloud {π : zV} {w : Int} {m : Int} (h : sNum (fun i => decide (π 11 i = w)) 0 (π 0 2).toNat = 0) : sCl π w m = false := by
  unfold sCl
  refine Bool.eq_false_iff.mpr (fun q => ?_)
  obtain ⟨i, h1, h2⟩ := List.any_eq_true.mp q
  have h3 := List.mem_range'_1.mp h1
  have h4 := sNum_z h (k := i) (by omega)
  unfold sCl1 at h2
  rw [decide_eq_true_eq] at h2
  exact of_decide_eq_false h4 h2.1
end

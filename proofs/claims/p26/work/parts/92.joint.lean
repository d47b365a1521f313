/-! THE OBJECT AND THE CHAIN BY HAND, SIDE BY SIDE -/
section
variable {l : Launch} {Γ : zk_G} {d : Nat} {F : Heap → Prop}
theorem hOr_424 {Z Z1 : zV} {p : Nat} (hp : p = 368 ∨ p = 400) {H : zV → Nat → Bool} (h : hOr Z p H) (e : ∀ a j, 320 ≤ a → a < 424 → Z1 a j = Z a j) : hOr Z1 p H := by
  have hpb : 320 ≤ p ∧ p + 21 ≤ 424 := by rcases hp with rfl | rfl <;> omega
  obtain ⟨n, st, h0, h1, h2, h3, h4⟩ := h
  have r : ∀ x, x < 20 → ∀ j, Z1 (p + x) j = Z (p + x) j := fun x h2 j => e _ _ (by omega) (by omega)
  have hv : vP Z1 p = vP Z p := by
    funext x y
    unfold vP
    by_cases hx : x < 15
    · rw [if_pos hx, if_pos hx, r x (by omega) y]
    · rw [if_neg hx, if_neg hx]
  have f16 : Z1 (p + 16) = Z (p + 16) := funext (r 16 (by decide))
  have f17 : Z1 (p + 17) = Z (p + 17) := funext (r 17 (by decide))
  have f18 : Z1 (p + 18) = Z (p + 18) := funext (r 18 (by decide))
  have f19 : Z1 (p + 19) = Z (p + 19) := funext (r 19 (by decide))
  refine ⟨n, st, (r 15 (by decide) 0).trans h0, h1, h2, fun j hj => ?_, fun σ N hc => ?_⟩
  · rw [f16, f17]; exact h3 j hj
  · rw [hv, f16, f18, f19]
    rw [hv] at hc
    exact h4 σ N hc
theorem St_424 {Z Z2 : zV} {p : Nat} {H : zV → Nat → Bool} {π σ : zV} {t o N : Int} (hS : St Z p H π σ t o N) (e : ∀ a j, 320 ≤ a → a < 424 → Z2 a j = Z a j) : St Z2 p H π σ t o N := by
  obtain ⟨hp, hcp, h1, h2, hw, hc0, hH, ht, ho, hN, h4⟩ := hS
  have hpb : 320 ≤ p ∧ p + 21 ≤ 424 := by rcases hp with rfl | rfl <;> omega
  refine ⟨hp, (e _ 0 (by omega) (by omega)).trans hcp, ?_, ?_, hw, hc0, hOr_424 hp hH e, (e _ 1 (by omega) (by omega)).trans ht, (e _ 0 (by omega) (by omega)).trans ho, hN, h4⟩
  · rw [← h1]
    funext x y
    unfold vP
    by_cases hx : x < 15
    · rw [if_pos hx, if_pos hx, e _ _ (by omega) (by omega)]
    · rw [if_neg hx, if_neg hx]
  · rw [← h2]
    funext x y
    unfold nC
    by_cases hx : x < 11
    · rw [if_pos hx, if_pos hx, e _ _ (by omega) (by omega)]
    · rw [if_neg hx, if_neg hx]
theorem zin_424 {W W1 : zV} (h : zin W) (e : ∀ a j, a < 424 → W1 a j = W a j) : zin W1 := fun a j x ha hj hx => h a j x ha hj (by unfold zb_v at hx ⊢; rw [← e a j ha]; exact hx)
theorem zin_L {W Z : zV} (h : zin Z) : zin (zL Z W) := fun a j x ha hj hx => by
  by_cases q : a = 56
  · exfalso
    rw [q] at hj
    exact absurd hj (by show ¬ j < (zb_s 56).2; have e : (zb_s 56).2 = 0 := by decide
                        omega)
  · refine h a j x ha hj ?_
    unfold zb_v zL at hx
    rw [if_pos ⟨ha, q⟩] at hx
    exact hx
theorem sm_zap {c : Nat → Nat} {W π σ : zV} (h : sm c W π σ) : sm c W π (zap σ) := h
/-- THE TWO SIDE BY SIDE -/
def lJ (E : Nat → Nat × Nat) (e : Nat) (c : Nat → Nat) (W : zV) (p : Nat) (H : zV → Nat → Bool) (π σ : zV) (t o N : Int) : Prop :=
  zE E e c ∧ (∀ a, a < 424 → a ≠ 56 → E a = zb_s a) ∧ zin W ∧ St W p H π σ t o N ∧ sm c W π σ ∧ hRow c W ∧ (∀ (N : Int) (σ : zV), wC π σ N → N ≤ 90000 → (∀ w : Nat, w < c 1 → (σ 11 w ≠ 0 ↔ sPass π σ w (σ 0 1) = true)) → ∀ k, k < c 3 → H σ k = (List.range' 0 (c 4)).any (sHs c W π σ k)) ∧ lOk π σ
end

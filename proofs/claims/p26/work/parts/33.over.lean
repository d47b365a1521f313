/-! A CHAIN WRITTEN OVER: one form for all that a chain's methods leave -/
section
variable {l : Launch} {Γ : zk_G} {d : Nat} {Z : Nat → Nat → Int} {F : Heap → Prop}
theorem vP_ap (Z : zV) (p i j : Nat) : vP Z p i j = if i < 15 then Z (p + i) j else 0 := rfl
theorem vC_ap (Z : zV) (c i j : Nat) : vC Z c i j = if i < 12 then Z (c + i) j else 0 := rfl
theorem zk_Does.to {l : Launch} {Γ : zk_G} {J : zk_MI} {d kc ks : Nat} {As : List Value} {M M1 : zk_M} {F F1 : Heap → Prop} {v v2 : Option Value} (h : zk_Does l Γ J d kc ks As M F v M1 F1) (e : v = v2) : zk_Does l Γ J d kc ks As M F v2 M1 F1 := e ▸ h
theorem zk_Does.toM {l : Launch} {Γ : zk_G} {J : zk_MI} {d kc ks : Nat} {As : List Value} {M M1 M2 : zk_M} {F F1 : Heap → Prop} {v : Option Value} (h : zk_Does l Γ J d kc ks As M F v M1 F1) (e : M1 = M2) : zk_Does l Γ J d kc ks As M F v M2 F1 := e ▸ h
theorem sAcross_bd {π : zV} (h : wP π) {w : Nat} (hk : (w : Int) < π 0 1) (x : Int) : 0 ≤ sAcross π w x ∧ sAcross π w x < π 0 0 := by
  have h1 := wP_w h hk
  unfold sAcross
  split <;> omega
/-- Z, but the chain at c as σ says -/
def zW (Z : zV) (c : Nat) (σ : zV) : zV := fun a j => if c ≤ a ∧ a < c + 12 then σ (a - c) j else Z a j
/-- only the chain's own rows -/
def cut (σ : zV) : zV := fun i j => if i < 12 then σ i j else 0
theorem zW_u (Z : zV) (c k j : Nat) (z : Int) (σ : zV) (hk : k < 12) : zb_u (zW Z c σ) (c + k) j z = zW Z c (zb_u σ k j z) := by
  funext x y
  unfold zb_u zW
  dsimp only
  by_cases h : x = c + k ∧ y = j
  · rw [if_pos h, if_pos (by omega), if_pos (by omega)]
  · rw [if_neg h]
    by_cases h2 : c ≤ x ∧ x < c + 12
    · rw [if_pos h2, if_pos h2, if_neg (by omega)]
    · rw [if_neg h2, if_neg h2]
theorem zW_self (Z : zV) (c : Nat) : zW Z c (vC Z c) = Z := by
  funext x y
  unfold zW vC
  by_cases h2 : c ≤ x ∧ x < c + 12
  · rw [if_pos h2, if_pos (by omega), show c + (x - c) = x from by omega]
  · rw [if_neg h2]
theorem zW_i (Z : zV) (c k j : Nat) (z : Int) (hk : k < 12) : zb_u Z (c + k) j z = zW Z c (zb_u (vC Z c) k j z) := by
  rw [← zW_u Z c k j z _ hk, zW_self]
theorem zW_o (Z : zV) (c k j : Nat) (z : Int) (σ : zV) (hk : k < 12) : zW (zb_u Z (c + k) j z) c σ = zW Z c σ := by
  funext x y
  unfold zW zb_u
  by_cases h2 : c ≤ x ∧ x < c + 12
  · rw [if_pos h2, if_pos h2]
  · rw [if_neg h2, if_neg h2, if_neg (by omega)]
theorem zW_W (Z : zV) (c : Nat) (σ τ : zV) : zW (zW Z c σ) c τ = zW Z c τ := by
  funext x y
  unfold zW
  by_cases h2 : c ≤ x ∧ x < c + 12
  · rw [if_pos h2, if_pos h2]
  · rw [if_neg h2, if_neg h2, if_neg h2]
theorem vC_W (Z : zV) (c : Nat) (σ : zV) : vC (zW Z c σ) c = cut σ := by
  funext x y
  unfold vC zW cut
  by_cases h : x < 12
  · rw [if_pos h, if_pos h, if_pos (by omega), show c + x - c = x from by omega]
  · rw [if_neg h, if_neg h]
theorem vP_W (Z : zV) (c p : Nat) (σ : zV) (h : c + 12 ≤ p) : vP (zW Z c σ) p = vP Z p := by
  funext x y
  unfold vP zW
  by_cases hx : x < 15
  · rw [if_pos hx, if_pos hx, if_neg (by omega)]
  · rw [if_neg hx, if_neg hx]
theorem zW_cut (Z : zV) (c : Nat) (σ : zV) : zW Z c (cut σ) = zW Z c σ := by
  funext x y
  unfold zW cut
  by_cases h2 : c ≤ x ∧ x < c + 12
  · rw [if_pos h2, if_pos h2, if_pos (by omega)]
  · rw [if_neg h2, if_neg h2]
theorem cut_cut (σ : zV) : cut (cut σ) = cut σ := by
  funext x y
  unfold cut
  by_cases h : x < 12
  · rw [if_pos h, if_pos h]
  · rw [if_neg h, if_neg h]
theorem cut_vC (Z : zV) (c : Nat) : cut (vC Z c) = vC Z c := by
  funext x y
  unfold cut vC
  by_cases h : x < 12
  · rw [if_pos h, if_pos h]
  · rw [if_neg h, if_neg h]
theorem cut_u (σ : zV) (k j : Nat) (z : Int) (hk : k < 12) : cut (zb_u σ k j z) = zb_u (cut σ) k j z := by
  funext x y
  unfold cut zb_u
  dsimp only
  by_cases h : x < 12
  · rw [if_pos h]
    by_cases q : x = k ∧ y = j
    · rw [if_pos q, if_pos q]
    · rw [if_neg q, if_neg q, if_pos h]
  · rw [if_neg h, if_neg (by omega), if_neg h]
theorem zu_336 (Z σ : zV) (j : Nat) (z : Int) : zb_u (zW Z 336 σ) 336 j z = zW Z 336 (zb_u σ 0 j z) := zW_u Z 336 0 j z σ (by decide)
theorem zo_336 (Z σ : zV) (j : Nat) (z : Int) : zW (zb_u Z 336 j z) 336 σ = zW Z 336 σ := zW_o Z 336 0 j z σ (by decide)
theorem zc_336 (Z : zV) (j : Nat) (z : Int) : vC (zb_u Z 336 j z) 336 = zb_u (vC Z 336) 0 j z := vC_s Z 336 0 j z (by decide)
theorem zp_368_336 (Z : zV) (j : Nat) (z : Int) : vP (zb_u Z 336 j z) 368 = vP Z 368 := vP_u Z (by decide)
theorem zp_400_336 (Z : zV) (j : Nat) (z : Int) : vP (zb_u Z 336 j z) 400 = vP Z 400 := vP_u Z (by decide)
theorem zu_337 (Z σ : zV) (j : Nat) (z : Int) : zb_u (zW Z 336 σ) 337 j z = zW Z 336 (zb_u σ 1 j z) := zW_u Z 336 1 j z σ (by decide)
theorem zo_337 (Z σ : zV) (j : Nat) (z : Int) : zW (zb_u Z 337 j z) 336 σ = zW Z 336 σ := zW_o Z 336 1 j z σ (by decide)
theorem zc_337 (Z : zV) (j : Nat) (z : Int) : vC (zb_u Z 337 j z) 336 = zb_u (vC Z 336) 1 j z := vC_s Z 336 1 j z (by decide)
theorem zp_368_337 (Z : zV) (j : Nat) (z : Int) : vP (zb_u Z 337 j z) 368 = vP Z 368 := vP_u Z (by decide)
theorem zp_400_337 (Z : zV) (j : Nat) (z : Int) : vP (zb_u Z 337 j z) 400 = vP Z 400 := vP_u Z (by decide)
theorem zu_338 (Z σ : zV) (j : Nat) (z : Int) : zb_u (zW Z 336 σ) 338 j z = zW Z 336 (zb_u σ 2 j z) := zW_u Z 336 2 j z σ (by decide)
theorem zo_338 (Z σ : zV) (j : Nat) (z : Int) : zW (zb_u Z 338 j z) 336 σ = zW Z 336 σ := zW_o Z 336 2 j z σ (by decide)
theorem zc_338 (Z : zV) (j : Nat) (z : Int) : vC (zb_u Z 338 j z) 336 = zb_u (vC Z 336) 2 j z := vC_s Z 336 2 j z (by decide)
theorem zp_368_338 (Z : zV) (j : Nat) (z : Int) : vP (zb_u Z 338 j z) 368 = vP Z 368 := vP_u Z (by decide)
theorem zp_400_338 (Z : zV) (j : Nat) (z : Int) : vP (zb_u Z 338 j z) 400 = vP Z 400 := vP_u Z (by decide)
theorem zu_339 (Z σ : zV) (j : Nat) (z : Int) : zb_u (zW Z 336 σ) 339 j z = zW Z 336 (zb_u σ 3 j z) := zW_u Z 336 3 j z σ (by decide)
theorem zo_339 (Z σ : zV) (j : Nat) (z : Int) : zW (zb_u Z 339 j z) 336 σ = zW Z 336 σ := zW_o Z 336 3 j z σ (by decide)
theorem zc_339 (Z : zV) (j : Nat) (z : Int) : vC (zb_u Z 339 j z) 336 = zb_u (vC Z 336) 3 j z := vC_s Z 336 3 j z (by decide)
theorem zp_368_339 (Z : zV) (j : Nat) (z : Int) : vP (zb_u Z 339 j z) 368 = vP Z 368 := vP_u Z (by decide)
theorem zp_400_339 (Z : zV) (j : Nat) (z : Int) : vP (zb_u Z 339 j z) 400 = vP Z 400 := vP_u Z (by decide)
theorem zu_340 (Z σ : zV) (j : Nat) (z : Int) : zb_u (zW Z 336 σ) 340 j z = zW Z 336 (zb_u σ 4 j z) := zW_u Z 336 4 j z σ (by decide)
theorem zo_340 (Z σ : zV) (j : Nat) (z : Int) : zW (zb_u Z 340 j z) 336 σ = zW Z 336 σ := zW_o Z 336 4 j z σ (by decide)
theorem zc_340 (Z : zV) (j : Nat) (z : Int) : vC (zb_u Z 340 j z) 336 = zb_u (vC Z 336) 4 j z := vC_s Z 336 4 j z (by decide)
theorem zp_368_340 (Z : zV) (j : Nat) (z : Int) : vP (zb_u Z 340 j z) 368 = vP Z 368 := vP_u Z (by decide)
theorem zp_400_340 (Z : zV) (j : Nat) (z : Int) : vP (zb_u Z 340 j z) 400 = vP Z 400 := vP_u Z (by decide)
theorem zu_341 (Z σ : zV) (j : Nat) (z : Int) : zb_u (zW Z 336 σ) 341 j z = zW Z 336 (zb_u σ 5 j z) := zW_u Z 336 5 j z σ (by decide)
theorem zo_341 (Z σ : zV) (j : Nat) (z : Int) : zW (zb_u Z 341 j z) 336 σ = zW Z 336 σ := zW_o Z 336 5 j z σ (by decide)
theorem zc_341 (Z : zV) (j : Nat) (z : Int) : vC (zb_u Z 341 j z) 336 = zb_u (vC Z 336) 5 j z := vC_s Z 336 5 j z (by decide)
theorem zp_368_341 (Z : zV) (j : Nat) (z : Int) : vP (zb_u Z 341 j z) 368 = vP Z 368 := vP_u Z (by decide)
theorem zp_400_341 (Z : zV) (j : Nat) (z : Int) : vP (zb_u Z 341 j z) 400 = vP Z 400 := vP_u Z (by decide)
theorem zu_342 (Z σ : zV) (j : Nat) (z : Int) : zb_u (zW Z 336 σ) 342 j z = zW Z 336 (zb_u σ 6 j z) := zW_u Z 336 6 j z σ (by decide)
theorem zo_342 (Z σ : zV) (j : Nat) (z : Int) : zW (zb_u Z 342 j z) 336 σ = zW Z 336 σ := zW_o Z 336 6 j z σ (by decide)
theorem zc_342 (Z : zV) (j : Nat) (z : Int) : vC (zb_u Z 342 j z) 336 = zb_u (vC Z 336) 6 j z := vC_s Z 336 6 j z (by decide)
theorem zp_368_342 (Z : zV) (j : Nat) (z : Int) : vP (zb_u Z 342 j z) 368 = vP Z 368 := vP_u Z (by decide)
theorem zp_400_342 (Z : zV) (j : Nat) (z : Int) : vP (zb_u Z 342 j z) 400 = vP Z 400 := vP_u Z (by decide)
theorem zu_343 (Z σ : zV) (j : Nat) (z : Int) : zb_u (zW Z 336 σ) 343 j z = zW Z 336 (zb_u σ 7 j z) := zW_u Z 336 7 j z σ (by decide)
theorem zo_343 (Z σ : zV) (j : Nat) (z : Int) : zW (zb_u Z 343 j z) 336 σ = zW Z 336 σ := zW_o Z 336 7 j z σ (by decide)
theorem zc_343 (Z : zV) (j : Nat) (z : Int) : vC (zb_u Z 343 j z) 336 = zb_u (vC Z 336) 7 j z := vC_s Z 336 7 j z (by decide)
theorem zp_368_343 (Z : zV) (j : Nat) (z : Int) : vP (zb_u Z 343 j z) 368 = vP Z 368 := vP_u Z (by decide)
theorem zp_400_343 (Z : zV) (j : Nat) (z : Int) : vP (zb_u Z 343 j z) 400 = vP Z 400 := vP_u Z (by decide)
theorem zu_344 (Z σ : zV) (j : Nat) (z : Int) : zb_u (zW Z 336 σ) 344 j z = zW Z 336 (zb_u σ 8 j z) := zW_u Z 336 8 j z σ (by decide)
theorem zo_344 (Z σ : zV) (j : Nat) (z : Int) : zW (zb_u Z 344 j z) 336 σ = zW Z 336 σ := zW_o Z 336 8 j z σ (by decide)
theorem zc_344 (Z : zV) (j : Nat) (z : Int) : vC (zb_u Z 344 j z) 336 = zb_u (vC Z 336) 8 j z := vC_s Z 336 8 j z (by decide)
theorem zp_368_344 (Z : zV) (j : Nat) (z : Int) : vP (zb_u Z 344 j z) 368 = vP Z 368 := vP_u Z (by decide)
theorem zp_400_344 (Z : zV) (j : Nat) (z : Int) : vP (zb_u Z 344 j z) 400 = vP Z 400 := vP_u Z (by decide)
theorem zu_345 (Z σ : zV) (j : Nat) (z : Int) : zb_u (zW Z 336 σ) 345 j z = zW Z 336 (zb_u σ 9 j z) := zW_u Z 336 9 j z σ (by decide)
theorem zo_345 (Z σ : zV) (j : Nat) (z : Int) : zW (zb_u Z 345 j z) 336 σ = zW Z 336 σ := zW_o Z 336 9 j z σ (by decide)
theorem zc_345 (Z : zV) (j : Nat) (z : Int) : vC (zb_u Z 345 j z) 336 = zb_u (vC Z 336) 9 j z := vC_s Z 336 9 j z (by decide)
theorem zp_368_345 (Z : zV) (j : Nat) (z : Int) : vP (zb_u Z 345 j z) 368 = vP Z 368 := vP_u Z (by decide)
theorem zp_400_345 (Z : zV) (j : Nat) (z : Int) : vP (zb_u Z 345 j z) 400 = vP Z 400 := vP_u Z (by decide)
theorem zu_346 (Z σ : zV) (j : Nat) (z : Int) : zb_u (zW Z 336 σ) 346 j z = zW Z 336 (zb_u σ 10 j z) := zW_u Z 336 10 j z σ (by decide)
theorem zo_346 (Z σ : zV) (j : Nat) (z : Int) : zW (zb_u Z 346 j z) 336 σ = zW Z 336 σ := zW_o Z 336 10 j z σ (by decide)
theorem zc_346 (Z : zV) (j : Nat) (z : Int) : vC (zb_u Z 346 j z) 336 = zb_u (vC Z 336) 10 j z := vC_s Z 336 10 j z (by decide)
theorem zp_368_346 (Z : zV) (j : Nat) (z : Int) : vP (zb_u Z 346 j z) 368 = vP Z 368 := vP_u Z (by decide)
theorem zp_400_346 (Z : zV) (j : Nat) (z : Int) : vP (zb_u Z 346 j z) 400 = vP Z 400 := vP_u Z (by decide)
theorem zu_347 (Z σ : zV) (j : Nat) (z : Int) : zb_u (zW Z 336 σ) 347 j z = zW Z 336 (zb_u σ 11 j z) := zW_u Z 336 11 j z σ (by decide)
theorem zo_347 (Z σ : zV) (j : Nat) (z : Int) : zW (zb_u Z 347 j z) 336 σ = zW Z 336 σ := zW_o Z 336 11 j z σ (by decide)
theorem zc_347 (Z : zV) (j : Nat) (z : Int) : vC (zb_u Z 347 j z) 336 = zb_u (vC Z 336) 11 j z := vC_s Z 336 11 j z (by decide)
theorem zp_368_347 (Z : zV) (j : Nat) (z : Int) : vP (zb_u Z 347 j z) 368 = vP Z 368 := vP_u Z (by decide)
theorem zp_400_347 (Z : zV) (j : Nat) (z : Int) : vP (zb_u Z 347 j z) 400 = vP Z 400 := vP_u Z (by decide)
theorem zq_368_336 (Z σ : zV) : vP (zW Z 336 σ) 368 = vP Z 368 := vP_W Z 336 368 σ (by decide)
theorem zq_400_336 (Z σ : zV) : vP (zW Z 336 σ) 400 = vP Z 400 := vP_W Z 336 400 σ (by decide)
theorem zu_352 (Z σ : zV) (j : Nat) (z : Int) : zb_u (zW Z 352 σ) 352 j z = zW Z 352 (zb_u σ 0 j z) := zW_u Z 352 0 j z σ (by decide)
theorem zo_352 (Z σ : zV) (j : Nat) (z : Int) : zW (zb_u Z 352 j z) 352 σ = zW Z 352 σ := zW_o Z 352 0 j z σ (by decide)
theorem zc_352 (Z : zV) (j : Nat) (z : Int) : vC (zb_u Z 352 j z) 352 = zb_u (vC Z 352) 0 j z := vC_s Z 352 0 j z (by decide)
theorem zp_368_352 (Z : zV) (j : Nat) (z : Int) : vP (zb_u Z 352 j z) 368 = vP Z 368 := vP_u Z (by decide)
theorem zp_400_352 (Z : zV) (j : Nat) (z : Int) : vP (zb_u Z 352 j z) 400 = vP Z 400 := vP_u Z (by decide)
theorem zu_353 (Z σ : zV) (j : Nat) (z : Int) : zb_u (zW Z 352 σ) 353 j z = zW Z 352 (zb_u σ 1 j z) := zW_u Z 352 1 j z σ (by decide)
theorem zo_353 (Z σ : zV) (j : Nat) (z : Int) : zW (zb_u Z 353 j z) 352 σ = zW Z 352 σ := zW_o Z 352 1 j z σ (by decide)
theorem zc_353 (Z : zV) (j : Nat) (z : Int) : vC (zb_u Z 353 j z) 352 = zb_u (vC Z 352) 1 j z := vC_s Z 352 1 j z (by decide)
theorem zp_368_353 (Z : zV) (j : Nat) (z : Int) : vP (zb_u Z 353 j z) 368 = vP Z 368 := vP_u Z (by decide)
theorem zp_400_353 (Z : zV) (j : Nat) (z : Int) : vP (zb_u Z 353 j z) 400 = vP Z 400 := vP_u Z (by decide)
theorem zu_354 (Z σ : zV) (j : Nat) (z : Int) : zb_u (zW Z 352 σ) 354 j z = zW Z 352 (zb_u σ 2 j z) := zW_u Z 352 2 j z σ (by decide)
theorem zo_354 (Z σ : zV) (j : Nat) (z : Int) : zW (zb_u Z 354 j z) 352 σ = zW Z 352 σ := zW_o Z 352 2 j z σ (by decide)
theorem zc_354 (Z : zV) (j : Nat) (z : Int) : vC (zb_u Z 354 j z) 352 = zb_u (vC Z 352) 2 j z := vC_s Z 352 2 j z (by decide)
theorem zp_368_354 (Z : zV) (j : Nat) (z : Int) : vP (zb_u Z 354 j z) 368 = vP Z 368 := vP_u Z (by decide)
theorem zp_400_354 (Z : zV) (j : Nat) (z : Int) : vP (zb_u Z 354 j z) 400 = vP Z 400 := vP_u Z (by decide)
theorem zu_355 (Z σ : zV) (j : Nat) (z : Int) : zb_u (zW Z 352 σ) 355 j z = zW Z 352 (zb_u σ 3 j z) := zW_u Z 352 3 j z σ (by decide)
theorem zo_355 (Z σ : zV) (j : Nat) (z : Int) : zW (zb_u Z 355 j z) 352 σ = zW Z 352 σ := zW_o Z 352 3 j z σ (by decide)
theorem zc_355 (Z : zV) (j : Nat) (z : Int) : vC (zb_u Z 355 j z) 352 = zb_u (vC Z 352) 3 j z := vC_s Z 352 3 j z (by decide)
theorem zp_368_355 (Z : zV) (j : Nat) (z : Int) : vP (zb_u Z 355 j z) 368 = vP Z 368 := vP_u Z (by decide)
theorem zp_400_355 (Z : zV) (j : Nat) (z : Int) : vP (zb_u Z 355 j z) 400 = vP Z 400 := vP_u Z (by decide)
theorem zu_356 (Z σ : zV) (j : Nat) (z : Int) : zb_u (zW Z 352 σ) 356 j z = zW Z 352 (zb_u σ 4 j z) := zW_u Z 352 4 j z σ (by decide)
theorem zo_356 (Z σ : zV) (j : Nat) (z : Int) : zW (zb_u Z 356 j z) 352 σ = zW Z 352 σ := zW_o Z 352 4 j z σ (by decide)
theorem zc_356 (Z : zV) (j : Nat) (z : Int) : vC (zb_u Z 356 j z) 352 = zb_u (vC Z 352) 4 j z := vC_s Z 352 4 j z (by decide)
theorem zp_368_356 (Z : zV) (j : Nat) (z : Int) : vP (zb_u Z 356 j z) 368 = vP Z 368 := vP_u Z (by decide)
theorem zp_400_356 (Z : zV) (j : Nat) (z : Int) : vP (zb_u Z 356 j z) 400 = vP Z 400 := vP_u Z (by decide)
theorem zu_357 (Z σ : zV) (j : Nat) (z : Int) : zb_u (zW Z 352 σ) 357 j z = zW Z 352 (zb_u σ 5 j z) := zW_u Z 352 5 j z σ (by decide)
theorem zo_357 (Z σ : zV) (j : Nat) (z : Int) : zW (zb_u Z 357 j z) 352 σ = zW Z 352 σ := zW_o Z 352 5 j z σ (by decide)
theorem zc_357 (Z : zV) (j : Nat) (z : Int) : vC (zb_u Z 357 j z) 352 = zb_u (vC Z 352) 5 j z := vC_s Z 352 5 j z (by decide)
theorem zp_368_357 (Z : zV) (j : Nat) (z : Int) : vP (zb_u Z 357 j z) 368 = vP Z 368 := vP_u Z (by decide)
theorem zp_400_357 (Z : zV) (j : Nat) (z : Int) : vP (zb_u Z 357 j z) 400 = vP Z 400 := vP_u Z (by decide)
theorem zu_358 (Z σ : zV) (j : Nat) (z : Int) : zb_u (zW Z 352 σ) 358 j z = zW Z 352 (zb_u σ 6 j z) := zW_u Z 352 6 j z σ (by decide)
theorem zo_358 (Z σ : zV) (j : Nat) (z : Int) : zW (zb_u Z 358 j z) 352 σ = zW Z 352 σ := zW_o Z 352 6 j z σ (by decide)
theorem zc_358 (Z : zV) (j : Nat) (z : Int) : vC (zb_u Z 358 j z) 352 = zb_u (vC Z 352) 6 j z := vC_s Z 352 6 j z (by decide)
theorem zp_368_358 (Z : zV) (j : Nat) (z : Int) : vP (zb_u Z 358 j z) 368 = vP Z 368 := vP_u Z (by decide)
theorem zp_400_358 (Z : zV) (j : Nat) (z : Int) : vP (zb_u Z 358 j z) 400 = vP Z 400 := vP_u Z (by decide)
theorem zu_359 (Z σ : zV) (j : Nat) (z : Int) : zb_u (zW Z 352 σ) 359 j z = zW Z 352 (zb_u σ 7 j z) := zW_u Z 352 7 j z σ (by decide)
theorem zo_359 (Z σ : zV) (j : Nat) (z : Int) : zW (zb_u Z 359 j z) 352 σ = zW Z 352 σ := zW_o Z 352 7 j z σ (by decide)
theorem zc_359 (Z : zV) (j : Nat) (z : Int) : vC (zb_u Z 359 j z) 352 = zb_u (vC Z 352) 7 j z := vC_s Z 352 7 j z (by decide)
theorem zp_368_359 (Z : zV) (j : Nat) (z : Int) : vP (zb_u Z 359 j z) 368 = vP Z 368 := vP_u Z (by decide)
theorem zp_400_359 (Z : zV) (j : Nat) (z : Int) : vP (zb_u Z 359 j z) 400 = vP Z 400 := vP_u Z (by decide)
theorem zu_360 (Z σ : zV) (j : Nat) (z : Int) : zb_u (zW Z 352 σ) 360 j z = zW Z 352 (zb_u σ 8 j z) := zW_u Z 352 8 j z σ (by decide)
theorem zo_360 (Z σ : zV) (j : Nat) (z : Int) : zW (zb_u Z 360 j z) 352 σ = zW Z 352 σ := zW_o Z 352 8 j z σ (by decide)
theorem zc_360 (Z : zV) (j : Nat) (z : Int) : vC (zb_u Z 360 j z) 352 = zb_u (vC Z 352) 8 j z := vC_s Z 352 8 j z (by decide)
theorem zp_368_360 (Z : zV) (j : Nat) (z : Int) : vP (zb_u Z 360 j z) 368 = vP Z 368 := vP_u Z (by decide)
theorem zp_400_360 (Z : zV) (j : Nat) (z : Int) : vP (zb_u Z 360 j z) 400 = vP Z 400 := vP_u Z (by decide)
theorem zu_361 (Z σ : zV) (j : Nat) (z : Int) : zb_u (zW Z 352 σ) 361 j z = zW Z 352 (zb_u σ 9 j z) := zW_u Z 352 9 j z σ (by decide)
theorem zo_361 (Z σ : zV) (j : Nat) (z : Int) : zW (zb_u Z 361 j z) 352 σ = zW Z 352 σ := zW_o Z 352 9 j z σ (by decide)
theorem zc_361 (Z : zV) (j : Nat) (z : Int) : vC (zb_u Z 361 j z) 352 = zb_u (vC Z 352) 9 j z := vC_s Z 352 9 j z (by decide)
theorem zp_368_361 (Z : zV) (j : Nat) (z : Int) : vP (zb_u Z 361 j z) 368 = vP Z 368 := vP_u Z (by decide)
theorem zp_400_361 (Z : zV) (j : Nat) (z : Int) : vP (zb_u Z 361 j z) 400 = vP Z 400 := vP_u Z (by decide)
theorem zu_362 (Z σ : zV) (j : Nat) (z : Int) : zb_u (zW Z 352 σ) 362 j z = zW Z 352 (zb_u σ 10 j z) := zW_u Z 352 10 j z σ (by decide)
theorem zo_362 (Z σ : zV) (j : Nat) (z : Int) : zW (zb_u Z 362 j z) 352 σ = zW Z 352 σ := zW_o Z 352 10 j z σ (by decide)
theorem zc_362 (Z : zV) (j : Nat) (z : Int) : vC (zb_u Z 362 j z) 352 = zb_u (vC Z 352) 10 j z := vC_s Z 352 10 j z (by decide)
theorem zp_368_362 (Z : zV) (j : Nat) (z : Int) : vP (zb_u Z 362 j z) 368 = vP Z 368 := vP_u Z (by decide)
theorem zp_400_362 (Z : zV) (j : Nat) (z : Int) : vP (zb_u Z 362 j z) 400 = vP Z 400 := vP_u Z (by decide)
theorem zu_363 (Z σ : zV) (j : Nat) (z : Int) : zb_u (zW Z 352 σ) 363 j z = zW Z 352 (zb_u σ 11 j z) := zW_u Z 352 11 j z σ (by decide)
theorem zo_363 (Z σ : zV) (j : Nat) (z : Int) : zW (zb_u Z 363 j z) 352 σ = zW Z 352 σ := zW_o Z 352 11 j z σ (by decide)
theorem zc_363 (Z : zV) (j : Nat) (z : Int) : vC (zb_u Z 363 j z) 352 = zb_u (vC Z 352) 11 j z := vC_s Z 352 11 j z (by decide)
theorem zp_368_363 (Z : zV) (j : Nat) (z : Int) : vP (zb_u Z 363 j z) 368 = vP Z 368 := vP_u Z (by decide)
theorem zp_400_363 (Z : zV) (j : Nat) (z : Int) : vP (zb_u Z 363 j z) 400 = vP Z 400 := vP_u Z (by decide)
theorem zq_368_352 (Z σ : zV) : vP (zW Z 352 σ) 368 = vP Z 368 := vP_W Z 352 368 σ (by decide)
theorem zq_400_352 (Z σ : zV) : vP (zW Z 352 σ) 400 = vP Z 400 := vP_W Z 352 400 σ (by decide)
end

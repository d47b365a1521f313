/-! THE CHAIN: a message waits, breaks off, comes, is flashed -/
section
variable {l : Launch} {Γ : zk_G} {d : Nat} {Z : Nat → Nat → Int} {F : Heap → Prop}
theorem zi_336 (Z : zV) (j : Nat) (z : Int) : zb_u Z 336 j z = zW Z 336 (zb_u (vC Z 336) 0 j z) := zW_i Z 336 0 j z (by decide)
theorem zi_337 (Z : zV) (j : Nat) (z : Int) : zb_u Z 337 j z = zW Z 336 (zb_u (vC Z 336) 1 j z) := zW_i Z 336 1 j z (by decide)
theorem zi_338 (Z : zV) (j : Nat) (z : Int) : zb_u Z 338 j z = zW Z 336 (zb_u (vC Z 336) 2 j z) := zW_i Z 336 2 j z (by decide)
theorem zi_339 (Z : zV) (j : Nat) (z : Int) : zb_u Z 339 j z = zW Z 336 (zb_u (vC Z 336) 3 j z) := zW_i Z 336 3 j z (by decide)
theorem zi_340 (Z : zV) (j : Nat) (z : Int) : zb_u Z 340 j z = zW Z 336 (zb_u (vC Z 336) 4 j z) := zW_i Z 336 4 j z (by decide)
theorem zi_341 (Z : zV) (j : Nat) (z : Int) : zb_u Z 341 j z = zW Z 336 (zb_u (vC Z 336) 5 j z) := zW_i Z 336 5 j z (by decide)
theorem zi_342 (Z : zV) (j : Nat) (z : Int) : zb_u Z 342 j z = zW Z 336 (zb_u (vC Z 336) 6 j z) := zW_i Z 336 6 j z (by decide)
theorem zi_343 (Z : zV) (j : Nat) (z : Int) : zb_u Z 343 j z = zW Z 336 (zb_u (vC Z 336) 7 j z) := zW_i Z 336 7 j z (by decide)
theorem zi_344 (Z : zV) (j : Nat) (z : Int) : zb_u Z 344 j z = zW Z 336 (zb_u (vC Z 336) 8 j z) := zW_i Z 336 8 j z (by decide)
theorem zi_345 (Z : zV) (j : Nat) (z : Int) : zb_u Z 345 j z = zW Z 336 (zb_u (vC Z 336) 9 j z) := zW_i Z 336 9 j z (by decide)
theorem zi_346 (Z : zV) (j : Nat) (z : Int) : zb_u Z 346 j z = zW Z 336 (zb_u (vC Z 336) 10 j z) := zW_i Z 336 10 j z (by decide)
theorem zi_347 (Z : zV) (j : Nat) (z : Int) : zb_u Z 347 j z = zW Z 336 (zb_u (vC Z 336) 11 j z) := zW_i Z 336 11 j z (by decide)
theorem zi_348 (Z : zV) (j : Nat) (z : Int) : zb_u Z 348 j z = zW Z 336 (zb_u (vC Z 336) 12 j z) := zW_i Z 336 12 j z (by decide)
theorem zi_352 (Z : zV) (j : Nat) (z : Int) : zb_u Z 352 j z = zW Z 352 (zb_u (vC Z 352) 0 j z) := zW_i Z 352 0 j z (by decide)
theorem zi_353 (Z : zV) (j : Nat) (z : Int) : zb_u Z 353 j z = zW Z 352 (zb_u (vC Z 352) 1 j z) := zW_i Z 352 1 j z (by decide)
theorem zi_354 (Z : zV) (j : Nat) (z : Int) : zb_u Z 354 j z = zW Z 352 (zb_u (vC Z 352) 2 j z) := zW_i Z 352 2 j z (by decide)
theorem zi_355 (Z : zV) (j : Nat) (z : Int) : zb_u Z 355 j z = zW Z 352 (zb_u (vC Z 352) 3 j z) := zW_i Z 352 3 j z (by decide)
theorem zi_356 (Z : zV) (j : Nat) (z : Int) : zb_u Z 356 j z = zW Z 352 (zb_u (vC Z 352) 4 j z) := zW_i Z 352 4 j z (by decide)
theorem zi_357 (Z : zV) (j : Nat) (z : Int) : zb_u Z 357 j z = zW Z 352 (zb_u (vC Z 352) 5 j z) := zW_i Z 352 5 j z (by decide)
theorem zi_358 (Z : zV) (j : Nat) (z : Int) : zb_u Z 358 j z = zW Z 352 (zb_u (vC Z 352) 6 j z) := zW_i Z 352 6 j z (by decide)
theorem zi_359 (Z : zV) (j : Nat) (z : Int) : zb_u Z 359 j z = zW Z 352 (zb_u (vC Z 352) 7 j z) := zW_i Z 352 7 j z (by decide)
theorem zi_360 (Z : zV) (j : Nat) (z : Int) : zb_u Z 360 j z = zW Z 352 (zb_u (vC Z 352) 8 j z) := zW_i Z 352 8 j z (by decide)
theorem zi_361 (Z : zV) (j : Nat) (z : Int) : zb_u Z 361 j z = zW Z 352 (zb_u (vC Z 352) 9 j z) := zW_i Z 352 9 j z (by decide)
theorem zi_362 (Z : zV) (j : Nat) (z : Int) : zb_u Z 362 j z = zW Z 352 (zb_u (vC Z 352) 10 j z) := zW_i Z 352 10 j z (by decide)
theorem zi_363 (Z : zV) (j : Nat) (z : Int) : zb_u Z 363 j z = zW Z 352 (zb_u (vC Z 352) 11 j z) := zW_i Z 352 11 j z (by decide)
theorem zi_364 (Z : zV) (j : Nat) (z : Int) : zb_u Z 364 j z = zW Z 352 (zb_u (vC Z 352) 12 j z) := zW_i Z 352 12 j z (by decide)
set_option maxRecDepth 100000 in
theorem zs_letWait {c p : Nat} (hcs : c = 336 ∨ c = 352) (hp : p = 368 ∨ p = 400) (hcp : Z c 0 = (p : Int)) (hw : wP (vP Z p)) {N : Int} (hc : wC (vP Z p) (vC Z c) N) {k : Nat} (hk : (k : Int) < Z p 3) : zk_Does l Γ mX0_letWait d 0 0 [.ref c, .int (iZ (k : Int))] (zb_M Z) F none (zb_M (zW Z c (sWait (vP Z p) (vC Z c) k))) F := by
  intro Q hq
  rcases hcs with rfl | rfl <;> rcases hp with rfl | rfl <;> (
    have hpl := congrArg Int.toNat hcp
    simp only [Int.toNat_natCast] at hpl
    have h0 := wP_n hw
    have h1 := wP_m hw (i := k) (by simp only [vP, vC, Nat.reduceAdd, Nat.reduceLT, Nat.add_zero, ↓reduceIte]; omega)
    have h2 := wC_m hc (k := k) (by simp only [vP, vC, Nat.reduceAdd, Nat.reduceLT, Nat.add_zero, ↓reduceIte]; omega)
    have h3 := wC_n hc
    simp only [wM, vP, vC, Nat.reduceAdd, Nat.reduceLT, Nat.add_zero, ↓reduceIte] at h0 h1 h2 h3
    refine gz_aload_n dX0_letWait_0 rfl ?_
    refine gz_getf 6 dX0_letWait_1 rfl rfl wf_Heliographs_Chain_25 (by decide) rfl ?_
    refine gz_iload_n dX0_letWait_4 rfl ?_
    refine zz_iconst dX0_letWait_5 ?_
    refine zc_iast (n := k) dX0_letWait_6 rfl (by decide) rfl (by omega) rfl ?_
    refine gz_aload_n dX0_letWait_7 rfl ?_
    refine gz_getf 9 dX0_letWait_8 rfl rfl wf_Heliographs_Chain_34 (by decide) rfl ?_
    refine gz_iload_n dX0_letWait_11 rfl ?_
    refine zz_iconst dX0_letWait_12 ?_
    refine zc_iast (n := k) dX0_letWait_13 rfl (by decide) rfl (by omega) rfl ?_
    refine gz_aload_n dX0_letWait_14 rfl ?_
    refine gz_getf 7 dX0_letWait_15 rfl rfl wf_Heliographs_Chain_28 (by decide) rfl ?_
    refine gz_iload_n dX0_letWait_18 rfl ?_
    refine gz_aload_n dX0_letWait_19 rfl ?_
    refine gz_getf 0 dX0_letWait_20 rfl rfl wf_Heliographs_Chain_53 (by decide) (congrArg Value.ref hpl) ?_
    refine gz_getf 10 dX0_letWait_23 rfl rfl wf_Heliographs_Chain_115 (by decide) rfl ?_
    refine gz_iload_n dX0_letWait_26 rfl ?_
    refine gz_iald (n := k) dX0_letWait_27 rfl rfl (by omega) rfl ?_
    refine zc_iast (n := k) dX0_letWait_28 rfl (by decide) rfl (by omega) rfl ?_
    refine gz_return_ dX0_letWait_29 rfl ?_
    (try simp only [sWait] at hq)
    simp only [zi_336, zi_337, zi_338, zi_339, zi_340, zi_341, zi_342, zi_343, zi_344, zi_345, zi_346, zi_347, zi_348, zi_352, zi_353, zi_354, zi_355, zi_356, zi_357, zi_358, zi_359, zi_360, zi_361, zi_362, zi_363, zi_364, zW_W, zu_336, zo_336, zc_336, zu_337, zo_337, zc_337, zu_338, zo_338, zc_338, zu_339, zo_339, zc_339, zu_340, zo_340, zc_340, zu_341, zo_341, zc_341, zu_342, zo_342, zc_342, zu_343, zo_343, zc_343, zu_344, zo_344, zc_344, zu_345, zo_345, zc_345, zu_346, zo_346, zc_346, zu_347, zo_347, zc_347, zu_348, zo_348, zc_348, zp_368_336, zp_368_337, zp_368_338, zp_368_339, zp_368_340, zp_368_341, zp_368_342, zp_368_343, zp_368_344, zp_368_345, zp_368_346, zp_368_347, zp_368_348, zp_400_336, zp_400_337, zp_400_338, zp_400_339, zp_400_340, zp_400_341, zp_400_342, zp_400_343, zp_400_344, zp_400_345, zp_400_346, zp_400_347, zp_400_348, zq_368_336, zq_400_336, zW_W, vC_W, zu_352, zo_352, zc_352, zu_353, zo_353, zc_353, zu_354, zo_354, zc_354, zu_355, zo_355, zc_355, zu_356, zo_356, zc_356, zu_357, zo_357, zc_357, zu_358, zo_358, zc_358, zu_359, zo_359, zc_359, zu_360, zo_360, zc_360, zu_361, zo_361, zc_361, zu_362, zo_362, zc_362, zu_363, zo_363, zc_363, zu_364, zo_364, zc_364, zp_368_352, zp_368_353, zp_368_354, zp_368_355, zp_368_356, zp_368_357, zp_368_358, zp_368_359, zp_368_360, zp_368_361, zp_368_362, zp_368_363, zp_368_364, zp_400_352, zp_400_353, zp_400_354, zp_400_355, zp_400_356, zp_400_357, zp_400_358, zp_400_359, zp_400_360, zp_400_361, zp_400_362, zp_400_363, zp_400_364, zq_368_352, zq_400_352, zW_W, vC_W, cut_u, cut_vC, cut_cut, vP, vC, Nat.reduceAdd, Nat.reduceLT, Nat.add_zero, ↓reduceIte] at hq ⊢
    exact hq
  )
end

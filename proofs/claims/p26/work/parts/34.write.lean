/-! THE CHAIN: a message waits, breaks off, comes, is flashed -/
section
variable {l : Launch} {Γ : zk_G} {d : Nat} {Z : Nat → Nat → Int} {F : Heap → Prop}
theorem zi_336 (Z : zV) (j : Nat) (z : Int) : zb_u Z 336 j z = zW Z 336 (zb_u (vC Z 336) 0 j z) := zW_i Z 336 0 j z (by decide)
theorem zi_337 (Z : zV) (j : Nat) (z : Int) : zb_u Z 337 j z = zW Z 336 (zb_u (vC Z 336) 1 j z) := zW_i Z 336 1 j z (by decide)
theorem zi_338 (Z : zV) (j : Nat) (z : Int) : zb_u Z 338 j z = zW Z 336 (zb_u (vC Z 336) 2 j z) := zW_i Z 336 2 j z (by decide)
theorem zi_339 (Z : zV) (j : Nat) (z : Int) : zb_u Z 339 j z = zW Z 336 (zb_u (vC Z 336) 3 j z) := zW_i Z 336 3 j z (by decide)
theorem zi_340 (Z : zV) (j : Nat) (z : Int) : zb_u Z 340 j z = zW Z 336 (zb_u (vC Z 336) 4 j z) := zW_i Z 336 4 j z (by decide)
theorem zi_341 (Z : zV) (j : Nat) (z : Int) : zb_u Z 341 j z = zW Z 336 (zb_u (vC Z 336) 5 j z) := zW_i Z 336 5 j z (by decide)
theorem zi_342 (Z : zV) (j : Nat) (z : Int) : zb_u Z 342 j z = zW Z 336 (zb_u (vC Z 336) 6 j z) := zW_i Z 336 6 j z (by decide)
theorem zi_343 (Z : zV) (j : Nat) (z : Int) : zb_u Z 343 j z = zW Z 336 (zb_u (vC Z 336) 7 j z) := zW_i Z 336 7 j z (by decide)
theorem zi_344 (Z : zV) (j : Nat) (z : Int) : zb_u Z 344 j z = zW Z 336 (zb_u (vC Z 336) 8 j z) := zW_i Z 336 8 j z (by decide)
theorem zi_345 (Z : zV) (j : Nat) (z : Int) : zb_u Z 345 j z = zW Z 336 (zb_u (vC Z 336) 9 j z) := zW_i Z 336 9 j z (by decide)
theorem zi_346 (Z : zV) (j : Nat) (z : Int) : zb_u Z 346 j z = zW Z 336 (zb_u (vC Z 336) 10 j z) := zW_i Z 336 10 j z (by decide)
theorem zi_347 (Z : zV) (j : Nat) (z : Int) : zb_u Z 347 j z = zW Z 336 (zb_u (vC Z 336) 11 j z) := zW_i Z 336 11 j z (by decide)
theorem zi_352 (Z : zV) (j : Nat) (z : Int) : zb_u Z 352 j z = zW Z 352 (zb_u (vC Z 352) 0 j z) := zW_i Z 352 0 j z (by decide)
theorem zi_353 (Z : zV) (j : Nat) (z : Int) : zb_u Z 353 j z = zW Z 352 (zb_u (vC Z 352) 1 j z) := zW_i Z 352 1 j z (by decide)
theorem zi_354 (Z : zV) (j : Nat) (z : Int) : zb_u Z 354 j z = zW Z 352 (zb_u (vC Z 352) 2 j z) := zW_i Z 352 2 j z (by decide)
theorem zi_355 (Z : zV) (j : Nat) (z : Int) : zb_u Z 355 j z = zW Z 352 (zb_u (vC Z 352) 3 j z) := zW_i Z 352 3 j z (by decide)
theorem zi_356 (Z : zV) (j : Nat) (z : Int) : zb_u Z 356 j z = zW Z 352 (zb_u (vC Z 352) 4 j z) := zW_i Z 352 4 j z (by decide)
theorem zi_357 (Z : zV) (j : Nat) (z : Int) : zb_u Z 357 j z = zW Z 352 (zb_u (vC Z 352) 5 j z) := zW_i Z 352 5 j z (by decide)
theorem zi_358 (Z : zV) (j : Nat) (z : Int) : zb_u Z 358 j z = zW Z 352 (zb_u (vC Z 352) 6 j z) := zW_i Z 352 6 j z (by decide)
theorem zi_359 (Z : zV) (j : Nat) (z : Int) : zb_u Z 359 j z = zW Z 352 (zb_u (vC Z 352) 7 j z) := zW_i Z 352 7 j z (by decide)
theorem zi_360 (Z : zV) (j : Nat) (z : Int) : zb_u Z 360 j z = zW Z 352 (zb_u (vC Z 352) 8 j z) := zW_i Z 352 8 j z (by decide)
theorem zi_361 (Z : zV) (j : Nat) (z : Int) : zb_u Z 361 j z = zW Z 352 (zb_u (vC Z 352) 9 j z) := zW_i Z 352 9 j z (by decide)
theorem zi_362 (Z : zV) (j : Nat) (z : Int) : zb_u Z 362 j z = zW Z 352 (zb_u (vC Z 352) 10 j z) := zW_i Z 352 10 j z (by decide)
theorem zi_363 (Z : zV) (j : Nat) (z : Int) : zb_u Z 363 j z = zW Z 352 (zb_u (vC Z 352) 11 j z) := zW_i Z 352 11 j z (by decide)
theorem cut_sWait (π σ : zV) (k : Nat) : cut (sWait π σ k) = sWait π (cut σ) k := by
  unfold sWait
  rw [cut_u _ _ _ _ (by decide), cut_u _ _ _ _ (by decide), cut_u _ _ _ _ (by decide)]
theorem cut_sBreak (π σ : zV) (k : Nat) : cut (sBreak π σ k) = sBreak π (cut σ) k := by
  unfold sBreak
  rw [cut_sWait, cut_u _ _ _ _ (by decide)]
  rfl
theorem cut_sArr (π σ : zV) (k : Nat) (x : Int) : cut (sArr π σ k x) = sArr π (cut σ) k x := by
  unfold sArr
  have e : cut σ 3 k = σ 3 k := rfl
  have e2 : cut σ 9 k = σ 9 k := rfl
  have e3 : cut σ 0 1 = σ 0 1 := rfl
  rw [e, e2, e3]
  split
  · rw [cut_u _ _ _ _ (by decide), cut_u _ _ _ _ (by decide), cut_u _ _ _ _ (by decide), cut_sWait, cut_u _ _ _ _ (by decide), cut_u _ _ _ _ (by decide)]
  · rw [cut_sWait, cut_u _ _ _ _ (by decide), cut_u _ _ _ _ (by decide)]
theorem cut_sFlash (π σ : zV) (k : Nat) : cut (sFlash π σ k) = sFlash π (cut σ) k := by
  unfold sFlash
  have e : ∀ i j, i < 12 → cut σ i j = σ i j := fun i j h => if_pos h
  rw [e 4 k (by decide), e 7 k (by decide), e 11 _ (by decide), e 0 1 (by decide), e 5 k (by decide), e 10 _ (by decide), e 0 13 (by decide), e 2 k (by decide)]
  split
  · split
    · split
      · rw [cut_u _ _ _ _ (by decide), cut_u _ _ _ _ (by decide)]
      · split
        · rw [cut_sArr, cut_u _ _ _ _ (by decide), cut_u _ _ _ _ (by decide)]
        · rw [cut_u _ _ _ _ (by decide), cut_u _ _ _ _ (by decide)]
    · exact cut_sBreak π σ k
  · rfl
set_option maxRecDepth 100000 in
set_option maxHeartbeats 4000000 in
theorem zs_letWait {c p : Nat} (hcs : c = 336 ∨ c = 352) (hp : p = 368 ∨ p = 400) (hcp : Z c 0 = (p : Int)) (hw : wP (vP Z p)) {k : Nat} (hk : (k : Int) < Z p 3) : zk_Does l Γ mX0_letWait d 0 0 [.ref c, .int (iZ (k : Int))] (zb_M Z) F none (zb_M (zW Z c (sWait (vP Z p) (vC Z c) k))) F := by
  intro Q hq
  rcases hcs with rfl | rfl <;> rcases hp with rfl | rfl <;> (
    have hpl := congrArg Int.toNat hcp
    simp only [Int.toNat_natCast] at hpl
    have h0 := wP_n hw
    simp only [vP, vC, Nat.reduceAdd, Nat.reduceLT, Nat.add_zero, ↓reduceIte] at h0
    refine gz_aload_n dX0_letWait_0 rfl ?_
    refine gz_getf 6 dX0_letWait_1 rfl rfl wf_Heliographs_Chain_25 (by decide) rfl ?_
    refine gz_iload_n dX0_letWait_4 rfl ?_
    refine zz_iconst dX0_letWait_5 ?_
    refine zc_iast (n := k) dX0_letWait_6 rfl (by decide) rfl (by omega) rfl ?_
    refine gz_aload_n dX0_letWait_7 rfl ?_
    refine gz_getf 9 dX0_letWait_8 rfl rfl wf_Heliographs_Chain_34 (by decide) rfl ?_
    refine gz_iload_n dX0_letWait_11 rfl ?_
    refine zz_iconst dX0_letWait_12 ?_
    refine zc_iast (n := k) dX0_letWait_13 rfl (by decide) rfl (by omega) rfl ?_
    refine gz_aload_n dX0_letWait_14 rfl ?_
    refine gz_getf 7 dX0_letWait_15 rfl rfl wf_Heliographs_Chain_28 (by decide) rfl ?_
    refine gz_iload_n dX0_letWait_18 rfl ?_
    refine gz_aload_n dX0_letWait_19 rfl ?_
    refine gz_getf 0 dX0_letWait_20 rfl rfl wf_Heliographs_Chain_53 (by decide) (congrArg Value.ref hpl) ?_
    refine gz_getf 10 dX0_letWait_23 rfl rfl wf_Heliographs_Chain_115 (by decide) rfl ?_
    refine gz_iload_n dX0_letWait_26 rfl ?_
    refine gz_iald (n := k) dX0_letWait_27 rfl rfl (by omega) rfl ?_
    refine zc_iast (n := k) dX0_letWait_28 rfl (by decide) rfl (by omega) rfl ?_
    refine gz_return_ dX0_letWait_29 rfl ?_
    (try simp only [sWait] at hq)
    simp only [zi_336, zi_337, zi_338, zi_339, zi_340, zi_341, zi_342, zi_343, zi_344, zi_345, zi_346, zi_347, zi_352, zi_353, zi_354, zi_355, zi_356, zi_357, zi_358, zi_359, zi_360, zi_361, zi_362, zi_363, zW_W, zu_336, zo_336, zc_336, zu_337, zo_337, zc_337, zu_338, zo_338, zc_338, zu_339, zo_339, zc_339, zu_340, zo_340, zc_340, zu_341, zo_341, zc_341, zu_342, zo_342, zc_342, zu_343, zo_343, zc_343, zu_344, zo_344, zc_344, zu_345, zo_345, zc_345, zu_346, zo_346, zc_346, zu_347, zo_347, zc_347, zp_368_336, zp_368_337, zp_368_338, zp_368_339, zp_368_340, zp_368_341, zp_368_342, zp_368_343, zp_368_344, zp_368_345, zp_368_346, zp_368_347, zp_400_336, zp_400_337, zp_400_338, zp_400_339, zp_400_340, zp_400_341, zp_400_342, zp_400_343, zp_400_344, zp_400_345, zp_400_346, zp_400_347, zq_368_336, zq_400_336, zW_W, vC_W, zu_352, zo_352, zc_352, zu_353, zo_353, zc_353, zu_354, zo_354, zc_354, zu_355, zo_355, zc_355, zu_356, zo_356, zc_356, zu_357, zo_357, zc_357, zu_358, zo_358, zc_358, zu_359, zo_359, zc_359, zu_360, zo_360, zc_360, zu_361, zo_361, zc_361, zu_362, zo_362, zc_362, zu_363, zo_363, zc_363, zp_368_352, zp_368_353, zp_368_354, zp_368_355, zp_368_356, zp_368_357, zp_368_358, zp_368_359, zp_368_360, zp_368_361, zp_368_362, zp_368_363, zp_400_352, zp_400_353, zp_400_354, zp_400_355, zp_400_356, zp_400_357, zp_400_358, zp_400_359, zp_400_360, zp_400_361, zp_400_362, zp_400_363, zq_368_352, zq_400_352, zW_W, vC_W, cut_u, cut_vC, cut_cut, vP, vC, Nat.reduceAdd, Nat.reduceLT, Nat.add_zero, ↓reduceIte] at hq ⊢
    exact hq
  )
set_option maxRecDepth 100000 in
set_option maxHeartbeats 4000000 in
theorem zs_breakOff {c p : Nat} (hcs : c = 336 ∨ c = 352) (hp : p = 368 ∨ p = 400) (hcp : Z c 0 = (p : Int)) (hw : wP (vP Z p)) {k : Nat} (hk : (k : Int) < Z p 3) (hd : 1 ≤ d) : zk_Does l Γ mX0_breakOff d 0 0 [.ref c, .int (iZ (k : Int))] (zb_M Z) F none (zb_M (zW Z c (sBreak (vP Z p) (vC Z c) k))) F := by
  intro Q hq
  have hcs2 := hcs
  have hp2 := hp
  rcases hcs with rfl | rfl <;> rcases hp with rfl | rfl <;> (
    have hpl := congrArg Int.toNat hcp
    simp only [Int.toNat_natCast] at hpl
    have h0 := wP_n hw
    simp only [vP, vC, Nat.reduceAdd, Nat.reduceLT, Nat.add_zero, ↓reduceIte] at h0
    refine gz_aload_n dX0_breakOff_0 rfl ?_
    refine gz_getf 10 dX0_breakOff_1 rfl rfl wf_Heliographs_Chain_37 (by decide) rfl ?_
    refine gz_iload_n dX0_breakOff_4 rfl ?_
    refine gz_dup2 dX0_breakOff_5 rfl rfl ?_
    refine gz_iald (n := k) dX0_breakOff_6 rfl rfl (by omega) rfl ?_
    refine zz_iconst dX0_breakOff_7 ?_
    refine zz_iadd dX0_breakOff_8 ?_
    refine zc_iast (n := k) dX0_breakOff_9 rfl (by decide) rfl (by omega) rfl ?_
    refine gz_aload_n dX0_breakOff_10 rfl ?_
    refine gz_iload_n dX0_breakOff_11 rfl ?_
    refine gv_1 (J := mX0_letWait) (d1 := d - 1) dX0_breakOff_12 wm_Heliographs_Chain_67 rfl jzX0_letWait (Nat.le_of_ble_eq_true rfl) (Nat.le_of_ble_eq_true rfl) (by omega) ⟨Nat.le_refl _, Nat.le_refl _⟩ (zs_letWait hcs2 hp2 (by exact hcp) (by simp only [zu_336, zo_336, zc_336, zu_337, zo_337, zc_337, zu_338, zo_338, zc_338, zu_339, zo_339, zc_339, zu_340, zo_340, zc_340, zu_341, zo_341, zc_341, zu_342, zo_342, zc_342, zu_343, zo_343, zc_343, zu_344, zo_344, zc_344, zu_345, zo_345, zc_345, zu_346, zo_346, zc_346, zu_347, zo_347, zc_347, zp_368_336, zp_368_337, zp_368_338, zp_368_339, zp_368_340, zp_368_341, zp_368_342, zp_368_343, zp_368_344, zp_368_345, zp_368_346, zp_368_347, zp_400_336, zp_400_337, zp_400_338, zp_400_339, zp_400_340, zp_400_341, zp_400_342, zp_400_343, zp_400_344, zp_400_345, zp_400_346, zp_400_347, zq_368_336, zq_400_336, zW_W, vC_W, zu_352, zo_352, zc_352, zu_353, zo_353, zc_353, zu_354, zo_354, zc_354, zu_355, zo_355, zc_355, zu_356, zo_356, zc_356, zu_357, zo_357, zc_357, zu_358, zo_358, zc_358, zu_359, zo_359, zc_359, zu_360, zo_360, zc_360, zu_361, zo_361, zc_361, zu_362, zo_362, zc_362, zu_363, zo_363, zc_363, zp_368_352, zp_368_353, zp_368_354, zp_368_355, zp_368_356, zp_368_357, zp_368_358, zp_368_359, zp_368_360, zp_368_361, zp_368_362, zp_368_363, zp_400_352, zp_400_353, zp_400_354, zp_400_355, zp_400_356, zp_400_357, zp_400_358, zp_400_359, zp_400_360, zp_400_361, zp_400_362, zp_400_363, zq_368_352, zq_400_352, zW_W, vC_W]; exact hw) (by exact hk)) ?_
    refine gz_return_ dX0_breakOff_15 rfl ?_
    (try simp only [sBreak] at hq)
    simp only [zi_336, zi_337, zi_338, zi_339, zi_340, zi_341, zi_342, zi_343, zi_344, zi_345, zi_346, zi_347, zi_352, zi_353, zi_354, zi_355, zi_356, zi_357, zi_358, zi_359, zi_360, zi_361, zi_362, zi_363, zW_W, zu_336, zo_336, zc_336, zu_337, zo_337, zc_337, zu_338, zo_338, zc_338, zu_339, zo_339, zc_339, zu_340, zo_340, zc_340, zu_341, zo_341, zc_341, zu_342, zo_342, zc_342, zu_343, zo_343, zc_343, zu_344, zo_344, zc_344, zu_345, zo_345, zc_345, zu_346, zo_346, zc_346, zu_347, zo_347, zc_347, zp_368_336, zp_368_337, zp_368_338, zp_368_339, zp_368_340, zp_368_341, zp_368_342, zp_368_343, zp_368_344, zp_368_345, zp_368_346, zp_368_347, zp_400_336, zp_400_337, zp_400_338, zp_400_339, zp_400_340, zp_400_341, zp_400_342, zp_400_343, zp_400_344, zp_400_345, zp_400_346, zp_400_347, zq_368_336, zq_400_336, zW_W, vC_W, zu_352, zo_352, zc_352, zu_353, zo_353, zc_353, zu_354, zo_354, zc_354, zu_355, zo_355, zc_355, zu_356, zo_356, zc_356, zu_357, zo_357, zc_357, zu_358, zo_358, zc_358, zu_359, zo_359, zc_359, zu_360, zo_360, zc_360, zu_361, zo_361, zc_361, zu_362, zo_362, zc_362, zu_363, zo_363, zc_363, zp_368_352, zp_368_353, zp_368_354, zp_368_355, zp_368_356, zp_368_357, zp_368_358, zp_368_359, zp_368_360, zp_368_361, zp_368_362, zp_368_363, zp_400_352, zp_400_353, zp_400_354, zp_400_355, zp_400_356, zp_400_357, zp_400_358, zp_400_359, zp_400_360, zp_400_361, zp_400_362, zp_400_363, zq_368_352, zq_400_352, zW_W, vC_W, cut_u, cut_vC, cut_cut, vP, vC, Nat.reduceAdd, Nat.reduceLT, Nat.add_zero, ↓reduceIte] at hq ⊢
    exact hq
  )
set_option maxRecDepth 100000 in
set_option maxHeartbeats 4000000 in
theorem zs_arrive {c p : Nat} (hcs : c = 336 ∨ c = 352) (hp : p = 368 ∨ p = 400) (hcp : Z c 0 = (p : Int)) (hw : wP (vP Z p)) {k : Nat} (hk : (k : Int) < Z p 3) {x : Int} (hx : 0 ≤ x ∧ x < 8) (hgb : 0 ≤ Z (c + 3) k ∧ Z (c + 3) k < 8) (hd : 1 ≤ d) : zk_Does l Γ mX0_arrive d 0 0 [.ref c, .int (iZ (k : Int)), .int (iZ x)] (zb_M Z) F none (zb_M (zW Z c (sArr (vP Z p) (vC Z c) k x))) F := by
  intro Q hq
  have hcs2 := hcs
  have hp2 := hp
  obtain ⟨g, hg⟩ : ∃ z, Z (c + 3) k = z := ⟨_, rfl⟩
  obtain ⟨mi, hmi⟩ : ∃ z, Z c 1 = z := ⟨_, rfl⟩
  rcases hcs with rfl | rfl <;> rcases hp with rfl | rfl <;> (
    try simp only [Nat.reduceAdd] at hg
    try simp only [Nat.reduceAdd] at hmi
    have hpl := congrArg Int.toNat hcp
    simp only [Int.toNat_natCast] at hpl
    have h0 := wP_n hw
    simp only [vP, vC, Nat.reduceAdd, Nat.reduceLT, Nat.add_zero, ↓reduceIte] at h0
    simp only [Nat.reduceAdd] at hgb
    refine gz_aload_n dX0_arrive_0 rfl ?_
    refine gz_getf 4 dX0_arrive_1 rfl rfl wf_Heliographs_Chain_19 (by decide) rfl ?_
    refine gz_iload_n dX0_arrive_4 rfl ?_
    refine gz_iload_n dX0_arrive_5 rfl ?_
    refine zc_iast (n := k) dX0_arrive_6 rfl (by decide) rfl (by omega) rfl ?_
    refine gz_aload_n dX0_arrive_7 rfl ?_
    refine gz_getf 11 dX0_arrive_8 rfl rfl wf_Heliographs_Chain_40 (by decide) rfl ?_
    refine gz_iload_n dX0_arrive_11 rfl ?_
    refine gz_dup2 dX0_arrive_12 rfl rfl ?_
    refine gz_iald (n := k) dX0_arrive_13 rfl rfl (by omega) rfl ?_
    refine zz_iconst dX0_arrive_14 ?_
    refine zz_iadd dX0_arrive_15 ?_
    refine zc_iast (n := k) dX0_arrive_16 rfl (by decide) rfl (by omega) rfl ?_
    refine gz_aload_n dX0_arrive_17 rfl ?_
    refine gz_iload_n dX0_arrive_18 rfl ?_
    refine gv_1 (J := mX0_letWait) (d1 := d - 1) dX0_arrive_19 wm_Heliographs_Chain_67 rfl jzX0_letWait (Nat.le_of_ble_eq_true rfl) (Nat.le_of_ble_eq_true rfl) (by omega) ⟨Nat.le_refl _, Nat.le_refl _⟩ (zs_letWait hcs2 hp2 (by exact hcp) (by simp only [zu_336, zo_336, zc_336, zu_337, zo_337, zc_337, zu_338, zo_338, zc_338, zu_339, zo_339, zc_339, zu_340, zo_340, zc_340, zu_341, zo_341, zc_341, zu_342, zo_342, zc_342, zu_343, zo_343, zc_343, zu_344, zo_344, zc_344, zu_345, zo_345, zc_345, zu_346, zo_346, zc_346, zu_347, zo_347, zc_347, zp_368_336, zp_368_337, zp_368_338, zp_368_339, zp_368_340, zp_368_341, zp_368_342, zp_368_343, zp_368_344, zp_368_345, zp_368_346, zp_368_347, zp_400_336, zp_400_337, zp_400_338, zp_400_339, zp_400_340, zp_400_341, zp_400_342, zp_400_343, zp_400_344, zp_400_345, zp_400_346, zp_400_347, zq_368_336, zq_400_336, zW_W, vC_W, zu_352, zo_352, zc_352, zu_353, zo_353, zc_353, zu_354, zo_354, zc_354, zu_355, zo_355, zc_355, zu_356, zo_356, zc_356, zu_357, zo_357, zc_357, zu_358, zo_358, zc_358, zu_359, zo_359, zc_359, zu_360, zo_360, zc_360, zu_361, zo_361, zc_361, zu_362, zo_362, zc_362, zu_363, zo_363, zc_363, zp_368_352, zp_368_353, zp_368_354, zp_368_355, zp_368_356, zp_368_357, zp_368_358, zp_368_359, zp_368_360, zp_368_361, zp_368_362, zp_368_363, zp_400_352, zp_400_353, zp_400_354, zp_400_355, zp_400_356, zp_400_357, zp_400_358, zp_400_359, zp_400_360, zp_400_361, zp_400_362, zp_400_363, zq_368_352, zq_400_352, zW_W, vC_W]; exact hw) (by exact hk)) ?_
    refine gz_iload_n dX0_arrive_22 rfl ?_
    refine gz_aload_n dX0_arrive_23 rfl ?_
    refine gz_getf 5 dX0_arrive_24 rfl rfl wf_Heliographs_Chain_22 (by decide) rfl ?_
    refine gz_iload_n dX0_arrive_27 rfl ?_
    refine gz_iald (v := .int (iZ (g))) (n := k) dX0_arrive_28 rfl rfl (by omega) (congrArg (fun z => Value.int (iZ z)) hg) ?_
    refine zz_icmp_ne (tgt := 56) dX0_arrive_29 rfl (by omega) (fun b29 => ?_) (fun b29 => ?_)
    ·
      refine gz_return_ dX0_arrive_56 rfl ?_
      unfold sArr at hq
      first | rw [if_pos (by simp only [vP, vC, Nat.reduceAdd, Nat.reduceLT, Nat.add_zero, ↓reduceIte]; omega)] at hq | rw [if_neg (by simp only [vP, vC, Nat.reduceAdd, Nat.reduceLT, Nat.add_zero, ↓reduceIte]; omega)] at hq
      simp only [zi_336, zi_337, zi_338, zi_339, zi_340, zi_341, zi_342, zi_343, zi_344, zi_345, zi_346, zi_347, zi_352, zi_353, zi_354, zi_355, zi_356, zi_357, zi_358, zi_359, zi_360, zi_361, zi_362, zi_363, zW_W, zu_336, zo_336, zc_336, zu_337, zo_337, zc_337, zu_338, zo_338, zc_338, zu_339, zo_339, zc_339, zu_340, zo_340, zc_340, zu_341, zo_341, zc_341, zu_342, zo_342, zc_342, zu_343, zo_343, zc_343, zu_344, zo_344, zc_344, zu_345, zo_345, zc_345, zu_346, zo_346, zc_346, zu_347, zo_347, zc_347, zp_368_336, zp_368_337, zp_368_338, zp_368_339, zp_368_340, zp_368_341, zp_368_342, zp_368_343, zp_368_344, zp_368_345, zp_368_346, zp_368_347, zp_400_336, zp_400_337, zp_400_338, zp_400_339, zp_400_340, zp_400_341, zp_400_342, zp_400_343, zp_400_344, zp_400_345, zp_400_346, zp_400_347, zq_368_336, zq_400_336, zW_W, vC_W, zu_352, zo_352, zc_352, zu_353, zo_353, zc_353, zu_354, zo_354, zc_354, zu_355, zo_355, zc_355, zu_356, zo_356, zc_356, zu_357, zo_357, zc_357, zu_358, zo_358, zc_358, zu_359, zo_359, zc_359, zu_360, zo_360, zc_360, zu_361, zo_361, zc_361, zu_362, zo_362, zc_362, zu_363, zo_363, zc_363, zp_368_352, zp_368_353, zp_368_354, zp_368_355, zp_368_356, zp_368_357, zp_368_358, zp_368_359, zp_368_360, zp_368_361, zp_368_362, zp_368_363, zp_400_352, zp_400_353, zp_400_354, zp_400_355, zp_400_356, zp_400_357, zp_400_358, zp_400_359, zp_400_360, zp_400_361, zp_400_362, zp_400_363, zq_368_352, zq_400_352, zW_W, vC_W, cut_u, cut_vC, cut_cut, cut_sWait, vP, vC, Nat.reduceAdd, Nat.reduceLT, Nat.add_zero, ↓reduceIte, hg, hmi] at hq ⊢
      exact hq
    ·
      refine gz_aload_n dX0_arrive_32 rfl ?_
      refine gz_getf 6 dX0_arrive_33 rfl rfl wf_Heliographs_Chain_25 (by decide) rfl ?_
      refine gz_iload_n dX0_arrive_36 rfl ?_
      refine zz_iconst dX0_arrive_37 ?_
      refine zc_iast (n := k) dX0_arrive_38 rfl (by decide) rfl (by omega) rfl ?_
      refine gz_aload_n dX0_arrive_39 rfl ?_
      refine gz_getf 7 dX0_arrive_40 rfl rfl wf_Heliographs_Chain_28 (by decide) rfl ?_
      refine gz_iload_n dX0_arrive_43 rfl ?_
      refine zz_iconst dX0_arrive_44 ?_
      refine zc_iast (n := k) dX0_arrive_45 rfl (by decide) rfl (by omega) rfl ?_
      refine gz_aload_n dX0_arrive_46 rfl ?_
      refine gz_getf 8 dX0_arrive_47 rfl rfl wf_Heliographs_Chain_31 (by decide) rfl ?_
      refine gz_iload_n dX0_arrive_50 rfl ?_
      refine gz_aload_n dX0_arrive_51 rfl ?_
      refine gz_getf (v := .int (iZ (mi))) 1 dX0_arrive_52 rfl rfl wf_Heliographs_Chain_71 (by decide) (congrArg (fun z => Value.int (iZ z)) hmi) ?_
      refine zc_iast (n := k) dX0_arrive_55 rfl (by decide) rfl (by omega) rfl ?_
      refine gz_return_ dX0_arrive_56 rfl ?_
      unfold sArr at hq
      first | rw [if_pos (by simp only [vP, vC, Nat.reduceAdd, Nat.reduceLT, Nat.add_zero, ↓reduceIte]; omega)] at hq | rw [if_neg (by simp only [vP, vC, Nat.reduceAdd, Nat.reduceLT, Nat.add_zero, ↓reduceIte]; omega)] at hq
      simp only [zi_336, zi_337, zi_338, zi_339, zi_340, zi_341, zi_342, zi_343, zi_344, zi_345, zi_346, zi_347, zi_352, zi_353, zi_354, zi_355, zi_356, zi_357, zi_358, zi_359, zi_360, zi_361, zi_362, zi_363, zW_W, zu_336, zo_336, zc_336, zu_337, zo_337, zc_337, zu_338, zo_338, zc_338, zu_339, zo_339, zc_339, zu_340, zo_340, zc_340, zu_341, zo_341, zc_341, zu_342, zo_342, zc_342, zu_343, zo_343, zc_343, zu_344, zo_344, zc_344, zu_345, zo_345, zc_345, zu_346, zo_346, zc_346, zu_347, zo_347, zc_347, zp_368_336, zp_368_337, zp_368_338, zp_368_339, zp_368_340, zp_368_341, zp_368_342, zp_368_343, zp_368_344, zp_368_345, zp_368_346, zp_368_347, zp_400_336, zp_400_337, zp_400_338, zp_400_339, zp_400_340, zp_400_341, zp_400_342, zp_400_343, zp_400_344, zp_400_345, zp_400_346, zp_400_347, zq_368_336, zq_400_336, zW_W, vC_W, zu_352, zo_352, zc_352, zu_353, zo_353, zc_353, zu_354, zo_354, zc_354, zu_355, zo_355, zc_355, zu_356, zo_356, zc_356, zu_357, zo_357, zc_357, zu_358, zo_358, zc_358, zu_359, zo_359, zc_359, zu_360, zo_360, zc_360, zu_361, zo_361, zc_361, zu_362, zo_362, zc_362, zu_363, zo_363, zc_363, zp_368_352, zp_368_353, zp_368_354, zp_368_355, zp_368_356, zp_368_357, zp_368_358, zp_368_359, zp_368_360, zp_368_361, zp_368_362, zp_368_363, zp_400_352, zp_400_353, zp_400_354, zp_400_355, zp_400_356, zp_400_357, zp_400_358, zp_400_359, zp_400_360, zp_400_361, zp_400_362, zp_400_363, zq_368_352, zq_400_352, zW_W, vC_W, cut_u, cut_vC, cut_cut, cut_sWait, vP, vC, Nat.reduceAdd, Nat.reduceLT, Nat.add_zero, ↓reduceIte, hg, hmi] at hq ⊢
      exact hq
  )
set_option maxRecDepth 100000 in
set_option maxHeartbeats 4000000 in
theorem zs_flashWord {c p : Nat} (hcs : c = 336 ∨ c = 352) (hp : p = 368 ∨ p = 400) (hcp : Z c 0 = (p : Int)) (hw : wP (vP Z p)) {N : Int} (hc : wC (vP Z p) (vC Z c) N) {k : Nat} (hk : (k : Int) < Z p 3) (hlit : ∀ w : Nat, w < 12 → 0 ≤ Z (c + 11) w ∧ Z (c + 11) w ≤ 1) (hd : 2 ≤ d) : zk_Does l Γ mX0_flashWord d 0 0 [.ref c, .int (iZ (k : Int))] (zb_M Z) F none (zb_M (zW Z c (sFlash (vP Z p) (vC Z c) k))) F := by
  intro Q hq
  have hcs2 := hcs
  have hp2 := hp
  obtain ⟨o, ho⟩ : ∃ z, Z (c + 7) k = z := ⟨_, rfl⟩
  obtain ⟨le, hle⟩ : ∃ z, Z (c + 5) k = z := ⟨_, rfl⟩
  obtain ⟨mi, hmi⟩ : ∃ z, Z c 1 = z := ⟨_, rfl⟩
  obtain ⟨f0, hf0⟩ : ∃ z, Z (c + 10) o.toNat = z := ⟨_, rfl⟩
  obtain ⟨far, hfar⟩ : ∃ z, Z (p + 6) o.toNat = z := ⟨_, rfl⟩
  obtain ⟨lo, hlo⟩ : ∃ z, Z c 13 = z := ⟨_, rfl⟩
  obtain ⟨pe, hpe⟩ : ∃ z, Z (c + 2) k = z := ⟨_, rfl⟩
  obtain ⟨xx, hxx⟩ : ∃ z, sAcross (vP Z p) o.toNat pe = z := ⟨_, rfl⟩
  have h0 := wP_n hw
  have h2 := wC_m hc (k := k) (by simp only [vP_ap, vC_ap, Nat.reduceAdd, Nat.reduceLT, Nat.add_zero, ↓reduceIte]; omega)
  have h3 := wC_n hc
  simp only [wM, vP_ap, vC_ap, Nat.reduceAdd, Nat.reduceLT, Nat.add_zero, ↓reduceIte] at h0 h2 h3
  have hop : Z (c + 4) k = 1 → (0 ≤ o ∧ o < Z p 1) := fun q => by omega
  have hg8 : 0 ≤ Z (c + 3) k ∧ Z (c + 3) k < 8 := by omega
  rcases hcs with rfl | rfl <;> rcases hp with rfl | rfl <;> (
    try simp only [Nat.reduceAdd] at ho
    try simp only [Nat.reduceAdd] at hle
    try simp only [Nat.reduceAdd] at hmi
    try simp only [Nat.reduceAdd] at hf0
    try simp only [Nat.reduceAdd] at hfar
    try simp only [Nat.reduceAdd] at hlo
    try simp only [Nat.reduceAdd] at hpe
    try simp only [Nat.reduceAdd] at hxx
    simp only [Nat.reduceAdd] at hlit
    have hpl := congrArg Int.toNat hcp
    simp only [Int.toNat_natCast] at hpl
    simp only [Nat.reduceAdd, ho, hle, hmi, hlo, hpe] at h2 h3
    refine gz_aload_n dX0_flashWord_0 rfl ?_
    refine gz_getf 0 dX0_flashWord_1 rfl rfl wf_Heliographs_Chain_53 (by decide) (congrArg Value.ref hpl) ?_
    refine gz_iload_n dX0_flashWord_4 rfl ?_
    refine gv_1 (J := mX3_hasMessage) (d1 := d - 1) dX0_flashWord_5 wm_Heliographs_Chain_94 rfl jzX3_hasMessage (Nat.le_of_ble_eq_true rfl) (Nat.le_of_ble_eq_true rfl) (by omega) ⟨Nat.le_refl _, Nat.le_refl _⟩ (zs_hasMessage hp2 (by omega) h0.2.2.2) ?_
    refine zz_if_eqB (tgt := 21) dX0_flashWord_8 rfl (fun b8 => ?_) (fun b8 => ?_)
    · exact absurd (by simp only [decide_eq_true_eq]; omega) b8
    refine gz_aload_n dX0_flashWord_11 rfl ?_
    refine gz_getf 6 dX0_flashWord_12 rfl rfl wf_Heliographs_Chain_25 (by decide) rfl ?_
    refine gz_iload_n dX0_flashWord_15 rfl ?_
    refine gz_iald (n := k) dX0_flashWord_16 rfl rfl (by omega) rfl ?_
    refine zz_iconst dX0_flashWord_17 ?_
    refine zz_icmp_eq (tgt := 22) dX0_flashWord_18 rfl (by omega) (fun b18 => ?_) (fun b18 => ?_)
    ·
      have hop2 := hop b18
      have h5 := wP_w hw (w := o.toNat) (by simp only [vP_ap, vC_ap, Nat.reduceAdd, Nat.reduceLT, Nat.add_zero, ↓reduceIte]; omega)
      have h6 := sAcross_bd hw (w := o.toNat) (x := pe) (by simp only [vP_ap, vC_ap, Nat.reduceAdd, Nat.reduceLT, Nat.add_zero, ↓reduceIte]; omega)
      simp only [vP_ap, vC_ap, Nat.reduceAdd, Nat.reduceLT, Nat.add_zero, ↓reduceIte, hfar, hxx] at h5 h6
      refine gz_aload_n dX0_flashWord_22 rfl ?_
      refine gz_getf 9 dX0_flashWord_23 rfl rfl wf_Heliographs_Chain_34 (by decide) rfl ?_
      refine gz_iload_n dX0_flashWord_26 rfl ?_
      refine gz_iald (v := .int (iZ (o))) (n := k) dX0_flashWord_27 rfl rfl (by omega) (congrArg (fun z => Value.int (iZ z)) ho) ?_
      refine gz_istore_n dX0_flashWord_28 (Nat.le_of_ble_eq_true rfl) rfl ?_
      refine gz_aload_n dX0_flashWord_29 rfl ?_
      refine gz_iload_n dX0_flashWord_30 rfl ?_
      refine gv_1 (J := mX0_isLit) (d1 := d - 1) dX0_flashWord_31 wm_Heliographs_Chain_98 rfl jzX0_isLit (Nat.le_of_ble_eq_true rfl) (Nat.le_of_ble_eq_true rfl) (by omega) ⟨Nat.le_refl _, Nat.le_refl _⟩ (zs_isLit hcs2 (by omega) (hlit _ (by omega))) ?_
      refine zz_if_neB (tgt := 43) dX0_flashWord_34 rfl (fun b34 => ?_) (fun b34 => ?_)
      ·
        refine gz_aload_n dX0_flashWord_43 rfl ?_
        refine gz_getf 12 dX0_flashWord_44 rfl rfl wf_Heliographs_Chain_43 (by decide) rfl ?_
        refine gz_iload_n dX0_flashWord_47 rfl ?_
        refine gz_dup2 dX0_flashWord_48 rfl rfl ?_
        refine gn_iald (v := .int (iZ (f0))) dX0_flashWord_49 rfl (by omega) (congrArg (fun z => Value.int (iZ z)) hf0) ?_
        refine zz_iconst dX0_flashWord_50 ?_
        refine zz_iadd dX0_flashWord_51 ?_
        refine zn_iast dX0_flashWord_52 rfl (by decide) (by omega) rfl ?_
        refine gz_aload_n dX0_flashWord_53 rfl ?_
        refine gz_getf 0 dX0_flashWord_54 rfl rfl wf_Heliographs_Chain_53 (by decide) (congrArg Value.ref hpl) ?_
        refine gz_getf 9 dX0_flashWord_57 rfl rfl wf_Heliographs_Chain_104 (by decide) rfl ?_
        refine gz_iload_n dX0_flashWord_60 rfl ?_
        refine gn_iald (v := .int (iZ (far))) dX0_flashWord_61 rfl (by omega) (congrArg (fun z => Value.int (iZ z)) hfar) ?_
        refine zz_bipush (x := 7) dX0_flashWord_62 rfl ?_
        refine zz_icmp_lt (tgt := 96) dX0_flashWord_64 rfl (by omega) (fun b64 => ?_) (fun b64 => ?_)
        ·
          refine gz_aload_n dX0_flashWord_96 rfl ?_
          refine gz_getf 7 dX0_flashWord_97 rfl rfl wf_Heliographs_Chain_28 (by decide) rfl ?_
          refine gz_iload_n dX0_flashWord_100 rfl ?_
          refine gz_dup2 dX0_flashWord_101 rfl rfl ?_
          refine gz_iald (v := .int (iZ (le))) (n := k) dX0_flashWord_102 rfl rfl (by omega) (congrArg (fun z => Value.int (iZ z)) hle) ?_
          refine zz_iconst dX0_flashWord_103 ?_
          refine zz_isub dX0_flashWord_104 ?_
          refine zc_iast (n := k) dX0_flashWord_105 rfl (by decide) rfl (by omega) rfl ?_
          refine gz_aload_n dX0_flashWord_106 rfl ?_
          refine gz_getf 7 dX0_flashWord_107 rfl rfl wf_Heliographs_Chain_28 (by decide) rfl ?_
          refine gz_iload_n dX0_flashWord_110 rfl ?_
          refine gz_iald (v := .int (iZ (le - 1))) (n := k) dX0_flashWord_111 rfl rfl (by omega) (congrArg (fun z => Value.int (iZ z)) (zb_u_at _ _ _ _)) ?_
          refine zz_if_ne (tgt := 134) dX0_flashWord_112 rfl (by omega) (fun b112 => ?_) (fun b112 => ?_)
          ·
            refine gz_return_ dX0_flashWord_134 rfl ?_
            first | (skip; unfold sFlash at hq; simp only [vP_ap, vC_ap, Nat.reduceAdd, Nat.reduceLT, Nat.add_zero, ↓reduceIte, ho, hle, hmi, hf0, hfar, hlo, hpe, hxx] at hq; rw [if_pos b18, if_pos (show _ ≠ _ from of_decide_eq_true b34), if_neg (show ¬ (7 ≤ far ∧ (mi + le) % 5 = 0) from by omega), if_neg (show ¬ le = 1 from by omega)] at hq; simp only [zi_336, zi_337, zi_338, zi_339, zi_340, zi_341, zi_342, zi_343, zi_344, zi_345, zi_346, zi_347, zi_352, zi_353, zi_354, zi_355, zi_356, zi_357, zi_358, zi_359, zi_360, zi_361, zi_362, zi_363, zW_W, zu_336, zo_336, zc_336, zu_337, zo_337, zc_337, zu_338, zo_338, zc_338, zu_339, zo_339, zc_339, zu_340, zo_340, zc_340, zu_341, zo_341, zc_341, zu_342, zo_342, zc_342, zu_343, zo_343, zc_343, zu_344, zo_344, zc_344, zu_345, zo_345, zc_345, zu_346, zo_346, zc_346, zu_347, zo_347, zc_347, zp_368_336, zp_368_337, zp_368_338, zp_368_339, zp_368_340, zp_368_341, zp_368_342, zp_368_343, zp_368_344, zp_368_345, zp_368_346, zp_368_347, zp_400_336, zp_400_337, zp_400_338, zp_400_339, zp_400_340, zp_400_341, zp_400_342, zp_400_343, zp_400_344, zp_400_345, zp_400_346, zp_400_347, zq_368_336, zq_400_336, zW_W, vC_W, zu_352, zo_352, zc_352, zu_353, zo_353, zc_353, zu_354, zo_354, zc_354, zu_355, zo_355, zc_355, zu_356, zo_356, zc_356, zu_357, zo_357, zc_357, zu_358, zo_358, zc_358, zu_359, zo_359, zc_359, zu_360, zo_360, zc_360, zu_361, zo_361, zc_361, zu_362, zo_362, zc_362, zu_363, zo_363, zc_363, zp_368_352, zp_368_353, zp_368_354, zp_368_355, zp_368_356, zp_368_357, zp_368_358, zp_368_359, zp_368_360, zp_368_361, zp_368_362, zp_368_363, zp_400_352, zp_400_353, zp_400_354, zp_400_355, zp_400_356, zp_400_357, zp_400_358, zp_400_359, zp_400_360, zp_400_361, zp_400_362, zp_400_363, zq_368_352, zq_400_352, zW_W, vC_W, cut_u, cut_vC, cut_cut, cut_sWait, cut_sArr, vP_ap, vC_ap, Nat.reduceAdd, Nat.reduceLT, Nat.add_zero, ↓reduceIte, ho, hle, hmi, hf0, hfar, hlo, hpe, hxx] at hq ⊢; exact hq) | (unfold sFlash at hq; simp only [vP_ap, vC_ap, Nat.reduceAdd, Nat.reduceLT, Nat.add_zero, ↓reduceIte, ho, hle, hmi, hf0, hfar, hlo, hpe, hxx] at hq; rw [if_pos b18, if_pos (show _ ≠ _ from of_decide_eq_true b34), if_neg (show ¬ (7 ≤ far ∧ (mi + le) % 5 = 0) from by omega), if_pos (show le = 1 from by omega)] at hq; simp only [zi_336, zi_337, zi_338, zi_339, zi_340, zi_341, zi_342, zi_343, zi_344, zi_345, zi_346, zi_347, zi_352, zi_353, zi_354, zi_355, zi_356, zi_357, zi_358, zi_359, zi_360, zi_361, zi_362, zi_363, zW_W, zu_336, zo_336, zc_336, zu_337, zo_337, zc_337, zu_338, zo_338, zc_338, zu_339, zo_339, zc_339, zu_340, zo_340, zc_340, zu_341, zo_341, zc_341, zu_342, zo_342, zc_342, zu_343, zo_343, zc_343, zu_344, zo_344, zc_344, zu_345, zo_345, zc_345, zu_346, zo_346, zc_346, zu_347, zo_347, zc_347, zp_368_336, zp_368_337, zp_368_338, zp_368_339, zp_368_340, zp_368_341, zp_368_342, zp_368_343, zp_368_344, zp_368_345, zp_368_346, zp_368_347, zp_400_336, zp_400_337, zp_400_338, zp_400_339, zp_400_340, zp_400_341, zp_400_342, zp_400_343, zp_400_344, zp_400_345, zp_400_346, zp_400_347, zq_368_336, zq_400_336, zW_W, vC_W, zu_352, zo_352, zc_352, zu_353, zo_353, zc_353, zu_354, zo_354, zc_354, zu_355, zo_355, zc_355, zu_356, zo_356, zc_356, zu_357, zo_357, zc_357, zu_358, zo_358, zc_358, zu_359, zo_359, zc_359, zu_360, zo_360, zc_360, zu_361, zo_361, zc_361, zu_362, zo_362, zc_362, zu_363, zo_363, zc_363, zp_368_352, zp_368_353, zp_368_354, zp_368_355, zp_368_356, zp_368_357, zp_368_358, zp_368_359, zp_368_360, zp_368_361, zp_368_362, zp_368_363, zp_400_352, zp_400_353, zp_400_354, zp_400_355, zp_400_356, zp_400_357, zp_400_358, zp_400_359, zp_400_360, zp_400_361, zp_400_362, zp_400_363, zq_368_352, zq_400_352, zW_W, vC_W, cut_u, cut_vC, cut_cut, cut_sWait, cut_sArr, vP_ap, vC_ap, Nat.reduceAdd, Nat.reduceLT, Nat.add_zero, ↓reduceIte, ho, hle, hmi, hf0, hfar, hlo, hpe, hxx] at hq ⊢; exact hq)
          ·
            refine gz_aload_n dX0_flashWord_115 rfl ?_
            refine gz_iload_n dX0_flashWord_116 rfl ?_
            refine gz_aload_n dX0_flashWord_117 rfl ?_
            refine gz_getf 0 dX0_flashWord_118 rfl rfl wf_Heliographs_Chain_53 (by decide) (congrArg Value.ref hpl) ?_
            refine gz_iload_n dX0_flashWord_121 rfl ?_
            refine gz_aload_n dX0_flashWord_122 rfl ?_
            refine gz_getf 4 dX0_flashWord_123 rfl rfl wf_Heliographs_Chain_19 (by decide) rfl ?_
            refine gz_iload_n dX0_flashWord_126 rfl ?_
            refine gz_iald (v := .int (iZ (pe))) (n := k) dX0_flashWord_127 rfl rfl (by omega) (congrArg (fun z => Value.int (iZ z)) hpe) ?_
            refine gv_2 (v1 := some (.int (iZ (xx)))) (J := mX3_across) (d1 := d - 1) dX0_flashWord_128 wm_Heliographs_Chain_107 rfl jzX3_across (Nat.le_of_ble_eq_true rfl) (Nat.le_of_ble_eq_true rfl) (by omega) ⟨Nat.le_refl _, Nat.le_refl _⟩ (zk_Does.to (zs_across hp2 (by simp only [zu_336, zo_336, zc_336, zu_337, zo_337, zc_337, zu_338, zo_338, zc_338, zu_339, zo_339, zc_339, zu_340, zo_340, zc_340, zu_341, zo_341, zc_341, zu_342, zo_342, zc_342, zu_343, zo_343, zc_343, zu_344, zo_344, zc_344, zu_345, zo_345, zc_345, zu_346, zo_346, zc_346, zu_347, zo_347, zc_347, zp_368_336, zp_368_337, zp_368_338, zp_368_339, zp_368_340, zp_368_341, zp_368_342, zp_368_343, zp_368_344, zp_368_345, zp_368_346, zp_368_347, zp_400_336, zp_400_337, zp_400_338, zp_400_339, zp_400_340, zp_400_341, zp_400_342, zp_400_343, zp_400_344, zp_400_345, zp_400_346, zp_400_347, zq_368_336, zq_400_336, zW_W, vC_W, zu_352, zo_352, zc_352, zu_353, zo_353, zc_353, zu_354, zo_354, zc_354, zu_355, zo_355, zc_355, zu_356, zo_356, zc_356, zu_357, zo_357, zc_357, zu_358, zo_358, zc_358, zu_359, zo_359, zc_359, zu_360, zo_360, zc_360, zu_361, zo_361, zc_361, zu_362, zo_362, zc_362, zu_363, zo_363, zc_363, zp_368_352, zp_368_353, zp_368_354, zp_368_355, zp_368_356, zp_368_357, zp_368_358, zp_368_359, zp_368_360, zp_368_361, zp_368_362, zp_368_363, zp_400_352, zp_400_353, zp_400_354, zp_400_355, zp_400_356, zp_400_357, zp_400_358, zp_400_359, zp_400_360, zp_400_361, zp_400_362, zp_400_363, zq_368_352, zq_400_352, zW_W, vC_W]; exact hw) (by exact hop2) (by omega) (by omega)) (by simp only [zu_336, zo_336, zc_336, zu_337, zo_337, zc_337, zu_338, zo_338, zc_338, zu_339, zo_339, zc_339, zu_340, zo_340, zc_340, zu_341, zo_341, zc_341, zu_342, zo_342, zc_342, zu_343, zo_343, zc_343, zu_344, zo_344, zc_344, zu_345, zo_345, zc_345, zu_346, zo_346, zc_346, zu_347, zo_347, zc_347, zp_368_336, zp_368_337, zp_368_338, zp_368_339, zp_368_340, zp_368_341, zp_368_342, zp_368_343, zp_368_344, zp_368_345, zp_368_346, zp_368_347, zp_400_336, zp_400_337, zp_400_338, zp_400_339, zp_400_340, zp_400_341, zp_400_342, zp_400_343, zp_400_344, zp_400_345, zp_400_346, zp_400_347, zq_368_336, zq_400_336, zW_W, vC_W, zu_352, zo_352, zc_352, zu_353, zo_353, zc_353, zu_354, zo_354, zc_354, zu_355, zo_355, zc_355, zu_356, zo_356, zc_356, zu_357, zo_357, zc_357, zu_358, zo_358, zc_358, zu_359, zo_359, zc_359, zu_360, zo_360, zc_360, zu_361, zo_361, zc_361, zu_362, zo_362, zc_362, zu_363, zo_363, zc_363, zp_368_352, zp_368_353, zp_368_354, zp_368_355, zp_368_356, zp_368_357, zp_368_358, zp_368_359, zp_368_360, zp_368_361, zp_368_362, zp_368_363, zp_400_352, zp_400_353, zp_400_354, zp_400_355, zp_400_356, zp_400_357, zp_400_358, zp_400_359, zp_400_360, zp_400_361, zp_400_362, zp_400_363, zq_368_352, zq_400_352, zW_W, vC_W, hxx])) ?_
            refine gv_2 (J := mX0_arrive) (d1 := d - 1) dX0_flashWord_131 wm_Heliographs_Chain_111 rfl jzX0_arrive (Nat.le_of_ble_eq_true rfl) (Nat.le_of_ble_eq_true rfl) (by omega) ⟨Nat.le_refl _, Nat.le_refl _⟩ (zs_arrive hcs2 hp2 (by exact hcp) (by simp only [zu_336, zo_336, zc_336, zu_337, zo_337, zc_337, zu_338, zo_338, zc_338, zu_339, zo_339, zc_339, zu_340, zo_340, zc_340, zu_341, zo_341, zc_341, zu_342, zo_342, zc_342, zu_343, zo_343, zc_343, zu_344, zo_344, zc_344, zu_345, zo_345, zc_345, zu_346, zo_346, zc_346, zu_347, zo_347, zc_347, zp_368_336, zp_368_337, zp_368_338, zp_368_339, zp_368_340, zp_368_341, zp_368_342, zp_368_343, zp_368_344, zp_368_345, zp_368_346, zp_368_347, zp_400_336, zp_400_337, zp_400_338, zp_400_339, zp_400_340, zp_400_341, zp_400_342, zp_400_343, zp_400_344, zp_400_345, zp_400_346, zp_400_347, zq_368_336, zq_400_336, zW_W, vC_W, zu_352, zo_352, zc_352, zu_353, zo_353, zc_353, zu_354, zo_354, zc_354, zu_355, zo_355, zc_355, zu_356, zo_356, zc_356, zu_357, zo_357, zc_357, zu_358, zo_358, zc_358, zu_359, zo_359, zc_359, zu_360, zo_360, zc_360, zu_361, zo_361, zc_361, zu_362, zo_362, zc_362, zu_363, zo_363, zc_363, zp_368_352, zp_368_353, zp_368_354, zp_368_355, zp_368_356, zp_368_357, zp_368_358, zp_368_359, zp_368_360, zp_368_361, zp_368_362, zp_368_363, zp_400_352, zp_400_353, zp_400_354, zp_400_355, zp_400_356, zp_400_357, zp_400_358, zp_400_359, zp_400_360, zp_400_361, zp_400_362, zp_400_363, zq_368_352, zq_400_352, zW_W, vC_W]; exact hw) (by exact hk) (by omega) (by exact hg8) (by omega)) ?_
            refine gz_return_ dX0_flashWord_134 rfl ?_
            first | (skip; unfold sFlash at hq; simp only [vP_ap, vC_ap, Nat.reduceAdd, Nat.reduceLT, Nat.add_zero, ↓reduceIte, ho, hle, hmi, hf0, hfar, hlo, hpe, hxx] at hq; rw [if_pos b18, if_pos (show _ ≠ _ from of_decide_eq_true b34), if_neg (show ¬ (7 ≤ far ∧ (mi + le) % 5 = 0) from by omega), if_neg (show ¬ le = 1 from by omega)] at hq; simp only [zi_336, zi_337, zi_338, zi_339, zi_340, zi_341, zi_342, zi_343, zi_344, zi_345, zi_346, zi_347, zi_352, zi_353, zi_354, zi_355, zi_356, zi_357, zi_358, zi_359, zi_360, zi_361, zi_362, zi_363, zW_W, zu_336, zo_336, zc_336, zu_337, zo_337, zc_337, zu_338, zo_338, zc_338, zu_339, zo_339, zc_339, zu_340, zo_340, zc_340, zu_341, zo_341, zc_341, zu_342, zo_342, zc_342, zu_343, zo_343, zc_343, zu_344, zo_344, zc_344, zu_345, zo_345, zc_345, zu_346, zo_346, zc_346, zu_347, zo_347, zc_347, zp_368_336, zp_368_337, zp_368_338, zp_368_339, zp_368_340, zp_368_341, zp_368_342, zp_368_343, zp_368_344, zp_368_345, zp_368_346, zp_368_347, zp_400_336, zp_400_337, zp_400_338, zp_400_339, zp_400_340, zp_400_341, zp_400_342, zp_400_343, zp_400_344, zp_400_345, zp_400_346, zp_400_347, zq_368_336, zq_400_336, zW_W, vC_W, zu_352, zo_352, zc_352, zu_353, zo_353, zc_353, zu_354, zo_354, zc_354, zu_355, zo_355, zc_355, zu_356, zo_356, zc_356, zu_357, zo_357, zc_357, zu_358, zo_358, zc_358, zu_359, zo_359, zc_359, zu_360, zo_360, zc_360, zu_361, zo_361, zc_361, zu_362, zo_362, zc_362, zu_363, zo_363, zc_363, zp_368_352, zp_368_353, zp_368_354, zp_368_355, zp_368_356, zp_368_357, zp_368_358, zp_368_359, zp_368_360, zp_368_361, zp_368_362, zp_368_363, zp_400_352, zp_400_353, zp_400_354, zp_400_355, zp_400_356, zp_400_357, zp_400_358, zp_400_359, zp_400_360, zp_400_361, zp_400_362, zp_400_363, zq_368_352, zq_400_352, zW_W, vC_W, cut_u, cut_vC, cut_cut, cut_sWait, cut_sArr, vP_ap, vC_ap, Nat.reduceAdd, Nat.reduceLT, Nat.add_zero, ↓reduceIte, ho, hle, hmi, hf0, hfar, hlo, hpe, hxx] at hq ⊢; exact hq) | (unfold sFlash at hq; simp only [vP_ap, vC_ap, Nat.reduceAdd, Nat.reduceLT, Nat.add_zero, ↓reduceIte, ho, hle, hmi, hf0, hfar, hlo, hpe, hxx] at hq; rw [if_pos b18, if_pos (show _ ≠ _ from of_decide_eq_true b34), if_neg (show ¬ (7 ≤ far ∧ (mi + le) % 5 = 0) from by omega), if_pos (show le = 1 from by omega)] at hq; simp only [zi_336, zi_337, zi_338, zi_339, zi_340, zi_341, zi_342, zi_343, zi_344, zi_345, zi_346, zi_347, zi_352, zi_353, zi_354, zi_355, zi_356, zi_357, zi_358, zi_359, zi_360, zi_361, zi_362, zi_363, zW_W, zu_336, zo_336, zc_336, zu_337, zo_337, zc_337, zu_338, zo_338, zc_338, zu_339, zo_339, zc_339, zu_340, zo_340, zc_340, zu_341, zo_341, zc_341, zu_342, zo_342, zc_342, zu_343, zo_343, zc_343, zu_344, zo_344, zc_344, zu_345, zo_345, zc_345, zu_346, zo_346, zc_346, zu_347, zo_347, zc_347, zp_368_336, zp_368_337, zp_368_338, zp_368_339, zp_368_340, zp_368_341, zp_368_342, zp_368_343, zp_368_344, zp_368_345, zp_368_346, zp_368_347, zp_400_336, zp_400_337, zp_400_338, zp_400_339, zp_400_340, zp_400_341, zp_400_342, zp_400_343, zp_400_344, zp_400_345, zp_400_346, zp_400_347, zq_368_336, zq_400_336, zW_W, vC_W, zu_352, zo_352, zc_352, zu_353, zo_353, zc_353, zu_354, zo_354, zc_354, zu_355, zo_355, zc_355, zu_356, zo_356, zc_356, zu_357, zo_357, zc_357, zu_358, zo_358, zc_358, zu_359, zo_359, zc_359, zu_360, zo_360, zc_360, zu_361, zo_361, zc_361, zu_362, zo_362, zc_362, zu_363, zo_363, zc_363, zp_368_352, zp_368_353, zp_368_354, zp_368_355, zp_368_356, zp_368_357, zp_368_358, zp_368_359, zp_368_360, zp_368_361, zp_368_362, zp_368_363, zp_400_352, zp_400_353, zp_400_354, zp_400_355, zp_400_356, zp_400_357, zp_400_358, zp_400_359, zp_400_360, zp_400_361, zp_400_362, zp_400_363, zq_368_352, zq_400_352, zW_W, vC_W, cut_u, cut_vC, cut_cut, cut_sWait, cut_sArr, vP_ap, vC_ap, Nat.reduceAdd, Nat.reduceLT, Nat.add_zero, ↓reduceIte, ho, hle, hmi, hf0, hfar, hlo, hpe, hxx] at hq ⊢; exact hq)
        ·
          refine gz_aload_n dX0_flashWord_67 rfl ?_
          refine gz_getf (v := .int (iZ (mi))) 1 dX0_flashWord_68 rfl rfl wf_Heliographs_Chain_71 (by decide) (congrArg (fun z => Value.int (iZ z)) hmi) ?_
          refine gz_aload_n dX0_flashWord_71 rfl ?_
          refine gz_getf 7 dX0_flashWord_72 rfl rfl wf_Heliographs_Chain_28 (by decide) rfl ?_
          refine gz_iload_n dX0_flashWord_75 rfl ?_
          refine gz_iald (v := .int (iZ (le))) (n := k) dX0_flashWord_76 rfl rfl (by omega) (congrArg (fun z => Value.int (iZ z)) hle) ?_
          refine zz_iadd dX0_flashWord_77 ?_
          refine zz_iconst dX0_flashWord_78 ?_
          refine zz_irem dX0_flashWord_79 (by omega) ?_
          refine zz_if_ne (tgt := 96) dX0_flashWord_80 rfl (by omega) (fun b80 => ?_) (fun b80 => ?_)
          ·
            refine gz_aload_n dX0_flashWord_96 rfl ?_
            refine gz_getf 7 dX0_flashWord_97 rfl rfl wf_Heliographs_Chain_28 (by decide) rfl ?_
            refine gz_iload_n dX0_flashWord_100 rfl ?_
            refine gz_dup2 dX0_flashWord_101 rfl rfl ?_
            refine gz_iald (v := .int (iZ (le))) (n := k) dX0_flashWord_102 rfl rfl (by omega) (congrArg (fun z => Value.int (iZ z)) hle) ?_
            refine zz_iconst dX0_flashWord_103 ?_
            refine zz_isub dX0_flashWord_104 ?_
            refine zc_iast (n := k) dX0_flashWord_105 rfl (by decide) rfl (by omega) rfl ?_
            refine gz_aload_n dX0_flashWord_106 rfl ?_
            refine gz_getf 7 dX0_flashWord_107 rfl rfl wf_Heliographs_Chain_28 (by decide) rfl ?_
            refine gz_iload_n dX0_flashWord_110 rfl ?_
            refine gz_iald (v := .int (iZ (le - 1))) (n := k) dX0_flashWord_111 rfl rfl (by omega) (congrArg (fun z => Value.int (iZ z)) (zb_u_at _ _ _ _)) ?_
            refine zz_if_ne (tgt := 134) dX0_flashWord_112 rfl (by omega) (fun b112 => ?_) (fun b112 => ?_)
            ·
              refine gz_return_ dX0_flashWord_134 rfl ?_
              first | (skip; unfold sFlash at hq; simp only [vP_ap, vC_ap, Nat.reduceAdd, Nat.reduceLT, Nat.add_zero, ↓reduceIte, ho, hle, hmi, hf0, hfar, hlo, hpe, hxx] at hq; rw [if_pos b18, if_pos (show _ ≠ _ from of_decide_eq_true b34), if_neg (show ¬ (7 ≤ far ∧ (mi + le) % 5 = 0) from by omega), if_neg (show ¬ le = 1 from by omega)] at hq; simp only [zi_336, zi_337, zi_338, zi_339, zi_340, zi_341, zi_342, zi_343, zi_344, zi_345, zi_346, zi_347, zi_352, zi_353, zi_354, zi_355, zi_356, zi_357, zi_358, zi_359, zi_360, zi_361, zi_362, zi_363, zW_W, zu_336, zo_336, zc_336, zu_337, zo_337, zc_337, zu_338, zo_338, zc_338, zu_339, zo_339, zc_339, zu_340, zo_340, zc_340, zu_341, zo_341, zc_341, zu_342, zo_342, zc_342, zu_343, zo_343, zc_343, zu_344, zo_344, zc_344, zu_345, zo_345, zc_345, zu_346, zo_346, zc_346, zu_347, zo_347, zc_347, zp_368_336, zp_368_337, zp_368_338, zp_368_339, zp_368_340, zp_368_341, zp_368_342, zp_368_343, zp_368_344, zp_368_345, zp_368_346, zp_368_347, zp_400_336, zp_400_337, zp_400_338, zp_400_339, zp_400_340, zp_400_341, zp_400_342, zp_400_343, zp_400_344, zp_400_345, zp_400_346, zp_400_347, zq_368_336, zq_400_336, zW_W, vC_W, zu_352, zo_352, zc_352, zu_353, zo_353, zc_353, zu_354, zo_354, zc_354, zu_355, zo_355, zc_355, zu_356, zo_356, zc_356, zu_357, zo_357, zc_357, zu_358, zo_358, zc_358, zu_359, zo_359, zc_359, zu_360, zo_360, zc_360, zu_361, zo_361, zc_361, zu_362, zo_362, zc_362, zu_363, zo_363, zc_363, zp_368_352, zp_368_353, zp_368_354, zp_368_355, zp_368_356, zp_368_357, zp_368_358, zp_368_359, zp_368_360, zp_368_361, zp_368_362, zp_368_363, zp_400_352, zp_400_353, zp_400_354, zp_400_355, zp_400_356, zp_400_357, zp_400_358, zp_400_359, zp_400_360, zp_400_361, zp_400_362, zp_400_363, zq_368_352, zq_400_352, zW_W, vC_W, cut_u, cut_vC, cut_cut, cut_sWait, cut_sArr, vP_ap, vC_ap, Nat.reduceAdd, Nat.reduceLT, Nat.add_zero, ↓reduceIte, ho, hle, hmi, hf0, hfar, hlo, hpe, hxx] at hq ⊢; exact hq) | (unfold sFlash at hq; simp only [vP_ap, vC_ap, Nat.reduceAdd, Nat.reduceLT, Nat.add_zero, ↓reduceIte, ho, hle, hmi, hf0, hfar, hlo, hpe, hxx] at hq; rw [if_pos b18, if_pos (show _ ≠ _ from of_decide_eq_true b34), if_neg (show ¬ (7 ≤ far ∧ (mi + le) % 5 = 0) from by omega), if_pos (show le = 1 from by omega)] at hq; simp only [zi_336, zi_337, zi_338, zi_339, zi_340, zi_341, zi_342, zi_343, zi_344, zi_345, zi_346, zi_347, zi_352, zi_353, zi_354, zi_355, zi_356, zi_357, zi_358, zi_359, zi_360, zi_361, zi_362, zi_363, zW_W, zu_336, zo_336, zc_336, zu_337, zo_337, zc_337, zu_338, zo_338, zc_338, zu_339, zo_339, zc_339, zu_340, zo_340, zc_340, zu_341, zo_341, zc_341, zu_342, zo_342, zc_342, zu_343, zo_343, zc_343, zu_344, zo_344, zc_344, zu_345, zo_345, zc_345, zu_346, zo_346, zc_346, zu_347, zo_347, zc_347, zp_368_336, zp_368_337, zp_368_338, zp_368_339, zp_368_340, zp_368_341, zp_368_342, zp_368_343, zp_368_344, zp_368_345, zp_368_346, zp_368_347, zp_400_336, zp_400_337, zp_400_338, zp_400_339, zp_400_340, zp_400_341, zp_400_342, zp_400_343, zp_400_344, zp_400_345, zp_400_346, zp_400_347, zq_368_336, zq_400_336, zW_W, vC_W, zu_352, zo_352, zc_352, zu_353, zo_353, zc_353, zu_354, zo_354, zc_354, zu_355, zo_355, zc_355, zu_356, zo_356, zc_356, zu_357, zo_357, zc_357, zu_358, zo_358, zc_358, zu_359, zo_359, zc_359, zu_360, zo_360, zc_360, zu_361, zo_361, zc_361, zu_362, zo_362, zc_362, zu_363, zo_363, zc_363, zp_368_352, zp_368_353, zp_368_354, zp_368_355, zp_368_356, zp_368_357, zp_368_358, zp_368_359, zp_368_360, zp_368_361, zp_368_362, zp_368_363, zp_400_352, zp_400_353, zp_400_354, zp_400_355, zp_400_356, zp_400_357, zp_400_358, zp_400_359, zp_400_360, zp_400_361, zp_400_362, zp_400_363, zq_368_352, zq_400_352, zW_W, vC_W, cut_u, cut_vC, cut_cut, cut_sWait, cut_sArr, vP_ap, vC_ap, Nat.reduceAdd, Nat.reduceLT, Nat.add_zero, ↓reduceIte, ho, hle, hmi, hf0, hfar, hlo, hpe, hxx] at hq ⊢; exact hq)
            ·
              refine gz_aload_n dX0_flashWord_115 rfl ?_
              refine gz_iload_n dX0_flashWord_116 rfl ?_
              refine gz_aload_n dX0_flashWord_117 rfl ?_
              refine gz_getf 0 dX0_flashWord_118 rfl rfl wf_Heliographs_Chain_53 (by decide) (congrArg Value.ref hpl) ?_
              refine gz_iload_n dX0_flashWord_121 rfl ?_
              refine gz_aload_n dX0_flashWord_122 rfl ?_
              refine gz_getf 4 dX0_flashWord_123 rfl rfl wf_Heliographs_Chain_19 (by decide) rfl ?_
              refine gz_iload_n dX0_flashWord_126 rfl ?_
              refine gz_iald (v := .int (iZ (pe))) (n := k) dX0_flashWord_127 rfl rfl (by omega) (congrArg (fun z => Value.int (iZ z)) hpe) ?_
              refine gv_2 (v1 := some (.int (iZ (xx)))) (J := mX3_across) (d1 := d - 1) dX0_flashWord_128 wm_Heliographs_Chain_107 rfl jzX3_across (Nat.le_of_ble_eq_true rfl) (Nat.le_of_ble_eq_true rfl) (by omega) ⟨Nat.le_refl _, Nat.le_refl _⟩ (zk_Does.to (zs_across hp2 (by simp only [zu_336, zo_336, zc_336, zu_337, zo_337, zc_337, zu_338, zo_338, zc_338, zu_339, zo_339, zc_339, zu_340, zo_340, zc_340, zu_341, zo_341, zc_341, zu_342, zo_342, zc_342, zu_343, zo_343, zc_343, zu_344, zo_344, zc_344, zu_345, zo_345, zc_345, zu_346, zo_346, zc_346, zu_347, zo_347, zc_347, zp_368_336, zp_368_337, zp_368_338, zp_368_339, zp_368_340, zp_368_341, zp_368_342, zp_368_343, zp_368_344, zp_368_345, zp_368_346, zp_368_347, zp_400_336, zp_400_337, zp_400_338, zp_400_339, zp_400_340, zp_400_341, zp_400_342, zp_400_343, zp_400_344, zp_400_345, zp_400_346, zp_400_347, zq_368_336, zq_400_336, zW_W, vC_W, zu_352, zo_352, zc_352, zu_353, zo_353, zc_353, zu_354, zo_354, zc_354, zu_355, zo_355, zc_355, zu_356, zo_356, zc_356, zu_357, zo_357, zc_357, zu_358, zo_358, zc_358, zu_359, zo_359, zc_359, zu_360, zo_360, zc_360, zu_361, zo_361, zc_361, zu_362, zo_362, zc_362, zu_363, zo_363, zc_363, zp_368_352, zp_368_353, zp_368_354, zp_368_355, zp_368_356, zp_368_357, zp_368_358, zp_368_359, zp_368_360, zp_368_361, zp_368_362, zp_368_363, zp_400_352, zp_400_353, zp_400_354, zp_400_355, zp_400_356, zp_400_357, zp_400_358, zp_400_359, zp_400_360, zp_400_361, zp_400_362, zp_400_363, zq_368_352, zq_400_352, zW_W, vC_W]; exact hw) (by exact hop2) (by omega) (by omega)) (by simp only [zu_336, zo_336, zc_336, zu_337, zo_337, zc_337, zu_338, zo_338, zc_338, zu_339, zo_339, zc_339, zu_340, zo_340, zc_340, zu_341, zo_341, zc_341, zu_342, zo_342, zc_342, zu_343, zo_343, zc_343, zu_344, zo_344, zc_344, zu_345, zo_345, zc_345, zu_346, zo_346, zc_346, zu_347, zo_347, zc_347, zp_368_336, zp_368_337, zp_368_338, zp_368_339, zp_368_340, zp_368_341, zp_368_342, zp_368_343, zp_368_344, zp_368_345, zp_368_346, zp_368_347, zp_400_336, zp_400_337, zp_400_338, zp_400_339, zp_400_340, zp_400_341, zp_400_342, zp_400_343, zp_400_344, zp_400_345, zp_400_346, zp_400_347, zq_368_336, zq_400_336, zW_W, vC_W, zu_352, zo_352, zc_352, zu_353, zo_353, zc_353, zu_354, zo_354, zc_354, zu_355, zo_355, zc_355, zu_356, zo_356, zc_356, zu_357, zo_357, zc_357, zu_358, zo_358, zc_358, zu_359, zo_359, zc_359, zu_360, zo_360, zc_360, zu_361, zo_361, zc_361, zu_362, zo_362, zc_362, zu_363, zo_363, zc_363, zp_368_352, zp_368_353, zp_368_354, zp_368_355, zp_368_356, zp_368_357, zp_368_358, zp_368_359, zp_368_360, zp_368_361, zp_368_362, zp_368_363, zp_400_352, zp_400_353, zp_400_354, zp_400_355, zp_400_356, zp_400_357, zp_400_358, zp_400_359, zp_400_360, zp_400_361, zp_400_362, zp_400_363, zq_368_352, zq_400_352, zW_W, vC_W, hxx])) ?_
              refine gv_2 (J := mX0_arrive) (d1 := d - 1) dX0_flashWord_131 wm_Heliographs_Chain_111 rfl jzX0_arrive (Nat.le_of_ble_eq_true rfl) (Nat.le_of_ble_eq_true rfl) (by omega) ⟨Nat.le_refl _, Nat.le_refl _⟩ (zs_arrive hcs2 hp2 (by exact hcp) (by simp only [zu_336, zo_336, zc_336, zu_337, zo_337, zc_337, zu_338, zo_338, zc_338, zu_339, zo_339, zc_339, zu_340, zo_340, zc_340, zu_341, zo_341, zc_341, zu_342, zo_342, zc_342, zu_343, zo_343, zc_343, zu_344, zo_344, zc_344, zu_345, zo_345, zc_345, zu_346, zo_346, zc_346, zu_347, zo_347, zc_347, zp_368_336, zp_368_337, zp_368_338, zp_368_339, zp_368_340, zp_368_341, zp_368_342, zp_368_343, zp_368_344, zp_368_345, zp_368_346, zp_368_347, zp_400_336, zp_400_337, zp_400_338, zp_400_339, zp_400_340, zp_400_341, zp_400_342, zp_400_343, zp_400_344, zp_400_345, zp_400_346, zp_400_347, zq_368_336, zq_400_336, zW_W, vC_W, zu_352, zo_352, zc_352, zu_353, zo_353, zc_353, zu_354, zo_354, zc_354, zu_355, zo_355, zc_355, zu_356, zo_356, zc_356, zu_357, zo_357, zc_357, zu_358, zo_358, zc_358, zu_359, zo_359, zc_359, zu_360, zo_360, zc_360, zu_361, zo_361, zc_361, zu_362, zo_362, zc_362, zu_363, zo_363, zc_363, zp_368_352, zp_368_353, zp_368_354, zp_368_355, zp_368_356, zp_368_357, zp_368_358, zp_368_359, zp_368_360, zp_368_361, zp_368_362, zp_368_363, zp_400_352, zp_400_353, zp_400_354, zp_400_355, zp_400_356, zp_400_357, zp_400_358, zp_400_359, zp_400_360, zp_400_361, zp_400_362, zp_400_363, zq_368_352, zq_400_352, zW_W, vC_W]; exact hw) (by exact hk) (by omega) (by exact hg8) (by omega)) ?_
              refine gz_return_ dX0_flashWord_134 rfl ?_
              first | (skip; unfold sFlash at hq; simp only [vP_ap, vC_ap, Nat.reduceAdd, Nat.reduceLT, Nat.add_zero, ↓reduceIte, ho, hle, hmi, hf0, hfar, hlo, hpe, hxx] at hq; rw [if_pos b18, if_pos (show _ ≠ _ from of_decide_eq_true b34), if_neg (show ¬ (7 ≤ far ∧ (mi + le) % 5 = 0) from by omega), if_neg (show ¬ le = 1 from by omega)] at hq; simp only [zi_336, zi_337, zi_338, zi_339, zi_340, zi_341, zi_342, zi_343, zi_344, zi_345, zi_346, zi_347, zi_352, zi_353, zi_354, zi_355, zi_356, zi_357, zi_358, zi_359, zi_360, zi_361, zi_362, zi_363, zW_W, zu_336, zo_336, zc_336, zu_337, zo_337, zc_337, zu_338, zo_338, zc_338, zu_339, zo_339, zc_339, zu_340, zo_340, zc_340, zu_341, zo_341, zc_341, zu_342, zo_342, zc_342, zu_343, zo_343, zc_343, zu_344, zo_344, zc_344, zu_345, zo_345, zc_345, zu_346, zo_346, zc_346, zu_347, zo_347, zc_347, zp_368_336, zp_368_337, zp_368_338, zp_368_339, zp_368_340, zp_368_341, zp_368_342, zp_368_343, zp_368_344, zp_368_345, zp_368_346, zp_368_347, zp_400_336, zp_400_337, zp_400_338, zp_400_339, zp_400_340, zp_400_341, zp_400_342, zp_400_343, zp_400_344, zp_400_345, zp_400_346, zp_400_347, zq_368_336, zq_400_336, zW_W, vC_W, zu_352, zo_352, zc_352, zu_353, zo_353, zc_353, zu_354, zo_354, zc_354, zu_355, zo_355, zc_355, zu_356, zo_356, zc_356, zu_357, zo_357, zc_357, zu_358, zo_358, zc_358, zu_359, zo_359, zc_359, zu_360, zo_360, zc_360, zu_361, zo_361, zc_361, zu_362, zo_362, zc_362, zu_363, zo_363, zc_363, zp_368_352, zp_368_353, zp_368_354, zp_368_355, zp_368_356, zp_368_357, zp_368_358, zp_368_359, zp_368_360, zp_368_361, zp_368_362, zp_368_363, zp_400_352, zp_400_353, zp_400_354, zp_400_355, zp_400_356, zp_400_357, zp_400_358, zp_400_359, zp_400_360, zp_400_361, zp_400_362, zp_400_363, zq_368_352, zq_400_352, zW_W, vC_W, cut_u, cut_vC, cut_cut, cut_sWait, cut_sArr, vP_ap, vC_ap, Nat.reduceAdd, Nat.reduceLT, Nat.add_zero, ↓reduceIte, ho, hle, hmi, hf0, hfar, hlo, hpe, hxx] at hq ⊢; exact hq) | (unfold sFlash at hq; simp only [vP_ap, vC_ap, Nat.reduceAdd, Nat.reduceLT, Nat.add_zero, ↓reduceIte, ho, hle, hmi, hf0, hfar, hlo, hpe, hxx] at hq; rw [if_pos b18, if_pos (show _ ≠ _ from of_decide_eq_true b34), if_neg (show ¬ (7 ≤ far ∧ (mi + le) % 5 = 0) from by omega), if_pos (show le = 1 from by omega)] at hq; simp only [zi_336, zi_337, zi_338, zi_339, zi_340, zi_341, zi_342, zi_343, zi_344, zi_345, zi_346, zi_347, zi_352, zi_353, zi_354, zi_355, zi_356, zi_357, zi_358, zi_359, zi_360, zi_361, zi_362, zi_363, zW_W, zu_336, zo_336, zc_336, zu_337, zo_337, zc_337, zu_338, zo_338, zc_338, zu_339, zo_339, zc_339, zu_340, zo_340, zc_340, zu_341, zo_341, zc_341, zu_342, zo_342, zc_342, zu_343, zo_343, zc_343, zu_344, zo_344, zc_344, zu_345, zo_345, zc_345, zu_346, zo_346, zc_346, zu_347, zo_347, zc_347, zp_368_336, zp_368_337, zp_368_338, zp_368_339, zp_368_340, zp_368_341, zp_368_342, zp_368_343, zp_368_344, zp_368_345, zp_368_346, zp_368_347, zp_400_336, zp_400_337, zp_400_338, zp_400_339, zp_400_340, zp_400_341, zp_400_342, zp_400_343, zp_400_344, zp_400_345, zp_400_346, zp_400_347, zq_368_336, zq_400_336, zW_W, vC_W, zu_352, zo_352, zc_352, zu_353, zo_353, zc_353, zu_354, zo_354, zc_354, zu_355, zo_355, zc_355, zu_356, zo_356, zc_356, zu_357, zo_357, zc_357, zu_358, zo_358, zc_358, zu_359, zo_359, zc_359, zu_360, zo_360, zc_360, zu_361, zo_361, zc_361, zu_362, zo_362, zc_362, zu_363, zo_363, zc_363, zp_368_352, zp_368_353, zp_368_354, zp_368_355, zp_368_356, zp_368_357, zp_368_358, zp_368_359, zp_368_360, zp_368_361, zp_368_362, zp_368_363, zp_400_352, zp_400_353, zp_400_354, zp_400_355, zp_400_356, zp_400_357, zp_400_358, zp_400_359, zp_400_360, zp_400_361, zp_400_362, zp_400_363, zq_368_352, zq_400_352, zW_W, vC_W, cut_u, cut_vC, cut_cut, cut_sWait, cut_sArr, vP_ap, vC_ap, Nat.reduceAdd, Nat.reduceLT, Nat.add_zero, ↓reduceIte, ho, hle, hmi, hf0, hfar, hlo, hpe, hxx] at hq ⊢; exact hq)
          ·
            refine gz_aload_n dX0_flashWord_83 rfl ?_
            refine gz_dup dX0_flashWord_84 rfl ?_
            refine gz_getf (v := .int (iZ (lo))) 13 dX0_flashWord_85 rfl rfl wf_Heliographs_Chain_57 (by decide) (congrArg (fun z => Value.int (iZ z)) hlo) ?_
            refine zz_iconst dX0_flashWord_88 ?_
            refine zz_iadd dX0_flashWord_89 ?_
            refine zc_putf 13 dX0_flashWord_90 rfl rfl wf_Heliographs_Chain_57 (by decide) (by decide) jo_Heliographs_Chain ju_Heliographs_Chain rfl tyX0 tyX0_ok nmX0 rfl (fun _ => ⟨rfl, rfl⟩) rfl ?_
            refine gz_goto (tgt := 106) dX0_flashWord_93 rfl ?_
            refine gz_aload_n dX0_flashWord_106 rfl ?_
            refine gz_getf 7 dX0_flashWord_107 rfl rfl wf_Heliographs_Chain_28 (by decide) rfl ?_
            refine gz_iload_n dX0_flashWord_110 rfl ?_
            refine gz_iald (v := .int (iZ (le))) (n := k) dX0_flashWord_111 rfl rfl (by omega) (congrArg (fun z => Value.int (iZ z)) hle) ?_
            refine zz_if_ne (tgt := 134) dX0_flashWord_112 rfl (by omega) (fun b112 => ?_) (fun b112 => ?_)
            rotate_left
            · exact absurd b112 (by omega)
            refine gz_return_ dX0_flashWord_134 rfl ?_
            unfold sFlash at hq
            simp only [vP_ap, vC_ap, Nat.reduceAdd, Nat.reduceLT, Nat.add_zero, ↓reduceIte, ho, hle, hmi, hf0, hfar, hlo, hpe, hxx] at hq
            rw [if_pos b18, if_pos (show _ ≠ _ from of_decide_eq_true b34), if_pos ⟨b64, b80⟩] at hq
            simp only [zi_336, zi_337, zi_338, zi_339, zi_340, zi_341, zi_342, zi_343, zi_344, zi_345, zi_346, zi_347, zi_352, zi_353, zi_354, zi_355, zi_356, zi_357, zi_358, zi_359, zi_360, zi_361, zi_362, zi_363, zW_W, zu_336, zo_336, zc_336, zu_337, zo_337, zc_337, zu_338, zo_338, zc_338, zu_339, zo_339, zc_339, zu_340, zo_340, zc_340, zu_341, zo_341, zc_341, zu_342, zo_342, zc_342, zu_343, zo_343, zc_343, zu_344, zo_344, zc_344, zu_345, zo_345, zc_345, zu_346, zo_346, zc_346, zu_347, zo_347, zc_347, zp_368_336, zp_368_337, zp_368_338, zp_368_339, zp_368_340, zp_368_341, zp_368_342, zp_368_343, zp_368_344, zp_368_345, zp_368_346, zp_368_347, zp_400_336, zp_400_337, zp_400_338, zp_400_339, zp_400_340, zp_400_341, zp_400_342, zp_400_343, zp_400_344, zp_400_345, zp_400_346, zp_400_347, zq_368_336, zq_400_336, zW_W, vC_W, zu_352, zo_352, zc_352, zu_353, zo_353, zc_353, zu_354, zo_354, zc_354, zu_355, zo_355, zc_355, zu_356, zo_356, zc_356, zu_357, zo_357, zc_357, zu_358, zo_358, zc_358, zu_359, zo_359, zc_359, zu_360, zo_360, zc_360, zu_361, zo_361, zc_361, zu_362, zo_362, zc_362, zu_363, zo_363, zc_363, zp_368_352, zp_368_353, zp_368_354, zp_368_355, zp_368_356, zp_368_357, zp_368_358, zp_368_359, zp_368_360, zp_368_361, zp_368_362, zp_368_363, zp_400_352, zp_400_353, zp_400_354, zp_400_355, zp_400_356, zp_400_357, zp_400_358, zp_400_359, zp_400_360, zp_400_361, zp_400_362, zp_400_363, zq_368_352, zq_400_352, zW_W, vC_W, cut_u, cut_vC, cut_cut, cut_sWait, cut_sArr, vP_ap, vC_ap, Nat.reduceAdd, Nat.reduceLT, Nat.add_zero, ↓reduceIte, ho, hle, hmi, hf0, hfar, hlo, hpe, hxx] at hq ⊢
            exact hq
      ·
        refine gz_aload_n dX0_flashWord_37 rfl ?_
        refine gz_iload_n dX0_flashWord_38 rfl ?_
        refine gv_1 (J := mX0_breakOff) (d1 := d - 1) dX0_flashWord_39 wm_Heliographs_Chain_101 rfl jzX0_breakOff (Nat.le_of_ble_eq_true rfl) (Nat.le_of_ble_eq_true rfl) (by omega) ⟨Nat.le_refl _, Nat.le_refl _⟩ (zs_breakOff hcs2 hp2 (by exact hcp) hw (by exact hk) (by omega)) ?_
        refine gz_return_ dX0_flashWord_42 rfl ?_
        unfold sFlash at hq
        simp only [vP_ap, vC_ap, Nat.reduceAdd, Nat.reduceLT, Nat.add_zero, ↓reduceIte, ho, hle, hmi, hf0, hfar, hlo, hpe, hxx] at hq
        rw [if_pos b18, if_neg (fun q => b34 (decide_eq_true q))] at hq
        exact hq
    ·
      refine gz_return_ dX0_flashWord_21 rfl ?_
      unfold sFlash at hq
      simp only [vP_ap, vC_ap, Nat.reduceAdd, Nat.reduceLT, Nat.add_zero, ↓reduceIte, ho, hle, hmi, hf0, hfar, hlo, hpe, hxx] at hq
      rw [if_neg b18, zW_self] at hq
      exact hq
  )
end

/-! A CHAIN COPIED, A PLAN BEGUN -/
section
variable {l : Launch} {Γ : zk_G} {d : Nat} {Z : Nat → Nat → Int} {F : Heap → Prop}
def zCr (Z : zV) (a b : Nat) : zV := fun x j => if x = b then Z a j else Z x j
def zCrN (Z : zV) (a b n : Nat) : zV := fun x j => if x = b ∧ j < n then Z a j else Z x j
theorem zCrN_s (Z : zV) {a b : Nat} (hab : a ≠ b) (n : Nat) : zb_u (zCrN Z a b n) b n (zCrN Z a b n a n) = zCrN Z a b (n + 1) := by
  funext x j
  unfold zb_u zCrN
  try dsimp only
  rw [if_neg (show ¬ (a = b ∧ n < n) from fun q => hab q.1)]
  by_cases h : x = b ∧ j = n
  · rw [if_pos h, if_pos ⟨h.1, by omega⟩, h.2]
  · rw [if_neg h]
    by_cases h2 : x = b ∧ j < n
    · rw [if_pos h2, if_pos ⟨h2.1, by omega⟩]
    · rw [if_neg h2, if_neg (by omega)]
theorem zCrN_0 (Z : zV) (a b : Nat) : zCrN Z a b 0 = Z := by
  funext x j
  unfold zCrN
  rw [if_neg (fun q => absurd q.2 (Nat.not_lt_zero _))]
theorem zs_copyRow_loop {a b n : Nat} (hsa : zb_s a = (100, n)) (hsb : zb_s b = (100, n)) (hga : ∀ j z, zb_g a j z = .int (iZ z)) (hgb : ∀ j z, zb_g b j z = .int (iZ z)) (hab : a ≠ b) (hb : zk_N ≤ b) (hn : n ≤ 100) {Q : Option Value → zk_M → (Heap → Prop) → Prop} : ∀ (m i : Nat), i + m = n → Q none (zb_M (zCr Z a b)) F → zk_Go l Γ mX0_copyRow d 0 0 Q 2 [some (.ref a), some (.ref b), some (.int (iZ (i : Int)))] [] (zb_M (zCrN Z a b i)) F := by
  intro m
  induction m with
  | zero =>
    intro i hi hq
    have ei : i = n := by omega
    have hj : ∀ x j, j < (zb_s x).2 → zb_g x j (zCr Z a b x j) = zb_g x j (zCrN Z a b i x j) := fun x j h => by
      unfold zCr zCrN
      by_cases e : x = b
      · rw [e, hsb] at h
        rw [if_pos e, if_pos ⟨e, by rw [ei]; exact h⟩]
      · rw [if_neg e, if_neg (fun q => e q.1)]
    refine gz_iload_n dX0_copyRow_2 rfl ?_
    refine gz_aload_n dX0_copyRow_3 rfl ?_
    refine gz_alen (k := 0) dX0_copyRow_4 hsa (by decide) ?_
    refine zz_icmp_ge (tgt := 26) dX0_copyRow_5 rfl (by omega) (fun b5 => ?_) (fun b5 => ?_)
    rotate_left
    · exact absurd b5 (by omega)
    refine zb_junk hj ?_
    refine gz_return_ dX0_copyRow_26 rfl ?_
    exact hq
  | succ m ih =>
    intro i hi hq
    refine gz_iload_n dX0_copyRow_2 rfl ?_
    refine gz_aload_n dX0_copyRow_3 rfl ?_
    refine gz_alen (k := 0) dX0_copyRow_4 hsa (by decide) ?_
    refine zz_icmp_ge (tgt := 26) dX0_copyRow_5 rfl (by omega) (fun b5 => ?_) (fun b5 => ?_)
    · exact absurd b5 (by omega)
    refine gz_iload_n dX0_copyRow_8 rfl ?_
    refine gz_aload_n dX0_copyRow_9 rfl ?_
    refine gz_alen (k := 0) dX0_copyRow_10 hsb (by decide) ?_
    refine zz_icmp_ge (tgt := 26) dX0_copyRow_11 rfl (by omega) (fun b11 => ?_) (fun b11 => ?_)
    · exact absurd b11 (by omega)
    refine gz_aload_n dX0_copyRow_14 rfl ?_
    refine gz_iload_n dX0_copyRow_15 rfl ?_
    refine gz_aload_n dX0_copyRow_16 rfl ?_
    refine gz_iload_n dX0_copyRow_17 rfl ?_
    refine gz_iald (n := i) dX0_copyRow_18 hsa rfl (by omega) (hga i _) ?_
    refine zc_iast (n := i) dX0_copyRow_19 hsb hb rfl (by omega) (hgb i _).symm ?_
    refine zz_iinc dX0_copyRow_20 rfl rfl ?_
    refine gz_goto (tgt := 2) dX0_copyRow_23 rfl ?_
    rw [zCrN_s Z hab]
    exact ih (i + 1) (by omega) hq
theorem zs_copyRow {a b n : Nat} (hsa : zb_s a = (100, n)) (hsb : zb_s b = (100, n)) (hga : ∀ j z, zb_g a j z = .int (iZ z)) (hgb : ∀ j z, zb_g b j z = .int (iZ z)) (hab : a ≠ b) (hb : zk_N ≤ b) (hn : n ≤ 100) : zk_Does l Γ mX0_copyRow d 0 0 [.ref a, .ref b] (zb_M Z) F none (zb_M (zCr Z a b)) F := by
  intro Q hq
  have htl := zs_copyRow_loop (l := l) (Γ := Γ) (d := d) (F := F) (Z := Z) hsa hsb hga hgb hab hb hn n 0 (by omega) hq
  rw [zCrN_0] at htl
  refine zz_iconst dX0_copyRow_0 ?_
  refine gz_istore_n dX0_copyRow_1 (Nat.le_of_ble_eq_true rfl) rfl ?_
  exact htl
def zCp (Z : zV) : zV := fun a j => if 352 ≤ a ∧ a < 363 then Z (a - 16) j else Z a j
theorem copy_end (Z : zV) {z0 z1 z2 z3 : Int} (h0 : z0 = Z 336 0) (h1 : z1 = Z 336 1) (h2 : z2 = Z 336 2) (h3 : z3 = Z 336 13) : ∀ a j, j < (zb_s a).2 → zb_g a j (zCp Z a j) = zb_g a j ((zCr (zCr (zCr (zCr (zCr (zCr (zCr (zCr (zCr (zCr (zb_u (zb_u (zb_u (zb_u Z 352 0 z0) 352 1 z1) 352 2 z2) 352 13 z3) 337 353) 338 354) 339 355) 340 356) 341 357) 342 358) 343 359) 344 360) 345 361) 346 362) a j) := by
  intro a j h
  subst h0 h1 h2 h3
  by_cases e : a = 352
  · subst e
    have hj : j < 16 := h
    rcases (show j = 0 ∨ j = 1 ∨ j = 2 ∨ j = 3 ∨ j = 4 ∨ j = 5 ∨ j = 6 ∨ j = 7 ∨ j = 8 ∨ j = 9 ∨ j = 10 ∨ j = 11 ∨ j = 12 ∨ j = 13 ∨ j = 14 ∨ j = 15 by omega) with rfl | rfl | rfl | rfl | rfl | rfl | rfl | rfl | rfl | rfl | rfl | rfl | rfl | rfl | rfl | rfl <;> rfl
  · by_cases e2 : 353 ≤ a ∧ a < 363
    · rcases (show a = 353 ∨ a = 354 ∨ a = 355 ∨ a = 356 ∨ a = 357 ∨ a = 358 ∨ a = 359 ∨ a = 360 ∨ a = 361 ∨ a = 362 by omega) with rfl | rfl | rfl | rfl | rfl | rfl | rfl | rfl | rfl | rfl <;> rfl
    · congr 1
      unfold zCp
      rw [if_neg (by omega)]
      unfold zCr zb_u
      repeat' (first | rw [if_neg (by omega)] | fail)
set_option maxRecDepth 100000 in
set_option maxHeartbeats 4000000 in
theorem zs_copy  (hd : 1 ≤ d) : zk_Does l Γ mX0_copy d 0 0 [.ref 352, .ref 336] (zb_M Z) F none (zb_M (zCp Z)) F := by
  intro Q hq
  refine gz_aload_n dX0_copy_0 rfl ?_
  refine gz_aload_n dX0_copy_1 rfl ?_
  refine gz_getf 0 dX0_copy_2 rfl rfl wf_Heliographs_Chain_53 (by decide) rfl ?_
  refine zc_putf 0 dX0_copy_5 rfl rfl wf_Heliographs_Chain_53 (by decide) (by decide) jo_Heliographs_Chain ju_Heliographs_Chain rfl tyX0 tyX0_ok nmX0 rfl (fun _ => ⟨rfl, rfl⟩) rfl ?_
  refine gz_aload_n dX0_copy_8 rfl ?_
  refine gz_aload_n dX0_copy_9 rfl ?_
  refine gz_getf 1 dX0_copy_10 rfl rfl wf_Heliographs_Chain_71 (by decide) rfl ?_
  refine zc_putf 1 dX0_copy_13 rfl rfl wf_Heliographs_Chain_71 (by decide) (by decide) jo_Heliographs_Chain ju_Heliographs_Chain rfl tyX0 tyX0_ok nmX0 rfl (fun _ => ⟨rfl, rfl⟩) rfl ?_
  refine gz_aload_n dX0_copy_16 rfl ?_
  refine gz_aload_n dX0_copy_17 rfl ?_
  refine gz_getf 2 dX0_copy_18 rfl rfl wf_Heliographs_Chain_9 (by decide) rfl ?_
  refine zc_putf 2 dX0_copy_21 rfl rfl wf_Heliographs_Chain_9 (by decide) (by decide) jo_Heliographs_Chain ju_Heliographs_Chain rfl tyX0 tyX0_ok nmX0 rfl (fun _ => ⟨rfl, rfl⟩) rfl ?_
  refine gz_aload_n dX0_copy_24 rfl ?_
  refine gz_aload_n dX0_copy_25 rfl ?_
  refine gz_getf 13 dX0_copy_26 rfl rfl wf_Heliographs_Chain_57 (by decide) rfl ?_
  refine zc_putf 13 dX0_copy_29 rfl rfl wf_Heliographs_Chain_57 (by decide) (by decide) jo_Heliographs_Chain ju_Heliographs_Chain rfl tyX0 tyX0_ok nmX0 rfl (fun _ => ⟨rfl, rfl⟩) rfl ?_
  refine gz_aload_n dX0_copy_32 rfl ?_
  refine gz_getf 3 dX0_copy_33 rfl rfl wf_Heliographs_Chain_15 (by decide) rfl ?_
  refine gz_aload_n dX0_copy_36 rfl ?_
  refine gz_getf 3 dX0_copy_37 rfl rfl wf_Heliographs_Chain_15 (by decide) rfl ?_
  refine gs_2 (J := mX0_copyRow) (d1 := d - 1) dX0_copy_40 wm_Heliographs_Chain_74 jzX0_copyRow (Nat.le_of_ble_eq_true rfl) (Nat.le_of_ble_eq_true rfl) (by omega) ⟨Nat.le_refl _, Nat.le_refl _⟩ (zs_copyRow rfl rfl (fun _ _ => rfl) (fun _ _ => rfl) (by decide) (by decide) (by decide)) ?_
  refine gz_aload_n dX0_copy_43 rfl ?_
  refine gz_getf 4 dX0_copy_44 rfl rfl wf_Heliographs_Chain_19 (by decide) rfl ?_
  refine gz_aload_n dX0_copy_47 rfl ?_
  refine gz_getf 4 dX0_copy_48 rfl rfl wf_Heliographs_Chain_19 (by decide) rfl ?_
  refine gs_2 (J := mX0_copyRow) (d1 := d - 1) dX0_copy_51 wm_Heliographs_Chain_74 jzX0_copyRow (Nat.le_of_ble_eq_true rfl) (Nat.le_of_ble_eq_true rfl) (by omega) ⟨Nat.le_refl _, Nat.le_refl _⟩ (zs_copyRow rfl rfl (fun _ _ => rfl) (fun _ _ => rfl) (by decide) (by decide) (by decide)) ?_
  refine gz_aload_n dX0_copy_54 rfl ?_
  refine gz_getf 5 dX0_copy_55 rfl rfl wf_Heliographs_Chain_22 (by decide) rfl ?_
  refine gz_aload_n dX0_copy_58 rfl ?_
  refine gz_getf 5 dX0_copy_59 rfl rfl wf_Heliographs_Chain_22 (by decide) rfl ?_
  refine gs_2 (J := mX0_copyRow) (d1 := d - 1) dX0_copy_62 wm_Heliographs_Chain_74 jzX0_copyRow (Nat.le_of_ble_eq_true rfl) (Nat.le_of_ble_eq_true rfl) (by omega) ⟨Nat.le_refl _, Nat.le_refl _⟩ (zs_copyRow rfl rfl (fun _ _ => rfl) (fun _ _ => rfl) (by decide) (by decide) (by decide)) ?_
  refine gz_aload_n dX0_copy_65 rfl ?_
  refine gz_getf 6 dX0_copy_66 rfl rfl wf_Heliographs_Chain_25 (by decide) rfl ?_
  refine gz_aload_n dX0_copy_69 rfl ?_
  refine gz_getf 6 dX0_copy_70 rfl rfl wf_Heliographs_Chain_25 (by decide) rfl ?_
  refine gs_2 (J := mX0_copyRow) (d1 := d - 1) dX0_copy_73 wm_Heliographs_Chain_74 jzX0_copyRow (Nat.le_of_ble_eq_true rfl) (Nat.le_of_ble_eq_true rfl) (by omega) ⟨Nat.le_refl _, Nat.le_refl _⟩ (zs_copyRow rfl rfl (fun _ _ => rfl) (fun _ _ => rfl) (by decide) (by decide) (by decide)) ?_
  refine gz_aload_n dX0_copy_76 rfl ?_
  refine gz_getf 7 dX0_copy_77 rfl rfl wf_Heliographs_Chain_28 (by decide) rfl ?_
  refine gz_aload_n dX0_copy_80 rfl ?_
  refine gz_getf 7 dX0_copy_81 rfl rfl wf_Heliographs_Chain_28 (by decide) rfl ?_
  refine gs_2 (J := mX0_copyRow) (d1 := d - 1) dX0_copy_84 wm_Heliographs_Chain_74 jzX0_copyRow (Nat.le_of_ble_eq_true rfl) (Nat.le_of_ble_eq_true rfl) (by omega) ⟨Nat.le_refl _, Nat.le_refl _⟩ (zs_copyRow rfl rfl (fun _ _ => rfl) (fun _ _ => rfl) (by decide) (by decide) (by decide)) ?_
  refine gz_aload_n dX0_copy_87 rfl ?_
  refine gz_getf 8 dX0_copy_88 rfl rfl wf_Heliographs_Chain_31 (by decide) rfl ?_
  refine gz_aload_n dX0_copy_91 rfl ?_
  refine gz_getf 8 dX0_copy_92 rfl rfl wf_Heliographs_Chain_31 (by decide) rfl ?_
  refine gs_2 (J := mX0_copyRow) (d1 := d - 1) dX0_copy_95 wm_Heliographs_Chain_74 jzX0_copyRow (Nat.le_of_ble_eq_true rfl) (Nat.le_of_ble_eq_true rfl) (by omega) ⟨Nat.le_refl _, Nat.le_refl _⟩ (zs_copyRow rfl rfl (fun _ _ => rfl) (fun _ _ => rfl) (by decide) (by decide) (by decide)) ?_
  refine gz_aload_n dX0_copy_98 rfl ?_
  refine gz_getf 9 dX0_copy_99 rfl rfl wf_Heliographs_Chain_34 (by decide) rfl ?_
  refine gz_aload_n dX0_copy_102 rfl ?_
  refine gz_getf 9 dX0_copy_103 rfl rfl wf_Heliographs_Chain_34 (by decide) rfl ?_
  refine gs_2 (J := mX0_copyRow) (d1 := d - 1) dX0_copy_106 wm_Heliographs_Chain_74 jzX0_copyRow (Nat.le_of_ble_eq_true rfl) (Nat.le_of_ble_eq_true rfl) (by omega) ⟨Nat.le_refl _, Nat.le_refl _⟩ (zs_copyRow rfl rfl (fun _ _ => rfl) (fun _ _ => rfl) (by decide) (by decide) (by decide)) ?_
  refine gz_aload_n dX0_copy_109 rfl ?_
  refine gz_getf 10 dX0_copy_110 rfl rfl wf_Heliographs_Chain_37 (by decide) rfl ?_
  refine gz_aload_n dX0_copy_113 rfl ?_
  refine gz_getf 10 dX0_copy_114 rfl rfl wf_Heliographs_Chain_37 (by decide) rfl ?_
  refine gs_2 (J := mX0_copyRow) (d1 := d - 1) dX0_copy_117 wm_Heliographs_Chain_74 jzX0_copyRow (Nat.le_of_ble_eq_true rfl) (Nat.le_of_ble_eq_true rfl) (by omega) ⟨Nat.le_refl _, Nat.le_refl _⟩ (zs_copyRow rfl rfl (fun _ _ => rfl) (fun _ _ => rfl) (by decide) (by decide) (by decide)) ?_
  refine gz_aload_n dX0_copy_120 rfl ?_
  refine gz_getf 11 dX0_copy_121 rfl rfl wf_Heliographs_Chain_40 (by decide) rfl ?_
  refine gz_aload_n dX0_copy_124 rfl ?_
  refine gz_getf 11 dX0_copy_125 rfl rfl wf_Heliographs_Chain_40 (by decide) rfl ?_
  refine gs_2 (J := mX0_copyRow) (d1 := d - 1) dX0_copy_128 wm_Heliographs_Chain_74 jzX0_copyRow (Nat.le_of_ble_eq_true rfl) (Nat.le_of_ble_eq_true rfl) (by omega) ⟨Nat.le_refl _, Nat.le_refl _⟩ (zs_copyRow rfl rfl (fun _ _ => rfl) (fun _ _ => rfl) (by decide) (by decide) (by decide)) ?_
  refine gz_aload_n dX0_copy_131 rfl ?_
  refine gz_getf 12 dX0_copy_132 rfl rfl wf_Heliographs_Chain_43 (by decide) rfl ?_
  refine gz_aload_n dX0_copy_135 rfl ?_
  refine gz_getf 12 dX0_copy_136 rfl rfl wf_Heliographs_Chain_43 (by decide) rfl ?_
  refine gs_2 (J := mX0_copyRow) (d1 := d - 1) dX0_copy_139 wm_Heliographs_Chain_74 jzX0_copyRow (Nat.le_of_ble_eq_true rfl) (Nat.le_of_ble_eq_true rfl) (by omega) ⟨Nat.le_refl _, Nat.le_refl _⟩ (zs_copyRow rfl rfl (fun _ _ => rfl) (fun _ _ => rfl) (by decide) (by decide) (by decide)) ?_
  refine zb_junk (copy_end Z rfl rfl rfl rfl) ?_
  refine gz_return_ dX0_copy_142 rfl ?_
  (first | exact hq | (rw [if_pos (by omega)] at hq; exact hq) | (rw [if_neg (by omega)] at hq; exact hq))
theorem zs_letWait8 {c p : Nat} (hcs : c = 336 ∨ c = 352) (hp : p = 368 ∨ p = 400) (hcp : Z c 0 = (p : Int))  {k : Nat} (hk : k < 8) : zk_Does l Γ mX0_letWait d 0 0 [.ref c, .int (iZ (k : Int))] (zb_M Z) F none (zb_M (zb_u (zb_u (zb_u Z (c + 4) k 0) (c + 7) k (-1)) (c + 5) k (Z (p + 7) k))) F := by
  intro Q hq
  rcases hcs with rfl | rfl <;> rcases hp with rfl | rfl <;> (
    have hpl := congrArg Int.toNat hcp
    simp only [Int.toNat_natCast] at hpl
    refine gz_aload_n dX0_letWait_0 rfl ?_
    refine gz_getf 6 dX0_letWait_1 rfl rfl wf_Heliographs_Chain_25 (by decide) rfl ?_
    refine gz_iload_n dX0_letWait_4 rfl ?_
    refine zz_iconst dX0_letWait_5 ?_
    refine zc_iast (n := k) dX0_letWait_6 rfl (by decide) rfl (by omega) rfl ?_
    refine gz_aload_n dX0_letWait_7 rfl ?_
    refine gz_getf 9 dX0_letWait_8 rfl rfl wf_Heliographs_Chain_34 (by decide) rfl ?_
    refine gz_iload_n dX0_letWait_11 rfl ?_
    refine zz_iconst dX0_letWait_12 ?_
    refine zc_iast (n := k) dX0_letWait_13 rfl (by decide) rfl (by omega) rfl ?_
    refine gz_aload_n dX0_letWait_14 rfl ?_
    refine gz_getf 7 dX0_letWait_15 rfl rfl wf_Heliographs_Chain_28 (by decide) rfl ?_
    refine gz_iload_n dX0_letWait_18 rfl ?_
    refine gz_aload_n dX0_letWait_19 rfl ?_
    refine gz_getf 0 dX0_letWait_20 rfl rfl wf_Heliographs_Chain_53 (by decide) (congrArg Value.ref hpl) ?_
    refine gz_getf 10 dX0_letWait_23 rfl rfl wf_Heliographs_Chain_115 (by decide) rfl ?_
    refine gz_iload_n dX0_letWait_26 rfl ?_
    refine gz_iald (n := k) dX0_letWait_27 rfl rfl (by omega) rfl ?_
    refine zc_iast (n := k) dX0_letWait_28 rfl (by decide) rfl (by omega) rfl ?_
    refine gz_return_ dX0_letWait_29 rfl ?_
    have e : ∀ a b, zb_u (zb_u Z a k 0) b k (-1) = zb_u (zb_u Z a k 0) b k (-1) := fun _ _ => rfl
    exact hq
  )
end

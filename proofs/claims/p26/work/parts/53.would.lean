/-! THE OBJECT: until, opens, mean -/
section
variable {l : Launch} {Γ : zk_G} {d : Nat} {Z : Nat → Nat → Int} {F : Heap → Prop}
noncomputable def sUnt (π : zV) (H : zV → Nat → Bool) (x : Nat) : Nat → Nat → zV → Int
  | 0, _, _ => -1
  | n + 1, i, τ => if τ 4 x = 2 then (i : Int) else sUnt π H x n (i + 1) (zap (sRun π H 1 τ))
theorem sUnt_t {π : zV} {H : zV → Nat → Bool} {x n i : Nat} {τ : zV} (h : τ 4 x = 2) : sUnt π H x (n + 1) i τ = i := if_pos h
theorem sUnt_f {π : zV} {H : zV → Nat → Bool} {x n i : Nat} {τ : zV} (h : ¬ τ 4 x = 2) : sUnt π H x (n + 1) i τ = sUnt π H x n (i + 1) (zap (sRun π H 1 τ)) := if_neg h
def sOpens (π σ : zV) (x : Nat) : Int := sFind (fun m => sPass π σ x (σ 0 1 + m)) 0 241
theorem zh_until_loop {p : Nat} {H : zV → Nat → Bool} {π σ : zV} {t o N : Int} (hN : N + 9 * 361 ≤ 90000) {x : Nat} (hx : (x : Int) < π 0 3) (hd : 8 ≤ d) {Q : Option Value → zk_M → (Heap → Prop) → Prop} : ∀ (n i : Nat) (τ Z1 : zV), i + n = 361 → St2 Z1 p H π σ t o N τ (N + 9 * i) → (∀ Z2 : zV, St Z2 p H π σ t o N → Q (some (.int (iZ (sUnt π H x n i τ)))) (zb_M Z2) F) → zk_Go l Γ mX7_until d 0 0 Q 37 [some (.ref 320), some (.int (iZ (x : Int))), some (.int (iZ (i : Int)))] [] (zb_M Z1) F := by
  intro n
  induction n with
  | zero =>
    intro i τ Z1 hi hS hq
    refine gz_iload_n dX7_until_37 rfl ?_
    refine zz_sipush (x := 360) dX7_until_38 rfl ?_
    refine zz_icmp_gt (tgt := 73) dX7_until_41 rfl (by omega) (fun b41 => ?_) (fun b41 => ?_)
    rotate_left
    · exact absurd b41 (by omega)
    refine zz_iconst dX7_until_73 ?_
    refine gz_ireturn dX7_until_74 rfl rfl ?_
    exact hq Z1 hS.1
  | succ n ih =>
    intro i τ Z1 hi hS hq
    have hx8 : x < 8 := by have := wP_n hS.1.2.2.2.2.1; omega
    have hst : 0 ≤ τ 4 x ∧ τ 4 x ≤ 2 := by have q := wC_m hS.2.2.2.1 hx; unfold wM at q; omega
    refine gz_iload_n dX7_until_37 rfl ?_
    refine zz_sipush (x := 360) dX7_until_38 rfl ?_
    refine zz_icmp_gt (tgt := 73) dX7_until_41 rfl (by omega) (fun b41 => ?_) (fun b41 => ?_)
    · exact absurd b41 (by omega)
    refine gz_aload_n dX7_until_44 rfl ?_
    refine gz_getf 4 dX7_until_45 rfl rfl wf_Heliographs_43 (by decide) rfl ?_
    refine gz_getf 6 dX7_until_48 rfl rfl wf_Heliographs_159 (by decide) rfl ?_
    refine gz_iload_n dX7_until_51 rfl ?_
    refine gz_iald (v := .int (iZ (τ 4 x))) (n := x) dX7_until_52 rfl rfl (by omega) (zv_i (show Z1 356 x = τ 4 x by rw [← hS.2.2.1]; rfl)) ?_
    refine zz_iconst dX7_until_53 ?_
    refine zz_icmp_ne (tgt := 59) dX7_until_54 rfl (by omega) (fun b54 => ?_) (fun b54 => ?_)
    ·
      refine gz_aload_n dX7_until_59 rfl ?_
      refine gz_getf 4 dX7_until_60 rfl rfl wf_Heliographs_43 (by decide) rfl ?_
      refine zz_iconst dX7_until_63 ?_
      refine gq_1 (J := mX0_run) (d1 := d - 1) dX7_until_64 wm_Heliographs_193 rfl jzX0_run (Nat.le_of_ble_eq_true rfl) (Nat.le_of_ble_eq_true rfl) (by omega) (zt_run hS (m := 1) (by omega) (by omega)) (fun Z64 hZ64 => ?_)
      refine zz_iinc dX7_until_67 rfl rfl ?_
      refine gz_goto (tgt := 37) dX7_until_70 rfl ?_
      refine ih (i + 1) _ Z64 (by omega) (by rw [show N + 9 * ((i + 1 : Nat) : Int) = N + 9 * i + 9 * ((1 : Nat) : Int) from by omega]; exact hZ64) (fun Z2 h2 => ?_)
      have q := hq Z2 h2
      rw [sUnt_f b54] at q
      exact q
    ·
      refine gz_iload_n dX7_until_57 rfl ?_
      refine gz_ireturn dX7_until_58 rfl rfl ?_
      have q := hq Z1 hS.1
      rw [sUnt_t b54] at q
      exact q
theorem zh_until {p : Nat} {H : zV → Nat → Bool} {π σ : zV} {t o N : Int} (hS : St Z p H π σ t o N) (hN9 : N + 9 * 361 ≤ 90000) {x : Nat} (hx : (x : Int) < π 0 3) (hd : 8 ≤ d) : zk_DoesR l Γ mX7_until d [.ref 320, .int (iZ (x : Int))] Z F (some (.int (iZ (sUnt π H x 361 0 σ)))) (fun Z2 => St Z2 p H π σ t o N) := by
  intro Q hq
  have hS2 := hS
  obtain ⟨hp, hcp, rfl, rfl, hw, hc0, hH, ht, ho, hN, h4⟩ := hS
  have hc := wC_nC hc0
  have hp2 := hp
  have h0 := wP_n hw
  have h3 := wC_n hc
  simp only [vP_ap, vC_ap, Nat.reduceAdd, Nat.reduceLT, Nat.add_zero, ↓reduceIte] at h0 h3
  have htl := zh_until_loop (l := l) (Γ := Γ) (d := d) (F := F) (Q := Q) (p := p) (H := H) (π := vP Z p) (σ := nC Z) (t := t) (o := o) hN9 hx hd 361 0 (nC Z) (zCp Z) rfl (by rw [show N + 9 * ((0 : Nat) : Int) = N from by omega]; exact St2_cp hS2) hq
  simp only [vP_ap, vC_ap, Nat.reduceAdd, Nat.reduceLT, Nat.add_zero, ↓reduceIte] at hx
  rcases hp with rfl | rfl <;> (
    have hpl := congrArg Int.toNat hcp
    simp only [Int.toNat_natCast] at hpl
    refine gz_aload_n dX7_until_0 rfl ?_
    refine gz_getf 3 dX7_until_1 rfl rfl wf_Heliographs_39 (by decide) rfl ?_
    refine gz_getf 0 dX7_until_4 rfl rfl wf_Heliographs_83 (by decide) (congrArg Value.ref hpl) ?_
    refine gz_iload_n dX7_until_7 rfl ?_
    refine gv_1 (J := mX3_hasMessage) (d1 := d - 1) dX7_until_8 wm_Heliographs_116 rfl jzX3_hasMessage (Nat.le_of_ble_eq_true rfl) (Nat.le_of_ble_eq_true rfl) (by omega) ⟨Nat.le_refl _, Nat.le_refl _⟩ (zs_hasMessage hp2 (by omega) h0.2.2.2) ?_
    refine zz_if_neB (tgt := 24) dX7_until_11 rfl (fun b11 => ?_) (fun b11 => ?_)
    rotate_left
    · exact absurd (by simp only [decide_eq_true_eq]; omega) b11
    refine gz_aload_n dX7_until_24 rfl ?_
    refine gz_getf 4 dX7_until_25 rfl rfl wf_Heliographs_43 (by decide) rfl ?_
    refine gz_aload_n dX7_until_28 rfl ?_
    refine gz_getf 3 dX7_until_29 rfl rfl wf_Heliographs_39 (by decide) rfl ?_
    refine gv_1 (J := mX0_copy) (d1 := d - 1) dX7_until_32 wm_Heliographs_196 rfl jzX0_copy (Nat.le_of_ble_eq_true rfl) (Nat.le_of_ble_eq_true rfl) (by omega) ⟨Nat.le_refl _, Nat.le_refl _⟩ (zs_copy (by omega)) ?_
    refine zz_iconst dX7_until_35 ?_
    refine gz_istore_n dX7_until_36 (Nat.le_of_ble_eq_true rfl) rfl ?_
    exact htl
  )
theorem zh_opens_loop {p : Nat} {H : zV → Nat → Bool} {π σ : zV} {t o N : Int} (hS : St Z p H π σ t o N) {x : Int} (hx : 0 ≤ x ∧ x < π 0 1) (hd : 5 ≤ d) {Q : Option Value → zk_M → (Heap → Prop) → Prop} : ∀ (n i : Nat), i + n = 241 → Q (some (.int (iZ (sFind (fun m => sPass π σ x.toNat (σ 0 1 + m)) i n)))) (zb_M Z) F → zk_Go l Γ mX7_opens d 0 0 Q 26 [some (.ref 320), some (.int (iZ x)), some (.int (iZ (i : Int)))] [] (zb_M Z) F := by
  obtain ⟨hp, hcp, rfl, rfl, hw, hc0, hH, ht, ho, hN, h4⟩ := hS
  have hc := wC_nC hc0
  have hx2 := hx
  have h3 := wC_n hc
  simp only [vP_ap, vC_ap, Nat.reduceAdd, Nat.reduceLT, Nat.add_zero, ↓reduceIte] at hx2 h3
  intro n
  induction n with
  | zero =>
    intro i hi hq
    refine gz_iload_n dX7_opens_26 rfl ?_
    refine zz_sipush (x := 240) dX7_opens_27 rfl ?_
    refine zz_icmp_gt (tgt := 61) dX7_opens_30 rfl (by omega) (fun b30 => ?_) (fun b30 => ?_)
    rotate_left
    · exact absurd b30 (by omega)
    refine zz_iconst dX7_opens_61 ?_
    refine gz_ireturn dX7_opens_62 rfl rfl ?_
    exact hq
  | succ n ih =>
    intro i hi hq
    refine gz_iload_n dX7_opens_26 rfl ?_
    refine zz_sipush (x := 240) dX7_opens_27 rfl ?_
    refine zz_icmp_gt (tgt := 61) dX7_opens_30 rfl (by omega) (fun b30 => ?_) (fun b30 => ?_)
    · exact absurd b30 (by omega)
    refine gz_aload_n dX7_opens_33 rfl ?_
    refine gz_getf 3 dX7_opens_34 rfl rfl wf_Heliographs_39 (by decide) rfl ?_
    refine gz_iload_n dX7_opens_37 rfl ?_
    refine gz_aload_n dX7_opens_38 rfl ?_
    refine gz_getf 3 dX7_opens_39 rfl rfl wf_Heliographs_39 (by decide) rfl ?_
    refine gz_getf 1 dX7_opens_42 rfl rfl wf_Heliographs_200 (by decide) rfl ?_
    refine gz_iload_n dX7_opens_45 rfl ?_
    refine zz_iadd dX7_opens_46 ?_
    refine gv_2 (J := mX0_isPassable) (d1 := d - 1) dX7_opens_47 wm_Heliographs_134 rfl jzX0_isPassable (Nat.le_of_ble_eq_true rfl) (Nat.le_of_ble_eq_true rfl) (by omega) ⟨Nat.le_refl _, Nat.le_refl _⟩ (zs_isPassable (Or.inl rfl) hp hcp hw hc hx2 (by omega) (by omega)) ?_
    refine zz_if_eqB (tgt := 55) dX7_opens_50 rfl (fun b50 => ?_) (fun b50 => ?_)
    ·
      refine zz_iinc dX7_opens_55 rfl rfl ?_
      refine gz_goto (tgt := 26) dX7_opens_58 rfl ?_
      exact ih (i + 1) (by omega) (by rw [sFind_f (by exact b50)] at hq; exact hq)
    ·
      refine gz_iload_n dX7_opens_53 rfl ?_
      refine gz_ireturn dX7_opens_54 rfl rfl ?_
      rw [sFind_t (by exact b50)] at hq
      exact hq
theorem zh_opens {p : Nat} {H : zV → Nat → Bool} {π σ : zV} {t o N : Int} (hS : St Z p H π σ t o N) {x : Int} (hx : 0 ≤ x ∧ x < π 0 1) (hd : 5 ≤ d) : zk_Does l Γ mX7_opens d 0 0 [.ref 320, .int (iZ x)] (zb_M Z) F (some (.int (iZ (sOpens π σ x.toNat)))) (zb_M Z) F := by
  intro Q hq
  have hS2 := hS
  obtain ⟨hp, hcp, rfl, rfl, hw, hc0, hH, ht, ho, hN, h4⟩ := hS
  have hc := wC_nC hc0
  have hp2 := hp
  have h0 := wP_n hw
  have h3 := wC_n hc
  simp only [vP_ap, vC_ap, Nat.reduceAdd, Nat.reduceLT, Nat.add_zero, ↓reduceIte] at h0 h3
  have htl := zh_opens_loop (l := l) (Γ := Γ) (d := d) (F := F) (Q := Q) hS2 hx hd 241 0 rfl hq
  simp only [vP_ap, vC_ap, Nat.reduceAdd, Nat.reduceLT, Nat.add_zero, ↓reduceIte] at hx
  rcases hp with rfl | rfl <;> (
    have hpl := congrArg Int.toNat hcp
    simp only [Int.toNat_natCast] at hpl
    refine gz_aload_n dX7_opens_0 rfl ?_
    refine gz_getf 3 dX7_opens_1 rfl rfl wf_Heliographs_39 (by decide) rfl ?_
    refine gz_getf 0 dX7_opens_4 rfl rfl wf_Heliographs_83 (by decide) (congrArg Value.ref hpl) ?_
    refine gz_iload_n dX7_opens_7 rfl ?_
    refine gv_1 (J := mX3_hasPass) (d1 := d - 1) dX7_opens_8 wm_Heliographs_108 rfl jzX3_hasPass (Nat.le_of_ble_eq_true rfl) (Nat.le_of_ble_eq_true rfl) (by omega) ⟨Nat.le_refl _, Nat.le_refl _⟩ (zs_hasPass hp2 (by omega) h0.2.1) ?_
    refine zz_if_neB (tgt := 24) dX7_opens_11 rfl (fun b11 => ?_) (fun b11 => ?_)
    rotate_left
    · exact absurd (by simp only [decide_eq_true_eq]; omega) b11
    refine zz_iconst dX7_opens_24 ?_
    refine gz_istore_n dX7_opens_25 (Nat.le_of_ble_eq_true rfl) rfl ?_
    exact htl
  )
def sMean (π σ : zV) : UInt64 := if π 0 3 = 0 then FP.dconst0 else FP.ddiv (FP.i2d (iZ (sSum (σ 5) 0 (π 0 3).toNat))) (FP.i2d (iZ (π 0 3)))
theorem mean_fin : ∀ a : Fin 321, ∀ b : Fin 8, FP.ddiv (FP.i2d (iZ ((a.val : Nat) : Int))) (FP.i2d (iZ ((b.val + 1 : Nat) : Int))) &&& 0x7fffffffffffffff ≤ 0x7ff0000000000000 := by decide +kernel
theorem mean_ok {x y : Int} (hx : 0 ≤ x ∧ x ≤ 320) (hy : 1 ≤ y ∧ y ≤ 8) : vf_n64 (FP.ddiv (FP.i2d (iZ x)) (FP.i2d (iZ y))) := by
  have h := mean_fin ⟨x.toNat, by omega⟩ ⟨(y - 1).toNat, by omega⟩
  rw [show (((⟨x.toNat, by omega⟩ : Fin 321).val : Nat) : Int) = x from by show ((x.toNat : Nat) : Int) = x; omega, show (((⟨(y - 1).toNat, by omega⟩ : Fin 8).val + 1 : Nat) : Int) = y from by show (((y - 1).toNat + 1 : Nat) : Int) = y; omega] at h
  exact h
theorem zh_mean_loop {p : Nat} (hp : p = 368 ∨ p = 400) (hn : 1 ≤ Z p 3 ∧ Z p 3 ≤ 8) (h5 : ∀ k : Nat, (k : Int) < Z p 3 → 0 ≤ Z 341 k ∧ Z 341 k ≤ 40) {Q : Option Value → zk_M → (Heap → Prop) → Prop} : ∀ (n i : Nat) (A : Int), (i : Int) + n = Z p 3 → 0 ≤ A → A + 40 * n ≤ 320 → Q (some (.double (FP.ddiv (FP.i2d (iZ (A + sSum (fun k => Z 341 k) i n))) (FP.i2d (iZ (Z p 3)))))) (zb_M Z) F → zk_Go l Γ mX7_mean d 0 0 Q 21 [some (.ref 320), some (.int (iZ (Z p 3))), some (.int (iZ A)), some (.int (iZ (i : Int)))] [] (zb_M Z) F := by
  intro n
  induction n with
  | zero =>
    intro i A hi hA hB hq
    refine gz_iload_n dX7_mean_21 rfl ?_
    refine gz_iload_n dX7_mean_22 rfl ?_
    refine zz_icmp_ge (tgt := 44) dX7_mean_23 rfl (by omega) (fun b23 => ?_) (fun b23 => ?_)
    rotate_left
    · exact absurd b23 (by omega)
    refine gz_iload_n dX7_mean_44 rfl ?_
    refine zz_i2d dX7_mean_45 ?_
    refine gz_iload_n dX7_mean_46 rfl ?_
    refine zz_i2d dX7_mean_47 ?_
    refine gz_ddiv dX7_mean_48 (mean_ok (by omega) hn) ?_
    refine gz_dreturn dX7_mean_49 rfl ?_
    rw [sSum_0, Int.add_zero] at hq
    exact hq
  | succ n ih =>
    intro i A hi hA hB hq
    have hb := h5 i (by omega)
    refine gz_iload_n dX7_mean_21 rfl ?_
    refine gz_iload_n dX7_mean_22 rfl ?_
    refine zz_icmp_ge (tgt := 44) dX7_mean_23 rfl (by omega) (fun b23 => ?_) (fun b23 => ?_)
    · exact absurd b23 (by omega)
    refine gz_iload_n dX7_mean_26 rfl ?_
    refine gz_aload_n dX7_mean_27 rfl ?_
    refine gz_getf 3 dX7_mean_28 rfl rfl wf_Heliographs_39 (by decide) rfl ?_
    refine gz_getf 7 dX7_mean_31 rfl rfl wf_Heliographs_164 (by decide) rfl ?_
    refine gz_iload_n dX7_mean_34 rfl ?_
    refine gz_iald (n := i) dX7_mean_35 rfl rfl (by omega) rfl ?_
    refine zz_iadd dX7_mean_36 ?_
    refine gz_istore_n dX7_mean_37 (Nat.le_of_ble_eq_true rfl) rfl ?_
    refine zz_iinc dX7_mean_38 rfl rfl ?_
    refine gz_goto (tgt := 21) dX7_mean_41 rfl ?_
    exact ih (i + 1) _ (by omega) (by omega) (by omega) (by rw [sSum_1, ← Int.add_assoc] at hq; exact hq)
theorem zh_mean {p : Nat} {H : zV → Nat → Bool} {π σ : zV} {t o N : Int} (hS : St Z p H π σ t o N) (hd : 1 ≤ d) : zk_Does l Γ mX7_mean d 0 0 [.ref 320] (zb_M Z) F (some (.double (sMean π σ))) (zb_M Z) F := by
  intro Q hq
  obtain ⟨hp, hcp, rfl, rfl, hw, hc0, hH, ht, ho, hN, h4⟩ := hS
  have hc := wC_nC hc0
  have hp2 := hp
  have h0 := wP_n hw
  have h3 := wC_n hc
  simp only [vP_ap, vC_ap, Nat.reduceAdd, Nat.reduceLT, Nat.add_zero, ↓reduceIte] at h0 h3
  have h5 : ∀ k : Nat, (k : Int) < Z p 3 → 0 ≤ Z 341 k ∧ Z 341 k ≤ 40 := fun k hk => by have q := wC_m hc0 hk; exact q.2.2.2.1
  have hq2 : Z p 3 ≠ 0 → Q (some (.double (FP.ddiv (FP.i2d (iZ (0 + sSum (fun k => Z 341 k) 0 (Z p 3).toNat))) (FP.i2d (iZ (Z p 3)))))) (zb_M Z) F := fun q => by rw [Int.zero_add]; rw [show sMean (vP Z p) (nC Z) = _ from if_neg q] at hq; exact hq
  have hq3 : Z p 3 = 0 → Q (some (.double FP.dconst0)) (zb_M Z) F := fun q => by rw [show sMean (vP Z p) (nC Z) = _ from if_pos q] at hq; exact hq
  have htl : Z p 3 ≠ 0 → zk_Go l Γ mX7_mean d 0 0 Q 21 [some (.ref 320), some (.int (iZ (Z p 3))), some (.int (iZ 0)), some (.int (iZ 0))] [] (zb_M Z) F := fun q => zh_mean_loop hp (by omega) h5 (Z p 3).toNat 0 0 (by omega) (by omega) (by omega) (hq2 q)
  rcases hp with rfl | rfl <;> (
    have hpl := congrArg Int.toNat hcp
    simp only [Int.toNat_natCast] at hpl
    refine gz_aload_n dX7_mean_0 rfl ?_
    refine gz_getf 3 dX7_mean_1 rfl rfl wf_Heliographs_39 (by decide) rfl ?_
    refine gz_getf 0 dX7_mean_4 rfl rfl wf_Heliographs_83 (by decide) (congrArg Value.ref hpl) ?_
    refine gz_getf 3 dX7_mean_7 rfl rfl wf_Heliographs_217 (by decide) rfl ?_
    refine gz_istore_n dX7_mean_10 (Nat.le_of_ble_eq_true rfl) rfl ?_
    refine gz_iload_n dX7_mean_11 rfl ?_
    refine zz_if_ne (tgt := 17) dX7_mean_12 rfl (by omega) (fun b12 => ?_) (fun b12 => ?_)
    ·
      refine zz_iconst dX7_mean_17 ?_
      refine gz_istore_n dX7_mean_18 (Nat.le_of_ble_eq_true rfl) rfl ?_
      refine zz_iconst dX7_mean_19 ?_
      refine gz_istore_n dX7_mean_20 (Nat.le_of_ble_eq_true rfl) rfl ?_
      exact htl b12
    ·
      refine gz_dconst0 dX7_mean_15 ?_
      refine gz_dreturn dX7_mean_16 rfl ?_
      exact hq3 b12
  )
end

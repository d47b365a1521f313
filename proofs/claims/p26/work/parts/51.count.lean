/-! THE OBJECT: counts, ways -/
section
variable {l : Launch} {Γ : zk_G} {d : Nat} {Z : Nat → Nat → Int} {F : Heap → Prop}
theorem zh_ct_0 {p : Nat} {H : zV → Nat → Bool} {π σ : zV} {t o N : Int} (hS : St Z p H π σ t o N) (hd : 5 ≤ d) : zk_Does l Γ mX7_countTold d 0 0 [.ref 320, .int (iZ 0)] (zb_M Z) F (some (.int (iZ (sCount π σ t o 0)))) (zb_M Z) F := by
  intro Q hq
  obtain ⟨hp, hcp, rfl, rfl, hw, hc0, hH, ht, ho, hN, h4⟩ := hS
  have hc := wC_nC hc0
  have hp2 := hp
  have h0 := wP_n hw
  have h3 := wC_n hc
  simp only [vP_ap, vC_ap, Nat.reduceAdd, Nat.reduceLT, Nat.add_zero, ↓reduceIte] at h0 h3
  rcases hp with rfl | rfl <;> (
    have hpl := congrArg Int.toNat hcp
    simp only [Int.toNat_natCast] at hpl
    refine gz_iload_n dX7_countTold_0 rfl ?_
    refine zz_tsw (tgt := 72) dX7_countTold_1 (by omega) (by decide) (by decide) rfl rfl ?_
    refine gz_aload_n dX7_countTold_72 rfl ?_
    refine gz_getf 3 dX7_countTold_73 rfl rfl wf_Heliographs_39 (by decide) rfl ?_
    refine gz_getf 1 dX7_countTold_76 rfl rfl wf_Heliographs_200 (by decide) rfl ?_
    refine gz_ireturn dX7_countTold_79 rfl rfl ?_
    exact hq
  )
theorem zh_ct_1 {p : Nat} {H : zV → Nat → Bool} {π σ : zV} {t o N : Int} (hS : St Z p H π σ t o N) (hd : 5 ≤ d) : zk_Does l Γ mX7_countTold d 0 0 [.ref 320, .int (iZ 1)] (zb_M Z) F (some (.int (iZ (sCount π σ t o 1)))) (zb_M Z) F := by
  intro Q hq
  obtain ⟨hp, hcp, rfl, rfl, hw, hc0, hH, ht, ho, hN, h4⟩ := hS
  have hc := wC_nC hc0
  have hp2 := hp
  have h0 := wP_n hw
  have h3 := wC_n hc
  simp only [vP_ap, vC_ap, Nat.reduceAdd, Nat.reduceLT, Nat.add_zero, ↓reduceIte] at h0 h3
  rcases hp with rfl | rfl <;> (
    have hpl := congrArg Int.toNat hcp
    simp only [Int.toNat_natCast] at hpl
    refine gz_iload_n dX7_countTold_0 rfl ?_
    refine zz_tsw (tgt := 80) dX7_countTold_1 (by omega) (by decide) (by decide) rfl rfl ?_
    refine gz_aload_n dX7_countTold_80 rfl ?_
    refine gz_getf 3 dX7_countTold_81 rfl rfl wf_Heliographs_39 (by decide) rfl ?_
    refine gz_getf 0 dX7_countTold_84 rfl rfl wf_Heliographs_83 (by decide) (congrArg Value.ref hpl) ?_
    refine gz_getf 0 dX7_countTold_87 rfl rfl wf_Heliographs_214 (by decide) rfl ?_
    refine gz_ireturn dX7_countTold_90 rfl rfl ?_
    exact hq
  )
theorem zh_ct_2 {p : Nat} {H : zV → Nat → Bool} {π σ : zV} {t o N : Int} (hS : St Z p H π σ t o N) (hd : 5 ≤ d) : zk_Does l Γ mX7_countTold d 0 0 [.ref 320, .int (iZ 2)] (zb_M Z) F (some (.int (iZ (sCount π σ t o 2)))) (zb_M Z) F := by
  intro Q hq
  obtain ⟨hp, hcp, rfl, rfl, hw, hc0, hH, ht, ho, hN, h4⟩ := hS
  have hc := wC_nC hc0
  have hp2 := hp
  have h0 := wP_n hw
  have h3 := wC_n hc
  simp only [vP_ap, vC_ap, Nat.reduceAdd, Nat.reduceLT, Nat.add_zero, ↓reduceIte] at h0 h3
  rcases hp with rfl | rfl <;> (
    have hpl := congrArg Int.toNat hcp
    simp only [Int.toNat_natCast] at hpl
    refine gz_iload_n dX7_countTold_0 rfl ?_
    refine zz_tsw (tgt := 91) dX7_countTold_1 (by omega) (by decide) (by decide) rfl rfl ?_
    refine gz_aload_n dX7_countTold_91 rfl ?_
    refine gz_getf 3 dX7_countTold_92 rfl rfl wf_Heliographs_39 (by decide) rfl ?_
    refine gz_getf 0 dX7_countTold_95 rfl rfl wf_Heliographs_83 (by decide) (congrArg Value.ref hpl) ?_
    refine gz_getf 1 dX7_countTold_98 rfl rfl wf_Heliographs_208 (by decide) rfl ?_
    refine gz_ireturn dX7_countTold_101 rfl rfl ?_
    exact hq
  )
theorem zh_ct_3 {p : Nat} {H : zV → Nat → Bool} {π σ : zV} {t o N : Int} (hS : St Z p H π σ t o N) (hd : 5 ≤ d) : zk_Does l Γ mX7_countTold d 0 0 [.ref 320, .int (iZ 3)] (zb_M Z) F (some (.int (iZ (sCount π σ t o 3)))) (zb_M Z) F := by
  intro Q hq
  obtain ⟨hp, hcp, rfl, rfl, hw, hc0, hH, ht, ho, hN, h4⟩ := hS
  have hc := wC_nC hc0
  have hp2 := hp
  have h0 := wP_n hw
  have h3 := wC_n hc
  simp only [vP_ap, vC_ap, Nat.reduceAdd, Nat.reduceLT, Nat.add_zero, ↓reduceIte] at h0 h3
  rcases hp with rfl | rfl <;> (
    have hpl := congrArg Int.toNat hcp
    simp only [Int.toNat_natCast] at hpl
    refine gz_iload_n dX7_countTold_0 rfl ?_
    refine zz_tsw (tgt := 102) dX7_countTold_1 (by omega) (by decide) (by decide) rfl rfl ?_
    refine gz_aload_n dX7_countTold_102 rfl ?_
    refine gz_getf 3 dX7_countTold_103 rfl rfl wf_Heliographs_39 (by decide) rfl ?_
    refine gz_getf 0 dX7_countTold_106 rfl rfl wf_Heliographs_83 (by decide) (congrArg Value.ref hpl) ?_
    refine gz_getf 2 dX7_countTold_109 rfl rfl wf_Heliographs_224 (by decide) rfl ?_
    refine gz_ireturn dX7_countTold_112 rfl rfl ?_
    exact hq
  )
theorem zh_ct_4 {p : Nat} {H : zV → Nat → Bool} {π σ : zV} {t o N : Int} (hS : St Z p H π σ t o N) (hd : 5 ≤ d) : zk_Does l Γ mX7_countTold d 0 0 [.ref 320, .int (iZ 4)] (zb_M Z) F (some (.int (iZ (sCount π σ t o 4)))) (zb_M Z) F := by
  intro Q hq
  obtain ⟨hp, hcp, rfl, rfl, hw, hc0, hH, ht, ho, hN, h4⟩ := hS
  have hc := wC_nC hc0
  have hp2 := hp
  have h0 := wP_n hw
  have h3 := wC_n hc
  simp only [vP_ap, vC_ap, Nat.reduceAdd, Nat.reduceLT, Nat.add_zero, ↓reduceIte] at h0 h3
  rcases hp with rfl | rfl <;> (
    have hpl := congrArg Int.toNat hcp
    simp only [Int.toNat_natCast] at hpl
    refine gz_iload_n dX7_countTold_0 rfl ?_
    refine zz_tsw (tgt := 113) dX7_countTold_1 (by omega) (by decide) (by decide) rfl rfl ?_
    refine gz_aload_n dX7_countTold_113 rfl ?_
    refine gz_getf 3 dX7_countTold_114 rfl rfl wf_Heliographs_39 (by decide) rfl ?_
    refine gz_getf 0 dX7_countTold_117 rfl rfl wf_Heliographs_83 (by decide) (congrArg Value.ref hpl) ?_
    refine gz_getf 3 dX7_countTold_120 rfl rfl wf_Heliographs_217 (by decide) rfl ?_
    refine gz_ireturn dX7_countTold_123 rfl rfl ?_
    exact hq
  )
theorem zh_ct_5 {p : Nat} {H : zV → Nat → Bool} {π σ : zV} {t o N : Int} (hS : St Z p H π σ t o N) (hd : 5 ≤ d) : zk_Does l Γ mX7_countTold d 0 0 [.ref 320, .int (iZ 5)] (zb_M Z) F (some (.int (iZ (sCount π σ t o 5)))) (zb_M Z) F := by
  intro Q hq
  obtain ⟨hp, hcp, rfl, rfl, hw, hc0, hH, ht, ho, hN, h4⟩ := hS
  have hc := wC_nC hc0
  have hp2 := hp
  have h0 := wP_n hw
  have h3 := wC_n hc
  simp only [vP_ap, vC_ap, Nat.reduceAdd, Nat.reduceLT, Nat.add_zero, ↓reduceIte] at h0 h3
  rcases hp with rfl | rfl <;> (
    have hpl := congrArg Int.toNat hcp
    simp only [Int.toNat_natCast] at hpl
    refine gz_iload_n dX7_countTold_0 rfl ?_
    refine zz_tsw (tgt := 124) dX7_countTold_1 (by omega) (by decide) (by decide) rfl rfl ?_
    refine gz_aload_n dX7_countTold_124 rfl ?_
    refine gz_getf 3 dX7_countTold_125 rfl rfl wf_Heliographs_39 (by decide) rfl ?_
    refine gz_getf 0 dX7_countTold_128 rfl rfl wf_Heliographs_83 (by decide) (congrArg Value.ref hpl) ?_
    refine gz_getf 14 dX7_countTold_131 rfl rfl wf_Heliographs_227 (by decide) rfl ?_
    refine gz_getf 0 dX7_countTold_134 rfl rfl wf_Heliographs_231 (by decide) (zv_i ho) ?_
    refine gz_ireturn dX7_countTold_137 rfl rfl ?_
    exact hq
  )
theorem zh_ct_6 {p : Nat} {H : zV → Nat → Bool} {π σ : zV} {t o N : Int} (hS : St Z p H π σ t o N) (hd : 5 ≤ d) : zk_Does l Γ mX7_countTold d 0 0 [.ref 320, .int (iZ 6)] (zb_M Z) F (some (.int (iZ (sCount π σ t o 6)))) (zb_M Z) F := by
  intro Q hq
  obtain ⟨hp, hcp, rfl, rfl, hw, hc0, hH, ht, ho, hN, h4⟩ := hS
  have hc := wC_nC hc0
  have hp2 := hp
  have h0 := wP_n hw
  have h3 := wC_n hc
  simp only [vP_ap, vC_ap, Nat.reduceAdd, Nat.reduceLT, Nat.add_zero, ↓reduceIte] at h0 h3
  rcases hp with rfl | rfl <;> (
    have hpl := congrArg Int.toNat hcp
    simp only [Int.toNat_natCast] at hpl
    refine gz_iload_n dX7_countTold_0 rfl ?_
    refine zz_tsw (tgt := 138) dX7_countTold_1 (by omega) (by decide) (by decide) rfl rfl ?_
    refine gz_aload_n dX7_countTold_138 rfl ?_
    refine gz_getf 3 dX7_countTold_139 rfl rfl wf_Heliographs_39 (by decide) rfl ?_
    refine gv_0 (J := mX0_sunnyPeaks) (d1 := d - 1) dX7_countTold_142 wm_Heliographs_236 rfl jzX0_sunnyPeaks (Nat.le_of_ble_eq_true rfl) (Nat.le_of_ble_eq_true rfl) (by omega) ⟨Nat.le_refl _, Nat.le_refl _⟩ (zs_sunnyPeaks (Or.inl rfl) hp2 hcp hw hc (by omega)) ?_
    refine gz_ireturn dX7_countTold_145 rfl rfl ?_
    exact hq
  )
theorem zh_ct_7 {p : Nat} {H : zV → Nat → Bool} {π σ : zV} {t o N : Int} (hS : St Z p H π σ t o N) (hd : 5 ≤ d) : zk_Does l Γ mX7_countTold d 0 0 [.ref 320, .int (iZ 7)] (zb_M Z) F (some (.int (iZ (sCount π σ t o 7)))) (zb_M Z) F := by
  intro Q hq
  obtain ⟨hp, hcp, rfl, rfl, hw, hc0, hH, ht, ho, hN, h4⟩ := hS
  have hc := wC_nC hc0
  have hp2 := hp
  have h0 := wP_n hw
  have h3 := wC_n hc
  simp only [vP_ap, vC_ap, Nat.reduceAdd, Nat.reduceLT, Nat.add_zero, ↓reduceIte] at h0 h3
  rcases hp with rfl | rfl <;> (
    have hpl := congrArg Int.toNat hcp
    simp only [Int.toNat_natCast] at hpl
    refine gz_iload_n dX7_countTold_0 rfl ?_
    refine zz_tsw (tgt := 146) dX7_countTold_1 (by omega) (by decide) (by decide) rfl rfl ?_
    refine gz_aload_n dX7_countTold_146 rfl ?_
    refine gz_getf 3 dX7_countTold_147 rfl rfl wf_Heliographs_39 (by decide) rfl ?_
    refine gv_0 (J := mX0_openPasses) (d1 := d - 1) dX7_countTold_150 wm_Heliographs_240 rfl jzX0_openPasses (Nat.le_of_ble_eq_true rfl) (Nat.le_of_ble_eq_true rfl) (by omega) ⟨Nat.le_refl _, Nat.le_refl _⟩ (zs_openPasses (Or.inl rfl) hp2 hcp hw hc (by omega)) ?_
    refine gz_ireturn dX7_countTold_153 rfl rfl ?_
    exact hq
  )
theorem zh_ct_8 {p : Nat} {H : zV → Nat → Bool} {π σ : zV} {t o N : Int} (hS : St Z p H π σ t o N) (hd : 5 ≤ d) : zk_Does l Γ mX7_countTold d 0 0 [.ref 320, .int (iZ 8)] (zb_M Z) F (some (.int (iZ (sCount π σ t o 8)))) (zb_M Z) F := by
  intro Q hq
  obtain ⟨hp, hcp, rfl, rfl, hw, hc0, hH, ht, ho, hN, h4⟩ := hS
  have hc := wC_nC hc0
  have hp2 := hp
  have h0 := wP_n hw
  have h3 := wC_n hc
  simp only [vP_ap, vC_ap, Nat.reduceAdd, Nat.reduceLT, Nat.add_zero, ↓reduceIte] at h0 h3
  rcases hp with rfl | rfl <;> (
    have hpl := congrArg Int.toNat hcp
    simp only [Int.toNat_natCast] at hpl
    refine gz_iload_n dX7_countTold_0 rfl ?_
    refine zz_tsw (tgt := 162) dX7_countTold_1 (by omega) (by decide) (by decide) rfl rfl ?_
    refine gz_aload_n dX7_countTold_162 rfl ?_
    refine gz_getf 3 dX7_countTold_163 rfl rfl wf_Heliographs_39 (by decide) rfl ?_
    refine gz_iload_n dX7_countTold_166 rfl ?_
    refine gv_1 (J := mX0_tally) (d1 := d - 1) dX7_countTold_167 wm_Heliographs_205 rfl jzX0_tally (Nat.le_of_ble_eq_true rfl) (Nat.le_of_ble_eq_true rfl) (by omega) ⟨Nat.le_refl _, Nat.le_refl _⟩ (zs_tally (Or.inl rfl) hp2 hcp hw hc (by omega) (by omega)) ?_
    refine gz_ireturn dX7_countTold_170 rfl rfl ?_
    exact hq
  )
theorem zh_ct_9 {p : Nat} {H : zV → Nat → Bool} {π σ : zV} {t o N : Int} (hS : St Z p H π σ t o N) (hd : 5 ≤ d) : zk_Does l Γ mX7_countTold d 0 0 [.ref 320, .int (iZ 9)] (zb_M Z) F (some (.int (iZ (sCount π σ t o 9)))) (zb_M Z) F := by
  intro Q hq
  obtain ⟨hp, hcp, rfl, rfl, hw, hc0, hH, ht, ho, hN, h4⟩ := hS
  have hc := wC_nC hc0
  have hp2 := hp
  have h0 := wP_n hw
  have h3 := wC_n hc
  simp only [vP_ap, vC_ap, Nat.reduceAdd, Nat.reduceLT, Nat.add_zero, ↓reduceIte] at h0 h3
  rcases hp with rfl | rfl <;> (
    have hpl := congrArg Int.toNat hcp
    simp only [Int.toNat_natCast] at hpl
    refine gz_iload_n dX7_countTold_0 rfl ?_
    refine zz_tsw (tgt := 162) dX7_countTold_1 (by omega) (by decide) (by decide) rfl rfl ?_
    refine gz_aload_n dX7_countTold_162 rfl ?_
    refine gz_getf 3 dX7_countTold_163 rfl rfl wf_Heliographs_39 (by decide) rfl ?_
    refine gz_iload_n dX7_countTold_166 rfl ?_
    refine gv_1 (J := mX0_tally) (d1 := d - 1) dX7_countTold_167 wm_Heliographs_205 rfl jzX0_tally (Nat.le_of_ble_eq_true rfl) (Nat.le_of_ble_eq_true rfl) (by omega) ⟨Nat.le_refl _, Nat.le_refl _⟩ (zs_tally (Or.inl rfl) hp2 hcp hw hc (by omega) (by omega)) ?_
    refine gz_ireturn dX7_countTold_170 rfl rfl ?_
    exact hq
  )
theorem zh_ct_10 {p : Nat} {H : zV → Nat → Bool} {π σ : zV} {t o N : Int} (hS : St Z p H π σ t o N) (hd : 5 ≤ d) : zk_Does l Γ mX7_countTold d 0 0 [.ref 320, .int (iZ 10)] (zb_M Z) F (some (.int (iZ (sCount π σ t o 10)))) (zb_M Z) F := by
  intro Q hq
  obtain ⟨hp, hcp, rfl, rfl, hw, hc0, hH, ht, ho, hN, h4⟩ := hS
  have hc := wC_nC hc0
  have hp2 := hp
  have h0 := wP_n hw
  have h3 := wC_n hc
  simp only [vP_ap, vC_ap, Nat.reduceAdd, Nat.reduceLT, Nat.add_zero, ↓reduceIte] at h0 h3
  rcases hp with rfl | rfl <;> (
    have hpl := congrArg Int.toNat hcp
    simp only [Int.toNat_natCast] at hpl
    refine gz_iload_n dX7_countTold_0 rfl ?_
    refine zz_tsw (tgt := 162) dX7_countTold_1 (by omega) (by decide) (by decide) rfl rfl ?_
    refine gz_aload_n dX7_countTold_162 rfl ?_
    refine gz_getf 3 dX7_countTold_163 rfl rfl wf_Heliographs_39 (by decide) rfl ?_
    refine gz_iload_n dX7_countTold_166 rfl ?_
    refine gv_1 (J := mX0_tally) (d1 := d - 1) dX7_countTold_167 wm_Heliographs_205 rfl jzX0_tally (Nat.le_of_ble_eq_true rfl) (Nat.le_of_ble_eq_true rfl) (by omega) ⟨Nat.le_refl _, Nat.le_refl _⟩ (zs_tally (Or.inl rfl) hp2 hcp hw hc (by omega) (by omega)) ?_
    refine gz_ireturn dX7_countTold_170 rfl rfl ?_
    exact hq
  )
theorem zh_ct_11 {p : Nat} {H : zV → Nat → Bool} {π σ : zV} {t o N : Int} (hS : St Z p H π σ t o N) (hd : 5 ≤ d) : zk_Does l Γ mX7_countTold d 0 0 [.ref 320, .int (iZ 11)] (zb_M Z) F (some (.int (iZ (sCount π σ t o 11)))) (zb_M Z) F := by
  intro Q hq
  obtain ⟨hp, hcp, rfl, rfl, hw, hc0, hH, ht, ho, hN, h4⟩ := hS
  have hc := wC_nC hc0
  have hp2 := hp
  have h0 := wP_n hw
  have h3 := wC_n hc
  simp only [vP_ap, vC_ap, Nat.reduceAdd, Nat.reduceLT, Nat.add_zero, ↓reduceIte] at h0 h3
  rcases hp with rfl | rfl <;> (
    have hpl := congrArg Int.toNat hcp
    simp only [Int.toNat_natCast] at hpl
    refine gz_iload_n dX7_countTold_0 rfl ?_
    refine zz_tsw (tgt := 162) dX7_countTold_1 (by omega) (by decide) (by decide) rfl rfl ?_
    refine gz_aload_n dX7_countTold_162 rfl ?_
    refine gz_getf 3 dX7_countTold_163 rfl rfl wf_Heliographs_39 (by decide) rfl ?_
    refine gz_iload_n dX7_countTold_166 rfl ?_
    refine gv_1 (J := mX0_tally) (d1 := d - 1) dX7_countTold_167 wm_Heliographs_205 rfl jzX0_tally (Nat.le_of_ble_eq_true rfl) (Nat.le_of_ble_eq_true rfl) (by omega) ⟨Nat.le_refl _, Nat.le_refl _⟩ (zs_tally (Or.inl rfl) hp2 hcp hw hc (by omega) (by omega)) ?_
    refine gz_ireturn dX7_countTold_170 rfl rfl ?_
    exact hq
  )
theorem zh_ct_12 {p : Nat} {H : zV → Nat → Bool} {π σ : zV} {t o N : Int} (hS : St Z p H π σ t o N) (hd : 5 ≤ d) : zk_Does l Γ mX7_countTold d 0 0 [.ref 320, .int (iZ 12)] (zb_M Z) F (some (.int (iZ (sCount π σ t o 12)))) (zb_M Z) F := by
  intro Q hq
  obtain ⟨hp, hcp, rfl, rfl, hw, hc0, hH, ht, ho, hN, h4⟩ := hS
  have hc := wC_nC hc0
  have hp2 := hp
  have h0 := wP_n hw
  have h3 := wC_n hc
  simp only [vP_ap, vC_ap, Nat.reduceAdd, Nat.reduceLT, Nat.add_zero, ↓reduceIte] at h0 h3
  rcases hp with rfl | rfl <;> (
    have hpl := congrArg Int.toNat hcp
    simp only [Int.toNat_natCast] at hpl
    refine gz_iload_n dX7_countTold_0 rfl ?_
    refine zz_tsw (tgt := 162) dX7_countTold_1 (by omega) (by decide) (by decide) rfl rfl ?_
    refine gz_aload_n dX7_countTold_162 rfl ?_
    refine gz_getf 3 dX7_countTold_163 rfl rfl wf_Heliographs_39 (by decide) rfl ?_
    refine gz_iload_n dX7_countTold_166 rfl ?_
    refine gv_1 (J := mX0_tally) (d1 := d - 1) dX7_countTold_167 wm_Heliographs_205 rfl jzX0_tally (Nat.le_of_ble_eq_true rfl) (Nat.le_of_ble_eq_true rfl) (by omega) ⟨Nat.le_refl _, Nat.le_refl _⟩ (zs_tally (Or.inl rfl) hp2 hcp hw hc (by omega) (by omega)) ?_
    refine gz_ireturn dX7_countTold_170 rfl rfl ?_
    exact hq
  )
theorem zh_ct_13 {p : Nat} {H : zV → Nat → Bool} {π σ : zV} {t o N : Int} (hS : St Z p H π σ t o N) (hd : 5 ≤ d) : zk_Does l Γ mX7_countTold d 0 0 [.ref 320, .int (iZ 13)] (zb_M Z) F (some (.int (iZ (sCount π σ t o 13)))) (zb_M Z) F := by
  intro Q hq
  obtain ⟨hp, hcp, rfl, rfl, hw, hc0, hH, ht, ho, hN, h4⟩ := hS
  have hc := wC_nC hc0
  have hp2 := hp
  have h0 := wP_n hw
  have h3 := wC_n hc
  simp only [vP_ap, vC_ap, Nat.reduceAdd, Nat.reduceLT, Nat.add_zero, ↓reduceIte] at h0 h3
  rcases hp with rfl | rfl <;> (
    have hpl := congrArg Int.toNat hcp
    simp only [Int.toNat_natCast] at hpl
    refine gz_iload_n dX7_countTold_0 rfl ?_
    refine zz_tsw (tgt := 154) dX7_countTold_1 (by omega) (by decide) (by decide) rfl rfl ?_
    refine gz_aload_n dX7_countTold_154 rfl ?_
    refine gz_getf 0 dX7_countTold_155 rfl rfl wf_Heliographs_10 (by decide) rfl ?_
    refine gz_getf 1 dX7_countTold_158 rfl rfl wf_Heliographs_55 (by decide) (zv_i ht) ?_
    refine gz_ireturn dX7_countTold_161 rfl rfl ?_
    exact hq
  )
theorem zh_countTold {p : Nat} {H : zV → Nat → Bool} {π σ : zV} {t o N : Int} (hS : St Z p H π σ t o N) {y : Int} (hy : 0 ≤ y ∧ y ≤ 13) (hd : 5 ≤ d) : zk_Does l Γ mX7_countTold d 0 0 [.ref 320, .int (iZ y)] (zb_M Z) F (some (.int (iZ (sCount π σ t o y)))) (zb_M Z) F := by
  rcases (show y = 0 ∨ y = 1 ∨ y = 2 ∨ y = 3 ∨ y = 4 ∨ y = 5 ∨ y = 6 ∨ y = 7 ∨ y = 8 ∨ y = 9 ∨ y = 10 ∨ y = 11 ∨ y = 12 ∨ y = 13 by omega) with rfl | rfl | rfl | rfl | rfl | rfl | rfl | rfl | rfl | rfl | rfl | rfl | rfl | rfl
  · exact zh_ct_0 hS hd
  · exact zh_ct_1 hS hd
  · exact zh_ct_2 hS hd
  · exact zh_ct_3 hS hd
  · exact zh_ct_4 hS hd
  · exact zh_ct_5 hS hd
  · exact zh_ct_6 hS hd
  · exact zh_ct_7 hS hd
  · exact zh_ct_8 hS hd
  · exact zh_ct_9 hS hd
  · exact zh_ct_10 hS hd
  · exact zh_ct_11 hS hd
  · exact zh_ct_12 hS hd
  · exact zh_ct_13 hS hd
theorem zh_count {p : Nat} {H : zV → Nat → Bool} {π σ : zV} {t o N : Int} (hS : St Z p H π σ t o N) {y : Int} (hy : 0 ≤ y ∧ y ≤ 13) (hd : 6 ≤ d) : zk_Does l Γ mX7_count d 0 0 [.ref 320, .int (iZ y)] (zb_M Z) F (some (.int (iZ (sCount π σ t o y)))) (zb_M Z) F := by
  intro Q hq
  refine gz_iload_n dX7_count_0 rfl ?_
  refine zz_if_lt (tgt := 10) dX7_count_1 rfl (by omega) (fun b1 => ?_) (fun b1 => ?_)
  · exact absurd b1 (by omega)
  refine gz_iload_n dX7_count_4 rfl ?_
  refine zz_bipush (x := 13) dX7_count_5 rfl ?_
  refine zz_icmp_le (tgt := 20) dX7_count_7 rfl (by omega) (fun b7 => ?_) (fun b7 => ?_)
  rotate_left
  · exact absurd b7 (by omega)
  refine gz_aload_n dX7_count_20 rfl ?_
  refine gz_iload_n dX7_count_21 rfl ?_
  refine gv_1 (J := mX7_countTold) (d1 := d - 1) dX7_count_22 wm_Heliographs_94 rfl jzX7_countTold (Nat.le_of_ble_eq_true rfl) (Nat.le_of_ble_eq_true rfl) (by omega) ⟨Nat.le_refl _, Nat.le_refl _⟩ (zh_countTold hS hy (by omega)) ?_
  refine gz_ireturn dX7_count_25 rfl rfl ?_
  (first | exact hq | (rw [if_pos (by omega)] at hq; exact hq) | (rw [if_neg (by omega)] at hq; exact hq))
theorem sLook_eq {π σ τ : zV} (h : ∀ i, i ≠ 11 → ∀ j, σ i j = τ i j) : sLook π σ = sLook π τ := by
  funext i j
  unfold sLook sPass
  rw [h 0 (by decide) 1, h 0 (by decide) 2]
  by_cases e : i = 11
  · rw [if_pos e, if_pos e]
  · rw [if_neg e, if_neg e, h i e j]
theorem St_o {Z Z2 : zV} {p : Nat} {H : zV → Nat → Bool} {π σ : zV} {t o N : Int} (hS : St Z p H π σ t o N) (e : ∀ a j, a ≠ 347 → (a < 352 ∨ 368 ≤ a) → zscr a j = false → Z2 a j = Z a j) : St Z2 p H π σ t o N := by
  obtain ⟨hp, hcp, h1, h2, hw, hc0, hH, ht, ho, hN, h4⟩ := hS
  have f : ∀ a, a ≠ 347 → a < 348 → ∀ j, Z2 a j = Z a j := fun a h1 h2 j => e a j h1 (by omega) (zscr_no (by omega) j)
  refine ⟨hp, (f _ (by decide) (by decide) 0).trans hcp, ?_, ?_, hw, hc0, hOr_to hp hH (fun a j h1 h2 => e a j (by omega) (by omega) h2), (f _ (by decide) (by decide) 1).trans ht, (e _ _ (by omega) (by omega) (by rcases hp with rfl | rfl <;> rfl)).trans ho, hN, h4⟩
  · rw [← h1]
    funext x y
    unfold vP
    by_cases hx : x < 15
    · rw [if_pos hx, if_pos hx, e _ _ (by omega) (by omega) (zscr_no (by omega) y)]
    · rw [if_neg hx, if_neg hx]
  · rw [← h2]
    funext x y
    unfold nC
    by_cases hx : x < 11
    · rw [if_pos hx, if_pos hx, f _ (by omega) (by omega)]
    · rw [if_neg hx, if_neg hx]
theorem sPassL (π σ : zV) : sLook π (vC Z 336) = sLook π (nC Z) := sLook_eq (fun i h j => nC_vC Z h j)
noncomputable def sWay (π σ : zV) (a b : Int) : Int := sFar π (cut (sLook π σ)) a b
noncomputable def sFst2 (π σ : zV) (a b : Int) : Int := sFirst π (cut (sLook π σ)) a b
theorem zh_way {p : Nat} {H : zV → Nat → Bool} {π σ : zV} {t o N : Int} (hS : St Z p H π σ t o N) {a b : Int} (ha : 0 ≤ a ∧ a < π 0 0) (hb : 0 ≤ b ∧ b < π 0 0) (hd : 6 ≤ d) : zk_DoesR l Γ mX7_way d [.ref 320, .int (iZ a), .int (iZ b)] Z F (some (.int (iZ (sWay π σ a b)))) (fun Z2 => St Z2 p H π σ t o N) := by
  intro Q hq
  have hS2 := hS
  obtain ⟨hp, hcp, rfl, rfl, hw, hc0, hH, ht, ho, hN, h4⟩ := hS
  have hc := wC_nC hc0
  have hp2 := hp
  have h0 := wP_n hw
  have h3 := wC_n hc
  simp only [vP_ap, vC_ap, Nat.reduceAdd, Nat.reduceLT, Nat.add_zero, ↓reduceIte] at h0 h3
  simp only [vP_ap, vC_ap, Nat.reduceAdd, Nat.reduceLT, Nat.add_zero, ↓reduceIte] at ha hb
  have hlk := zw_look (l := l) (Γ := Γ) (d := d - 1) (F := F) (Z := Z) (σ := vC Z 336) (Or.inl rfl) hp hw hcp hc (by omega)
  rw [zW_self] at hlk
  obtain ⟨Y, hY⟩ : ∃ z, zW Z 336 (sLook (vP Z p) (vC Z 336)) = z := ⟨_, rfl⟩
  rw [hY] at hlk
  have eP : vP Y p = vP Z p := by rw [← hY]; exact vP_W _ _ _ _ (by omega)
  have eC : vC Y 336 = cut (sLook (vP Z p) (nC Z)) := by rw [← hY, vC_W, sLook_eq (fun i h j => nC_vC Z h j)]
  have e0 : ∀ x, Y p x = Z p x := fun x => by rw [← hY]; exact zW_no _ _ _ _ (by omega)
  have ecp : Y 336 0 = (p : Int) := by rw [← hY]; exact ((zW_c0 Z 336 _ 0 0 (by decide)).trans (sLook_o _ _ (by decide) 0)).trans hcp
  have hlit : ∀ w : Nat, w < 12 → 0 ≤ Y (336 + 11) w ∧ Y (336 + 11) w ≤ 1 := fun w h => by rw [← hY, zW_c0 _ _ _ _ _ (by decide)]; exact lit_look _ _ w h
  have hfa := zs_far (l := l) (Γ := Γ) (d := d - 1) (F := F) (Z := Y) (c := 336) (Or.inl rfl) hp ecp (by rw [eP]; exact hw) hlit (a := a) (t := b) (by rw [e0]; exact ha) (by rw [e0]; exact hb) (by omega)
  rw [eP, eC] at hfa
  have hfb : zk_DoesR l Γ mX0_farOfWay (d - 1) [.ref 336, .int (iZ a), .int (iZ b)] Y F (some (.int (iZ (sWay (vP Z p) (nC Z) a b)))) (fun Z2 => St Z2 p H (vP Z p) (nC Z) t o N) := zk_DoesR.to hfa (fun Z2 hz => St_o hS2 (fun x j h1 h2 h3 => by
    rw [hz x j h3, ← hY]
    by_cases e : 336 ≤ x ∧ x < 336 + 12
    · have ex : x = 336 + (x - 336) := by omega
      rw [ex, zW_c0 _ _ _ _ _ (by omega), sLook_o _ _ (by omega)]
      exact (if_pos (by omega))
    · exact if_neg e))
  rcases hp with rfl | rfl <;> (
    have hpl := congrArg Int.toNat hcp
    simp only [Int.toNat_natCast] at hpl
    skip
    refine gz_aload_n dX7_way_0 rfl ?_
    refine gz_getf 3 dX7_way_1 rfl rfl wf_Heliographs_39 (by decide) rfl ?_
    refine gz_getf 0 dX7_way_4 rfl rfl wf_Heliographs_83 (by decide) (congrArg Value.ref hpl) ?_
    refine gz_iload_n dX7_way_7 rfl ?_
    refine gv_1 (J := mX3_hasPeak) (d1 := d - 1) dX7_way_8 wm_Heliographs_98 rfl jzX3_hasPeak (Nat.le_of_ble_eq_true rfl) (Nat.le_of_ble_eq_true rfl) (by omega) ⟨Nat.le_refl _, Nat.le_refl _⟩ (zs_hasPeak hp2 (by omega) h0.1) ?_
    refine zz_if_eqB (tgt := 28) dX7_way_11 rfl (fun b11 => ?_) (fun b11 => ?_)
    · exact absurd (by simp only [decide_eq_true_eq]; omega) b11
    refine gz_aload_n dX7_way_14 rfl ?_
    refine gz_getf 3 dX7_way_15 rfl rfl wf_Heliographs_39 (by decide) rfl ?_
    refine gz_getf 0 dX7_way_18 rfl rfl wf_Heliographs_83 (by decide) (congrArg Value.ref hpl) ?_
    refine gz_iload_n dX7_way_21 rfl ?_
    refine gv_1 (J := mX3_hasPeak) (d1 := d - 1) dX7_way_22 wm_Heliographs_98 rfl jzX3_hasPeak (Nat.le_of_ble_eq_true rfl) (Nat.le_of_ble_eq_true rfl) (by omega) ⟨Nat.le_refl _, Nat.le_refl _⟩ (zs_hasPeak hp2 (by omega) h0.1) ?_
    refine zz_if_neB (tgt := 38) dX7_way_25 rfl (fun b25 => ?_) (fun b25 => ?_)
    rotate_left
    · exact absurd (by simp only [decide_eq_true_eq]; omega) b25
    refine gz_aload_n dX7_way_38 rfl ?_
    refine gz_getf 3 dX7_way_39 rfl rfl wf_Heliographs_39 (by decide) rfl ?_
    refine gv_0 (J := mX0_look) (d1 := d - 1) dX7_way_42 wm_Heliographs_137 rfl jzX0_look (Nat.le_of_ble_eq_true rfl) (Nat.le_of_ble_eq_true rfl) (by omega) ⟨Nat.le_refl _, Nat.le_refl _⟩ (hlk) ?_
    refine gz_aload_n dX7_way_45 rfl ?_
    refine gz_getf 3 dX7_way_46 rfl rfl wf_Heliographs_39 (by decide) rfl ?_
    refine gz_iload_n dX7_way_49 rfl ?_
    refine gz_iload_n dX7_way_50 rfl ?_
    refine gq_2 (J := mX0_farOfWay) (d1 := d - 1) dX7_way_51 wm_Heliographs_140 rfl jzX0_farOfWay (Nat.le_of_ble_eq_true rfl) (Nat.le_of_ble_eq_true rfl) (by omega) (hfb) (fun Z51 hZ51 => ?_)
    refine gz_ireturn dX7_way_54 rfl rfl ?_
    exact hq Z51 hZ51
  )
theorem zh_first {p : Nat} {H : zV → Nat → Bool} {π σ : zV} {t o N : Int} (hS : St Z p H π σ t o N) {a b : Int} (ha : 0 ≤ a ∧ a < π 0 0) (hb : 0 ≤ b ∧ b < π 0 0) (hd : 6 ≤ d) : zk_DoesR l Γ mX7_first d [.ref 320, .int (iZ a), .int (iZ b)] Z F (some (.int (iZ (sFst2 π σ a b)))) (fun Z2 => St Z2 p H π σ t o N) := by
  intro Q hq
  have hS2 := hS
  obtain ⟨hp, hcp, rfl, rfl, hw, hc0, hH, ht, ho, hN, h4⟩ := hS
  have hc := wC_nC hc0
  have hp2 := hp
  have h0 := wP_n hw
  have h3 := wC_n hc
  simp only [vP_ap, vC_ap, Nat.reduceAdd, Nat.reduceLT, Nat.add_zero, ↓reduceIte] at h0 h3
  simp only [vP_ap, vC_ap, Nat.reduceAdd, Nat.reduceLT, Nat.add_zero, ↓reduceIte] at ha hb
  have hlk := zw_look (l := l) (Γ := Γ) (d := d - 1) (F := F) (Z := Z) (σ := vC Z 336) (Or.inl rfl) hp hw hcp hc (by omega)
  rw [zW_self] at hlk
  obtain ⟨Y, hY⟩ : ∃ z, zW Z 336 (sLook (vP Z p) (vC Z 336)) = z := ⟨_, rfl⟩
  rw [hY] at hlk
  have eP : vP Y p = vP Z p := by rw [← hY]; exact vP_W _ _ _ _ (by omega)
  have eC : vC Y 336 = cut (sLook (vP Z p) (nC Z)) := by rw [← hY, vC_W, sLook_eq (fun i h j => nC_vC Z h j)]
  have e0 : ∀ x, Y p x = Z p x := fun x => by rw [← hY]; exact zW_no _ _ _ _ (by omega)
  have ecp : Y 336 0 = (p : Int) := by rw [← hY]; exact ((zW_c0 Z 336 _ 0 0 (by decide)).trans (sLook_o _ _ (by decide) 0)).trans hcp
  have hlit : ∀ w : Nat, w < 12 → 0 ≤ Y (336 + 11) w ∧ Y (336 + 11) w ≤ 1 := fun w h => by rw [← hY, zW_c0 _ _ _ _ _ (by decide)]; exact lit_look _ _ w h
  have hfa := zs_first (l := l) (Γ := Γ) (d := d - 1) (F := F) (Z := Y) (c := 336) (Or.inl rfl) hp ecp (by rw [eP]; exact hw) hlit (a := a) (t := b) (by rw [e0]; exact ha) (by rw [e0]; exact hb) (by omega)
  rw [eP, eC] at hfa
  have hfb : zk_DoesR l Γ mX0_firstPassOfWay (d - 1) [.ref 336, .int (iZ a), .int (iZ b)] Y F (some (.int (iZ (sFst2 (vP Z p) (nC Z) a b)))) (fun Z2 => St Z2 p H (vP Z p) (nC Z) t o N) := zk_DoesR.to hfa (fun Z2 hz => St_o hS2 (fun x j h1 h2 h3 => by
    rw [hz x j h3, ← hY]
    by_cases e : 336 ≤ x ∧ x < 336 + 12
    · have ex : x = 336 + (x - 336) := by omega
      rw [ex, zW_c0 _ _ _ _ _ (by omega), sLook_o _ _ (by omega)]
      exact (if_pos (by omega))
    · exact if_neg e))
  rcases hp with rfl | rfl <;> (
    have hpl := congrArg Int.toNat hcp
    simp only [Int.toNat_natCast] at hpl
    skip
    refine gz_aload_n dX7_first_0 rfl ?_
    refine gz_getf 3 dX7_first_1 rfl rfl wf_Heliographs_39 (by decide) rfl ?_
    refine gz_getf 0 dX7_first_4 rfl rfl wf_Heliographs_83 (by decide) (congrArg Value.ref hpl) ?_
    refine gz_iload_n dX7_first_7 rfl ?_
    refine gv_1 (J := mX3_hasPeak) (d1 := d - 1) dX7_first_8 wm_Heliographs_98 rfl jzX3_hasPeak (Nat.le_of_ble_eq_true rfl) (Nat.le_of_ble_eq_true rfl) (by omega) ⟨Nat.le_refl _, Nat.le_refl _⟩ (zs_hasPeak hp2 (by omega) h0.1) ?_
    refine zz_if_eqB (tgt := 28) dX7_first_11 rfl (fun b11 => ?_) (fun b11 => ?_)
    · exact absurd (by simp only [decide_eq_true_eq]; omega) b11
    refine gz_aload_n dX7_first_14 rfl ?_
    refine gz_getf 3 dX7_first_15 rfl rfl wf_Heliographs_39 (by decide) rfl ?_
    refine gz_getf 0 dX7_first_18 rfl rfl wf_Heliographs_83 (by decide) (congrArg Value.ref hpl) ?_
    refine gz_iload_n dX7_first_21 rfl ?_
    refine gv_1 (J := mX3_hasPeak) (d1 := d - 1) dX7_first_22 wm_Heliographs_98 rfl jzX3_hasPeak (Nat.le_of_ble_eq_true rfl) (Nat.le_of_ble_eq_true rfl) (by omega) ⟨Nat.le_refl _, Nat.le_refl _⟩ (zs_hasPeak hp2 (by omega) h0.1) ?_
    refine zz_if_neB (tgt := 38) dX7_first_25 rfl (fun b25 => ?_) (fun b25 => ?_)
    rotate_left
    · exact absurd (by simp only [decide_eq_true_eq]; omega) b25
    refine gz_aload_n dX7_first_38 rfl ?_
    refine gz_getf 3 dX7_first_39 rfl rfl wf_Heliographs_39 (by decide) rfl ?_
    refine gv_0 (J := mX0_look) (d1 := d - 1) dX7_first_42 wm_Heliographs_137 rfl jzX0_look (Nat.le_of_ble_eq_true rfl) (Nat.le_of_ble_eq_true rfl) (by omega) ⟨Nat.le_refl _, Nat.le_refl _⟩ (hlk) ?_
    refine gz_aload_n dX7_first_45 rfl ?_
    refine gz_getf 3 dX7_first_46 rfl rfl wf_Heliographs_39 (by decide) rfl ?_
    refine gz_iload_n dX7_first_49 rfl ?_
    refine gz_iload_n dX7_first_50 rfl ?_
    refine gq_2 (J := mX0_firstPassOfWay) (d1 := d - 1) dX7_first_51 wm_Heliographs_143 rfl jzX0_firstPassOfWay (Nat.le_of_ble_eq_true rfl) (Nat.le_of_ble_eq_true rfl) (by omega) (hfb) (fun Z51 hZ51 => ?_)
    refine gz_ireturn dX7_first_54 rfl rfl ?_
    exact hq Z51 hZ51
  )
end

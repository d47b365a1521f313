/-! BY HAND: what can not be done is thrown -/
section
variable {l : Launch} {Γ : zk_G} {d : Nat} {Z : Nat → Nat → Int} {F : Heap → Prop}
theorem ta_62 : ∀ w ∈ vx_atS "Heliographs" 62 zk_X zk_Xn, w ∈ zk_tg ∨ w ∈ zk_xw := by
  have h : (vx_atS "Heliographs" 62 zk_X zk_Xn).all (fun w => decide (w ∈ zk_tg) || decide (w ∈ zk_xw)) = true := by decide +kernel
  intro w hw
  have q := List.all_eq_true.mp h w hw
  rw [Bool.or_eq_true, decide_eq_true_eq, decide_eq_true_eq] at q
  exact q
theorem zh_stop_x {p : Nat} {H : zV → Nat → Bool} {π σ : zV} {t o N : Int} (hS : St Z p H π σ t o N) {x : Nat} (hx : (x : Int) < π 0 3) (hs : σ 4 x ≠ 1) (hd : 4 ≤ d) : zk_Does l Γ mX7_stop d 1 6 [.ref 320, .int (iZ (x : Int))] (zb_M Z) F (some (.retAddr 0)) (zb_M Z) F := by
  intro Q hq
  obtain ⟨hp, hcp, rfl, rfl, hw, hc0, hH, ht, ho, hN, h4⟩ := hS
  have hc := wC_nC hc0
  have hp2 := hp
  have h0 := wP_n hw
  have h3 := wC_n hc
  simp only [vP_ap, vC_ap, Nat.reduceAdd, Nat.reduceLT, Nat.add_zero, ↓reduceIte] at h0 h3
  have hm8 := wC_m hc0 hx
  obtain ⟨sx, hsx⟩ : ∃ z, Z 340 x = z := ⟨_, rfl⟩
  have hsx2 : nC Z 4 x = sx := hsx
  rw [hsx2] at hs
  have hsb : 0 ≤ sx ∧ sx ≤ 2 := by rw [← hsx2]; exact hm8.2.2.1
  rcases hp with rfl | rfl <;> (
    have hpl := congrArg Int.toNat hcp
    simp only [Int.toNat_natCast] at hpl
    have hx2 := hx
    simp only [vP_ap, vC_ap, Nat.reduceAdd, Nat.reduceLT, Nat.add_zero, ↓reduceIte] at hx2
    refine gz_aload_n dX7_stop_0 rfl ?_
    refine gz_getf 3 dX7_stop_1 rfl rfl wf_Heliographs_39 (by decide) rfl ?_
    refine gz_getf 0 dX7_stop_4 rfl rfl wf_Heliographs_83 (by decide) (congrArg Value.ref hpl) ?_
    refine gz_iload_n dX7_stop_7 rfl ?_
    refine gv_1 (J := mX3_hasMessage) (d1 := d - 1) dX7_stop_8 wm_Heliographs_116 rfl jzX3_hasMessage (Nat.le_of_ble_eq_true rfl) (Nat.le_of_ble_eq_true rfl) (by omega) ⟨Nat.zero_le _, Nat.zero_le _⟩ (zs_hasMessage hp2 (by omega) h0.2.2.2) ?_
    refine zz_if_neB (tgt := 24) dX7_stop_11 rfl (fun b11 => ?_) (fun b11 => ?_)
    rotate_left
    · exact absurd (by simp only [decide_eq_true_eq]; omega) b11
    refine gz_aload_n dX7_stop_24 rfl ?_
    refine gz_getf 3 dX7_stop_25 rfl rfl wf_Heliographs_39 (by decide) rfl ?_
    refine gz_getf 6 dX7_stop_28 rfl rfl wf_Heliographs_159 (by decide) rfl ?_
    refine gz_iload_n dX7_stop_31 rfl ?_
    refine gz_iald (v := .int (iZ (sx))) (n := x) dX7_stop_32 rfl rfl (by omega) (zv_i hsx) ?_
    refine zz_iconst dX7_stop_33 ?_
    refine zz_icmp_eq (tgt := 47) dX7_stop_34 rfl (by omega) (fun b34 => ?_) (fun b34 => ?_)
    · exact absurd b34 (by omega)
    exact gz_throw ⟨by decide, 58, 162, 62, 152, "the message is not flashed", dX7_stop_37, dX7_stop_40, dX7_stop_41, dX7_stop_43, dX7_stop_46, by decide, wc_Heliographs_58, jn_IllegalStateException, ta_62⟩ (by decide) hq
  )
theorem zh_forward_x {p : Nat} {H : zV → Nat → Bool} {π σ : zV} {t o N : Int} (hS : St Z p H π σ t o N) {x : Nat} (hx : (x : Int) < π 0 3) {y : Int} (hy : 0 ≤ y ∧ y < π 0 0) (hs : σ 4 x ≠ 2) (hne : σ 2 x ≠ y) (hd : 4 ≤ d) : zk_Does l Γ mX7_forward d 1 6 [.ref 320, .int (iZ (x : Int)), .int (iZ y)] (zb_M Z) F (some (.retAddr 0)) (zb_M Z) F := by
  intro Q hq
  obtain ⟨hp, hcp, rfl, rfl, hw, hc0, hH, ht, ho, hN, h4⟩ := hS
  have hc := wC_nC hc0
  have hp2 := hp
  have h0 := wP_n hw
  have h3 := wC_n hc
  simp only [vP_ap, vC_ap, Nat.reduceAdd, Nat.reduceLT, Nat.add_zero, ↓reduceIte] at h0 h3
  have hm8 := wC_m hc0 hx
  obtain ⟨sx, hsx⟩ : ∃ z, Z 340 x = z := ⟨_, rfl⟩
  have hsx2 : nC Z 4 x = sx := hsx
  rw [hsx2] at hs
  have hsb : 0 ≤ sx ∧ sx ≤ 2 := by rw [← hsx2]; exact hm8.2.2.1
  obtain ⟨pe, hpe⟩ : ∃ z, Z 338 x = z := ⟨_, rfl⟩
  have hpe2 : nC Z 2 x = pe := hpe
  have hpb : 0 ≤ pe ∧ pe < vP Z p 0 0 := by rw [← hpe2]; exact hm8.1
  have hne2 : pe ≠ y := fun q => hne (hpe2.trans q)
  rcases hp with rfl | rfl <;> (
    have hpl := congrArg Int.toNat hcp
    simp only [Int.toNat_natCast] at hpl
    have hx2 := hx
    have hy2 := hy
    simp only [vP_ap, vC_ap, Nat.reduceAdd, Nat.reduceLT, Nat.add_zero, ↓reduceIte] at hx2 hy2 hpb
    refine gz_aload_n dX7_forward_0 rfl ?_
    refine gz_getf 3 dX7_forward_1 rfl rfl wf_Heliographs_39 (by decide) rfl ?_
    refine gz_getf 0 dX7_forward_4 rfl rfl wf_Heliographs_83 (by decide) (congrArg Value.ref hpl) ?_
    refine gz_iload_n dX7_forward_7 rfl ?_
    refine gv_1 (J := mX3_hasMessage) (d1 := d - 1) dX7_forward_8 wm_Heliographs_116 rfl jzX3_hasMessage (Nat.le_of_ble_eq_true rfl) (Nat.le_of_ble_eq_true rfl) (by omega) ⟨Nat.zero_le _, Nat.zero_le _⟩ (zs_hasMessage hp2 (by omega) h0.2.2.2) ?_
    refine zz_if_eqB (tgt := 28) dX7_forward_11 rfl (fun b11 => ?_) (fun b11 => ?_)
    · exact absurd (by simp only [decide_eq_true_eq]; omega) b11
    refine gz_aload_n dX7_forward_14 rfl ?_
    refine gz_getf 3 dX7_forward_15 rfl rfl wf_Heliographs_39 (by decide) rfl ?_
    refine gz_getf 0 dX7_forward_18 rfl rfl wf_Heliographs_83 (by decide) (congrArg Value.ref hpl) ?_
    refine gz_iload_n dX7_forward_21 rfl ?_
    refine gv_1 (J := mX3_hasPeak) (d1 := d - 1) dX7_forward_22 wm_Heliographs_98 rfl jzX3_hasPeak (Nat.le_of_ble_eq_true rfl) (Nat.le_of_ble_eq_true rfl) (by omega) ⟨Nat.zero_le _, Nat.zero_le _⟩ (zs_hasPeak hp2 (by omega) h0.1) ?_
    refine zz_if_neB (tgt := 38) dX7_forward_25 rfl (fun b25 => ?_) (fun b25 => ?_)
    rotate_left
    · exact absurd (by simp only [decide_eq_true_eq]; omega) b25
    refine gz_aload_n dX7_forward_38 rfl ?_
    refine gz_getf 3 dX7_forward_39 rfl rfl wf_Heliographs_39 (by decide) rfl ?_
    refine gz_getf 4 dX7_forward_42 rfl rfl wf_Heliographs_172 (by decide) rfl ?_
    refine gz_iload_n dX7_forward_45 rfl ?_
    refine gz_iald (v := .int (iZ (pe))) (n := x) dX7_forward_46 rfl rfl (by omega) (zv_i hpe) ?_
    refine gz_iload_n dX7_forward_47 rfl ?_
    refine zz_icmp_ne (tgt := 61) dX7_forward_48 rfl (by omega) (fun b48 => ?_) (fun b48 => ?_)
    rotate_left
    · exact absurd b48 (by omega)
    refine gz_aload_n dX7_forward_61 rfl ?_
    refine gz_getf 3 dX7_forward_62 rfl rfl wf_Heliographs_39 (by decide) rfl ?_
    refine gz_getf 6 dX7_forward_65 rfl rfl wf_Heliographs_159 (by decide) rfl ?_
    refine gz_iload_n dX7_forward_68 rfl ?_
    refine gz_iald (v := .int (iZ (sx))) (n := x) dX7_forward_69 rfl rfl (by omega) (zv_i hsx) ?_
    refine zz_iconst dX7_forward_70 ?_
    refine zz_icmp_eq (tgt := 84) dX7_forward_71 rfl (by omega) (fun b71 => ?_) (fun b71 => ?_)
    · exact absurd b71 (by omega)
    exact gz_throw ⟨by decide, 58, 177, 62, 155, "the message is not there", dX7_forward_74, dX7_forward_77, dX7_forward_78, dX7_forward_80, dX7_forward_83, by decide, wc_Heliographs_58, jn_IllegalStateException, ta_62⟩ (by decide) hq
  )
theorem zh_mirror_x {p : Nat} {H : zV → Nat → Bool} {π σ : zV} {t o N : Int} (hS : St Z p H π σ t o N) {x : Nat} {b : Bool} (hx : (x : Int) < π 0 0) (hcan : ¬ (if b = true then σ 1 x < 4 else 0 < sFree π σ (x : Int))) (hd : 4 ≤ d) : zk_Does l Γ mX7_mirror d 1 6 [.ref 320, .int (iZ (x : Int)), .int (iZ (bI b))] (zb_M Z) F (some (.retAddr 0)) (zb_M Z) F := by
  intro Q hq
  obtain ⟨hp, hcp, rfl, rfl, hw, hc0, hH, ht, ho, hN, h4⟩ := hS
  have hc := wC_nC hc0
  have hp2 := hp
  have h0 := wP_n hw
  have h3 := wC_n hc
  simp only [vP_ap, vC_ap, Nat.reduceAdd, Nat.reduceLT, Nat.add_zero, ↓reduceIte] at h0 h3
  have hk5 := wC_k hc0 hx
  have h44 := h4 x hx
  obtain ⟨mi, hmi⟩ : ∃ z, Z 337 x = z := ⟨_, rfl⟩
  have hmi2 : nC Z 1 x = mi := hmi
  rw [hmi2] at hk5 h44 hcan
  obtain ⟨fr, hfr⟩ : ∃ z, sFree (vP Z p) (vC Z 336) (x : Int) = z := ⟨_, rfl⟩
  have hfr2 : sFree (vP Z p) (nC Z) (x : Int) = fr := hfr
  rw [hfr2] at hcan
  have hfr3 : mi - 8 ≤ fr ∧ fr ≤ mi := by
    have n1 := sNum_bd (sAt (nC Z) (x : Int) 1) (vP Z p 0 3).toNat 0
    have n2 := wP_n hw
    have e : sFree (vP Z p) (nC Z) (x : Int) = nC Z 1 x - sNum (sAt (nC Z) (x : Int) 1) 0 (vP Z p 0 3).toNat := rfl
    rw [hfr2, hmi2] at e
    omega
  have hct : b = true → ¬ mi < 4 := fun q => by rw [if_pos q] at hcan; exact hcan
  have hcf : ¬ b = true → ¬ 0 < fr := fun q => by rw [if_neg q] at hcan; exact hcan
  rcases hp with rfl | rfl <;> (
    have hpl := congrArg Int.toNat hcp
    simp only [Int.toNat_natCast] at hpl
    have hx2 := hx
    simp only [vP_ap, vC_ap, Nat.reduceAdd, Nat.reduceLT, Nat.add_zero, ↓reduceIte] at hx2
    refine gz_aload_n dX7_mirror_0 rfl ?_
    refine gz_getf 3 dX7_mirror_1 rfl rfl wf_Heliographs_39 (by decide) rfl ?_
    refine gz_getf 0 dX7_mirror_4 rfl rfl wf_Heliographs_83 (by decide) (congrArg Value.ref hpl) ?_
    refine gz_iload_n dX7_mirror_7 rfl ?_
    refine gv_1 (J := mX3_hasPeak) (d1 := d - 1) dX7_mirror_8 wm_Heliographs_98 rfl jzX3_hasPeak (Nat.le_of_ble_eq_true rfl) (Nat.le_of_ble_eq_true rfl) (by omega) ⟨Nat.zero_le _, Nat.zero_le _⟩ (zs_hasPeak hp2 (by omega) h0.1) ?_
    refine zz_if_neB (tgt := 24) dX7_mirror_11 rfl (fun b11 => ?_) (fun b11 => ?_)
    rotate_left
    · exact absurd (by simp only [decide_eq_true_eq]; omega) b11
    refine gz_iload_n dX7_mirror_24 rfl ?_
    refine zz_if_eqB (tgt := 51) dX7_mirror_25 rfl (fun b25 => ?_) (fun b25 => ?_)
    ·
      refine gz_iload_n dX7_mirror_51 rfl ?_
      refine zz_if_neB (tgt := 76) dX7_mirror_52 rfl (fun b52 => ?_) (fun b52 => ?_)
      · exact absurd b52 b25
      refine gz_aload_n dX7_mirror_55 rfl ?_
      refine gz_getf 3 dX7_mirror_56 rfl rfl wf_Heliographs_39 (by decide) rfl ?_
      refine gz_iload_n dX7_mirror_59 rfl ?_
      refine gv_1 (J := mX0_freeMirrors) (d1 := d - 1) dX7_mirror_60 wm_Heliographs_152 rfl jzX0_freeMirrors (Nat.le_of_ble_eq_true rfl) (Nat.le_of_ble_eq_true rfl) (by omega) ⟨Nat.zero_le _, Nat.zero_le _⟩ (zk_Does.to (zs_freeMirrors (Or.inl rfl) hp2 (by exact hcp) hw hc (x := (x : Int)) (by omega) (by omega)) (congrArg (fun z => some (Value.int (iZ z))) hfr)) ?_
      refine zz_if_gt (tgt := 76) dX7_mirror_63 rfl (by omega) (fun b63 => ?_) (fun b63 => ?_)
      · exact absurd (hcf b25) (by omega)
      exact gz_throw ⟨by decide, 58, 155, 62, 151, "no mirror of the peak is free", dX7_mirror_66, dX7_mirror_69, dX7_mirror_70, dX7_mirror_72, dX7_mirror_75, by decide, wc_Heliographs_58, jn_IllegalStateException, ta_62⟩ (by decide) hq
    ·
      refine gz_aload_n dX7_mirror_28 rfl ?_
      refine gz_getf 3 dX7_mirror_29 rfl rfl wf_Heliographs_39 (by decide) rfl ?_
      refine gz_getf 3 dX7_mirror_32 rfl rfl wf_Heliographs_146 (by decide) rfl ?_
      refine gz_iload_n dX7_mirror_35 rfl ?_
      refine gz_iald (v := .int (iZ (mi))) (n := x) dX7_mirror_36 rfl rfl (by omega) (zv_i hmi) ?_
      refine zz_iconst dX7_mirror_37 ?_
      refine zz_icmp_lt (tgt := 51) dX7_mirror_38 rfl (by omega) (fun b38 => ?_) (fun b38 => ?_)
      · exact absurd (hct b25) (by omega)
      exact gz_throw ⟨by decide, 58, 150, 62, 150, "the peak has all the mirrors that it can have", dX7_mirror_41, dX7_mirror_44, dX7_mirror_45, dX7_mirror_47, dX7_mirror_50, by decide, wc_Heliographs_58, jn_IllegalStateException, ta_62⟩ (by decide) hq
  )
end

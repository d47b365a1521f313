/-! THE OBJECT: what is told -/
section
variable {l : Launch} {Γ : zk_G} {d : Nat} {Z : Nat → Nat → Int} {F : Heap → Prop}
/-- the chain of now, but for what was lit -/
def nC (Z : zV) : zV := fun i j => if i < 11 then Z (336 + i) j else 0
/-- the object's state: plan at p, orders H, plan π, chain σ, tape's length t, orders o -/
def St (Z : zV) (p : Nat) (H : zV → Nat → Bool) (π σ : zV) (t o N : Int) : Prop := (p = 368 ∨ p = 400) ∧ Z 336 0 = (p : Int) ∧ vP Z p = π ∧ nC Z = σ ∧ wP π ∧ wC π σ N ∧ hOr Z p H ∧ Z 321 1 = t ∧ Z (p + 15) 0 = o ∧ 0 ≤ N ∧ (∀ k : Nat, (k : Int) < π 0 0 → σ 1 k ≤ 4)
theorem nC_vC (Z : zV) {i : Nat} (h : i ≠ 11) (j : Nat) : vC Z 336 i j = nC Z i j := by
  unfold vC nC
  by_cases e : i < 12
  · rw [if_pos e, if_pos (by omega)]
  · rw [if_neg e, if_neg (by omega)]
theorem wC_nC {π : zV} {Z : zV} {N : Int} (h : wC π (nC Z) N) : wC π (vC Z 336) N := wC_11 h (fun i j hi => nC_vC Z hi j)
def sCount (π σ : zV) (t o y : Int) : Int := if y = 0 then σ 0 1 else if y = 1 then π 0 0 else if y = 2 then π 0 1 else if y = 3 then π 0 2 else if y = 4 then π 0 3 else if y = 5 then o else if y = 6 then sNum (fun k => sSun π k (σ 0 1)) 0 (π 0 0).toNat else if y = 7 then sNum (fun w => sPass π σ w (σ 0 1)) 0 (π 0 1).toNat else if y = 13 then t else sTally π σ y
theorem zh_peak {p : Nat} {H : zV → Nat → Bool} {π σ : zV} {t o N : Int} (hS : St Z p H π σ t o N) {x y : Int} (hx : 0 ≤ x ∧ x < π 0 0) (hy : 0 ≤ y ∧ y ≤ 6) (hd : 5 ≤ d) : zk_Does l Γ mX7_peak d 0 0 [.ref 320, .int (iZ x), .int (iZ y)] (zb_M Z) F (some (.int (iZ (sPk π σ x y)))) (zb_M Z) F := by
  intro Q hq
  obtain ⟨hp, hcp, rfl, rfl, hw, hc0, hH, ht, ho, hN, h4⟩ := hS
  have hc := wC_nC hc0
  have hp2 := hp
  have h0 := wP_n hw
  have h3 := wC_n hc
  simp only [vP_ap, vC_ap, Nat.reduceAdd, Nat.reduceLT, Nat.add_zero, ↓reduceIte] at h0 h3
  rcases hp with rfl | rfl <;> (
    have hpl := congrArg Int.toNat hcp
    simp only [Int.toNat_natCast] at hpl
    have hx2 := hx
    simp only [vP_ap, vC_ap, Nat.reduceAdd, Nat.reduceLT, Nat.add_zero, ↓reduceIte] at hx2
    refine gz_aload_n dX7_peak_0 rfl ?_
    refine gz_getf 3 dX7_peak_1 rfl rfl wf_Heliographs_39 (by decide) rfl ?_
    refine gz_getf 0 dX7_peak_4 rfl rfl wf_Heliographs_83 (by decide) (congrArg Value.ref hpl) ?_
    refine gz_iload_n dX7_peak_7 rfl ?_
    refine gv_1 (J := mX3_hasPeak) (d1 := d - 1) dX7_peak_8 wm_Heliographs_98 rfl jzX3_hasPeak (Nat.le_of_ble_eq_true rfl) (Nat.le_of_ble_eq_true rfl) (by omega) ⟨Nat.le_refl _, Nat.le_refl _⟩ (zs_hasPeak hp2 (by omega) h0.1) ?_
    refine zz_if_eqB (tgt := 24) dX7_peak_11 rfl (fun b11 => ?_) (fun b11 => ?_)
    · exact absurd (by simp only [decide_eq_true_eq]; omega) b11
    refine gz_iload_n dX7_peak_14 rfl ?_
    refine zz_if_lt (tgt := 24) dX7_peak_15 rfl (by omega) (fun b15 => ?_) (fun b15 => ?_)
    · exact absurd b15 (by omega)
    refine gz_iload_n dX7_peak_18 rfl ?_
    refine zz_bipush (x := 6) dX7_peak_19 rfl ?_
    refine zz_icmp_le (tgt := 34) dX7_peak_21 rfl (by omega) (fun b21 => ?_) (fun b21 => ?_)
    rotate_left
    · exact absurd b21 (by omega)
    refine gz_aload_n dX7_peak_34 rfl ?_
    refine gz_getf 3 dX7_peak_35 rfl rfl wf_Heliographs_39 (by decide) rfl ?_
    refine gz_iload_n dX7_peak_38 rfl ?_
    refine gz_iload_n dX7_peak_39 rfl ?_
    refine gv_2 (J := mX0_peakTold) (d1 := d - 1) dX7_peak_40 wm_Heliographs_104 rfl jzX0_peakTold (Nat.le_of_ble_eq_true rfl) (Nat.le_of_ble_eq_true rfl) (by omega) ⟨Nat.le_refl _, Nat.le_refl _⟩ (zs_peakTold (Or.inl rfl) hp2 hcp hw hc hx2 hy (by omega)) ?_
    refine gz_ireturn dX7_peak_43 rfl rfl ?_
    exact hq
  )
theorem zh_pass {p : Nat} {H : zV → Nat → Bool} {π σ : zV} {t o N : Int} (hS : St Z p H π σ t o N) {x y : Int} (hx : 0 ≤ x ∧ x < π 0 1) (hy : 0 ≤ y ∧ y ≤ 5) (hd : 5 ≤ d) : zk_Does l Γ mX7_pass d 0 0 [.ref 320, .int (iZ x), .int (iZ y)] (zb_M Z) F (some (.int (iZ (sPs π σ x y)))) (zb_M Z) F := by
  intro Q hq
  obtain ⟨hp, hcp, rfl, rfl, hw, hc0, hH, ht, ho, hN, h4⟩ := hS
  have hc := wC_nC hc0
  have hp2 := hp
  have h0 := wP_n hw
  have h3 := wC_n hc
  simp only [vP_ap, vC_ap, Nat.reduceAdd, Nat.reduceLT, Nat.add_zero, ↓reduceIte] at h0 h3
  rcases hp with rfl | rfl <;> (
    have hpl := congrArg Int.toNat hcp
    simp only [Int.toNat_natCast] at hpl
    have hx2 := hx
    simp only [vP_ap, vC_ap, Nat.reduceAdd, Nat.reduceLT, Nat.add_zero, ↓reduceIte] at hx2
    refine gz_aload_n dX7_pass_0 rfl ?_
    refine gz_getf 3 dX7_pass_1 rfl rfl wf_Heliographs_39 (by decide) rfl ?_
    refine gz_getf 0 dX7_pass_4 rfl rfl wf_Heliographs_83 (by decide) (congrArg Value.ref hpl) ?_
    refine gz_iload_n dX7_pass_7 rfl ?_
    refine gv_1 (J := mX3_hasPass) (d1 := d - 1) dX7_pass_8 wm_Heliographs_108 rfl jzX3_hasPass (Nat.le_of_ble_eq_true rfl) (Nat.le_of_ble_eq_true rfl) (by omega) ⟨Nat.le_refl _, Nat.le_refl _⟩ (zs_hasPass hp2 (by omega) h0.2.1) ?_
    refine zz_if_eqB (tgt := 23) dX7_pass_11 rfl (fun b11 => ?_) (fun b11 => ?_)
    · exact absurd (by simp only [decide_eq_true_eq]; omega) b11
    refine gz_iload_n dX7_pass_14 rfl ?_
    refine zz_if_lt (tgt := 23) dX7_pass_15 rfl (by omega) (fun b15 => ?_) (fun b15 => ?_)
    · exact absurd b15 (by omega)
    refine gz_iload_n dX7_pass_18 rfl ?_
    refine zz_iconst dX7_pass_19 ?_
    refine zz_icmp_le (tgt := 33) dX7_pass_20 rfl (by omega) (fun b20 => ?_) (fun b20 => ?_)
    rotate_left
    · exact absurd b20 (by omega)
    refine gz_aload_n dX7_pass_33 rfl ?_
    refine gz_getf 3 dX7_pass_34 rfl rfl wf_Heliographs_39 (by decide) rfl ?_
    refine gz_iload_n dX7_pass_37 rfl ?_
    refine gz_iload_n dX7_pass_38 rfl ?_
    refine gv_2 (J := mX0_passTold) (d1 := d - 1) dX7_pass_39 wm_Heliographs_113 rfl jzX0_passTold (Nat.le_of_ble_eq_true rfl) (Nat.le_of_ble_eq_true rfl) (by omega) ⟨Nat.le_refl _, Nat.le_refl _⟩ (zs_passTold (Or.inl rfl) hp2 hcp hw hc hx2 hy (by omega)) ?_
    refine gz_ireturn dX7_pass_42 rfl rfl ?_
    exact hq
  )
theorem zh_message {p : Nat} {H : zV → Nat → Bool} {π σ : zV} {t o N : Int} (hS : St Z p H π σ t o N) {x y : Int} (hx : 0 ≤ x ∧ x < π 0 3) (hy : 0 ≤ y ∧ y ≤ 8) (hd : 5 ≤ d) : zk_Does l Γ mX7_message d 0 0 [.ref 320, .int (iZ x), .int (iZ y)] (zb_M Z) F (some (.int (iZ (sMs π σ x y)))) (zb_M Z) F := by
  intro Q hq
  obtain ⟨hp, hcp, rfl, rfl, hw, hc0, hH, ht, ho, hN, h4⟩ := hS
  have hc := wC_nC hc0
  have hp2 := hp
  have h0 := wP_n hw
  have h3 := wC_n hc
  simp only [vP_ap, vC_ap, Nat.reduceAdd, Nat.reduceLT, Nat.add_zero, ↓reduceIte] at h0 h3
  rcases hp with rfl | rfl <;> (
    have hpl := congrArg Int.toNat hcp
    simp only [Int.toNat_natCast] at hpl
    have hx2 := hx
    simp only [vP_ap, vC_ap, Nat.reduceAdd, Nat.reduceLT, Nat.add_zero, ↓reduceIte] at hx2
    refine gz_aload_n dX7_message_0 rfl ?_
    refine gz_getf 3 dX7_message_1 rfl rfl wf_Heliographs_39 (by decide) rfl ?_
    refine gz_getf 0 dX7_message_4 rfl rfl wf_Heliographs_83 (by decide) (congrArg Value.ref hpl) ?_
    refine gz_iload_n dX7_message_7 rfl ?_
    refine gv_1 (J := mX3_hasMessage) (d1 := d - 1) dX7_message_8 wm_Heliographs_116 rfl jzX3_hasMessage (Nat.le_of_ble_eq_true rfl) (Nat.le_of_ble_eq_true rfl) (by omega) ⟨Nat.le_refl _, Nat.le_refl _⟩ (zs_hasMessage hp2 (by omega) h0.2.2.2) ?_
    refine zz_if_eqB (tgt := 24) dX7_message_11 rfl (fun b11 => ?_) (fun b11 => ?_)
    · exact absurd (by simp only [decide_eq_true_eq]; omega) b11
    refine gz_iload_n dX7_message_14 rfl ?_
    refine zz_if_lt (tgt := 24) dX7_message_15 rfl (by omega) (fun b15 => ?_) (fun b15 => ?_)
    · exact absurd b15 (by omega)
    refine gz_iload_n dX7_message_18 rfl ?_
    refine zz_bipush (x := 8) dX7_message_19 rfl ?_
    refine zz_icmp_le (tgt := 34) dX7_message_21 rfl (by omega) (fun b21 => ?_) (fun b21 => ?_)
    rotate_left
    · exact absurd b21 (by omega)
    refine gz_aload_n dX7_message_34 rfl ?_
    refine gz_getf 3 dX7_message_35 rfl rfl wf_Heliographs_39 (by decide) rfl ?_
    refine gz_iload_n dX7_message_38 rfl ?_
    refine gz_iload_n dX7_message_39 rfl ?_
    refine gv_2 (J := mX0_messageTold) (d1 := d - 1) dX7_message_40 wm_Heliographs_121 rfl jzX0_messageTold (Nat.le_of_ble_eq_true rfl) (Nat.le_of_ble_eq_true rfl) (by omega) ⟨Nat.le_refl _, Nat.le_refl _⟩ (zs_messageTold (Or.inl rfl) hp2 hcp hw hc hx2 hy (by omega)) ?_
    refine gz_ireturn dX7_message_43 rfl rfl ?_
    exact hq
  )
theorem zh_hasSun {p : Nat} {H : zV → Nat → Bool} {π σ : zV} {t o N : Int} (hS : St Z p H π σ t o N) {x m : Int} (hx : 0 ≤ x ∧ x < π 0 0) (hm : 0 ≤ m ∧ m ≤ 9999) (hd : 5 ≤ d) : zk_Does l Γ mX7_hasSun d 0 0 [.ref 320, .int (iZ x), .int (iZ m)] (zb_M Z) F (some (.int (iZ (bI (sSun π x.toNat m))))) (zb_M Z) F := by
  intro Q hq
  obtain ⟨hp, hcp, rfl, rfl, hw, hc0, hH, ht, ho, hN, h4⟩ := hS
  have hc := wC_nC hc0
  have hp2 := hp
  have h0 := wP_n hw
  have h3 := wC_n hc
  simp only [vP_ap, vC_ap, Nat.reduceAdd, Nat.reduceLT, Nat.add_zero, ↓reduceIte] at h0 h3
  rcases hp with rfl | rfl <;> (
    have hpl := congrArg Int.toNat hcp
    simp only [Int.toNat_natCast] at hpl
    have hx2 := hx
    simp only [vP_ap, vC_ap, Nat.reduceAdd, Nat.reduceLT, Nat.add_zero, ↓reduceIte] at hx2
    refine gz_aload_n dX7_hasSun_0 rfl ?_
    refine gz_getf 3 dX7_hasSun_1 rfl rfl wf_Heliographs_39 (by decide) rfl ?_
    refine gz_getf 0 dX7_hasSun_4 rfl rfl wf_Heliographs_83 (by decide) (congrArg Value.ref hpl) ?_
    refine gz_iload_n dX7_hasSun_7 rfl ?_
    refine gv_1 (J := mX3_hasPeak) (d1 := d - 1) dX7_hasSun_8 wm_Heliographs_98 rfl jzX3_hasPeak (Nat.le_of_ble_eq_true rfl) (Nat.le_of_ble_eq_true rfl) (by omega) ⟨Nat.le_refl _, Nat.le_refl _⟩ (zs_hasPeak hp2 (by omega) h0.1) ?_
    refine zz_if_neB (tgt := 24) dX7_hasSun_11 rfl (fun b11 => ?_) (fun b11 => ?_)
    rotate_left
    · exact absurd (by simp only [decide_eq_true_eq]; omega) b11
    refine gz_iload_n dX7_hasSun_24 rfl ?_
    refine zz_if_lt (tgt := 35) dX7_hasSun_25 rfl (by omega) (fun b25 => ?_) (fun b25 => ?_)
    · exact absurd b25 (by omega)
    refine gz_iload_n dX7_hasSun_28 rfl ?_
    refine zz_sipush (x := 9999) dX7_hasSun_29 rfl ?_
    refine zz_icmp_le (tgt := 45) dX7_hasSun_32 rfl (by omega) (fun b32 => ?_) (fun b32 => ?_)
    rotate_left
    · exact absurd b32 (by omega)
    refine gz_aload_n dX7_hasSun_45 rfl ?_
    refine gz_getf 3 dX7_hasSun_46 rfl rfl wf_Heliographs_39 (by decide) rfl ?_
    refine gz_getf 0 dX7_hasSun_49 rfl rfl wf_Heliographs_83 (by decide) (congrArg Value.ref hpl) ?_
    refine gz_iload_n dX7_hasSun_52 rfl ?_
    refine gz_iload_n dX7_hasSun_53 rfl ?_
    refine gv_2 (J := mX3_isSunny) (d1 := d - 1) dX7_hasSun_54 wm_Heliographs_128 rfl jzX3_isSunny (Nat.le_of_ble_eq_true rfl) (Nat.le_of_ble_eq_true rfl) (by omega) ⟨Nat.le_refl _, Nat.le_refl _⟩ (zs_isSunny hp2 hw hx2 (by omega) (by omega)) ?_
    refine gz_ireturn dX7_hasSun_57 rfl (bI_nar _) ?_
    exact hq
  )
theorem zh_isOpen {p : Nat} {H : zV → Nat → Bool} {π σ : zV} {t o N : Int} (hS : St Z p H π σ t o N) {x m : Int} (hx : 0 ≤ x ∧ x < π 0 1) (hm : 0 ≤ m ∧ m ≤ 9999) (hd : 5 ≤ d) : zk_Does l Γ mX7_isOpen d 0 0 [.ref 320, .int (iZ x), .int (iZ m)] (zb_M Z) F (some (.int (iZ (bI (sPass π σ x.toNat m))))) (zb_M Z) F := by
  intro Q hq
  obtain ⟨hp, hcp, rfl, rfl, hw, hc0, hH, ht, ho, hN, h4⟩ := hS
  have hc := wC_nC hc0
  have hp2 := hp
  have h0 := wP_n hw
  have h3 := wC_n hc
  simp only [vP_ap, vC_ap, Nat.reduceAdd, Nat.reduceLT, Nat.add_zero, ↓reduceIte] at h0 h3
  rcases hp with rfl | rfl <;> (
    have hpl := congrArg Int.toNat hcp
    simp only [Int.toNat_natCast] at hpl
    have hx2 := hx
    simp only [vP_ap, vC_ap, Nat.reduceAdd, Nat.reduceLT, Nat.add_zero, ↓reduceIte] at hx2
    refine gz_aload_n dX7_isOpen_0 rfl ?_
    refine gz_getf 3 dX7_isOpen_1 rfl rfl wf_Heliographs_39 (by decide) rfl ?_
    refine gz_getf 0 dX7_isOpen_4 rfl rfl wf_Heliographs_83 (by decide) (congrArg Value.ref hpl) ?_
    refine gz_iload_n dX7_isOpen_7 rfl ?_
    refine gv_1 (J := mX3_hasPass) (d1 := d - 1) dX7_isOpen_8 wm_Heliographs_108 rfl jzX3_hasPass (Nat.le_of_ble_eq_true rfl) (Nat.le_of_ble_eq_true rfl) (by omega) ⟨Nat.le_refl _, Nat.le_refl _⟩ (zs_hasPass hp2 (by omega) h0.2.1) ?_
    refine zz_if_neB (tgt := 24) dX7_isOpen_11 rfl (fun b11 => ?_) (fun b11 => ?_)
    rotate_left
    · exact absurd (by simp only [decide_eq_true_eq]; omega) b11
    refine gz_iload_n dX7_isOpen_24 rfl ?_
    refine zz_if_lt (tgt := 35) dX7_isOpen_25 rfl (by omega) (fun b25 => ?_) (fun b25 => ?_)
    · exact absurd b25 (by omega)
    refine gz_iload_n dX7_isOpen_28 rfl ?_
    refine zz_sipush (x := 9999) dX7_isOpen_29 rfl ?_
    refine zz_icmp_le (tgt := 45) dX7_isOpen_32 rfl (by omega) (fun b32 => ?_) (fun b32 => ?_)
    rotate_left
    · exact absurd b32 (by omega)
    refine gz_aload_n dX7_isOpen_45 rfl ?_
    refine gz_getf 3 dX7_isOpen_46 rfl rfl wf_Heliographs_39 (by decide) rfl ?_
    refine gz_iload_n dX7_isOpen_49 rfl ?_
    refine gz_iload_n dX7_isOpen_50 rfl ?_
    refine gv_2 (J := mX0_isPassable) (d1 := d - 1) dX7_isOpen_51 wm_Heliographs_134 rfl jzX0_isPassable (Nat.le_of_ble_eq_true rfl) (Nat.le_of_ble_eq_true rfl) (by omega) ⟨Nat.le_refl _, Nat.le_refl _⟩ (zs_isPassable (Or.inl rfl) hp2 hcp hw hc hx2 (by omega) (by omega)) ?_
    refine gz_ireturn dX7_isOpen_54 rfl (bI_nar _) ?_
    exact hq
  )
end

/-! THE OBJECT: minutes, and what would be -/
section
variable {l : Launch} {Γ : zk_G} {d : Nat} {Z : Nat → Nat → Int} {F : Heap → Prop}
def zap (σ : zV) : zV := fun i j => if i < 11 then σ i j else 0
theorem zap_o (σ : zV) {i : Nat} (h : i < 11) (j : Nat) : zap σ i j = σ i j := if_pos h
theorem zap_zap (σ : zV) : zap (zap σ) = zap σ := by
  funext i j
  unfold zap
  by_cases h : i < 11
  · rw [if_pos h]
  · rw [if_neg h, if_neg h]
theorem nC_zap (Z : zV) : zap (nC Z) = nC Z := by
  funext i j
  unfold zap nC
  by_cases h : i < 11
  · rw [if_pos h]
  · rw [if_neg h, if_neg h]
theorem zap_vC (Z : zV) (c : Nat) : zap (vC Z c) = fun i j => if i < 11 then Z (c + i) j else 0 := by
  funext i j
  unfold zap vC
  by_cases h : i < 11
  · rw [if_pos h, if_pos h, if_pos (by omega)]
  · rw [if_neg h, if_neg h]
/-- the chain at c, but for what was lit -/
def cC (Z : zV) (c : Nat) : zV := fun i j => if i < 11 then Z (c + i) j else 0
theorem cC_vC (Z : zV) (c : Nat) {i : Nat} (h : i ≠ 11) (j : Nat) : vC Z c i j = cC Z c i j := by
  unfold vC cC
  by_cases e : i < 12
  · rw [if_pos e, if_pos (by omega)]
  · rw [if_neg e, if_neg (by omega)]
theorem wC_cC {π : zV} {Z : zV} {c : Nat} {N : Int} (h : wC π (cC Z c) N) : wC π (vC Z c) N := wC_11 h (fun i j hi => cC_vC Z c hi j)
theorem wC_zap {π σ : zV} {N : Int} (h : wC π σ N) : wC π (zap σ) N := h
theorem sRun_zap (π : zV) (H : zV → Nat → Bool) {σ τ : zV} (h : ∀ i, i ≠ 11 → ∀ j, σ i j = τ i j) : ∀ m, zap (sRun π H m σ) = zap (sRun π H m τ)
  | 0 => by
    funext i j
    show (if i < 11 then σ i j else 0) = (if i < 11 then τ i j else 0)
    by_cases e : i < 11
    · rw [if_pos e, if_pos e, h i (by omega) j]
    · rw [if_neg e, if_neg e]
  | m + 1 => by
    show zap (sRun π H m (sMin π H σ)) = zap (sRun π H m (sMin π H τ))
    have e : sMin π H σ = sMin π H τ := by unfold sMin; rw [sLook_eq h]
    rw [e]
theorem sRun_o (π : zV) (H : zV → Nat → Bool) {i j : Nat} (h : i = 1 ∨ i = 3 ∨ (i = 0 ∧ j ≠ 13 ∧ j ≠ 1)) : ∀ m σ, sRun π H m σ i j = σ i j
  | 0, _ => rfl
  | m + 1, σ => (sRun_o π H h m _).trans (sMin_o h)
theorem sRun_t (π : zV) (H : zV → Nat → Bool) : ∀ (m : Nat) σ, sRun π H m σ 0 1 = σ 0 1 + m
  | 0, σ => by show σ 0 1 = _; omega
  | m + 1, σ => by
    have q := sRun_t π H m (sMin π H σ)
    rw [sMin_t] at q
    show sRun π H m (sMin π H σ) 0 1 = _
    omega
theorem wC_run {π : zV} (hw : wP π) {H : zV → Nat → Bool} {N : Int} : ∀ (m : Nat) (σ : zV) (N : Int), wC π σ N → N + 9 * m ≤ 90000 → wC π (sRun π H m σ) (N + 9 * m)
  | 0, σ, N, h, _ => by rw [show N + 9 * ((0 : Nat) : Int) = N from by omega]; exact h
  | m + 1, σ, N, h, hN => by
    have q := wC_run hw (H := H) (N := N) m _ _ (wC_min hw (H := H) h (by omega)) (by omega)
    rw [show N + 9 * ((m + 1 : Nat) : Int) = N + 9 + 9 * m from by omega]
    exact q
/-- the trial chain beside it -/
def St2 (Z : zV) (p : Nat) (H : zV → Nat → Bool) (π σ : zV) (t o N : Int) (τ : zV) (N2 : Int) : Prop := St Z p H π σ t o N ∧ Z 352 0 = (p : Int) ∧ cC Z 352 = τ ∧ wC π τ N2 ∧ 0 ≤ N2
theorem cut_of_vC (Z : zV) (c : Nat) : cut (vC Z c) = vC Z c := cut_vC Z c
theorem zh_run {p : Nat} {H : zV → Nat → Bool} {π σ : zV} {t o N : Int} (hS : St Z p H π σ t o N) {m : Nat} (hm : N + 9 * m ≤ 90000) (hd : 7 ≤ d) : zk_DoesR l Γ mX0_run d [.ref 336, .int (iZ (m : Int))] Z F none (fun Z2 => St Z2 p H π (zap (sRun π H m σ)) t o (N + 9 * m)) := by
  obtain ⟨hp, hcp, rfl, rfl, hw, hc0, hH, ht, ho, hN, h4⟩ := hS
  have hc := wC_nC hc0
  have h := zw_run (l := l) (Γ := Γ) (d := d) (F := F) (Z := Z) (c := 336) (Or.inl rfl) hp hw hH (m := m) hm hN (cut_vC Z 336) hcp hc (Z1 := Z) (by rw [zW_self]; exact zeq.refl Z) hd
  refine zk_DoesR.to h (fun Z2 hz => ?_)
  have e1 := zeq_vP (Or.inl rfl) hp hz
  have e2 : vC Z2 336 = sRun (vP Z p) H m (vC Z 336) := zeq_vC (Or.inl rfl) (by
    have : ∀ (m : Nat) (σ : zV), cut σ = σ → cut (sRun (vP Z p) H m σ) = sRun (vP Z p) H m σ := by
      intro m
      induction m with
      | zero => intro σ h; exact h
      | succ m ih => intro σ h; exact ih _ (cut_min h)
    exact this m _ (cut_vC Z 336)) hz
  have e3 : nC Z2 = zap (sRun (vP Z p) H m (nC Z)) := by
    rw [← sRun_zap (vP Z p) H (fun i h j => nC_vC Z h j) m, ← e2, zap_vC]
    rfl
  have eo : ∀ a j, (a < 336 ∨ 348 ≤ a) → zscr a j = false → Z2 a j = Z a j := fun a j h1 h2 => (hz a j h2).trans (zW_no _ _ _ _ (by omega))
  refine ⟨hp, ?_, e1, e3, hw, ?_, hOr_to hp hH (fun a j h1 h2 => eo a j (by omega) h2), (eo _ _ (by decide) rfl).trans ht, (eo _ _ (by omega) (by rcases hp with rfl | rfl <;> rfl)).trans ho, by omega, fun k hk => ?_⟩
  · have q := congrFun (congrFun e3 0) 0
    rw [zap_o _ (by decide), sRun_o _ _ (by omega)] at q
    exact q.trans hcp
  · exact wC_zap (wC_run (N := N) hw m _ _ hc0 hm)
  · rw [zap_o _ (by decide), sRun_o _ _ (by omega)]
    exact h4 k hk
theorem zh_in {p : Nat} {H : zV → Nat → Bool} {π σ : zV} {t o N : Int} (hS : St Z p H π σ t o N) {y : Int} (hy : -2147483648 ≤ y ∧ y < 2147483648) : zk_Does l Γ mX0_messagesIn d 0 0 [.ref 336, .int (iZ y)] (zb_M Z) F (some (.int (iZ (sNum (sIn σ y) 0 (π 0 3).toNat)))) (zb_M Z) F := by
  obtain ⟨hp, hcp, rfl, rfl, hw, hc0, hH, ht, ho, hN, h4⟩ := hS
  exact zs_messagesIn (Or.inl rfl) hp hcp hw (wC_nC hc0) hy
theorem zt_run {p : Nat} {H : zV → Nat → Bool} {π σ τ : zV} {t o N N2 : Int} (hS : St2 Z p H π σ t o N τ N2) {m : Nat} (hm : N2 + 9 * m ≤ 90000) (hd : 7 ≤ d) : zk_DoesR l Γ mX0_run d [.ref 352, .int (iZ (m : Int))] Z F none (fun Z2 => St2 Z2 p H π σ t o N (zap (sRun π H m τ)) (N2 + 9 * m)) := by
  have hSS := hS.1
  obtain ⟨⟨hp, hcp, rfl, rfl, hw, hc0, hH, ht, ho, hN, h4⟩, htp, rfl, ht0, hN2⟩ := hS
  have hc := wC_cC ht0
  have h := zw_run (l := l) (Γ := Γ) (d := d) (F := F) (Z := Z) (c := 352) (Or.inr rfl) hp hw hH (m := m) hm hN2 (cut_vC Z 352) htp hc (Z1 := Z) (by rw [zW_self]; exact zeq.refl Z) hd
  refine zk_DoesR.to h (fun Z2 hz => ?_)
  have e2 : vC Z2 352 = sRun (vP Z p) H m (vC Z 352) := zeq_vC (Or.inr rfl) (by
    have : ∀ (m : Nat) (σ : zV), cut σ = σ → cut (sRun (vP Z p) H m σ) = sRun (vP Z p) H m σ := by
      intro m
      induction m with
      | zero => intro σ h; exact h
      | succ m ih => intro σ h; exact ih _ (cut_min h)
    exact this m _ (cut_vC Z 352)) hz
  have e3 : cC Z2 352 = zap (sRun (vP Z p) H m (cC Z 352)) := by
    rw [← sRun_zap (vP Z p) H (fun i h j => cC_vC Z 352 h j) m, ← e2, zap_vC]
    rfl
  refine ⟨St_o hSS (fun a j h1 h2 h3 => (hz a j h3).trans (zW_no _ _ _ _ ?_)), ?_, e3, ?_, by omega⟩
  · rcases h2 with h2 | h2
    · omega
    · omega
  · have q := congrFun (congrFun e3 0) 0
    rw [zap_o _ (by decide), sRun_o _ _ (by omega)] at q
    exact q.trans htp
  · exact wC_zap (wC_run (N := N) hw m _ _ ht0 hm)
theorem zt_in {p : Nat} {H : zV → Nat → Bool} {π σ τ : zV} {t o N N2 : Int} (hS : St2 Z p H π σ t o N τ N2) {y : Int} (hy : -2147483648 ≤ y ∧ y < 2147483648) : zk_Does l Γ mX0_messagesIn d 0 0 [.ref 352, .int (iZ y)] (zb_M Z) F (some (.int (iZ (sNum (sIn τ y) 0 (π 0 3).toNat)))) (zb_M Z) F := by
  obtain ⟨⟨hp, hcp, rfl, rfl, hw, hc0, hH, ht, ho, hN, h4⟩, htp, rfl, ht0, hN2⟩ := hS
  exact zs_messagesIn (Or.inr rfl) hp htp hw (wC_cC ht0) hy
theorem zt_tally {p : Nat} {H : zV → Nat → Bool} {π σ τ : zV} {t o N N2 : Int} (hS : St2 Z p H π σ t o N τ N2) {y : Int} (hy : 8 ≤ y ∧ y ≤ 12) (hd : 1 ≤ d) : zk_Does l Γ mX0_tally d 0 0 [.ref 352, .int (iZ y)] (zb_M Z) F (some (.int (iZ (sTally π τ y)))) (zb_M Z) F := by
  obtain ⟨⟨hp, hcp, rfl, rfl, hw, hc0, hH, ht, ho, hN, h4⟩, htp, rfl, ht0, hN2⟩ := hS
  exact zs_tally (Or.inr rfl) hp htp hw (wC_cC ht0) hy hd
theorem St2_cp {p : Nat} {H : zV → Nat → Bool} {π σ : zV} {t o N : Int} (hS : St Z p H π σ t o N) : St2 (zCp Z) p H π σ t o N σ N := by
  have hSS := hS
  obtain ⟨hp, hcp, rfl, rfl, hw, hc0, hH, ht, ho, hN, h4⟩ := hS
  refine ⟨St_o hSS (fun a j h1 h2 h3 => if_neg (by omega)), hcp, ?_, hc0, hN⟩
  funext i j
  unfold cC nC zCp
  by_cases h : i < 11
  · rw [if_pos h, if_pos h, if_pos (by omega), show 352 + i - 16 = 336 + i from by omega]
  · rw [if_neg h, if_neg h]
theorem zh_go {p : Nat} {H : zV → Nat → Bool} {π σ : zV} {t o N : Int} (hS : St Z p H π σ t o N) {m : Nat} (hm2 : 1 ≤ m ∧ m ≤ 240) (hm : N + 9 * m ≤ 90000) (hd : 8 ≤ d) : zk_DoesR l Γ mX7_go d [.ref 320, .int (iZ (m : Int))] Z F (some (.int (iZ (sNum (sIn (zap (sRun π H m σ)) 2) 0 (π 0 3).toNat - sNum (sIn σ 2) 0 (π 0 3).toNat)))) (fun Z2 => St Z2 p H π (zap (sRun π H m σ)) t o (N + 9 * m)) := by
  intro Q hq
  refine gz_iload_n dX7_go_0 rfl ?_
  refine zz_iconst dX7_go_1 ?_
  refine zz_icmp_lt (tgt := 12) dX7_go_2 rfl (by omega) (fun b2 => ?_) (fun b2 => ?_)
  · exact absurd b2 (by omega)
  refine gz_iload_n dX7_go_5 rfl ?_
  refine zz_sipush (x := 240) dX7_go_6 rfl ?_
  refine zz_icmp_le (tgt := 22) dX7_go_9 rfl (by omega) (fun b9 => ?_) (fun b9 => ?_)
  rotate_left
  · exact absurd b9 (by omega)
  refine gz_aload_n dX7_go_22 rfl ?_
  refine gz_getf 3 dX7_go_23 rfl rfl wf_Heliographs_39 (by decide) rfl ?_
  refine zz_iconst dX7_go_26 ?_
  refine gv_1 (J := mX0_messagesIn) (d1 := d - 1) dX7_go_27 wm_Heliographs_190 rfl jzX0_messagesIn (Nat.le_of_ble_eq_true rfl) (Nat.le_of_ble_eq_true rfl) (by omega) ⟨Nat.le_refl _, Nat.le_refl _⟩ (zh_in hS (by omega)) ?_
  refine gz_istore_n dX7_go_30 (Nat.le_of_ble_eq_true rfl) rfl ?_
  refine gz_aload_n dX7_go_31 rfl ?_
  refine gz_getf 3 dX7_go_32 rfl rfl wf_Heliographs_39 (by decide) rfl ?_
  refine gz_iload_n dX7_go_35 rfl ?_
  refine gq_1 (J := mX0_run) (d1 := d - 1) dX7_go_36 wm_Heliographs_193 rfl jzX0_run (Nat.le_of_ble_eq_true rfl) (Nat.le_of_ble_eq_true rfl) (by omega) (zh_run hS hm (by omega)) (fun Z36 hZ36 => ?_)
  refine gz_aload_n dX7_go_39 rfl ?_
  refine gz_getf 3 dX7_go_40 rfl rfl wf_Heliographs_39 (by decide) rfl ?_
  refine zz_iconst dX7_go_43 ?_
  refine gv_1 (J := mX0_messagesIn) (d1 := d - 1) dX7_go_44 wm_Heliographs_190 rfl jzX0_messagesIn (Nat.le_of_ble_eq_true rfl) (Nat.le_of_ble_eq_true rfl) (by omega) ⟨Nat.le_refl _, Nat.le_refl _⟩ (zh_in hZ36 (by omega)) ?_
  refine gz_iload_n dX7_go_47 rfl ?_
  refine zz_isub dX7_go_48 ?_
  refine gz_ireturn dX7_go_49 rfl rfl ?_
  exact hq Z36 hZ36
theorem zh_foresee {p : Nat} {H : zV → Nat → Bool} {π σ : zV} {t o N : Int} (hS : St Z p H π σ t o N) {m : Nat} (hm2 : 1 ≤ m ∧ m ≤ 240) (hm : N + 9 * m ≤ 90000) {y : Int} (hy : 8 ≤ y ∧ y ≤ 12) (hd : 8 ≤ d) : zk_DoesR l Γ mX7_foresee d [.ref 320, .int (iZ (m : Int)), .int (iZ y)] Z F (some (.int (iZ (sTally π (zap (sRun π H m σ)) y)))) (fun Z2 => St Z2 p H π σ t o N) := by
  intro Q hq
  refine gz_iload_n dX7_foresee_0 rfl ?_
  refine zz_iconst dX7_foresee_1 ?_
  refine zz_icmp_lt (tgt := 12) dX7_foresee_2 rfl (by omega) (fun b2 => ?_) (fun b2 => ?_)
  · exact absurd b2 (by omega)
  refine gz_iload_n dX7_foresee_5 rfl ?_
  refine zz_sipush (x := 240) dX7_foresee_6 rfl ?_
  refine zz_icmp_le (tgt := 22) dX7_foresee_9 rfl (by omega) (fun b9 => ?_) (fun b9 => ?_)
  rotate_left
  · exact absurd b9 (by omega)
  refine gz_iload_n dX7_foresee_22 rfl ?_
  refine zz_bipush (x := 8) dX7_foresee_23 rfl ?_
  refine zz_icmp_lt (tgt := 34) dX7_foresee_25 rfl (by omega) (fun b25 => ?_) (fun b25 => ?_)
  · exact absurd b25 (by omega)
  refine gz_iload_n dX7_foresee_28 rfl ?_
  refine zz_bipush (x := 12) dX7_foresee_29 rfl ?_
  refine zz_icmp_le (tgt := 44) dX7_foresee_31 rfl (by omega) (fun b31 => ?_) (fun b31 => ?_)
  rotate_left
  · exact absurd b31 (by omega)
  refine gz_aload_n dX7_foresee_44 rfl ?_
  refine gz_getf 4 dX7_foresee_45 rfl rfl wf_Heliographs_43 (by decide) rfl ?_
  refine gz_aload_n dX7_foresee_48 rfl ?_
  refine gz_getf 3 dX7_foresee_49 rfl rfl wf_Heliographs_39 (by decide) rfl ?_
  refine gv_1 (J := mX0_copy) (d1 := d - 1) dX7_foresee_52 wm_Heliographs_196 rfl jzX0_copy (Nat.le_of_ble_eq_true rfl) (Nat.le_of_ble_eq_true rfl) (by omega) ⟨Nat.le_refl _, Nat.le_refl _⟩ (zs_copy (by omega)) ?_
  refine gz_aload_n dX7_foresee_55 rfl ?_
  refine gz_getf 4 dX7_foresee_56 rfl rfl wf_Heliographs_43 (by decide) rfl ?_
  refine gz_iload_n dX7_foresee_59 rfl ?_
  refine gq_1 (J := mX0_run) (d1 := d - 1) dX7_foresee_60 wm_Heliographs_193 rfl jzX0_run (Nat.le_of_ble_eq_true rfl) (Nat.le_of_ble_eq_true rfl) (by omega) (zt_run (St2_cp hS) hm (by omega)) (fun Z60 hZ60 => ?_)
  refine gz_aload_n dX7_foresee_63 rfl ?_
  refine gz_getf 4 dX7_foresee_64 rfl rfl wf_Heliographs_43 (by decide) rfl ?_
  refine gz_iload_n dX7_foresee_67 rfl ?_
  refine gv_1 (J := mX0_tally) (d1 := d - 1) dX7_foresee_68 wm_Heliographs_205 rfl jzX0_tally (Nat.le_of_ble_eq_true rfl) (Nat.le_of_ble_eq_true rfl) (by omega) ⟨Nat.le_refl _, Nat.le_refl _⟩ (zt_tally hZ60 hy (by omega)) ?_
  refine gz_ireturn dX7_foresee_71 rfl rfl ?_
  exact hq Z60 hZ60.1
end

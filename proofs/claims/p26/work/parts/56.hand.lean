/-! THE OBJECT: by hand -/
section
variable {l : Launch} {Γ : zk_G} {d : Nat} {Z : Nat → Nat → Int} {F : Heap → Prop}
theorem St_W {Z : zV} {p : Nat} {H : zV → Nat → Bool} {π σ τ τ2 : zV} {t o N N2 : Int} (hS : St Z p H π σ t o N) (h0 : τ 0 0 = (p : Int)) (hw2 : wC π τ N2) (h4 : ∀ k : Nat, (k : Int) < π 0 0 → τ 1 k ≤ 4) (hN : 0 ≤ N2) (e : zap τ = τ2) : St (zW Z 336 τ) p H π τ2 t o N2 := by
  obtain ⟨hp, hcp, h1, h2, hw, hc0, hH, ht, ho, hN1, -⟩ := hS
  subst e
  refine ⟨hp, (zW_c0 Z 336 τ 0 0 (by decide)).trans h0, (vP_W _ _ _ _ (by omega)).trans h1, ?_, hw, wC_zap hw2, hOr_to hp hH (fun a j h1 h2 => zW_no _ _ _ _ (by omega)), (zW_no _ _ _ _ (by decide)).trans ht, (zW_no _ _ _ _ (by omega)).trans ho, hN, fun k hk => h4 k hk⟩
  funext i j
  unfold nC zap
  by_cases hi : i < 11
  · rw [if_pos hi, if_pos hi, zW_c0 _ _ _ _ _ (by omega)]
  · rw [if_neg hi, if_neg hi]
theorem zb_u_11 {σ τ : zV} (h : ∀ i, i ≠ 11 → ∀ j, σ i j = τ i j) (a b : Nat) {z y : Int} (e : z = y) : ∀ i, i ≠ 11 → ∀ j, zb_u σ a b z i j = zb_u τ a b y i j := by
  intro i hi j
  unfold zb_u
  rw [h i hi j, e]
theorem zap_11 {σ τ : zV} (h : ∀ i, i ≠ 11 → ∀ j, σ i j = τ i j) : zap σ = zap τ := by
  funext i j
  unfold zap
  by_cases hi : i < 11
  · rw [if_pos hi, if_pos hi, h i (by omega) j]
  · rw [if_neg hi, if_neg hi]
theorem zap_u {σ : zV} (h : zap σ = σ) {a : Nat} (ha : a < 11) (b : Nat) (z : Int) : zap (zb_u σ a b z) = zb_u σ a b z := by
  funext i j
  have q := congrFun (congrFun h i) j
  unfold zap zb_u at *
  by_cases hi : i < 11
  · rw [if_pos hi]
  · rw [if_neg hi] at q ⊢
    rw [if_neg (by omega)]
    exact q
theorem wC_break {π σ : zV} {N : Int} (hw : wP π) (h : wC π σ N) (hz : zap σ = σ) {k : Nat} (hk : (k : Int) < π 0 3) (hs : σ 4 k = 1) (hN : N + 1 ≤ 90000) : wC π (sBreak π σ k) (N + 1) := by
  have q := wC_flash hw h hk hN
  have e : sFlash π σ k = sBreak π σ k := by
    unfold sFlash
    have e11 : ∀ j, σ 11 j = 0 := fun j => by rw [← hz]; exact if_neg (by decide)
    rw [if_pos hs, if_neg (fun q => q (e11 _))]
  rw [e] at q
  exact q
theorem sBreak_11 (π : zV) {σ τ : zV} (h : ∀ i, i ≠ 11 → ∀ j, σ i j = τ i j) (k : Nat) : ∀ i, i ≠ 11 → ∀ j, sBreak π σ k i j = sBreak π τ k i j := by
  unfold sBreak sWait
  exact zb_u_11 (zb_u_11 (zb_u_11 (zb_u_11 h 8 k (by rw [h 8 (by decide) k])) 4 k rfl) 7 k rfl) 5 k rfl
theorem zap_break {π σ : zV} (h : zap σ = σ) (k : Nat) : zap (sBreak π σ k) = sBreak π σ k := by
  unfold sBreak sWait
  exact zap_u (zap_u (zap_u (zap_u h (by decide) _ _) (by decide) _ _) (by decide) _ _) (by decide) _ _
/-- forwarded -/
def sForw (π σ : zV) (k : Nat) (x : Int) : zV := sWait π (zb_u (zb_u σ 3 k x) 6 k (-1)) k
theorem sForw_11 (π : zV) {σ τ : zV} (h : ∀ i, i ≠ 11 → ∀ j, σ i j = τ i j) (k : Nat) (x : Int) : ∀ i, i ≠ 11 → ∀ j, sForw π σ k x i j = sForw π τ k x i j := by
  unfold sForw sWait
  exact zb_u_11 (zb_u_11 (zb_u_11 (zb_u_11 (zb_u_11 h 3 k rfl) 6 k rfl) 4 k rfl) 7 k rfl) 5 k rfl
theorem zap_forw {π σ : zV} (h : zap σ = σ) (k : Nat) (x : Int) : zap (sForw π σ k x) = sForw π σ k x := by
  unfold sForw sWait
  exact zap_u (zap_u (zap_u (zap_u (zap_u h (by decide) _ _) (by decide) _ _) (by decide) _ _) (by decide) _ _) (by decide) _ _
theorem wC_forw {π σ : zV} {N : Int} (hw : wP π) (h : wC π σ N) {k : Nat} (hk : (k : Int) < π 0 3) {x : Int} (hx : 0 ≤ x ∧ x < π 0 0) : wC π (sForw π σ k x) N := by
  have hn := wC_n h
  have hm := wC_m h hk
  have h5 := wP_m hw hk
  have o : ∀ i j, j ≠ k ∨ i < 3 ∨ 8 ≤ i → sForw π σ k x i j = σ i j := fun i j q => by
    unfold sForw sWait
    repeat' (first | rfl | rw [zb_u_no _ _ (by omega)])
  refine wC_to h k (Int.le_refl _) (by omega) (by rw [o _ _ (by omega)]; exact hn.1) (o _ _ (by omega)) (by rw [o _ _ (by omega)]; exact hn.2.2.1) (fun x => o _ _ (by omega)) (fun i j h1 h2 h3 => o _ _ (by omega)) (fun _ => ?_) (fun w hw2 => by rw [o _ _ (by omega)]; exact wC_w h hw2)
  unfold sForw sWait
  unfold wM at hm ⊢
  simp (decide := true) only [zb_u, false_and, and_false, true_and, and_true, and_self, if_false, ↓reduceIte]
  omega
theorem zh_stop {p : Nat} {H : zV → Nat → Bool} {π σ : zV} {t o N : Int} (hS : St Z p H π σ t o N) {x : Nat} (hx : (x : Int) < π 0 3) (hs : σ 4 x = 1) (hN9 : N + 1 ≤ 90000) (hd : 4 ≤ d) : zk_DoesR l Γ mX7_stop d [.ref 320, .int (iZ (x : Int))] Z F (some (.int (iZ (σ 5 x)))) (fun Z2 => St Z2 p H π (sBreak π σ x) t o (N + 1)) := by
  intro Q hq
  have hS2 := hS
  obtain ⟨hp, hcp, rfl, rfl, hw, hc0, hH, ht, ho, hN, h4⟩ := hS
  have hc := wC_nC hc0
  have hp2 := hp
  have h0 := wP_n hw
  have h3 := wC_n hc
  simp only [vP_ap, vC_ap, Nat.reduceAdd, Nat.reduceLT, Nat.add_zero, ↓reduceIte] at h0 h3
  have hbr := zs_breakOff (l := l) (Γ := Γ) (d := d - 1) (F := F) (Z := Z) (Or.inl rfl) hp hcp hw (k := x) (by exact hx) (by omega)
  have hfin : St (zW Z 336 (sBreak (vP Z p) (vC Z 336) x)) p H (vP Z p) (sBreak (vP Z p) (nC Z) x) t o (N + 1) := by
    refine St_W hS2 ?_ (wC_11 (wC_break hw hc0 (nC_zap Z) hx hs hN9) (fun i j h => sBreak_11 _ (fun i h j => nC_vC Z h j) x i h j)) (fun k hk => ?_) (by omega) ?_
    · exact (sBreak_11 _ (fun i h j => nC_vC Z h j) x 0 (by decide) 0).trans hcp
    · rw [sBreak_11 _ (fun i h j => nC_vC Z h j) x 1 (by decide) k]
      exact h4 k hk
    · rw [zap_11 (sBreak_11 _ (fun i h j => nC_vC Z h j) x), zap_break (nC_zap Z)]
  rcases hp with rfl | rfl <;> (
    have hpl := congrArg Int.toNat hcp
    simp only [Int.toNat_natCast] at hpl
    have hx2 := hx
    simp only [vP_ap, vC_ap, Nat.reduceAdd, Nat.reduceLT, Nat.add_zero, ↓reduceIte] at hx2
    refine gz_aload_n dX7_stop_0 rfl ?_
    refine gz_getf 3 dX7_stop_1 rfl rfl wf_Heliographs_39 (by decide) rfl ?_
    refine gz_getf 0 dX7_stop_4 rfl rfl wf_Heliographs_83 (by decide) (congrArg Value.ref hpl) ?_
    refine gz_iload_n dX7_stop_7 rfl ?_
    refine gv_1 (J := mX3_hasMessage) (d1 := d - 1) dX7_stop_8 wm_Heliographs_116 rfl jzX3_hasMessage (Nat.le_of_ble_eq_true rfl) (Nat.le_of_ble_eq_true rfl) (by omega) ⟨Nat.le_refl _, Nat.le_refl _⟩ (zs_hasMessage hp2 (by omega) h0.2.2.2) ?_
    refine zz_if_neB (tgt := 24) dX7_stop_11 rfl (fun b11 => ?_) (fun b11 => ?_)
    rotate_left
    · exact absurd (by simp only [decide_eq_true_eq]; omega) b11
    refine gz_aload_n dX7_stop_24 rfl ?_
    refine gz_getf 3 dX7_stop_25 rfl rfl wf_Heliographs_39 (by decide) rfl ?_
    refine gz_getf 6 dX7_stop_28 rfl rfl wf_Heliographs_159 (by decide) rfl ?_
    refine gz_iload_n dX7_stop_31 rfl ?_
    refine gz_iald (v := .int (iZ ((1 : Int)))) (n := x) dX7_stop_32 rfl rfl (by omega) (zv_i hs) ?_
    refine zz_iconst dX7_stop_33 ?_
    refine zz_icmp_eq (tgt := 47) dX7_stop_34 rfl (by omega) (fun b34 => ?_) (fun b34 => ?_)
    rotate_left
    · exact absurd b34 (by omega)
    refine gz_aload_n dX7_stop_47 rfl ?_
    refine gz_getf 3 dX7_stop_48 rfl rfl wf_Heliographs_39 (by decide) rfl ?_
    refine gz_getf 7 dX7_stop_51 rfl rfl wf_Heliographs_164 (by decide) rfl ?_
    refine gz_iload_n dX7_stop_54 rfl ?_
    refine gz_iald (n := x) dX7_stop_55 rfl rfl (by omega) rfl ?_
    refine gz_istore_n dX7_stop_56 (Nat.le_of_ble_eq_true rfl) rfl ?_
    refine gz_aload_n dX7_stop_57 rfl ?_
    refine gz_getf 3 dX7_stop_58 rfl rfl wf_Heliographs_39 (by decide) rfl ?_
    refine gz_iload_n dX7_stop_61 rfl ?_
    refine gv_1 (J := mX0_breakOff) (d1 := d - 1) dX7_stop_62 wm_Heliographs_167 rfl jzX0_breakOff (Nat.le_of_ble_eq_true rfl) (Nat.le_of_ble_eq_true rfl) (by omega) ⟨Nat.le_refl _, Nat.le_refl _⟩ (hbr) ?_
    refine gz_iload_n dX7_stop_65 rfl ?_
    refine gz_ireturn dX7_stop_66 rfl rfl ?_
    exact hq _ hfin
  )
theorem zh_forward {p : Nat} {H : zV → Nat → Bool} {π σ : zV} {t o N : Int} (hS : St Z p H π σ t o N) {x : Nat} (hx : (x : Int) < π 0 3) {y : Int} (hy : 0 ≤ y ∧ y < π 0 0) (hs : σ 4 x = 2) (hne : σ 2 x ≠ y) (hd : 4 ≤ d) : zk_DoesR l Γ mX7_forward d [.ref 320, .int (iZ (x : Int)), .int (iZ y)] Z F (some (.int (iZ (σ 2 x)))) (fun Z2 => St Z2 p H π (sForw π σ x y) t o N) := by
  intro Q hq
  have hS2 := hS
  obtain ⟨hp, hcp, rfl, rfl, hw, hc0, hH, ht, ho, hN, h4⟩ := hS
  have hc := wC_nC hc0
  have hp2 := hp
  have h0 := wP_n hw
  have h3 := wC_n hc
  simp only [vP_ap, vC_ap, Nat.reduceAdd, Nat.reduceLT, Nat.add_zero, ↓reduceIte] at h0 h3
  have hm8 := wC_m hc0 hx
  obtain ⟨pe, hpe⟩ : ∃ z, Z 338 x = z := ⟨_, rfl⟩
  have hpe2 : nC Z 2 x = pe := hpe
  have hpb : 0 ≤ pe ∧ pe < vP Z p 0 0 := by rw [← hpe2]; exact hm8.1
  have hne2 : pe ≠ y := fun q => hne (hpe2.trans q)
  rw [hpe2] at hq
  have hfin : St (zb_u (zb_u (zb_u (zb_u (zb_u Z 339 x y) 342 x (-1)) 340 x 0) 343 x (-1)) 341 x (zb_u (zb_u Z 339 x y) 342 x (-1) (p + 7) x)) p H (vP Z p) (sForw (vP Z p) (nC Z) x y) t o N := by
    have e7 : zb_u (zb_u Z 339 x y) 342 x (-1) (p + 7) x = vP Z p 7 x := (zb_u_a _ _ (by omega)).trans (zb_u_a _ _ (by omega))
    have eW : zb_u (zb_u (zb_u (zb_u (zb_u Z 339 x y) 342 x (-1)) 340 x 0) 343 x (-1)) 341 x (zb_u (zb_u Z 339 x y) 342 x (-1) (p + 7) x) = zW Z 336 (sForw (vP Z p) (vC Z 336) x y) := by
      rw [e7]
      unfold sForw sWait
      rw [← zW_u _ _ _ _ _ _ (by decide), ← zW_u _ _ _ _ _ _ (by decide), ← zW_u _ _ _ _ _ _ (by decide), ← zW_u _ _ _ _ _ _ (by decide), ← zW_u _ _ _ _ _ _ (by decide), zW_self]
    rw [eW]
    refine St_W hS2 ?_ (wC_11 (wC_forw hw hc0 hx hy) (fun i j h => sForw_11 _ (fun i h j => nC_vC Z h j) x y i h j)) (fun k hk => ?_) (by omega) ?_
    · exact (sForw_11 _ (fun i h j => nC_vC Z h j) x y 0 (by decide) 0).trans hcp
    · rw [sForw_11 _ (fun i h j => nC_vC Z h j) x y 1 (by decide) k]
      exact h4 k hk
    · rw [zap_11 (sForw_11 _ (fun i h j => nC_vC Z h j) x y), zap_forw (nC_zap Z)]
  rcases hp with rfl | rfl <;> (
    have hpl := congrArg Int.toNat hcp
    simp only [Int.toNat_natCast] at hpl
    have hx2 := hx
    have hy2 := hy
    simp only [vP_ap, vC_ap, Nat.reduceAdd, Nat.reduceLT, Nat.add_zero, ↓reduceIte] at hx2 hy2 hpb
    refine gz_aload_n dX7_forward_0 rfl ?_
    refine gz_getf 3 dX7_forward_1 rfl rfl wf_Heliographs_39 (by decide) rfl ?_
    refine gz_getf 0 dX7_forward_4 rfl rfl wf_Heliographs_83 (by decide) (congrArg Value.ref hpl) ?_
    refine gz_iload_n dX7_forward_7 rfl ?_
    refine gv_1 (J := mX3_hasMessage) (d1 := d - 1) dX7_forward_8 wm_Heliographs_116 rfl jzX3_hasMessage (Nat.le_of_ble_eq_true rfl) (Nat.le_of_ble_eq_true rfl) (by omega) ⟨Nat.le_refl _, Nat.le_refl _⟩ (zs_hasMessage hp2 (by omega) h0.2.2.2) ?_
    refine zz_if_eqB (tgt := 28) dX7_forward_11 rfl (fun b11 => ?_) (fun b11 => ?_)
    · exact absurd (by simp only [decide_eq_true_eq]; omega) b11
    refine gz_aload_n dX7_forward_14 rfl ?_
    refine gz_getf 3 dX7_forward_15 rfl rfl wf_Heliographs_39 (by decide) rfl ?_
    refine gz_getf 0 dX7_forward_18 rfl rfl wf_Heliographs_83 (by decide) (congrArg Value.ref hpl) ?_
    refine gz_iload_n dX7_forward_21 rfl ?_
    refine gv_1 (J := mX3_hasPeak) (d1 := d - 1) dX7_forward_22 wm_Heliographs_98 rfl jzX3_hasPeak (Nat.le_of_ble_eq_true rfl) (Nat.le_of_ble_eq_true rfl) (by omega) ⟨Nat.le_refl _, Nat.le_refl _⟩ (zs_hasPeak hp2 (by omega) h0.1) ?_
    refine zz_if_neB (tgt := 38) dX7_forward_25 rfl (fun b25 => ?_) (fun b25 => ?_)
    rotate_left
    · exact absurd (by simp only [decide_eq_true_eq]; omega) b25
    refine gz_aload_n dX7_forward_38 rfl ?_
    refine gz_getf 3 dX7_forward_39 rfl rfl wf_Heliographs_39 (by decide) rfl ?_
    refine gz_getf 4 dX7_forward_42 rfl rfl wf_Heliographs_172 (by decide) rfl ?_
    refine gz_iload_n dX7_forward_45 rfl ?_
    refine gz_iald (v := .int (iZ (pe))) (n := x) dX7_forward_46 rfl rfl (by omega) (zv_i hpe) ?_
    refine gz_iload_n dX7_forward_47 rfl ?_
    refine zz_icmp_ne (tgt := 61) dX7_forward_48 rfl (by omega) (fun b48 => ?_) (fun b48 => ?_)
    rotate_left
    · exact absurd b48 (by omega)
    refine gz_aload_n dX7_forward_61 rfl ?_
    refine gz_getf 3 dX7_forward_62 rfl rfl wf_Heliographs_39 (by decide) rfl ?_
    refine gz_getf 6 dX7_forward_65 rfl rfl wf_Heliographs_159 (by decide) rfl ?_
    refine gz_iload_n dX7_forward_68 rfl ?_
    refine gz_iald (v := .int (iZ ((2 : Int)))) (n := x) dX7_forward_69 rfl rfl (by omega) (zv_i hs) ?_
    refine zz_iconst dX7_forward_70 ?_
    refine zz_icmp_eq (tgt := 84) dX7_forward_71 rfl (by omega) (fun b71 => ?_) (fun b71 => ?_)
    rotate_left
    · exact absurd b71 (by omega)
    refine gz_aload_n dX7_forward_84 rfl ?_
    refine gz_getf 3 dX7_forward_85 rfl rfl wf_Heliographs_39 (by decide) rfl ?_
    refine gz_getf 5 dX7_forward_88 rfl rfl wf_Heliographs_179 (by decide) rfl ?_
    refine gz_iload_n dX7_forward_91 rfl ?_
    refine gz_iload_n dX7_forward_92 rfl ?_
    refine zc_iast (n := x) dX7_forward_93 rfl (by decide) rfl (by omega) rfl ?_
    refine gz_aload_n dX7_forward_94 rfl ?_
    refine gz_getf 3 dX7_forward_95 rfl rfl wf_Heliographs_39 (by decide) rfl ?_
    refine gz_getf 8 dX7_forward_98 rfl rfl wf_Heliographs_182 (by decide) rfl ?_
    refine gz_iload_n dX7_forward_101 rfl ?_
    refine zz_iconst dX7_forward_102 ?_
    refine zc_iast (n := x) dX7_forward_103 rfl (by decide) rfl (by omega) rfl ?_
    refine gz_aload_n dX7_forward_104 rfl ?_
    refine gz_getf 3 dX7_forward_105 rfl rfl wf_Heliographs_39 (by decide) rfl ?_
    refine gz_iload_n dX7_forward_108 rfl ?_
    refine gv_1 (J := mX0_letWait) (d1 := d - 1) dX7_forward_109 wm_Heliographs_185 rfl jzX0_letWait (Nat.le_of_ble_eq_true rfl) (Nat.le_of_ble_eq_true rfl) (by omega) ⟨Nat.le_refl _, Nat.le_refl _⟩ (zs_letWait8 (Or.inl rfl) hp2 (by exact hcp) (by omega)) ?_
    refine gz_aload_n dX7_forward_112 rfl ?_
    refine gz_getf 3 dX7_forward_113 rfl rfl wf_Heliographs_39 (by decide) rfl ?_
    refine gz_getf 4 dX7_forward_116 rfl rfl wf_Heliographs_172 (by decide) rfl ?_
    refine gz_iload_n dX7_forward_119 rfl ?_
    refine gz_iald (v := .int (iZ (pe))) (n := x) dX7_forward_120 rfl rfl (by omega) (zv_i ((zb_u_a _ _ (by decide)).trans ((zb_u_a _ _ (by decide)).trans ((zb_u_a _ _ (by decide)).trans ((zb_u_a _ _ (by decide)).trans ((zb_u_a _ _ (by decide)).trans hpe)))))) ?_
    refine gz_ireturn dX7_forward_121 rfl rfl ?_
    exact hq _ hfin
  )
def sMir (σ : zV) (k : Nat) (b : Bool) : zV := zb_u σ 1 k (σ 1 k + if b = true then 1 else -1)
theorem zh_mirror {p : Nat} {H : zV → Nat → Bool} {π σ : zV} {t o N : Int} (hS : St Z p H π σ t o N) {x : Nat} {b : Bool} (hx : (x : Int) < π 0 0) (hcan : if b = true then σ 1 x < 4 else 0 < sFree π σ (x : Int)) (hd : 4 ≤ d) : zk_DoesR l Γ mX7_mirror d [.ref 320, .int (iZ (x : Int)), .int (iZ (bI b))] Z F (some (.int (iZ (sMir σ x b 1 x)))) (fun Z2 => St Z2 p H π (sMir σ x b) t o N) := by
  intro Q hq
  have hS2 := hS
  obtain ⟨hp, hcp, rfl, rfl, hw, hc0, hH, ht, ho, hN, h4⟩ := hS
  have hc := wC_nC hc0
  have hp2 := hp
  have h0 := wP_n hw
  have h3 := wC_n hc
  simp only [vP_ap, vC_ap, Nat.reduceAdd, Nat.reduceLT, Nat.add_zero, ↓reduceIte] at h0 h3
  have hk5 := wC_k hc0 hx
  have h44 := h4 x hx
  obtain ⟨mi, hmi⟩ : ∃ z, Z 337 x = z := ⟨_, rfl⟩
  have hmi2 : nC Z 1 x = mi := hmi
  rw [hmi2] at hk5 h44 hcan
  obtain ⟨fr, hfr⟩ : ∃ z, sFree (vP Z p) (vC Z 336) (x : Int) = z := ⟨_, rfl⟩
  have hfr2 : sFree (vP Z p) (nC Z) (x : Int) = fr := hfr
  rw [hfr2] at hcan
  have hfr3 : mi - 8 ≤ fr ∧ fr ≤ mi := by
    have n1 := sNum_bd (sAt (nC Z) (x : Int) 1) (vP Z p 0 3).toNat 0
    have n2 := wP_n hw
    have e : sFree (vP Z p) (nC Z) (x : Int) = nC Z 1 x - sNum (sAt (nC Z) (x : Int) 1) 0 (vP Z p 0 3).toNat := rfl
    rw [hfr2, hmi2] at e
    omega
  have hct : b = true → mi < 4 := fun q => by rw [if_pos q] at hcan; exact hcan
  have hcf : ¬ b = true → 0 < fr := fun q => by rw [if_neg q] at hcan; exact hcan
  have hfin : ∀ v : Int, 0 ≤ v ∧ v ≤ 4 → St (zb_u Z 337 x v) p H (vP Z p) (zb_u (nC Z) 1 x v) t o N := by
    intro v hv
    have eW : zb_u Z 337 x v = zW Z 336 (zb_u (vC Z 336) 1 x v) := by rw [← zW_u _ _ _ _ _ _ (by decide), zW_self]
    rw [eW]
    have e11 := zb_u_11 (σ := vC Z 336) (τ := nC Z) (fun i h j => nC_vC Z h j) 1 x (rfl : v = v)
    refine St_W hS2 ?_ (wC_11 (wC_mir hc0 (k := x) (z := v) (by omega)) (fun i j h => e11 i h j)) (fun k hk => ?_) hN ?_
    · exact (e11 0 (by decide) 0).trans hcp
    · rw [e11 1 (by decide) k]
      by_cases q : k = x
      · rw [q, zb_u_at]; omega
      · rw [zb_u_j _ _ q]; exact h4 k hk
    · rw [zap_11 e11, zap_u (nC_zap Z) (by decide)]
  have hfin1 : b = true → Q (some (.int (iZ (zb_u Z 337 x (mi + 1) 337 x)))) (zb_M (zb_u Z 337 x (mi + 1))) F := fun q => by
    rw [if_pos q] at hcan
    have e : sMir (nC Z) x b = zb_u (nC Z) 1 x (mi + 1) := by unfold sMir; rw [if_pos q, hmi2]
    rw [e] at hq
    have r := hq _ (hfin (mi + 1) (by omega))
    rw [zb_u_at] at r ⊢
    exact r
  have hfin2 : ¬ b = true → Q (some (.int (iZ (zb_u Z 337 x (mi + -1) 337 x)))) (zb_M (zb_u Z 337 x (mi + -1))) F := fun q => by
    rw [if_neg q] at hcan
    have e : sMir (nC Z) x b = zb_u (nC Z) 1 x (mi + -1) := by unfold sMir; rw [if_neg q, hmi2]
    rw [e] at hq
    have r := hq _ (hfin (mi + -1) (by omega))
    rw [zb_u_at] at r ⊢
    exact r
  rcases hp with rfl | rfl <;> (
    have hpl := congrArg Int.toNat hcp
    simp only [Int.toNat_natCast] at hpl
    have hx2 := hx
    simp only [vP_ap, vC_ap, Nat.reduceAdd, Nat.reduceLT, Nat.add_zero, ↓reduceIte] at hx2
    refine gz_aload_n dX7_mirror_0 rfl ?_
    refine gz_getf 3 dX7_mirror_1 rfl rfl wf_Heliographs_39 (by decide) rfl ?_
    refine gz_getf 0 dX7_mirror_4 rfl rfl wf_Heliographs_83 (by decide) (congrArg Value.ref hpl) ?_
    refine gz_iload_n dX7_mirror_7 rfl ?_
    refine gv_1 (J := mX3_hasPeak) (d1 := d - 1) dX7_mirror_8 wm_Heliographs_98 rfl jzX3_hasPeak (Nat.le_of_ble_eq_true rfl) (Nat.le_of_ble_eq_true rfl) (by omega) ⟨Nat.le_refl _, Nat.le_refl _⟩ (zs_hasPeak hp2 (by omega) h0.1) ?_
    refine zz_if_neB (tgt := 24) dX7_mirror_11 rfl (fun b11 => ?_) (fun b11 => ?_)
    rotate_left
    · exact absurd (by simp only [decide_eq_true_eq]; omega) b11
    refine gz_iload_n dX7_mirror_24 rfl ?_
    refine zz_if_eqB (tgt := 51) dX7_mirror_25 rfl (fun b25 => ?_) (fun b25 => ?_)
    ·
      refine gz_iload_n dX7_mirror_51 rfl ?_
      refine zz_if_neB (tgt := 76) dX7_mirror_52 rfl (fun b52 => ?_) (fun b52 => ?_)
      ·
        refine gz_aload_n dX7_mirror_76 rfl ?_
        refine gz_getf 3 dX7_mirror_77 rfl rfl wf_Heliographs_39 (by decide) rfl ?_
        refine gz_getf 3 dX7_mirror_80 rfl rfl wf_Heliographs_146 (by decide) rfl ?_
        refine gz_iload_n dX7_mirror_83 rfl ?_
        refine gz_dup2 dX7_mirror_84 rfl rfl ?_
        refine gz_iald (v := .int (iZ (mi))) (n := x) dX7_mirror_85 rfl rfl (by omega) (zv_i hmi) ?_
        refine gz_iload_n dX7_mirror_86 rfl ?_
        refine zz_if_eqB (tgt := 94) dX7_mirror_87 rfl (fun b87 => ?_) (fun b87 => ?_)
        ·
          refine zz_iconst dX7_mirror_94 ?_
          refine zz_iadd dX7_mirror_95 ?_
          refine zc_iast (n := x) dX7_mirror_96 rfl (by decide) rfl (by omega) rfl ?_
          refine gz_aload_n dX7_mirror_97 rfl ?_
          refine gz_getf 3 dX7_mirror_98 rfl rfl wf_Heliographs_39 (by decide) rfl ?_
          refine gz_getf 3 dX7_mirror_101 rfl rfl wf_Heliographs_146 (by decide) rfl ?_
          refine gz_iload_n dX7_mirror_104 rfl ?_
          refine gz_iald (n := x) dX7_mirror_105 rfl rfl (by omega) rfl ?_
          refine gz_ireturn dX7_mirror_106 rfl rfl ?_
          first | exact hfin1 b87 | exact hfin2 b87
        ·
          refine zz_iconst dX7_mirror_90 ?_
          refine gz_goto (tgt := 95) dX7_mirror_91 rfl ?_
          refine zz_iadd dX7_mirror_95 ?_
          refine zc_iast (n := x) dX7_mirror_96 rfl (by decide) rfl (by omega) rfl ?_
          refine gz_aload_n dX7_mirror_97 rfl ?_
          refine gz_getf 3 dX7_mirror_98 rfl rfl wf_Heliographs_39 (by decide) rfl ?_
          refine gz_getf 3 dX7_mirror_101 rfl rfl wf_Heliographs_146 (by decide) rfl ?_
          refine gz_iload_n dX7_mirror_104 rfl ?_
          refine gz_iald (n := x) dX7_mirror_105 rfl rfl (by omega) rfl ?_
          refine gz_ireturn dX7_mirror_106 rfl rfl ?_
          first | exact hfin1 b87 | exact hfin2 b87
      ·
        refine gz_aload_n dX7_mirror_55 rfl ?_
        refine gz_getf 3 dX7_mirror_56 rfl rfl wf_Heliographs_39 (by decide) rfl ?_
        refine gz_iload_n dX7_mirror_59 rfl ?_
        refine gv_1 (J := mX0_freeMirrors) (d1 := d - 1) dX7_mirror_60 wm_Heliographs_152 rfl jzX0_freeMirrors (Nat.le_of_ble_eq_true rfl) (Nat.le_of_ble_eq_true rfl) (by omega) ⟨Nat.le_refl _, Nat.le_refl _⟩ (zk_Does.to (zs_freeMirrors (Or.inl rfl) hp2 (by exact hcp) hw hc (x := (x : Int)) (by omega) (by omega)) (congrArg (fun z => some (Value.int (iZ z))) hfr)) ?_
        refine zz_if_gt (tgt := 76) dX7_mirror_63 rfl (by omega) (fun b63 => ?_) (fun b63 => ?_)
        rotate_left
        · exact absurd (hcf b52) (by omega)
        refine gz_aload_n dX7_mirror_76 rfl ?_
        refine gz_getf 3 dX7_mirror_77 rfl rfl wf_Heliographs_39 (by decide) rfl ?_
        refine gz_getf 3 dX7_mirror_80 rfl rfl wf_Heliographs_146 (by decide) rfl ?_
        refine gz_iload_n dX7_mirror_83 rfl ?_
        refine gz_dup2 dX7_mirror_84 rfl rfl ?_
        refine gz_iald (v := .int (iZ (mi))) (n := x) dX7_mirror_85 rfl rfl (by omega) (zv_i hmi) ?_
        refine gz_iload_n dX7_mirror_86 rfl ?_
        refine zz_if_eqB (tgt := 94) dX7_mirror_87 rfl (fun b87 => ?_) (fun b87 => ?_)
        ·
          refine zz_iconst dX7_mirror_94 ?_
          refine zz_iadd dX7_mirror_95 ?_
          refine zc_iast (n := x) dX7_mirror_96 rfl (by decide) rfl (by omega) rfl ?_
          refine gz_aload_n dX7_mirror_97 rfl ?_
          refine gz_getf 3 dX7_mirror_98 rfl rfl wf_Heliographs_39 (by decide) rfl ?_
          refine gz_getf 3 dX7_mirror_101 rfl rfl wf_Heliographs_146 (by decide) rfl ?_
          refine gz_iload_n dX7_mirror_104 rfl ?_
          refine gz_iald (n := x) dX7_mirror_105 rfl rfl (by omega) rfl ?_
          refine gz_ireturn dX7_mirror_106 rfl rfl ?_
          first | exact hfin1 b87 | exact hfin2 b87
        ·
          refine zz_iconst dX7_mirror_90 ?_
          refine gz_goto (tgt := 95) dX7_mirror_91 rfl ?_
          refine zz_iadd dX7_mirror_95 ?_
          refine zc_iast (n := x) dX7_mirror_96 rfl (by decide) rfl (by omega) rfl ?_
          refine gz_aload_n dX7_mirror_97 rfl ?_
          refine gz_getf 3 dX7_mirror_98 rfl rfl wf_Heliographs_39 (by decide) rfl ?_
          refine gz_getf 3 dX7_mirror_101 rfl rfl wf_Heliographs_146 (by decide) rfl ?_
          refine gz_iload_n dX7_mirror_104 rfl ?_
          refine gz_iald (n := x) dX7_mirror_105 rfl rfl (by omega) rfl ?_
          refine gz_ireturn dX7_mirror_106 rfl rfl ?_
          first | exact hfin1 b87 | exact hfin2 b87
    ·
      refine gz_aload_n dX7_mirror_28 rfl ?_
      refine gz_getf 3 dX7_mirror_29 rfl rfl wf_Heliographs_39 (by decide) rfl ?_
      refine gz_getf 3 dX7_mirror_32 rfl rfl wf_Heliographs_146 (by decide) rfl ?_
      refine gz_iload_n dX7_mirror_35 rfl ?_
      refine gz_iald (v := .int (iZ (mi))) (n := x) dX7_mirror_36 rfl rfl (by omega) (zv_i hmi) ?_
      refine zz_iconst dX7_mirror_37 ?_
      refine zz_icmp_lt (tgt := 51) dX7_mirror_38 rfl (by omega) (fun b38 => ?_) (fun b38 => ?_)
      rotate_left
      · exact absurd (hct b25) (by omega)
      refine gz_iload_n dX7_mirror_51 rfl ?_
      refine zz_if_neB (tgt := 76) dX7_mirror_52 rfl (fun b52 => ?_) (fun b52 => ?_)
      ·
        refine gz_aload_n dX7_mirror_76 rfl ?_
        refine gz_getf 3 dX7_mirror_77 rfl rfl wf_Heliographs_39 (by decide) rfl ?_
        refine gz_getf 3 dX7_mirror_80 rfl rfl wf_Heliographs_146 (by decide) rfl ?_
        refine gz_iload_n dX7_mirror_83 rfl ?_
        refine gz_dup2 dX7_mirror_84 rfl rfl ?_
        refine gz_iald (v := .int (iZ (mi))) (n := x) dX7_mirror_85 rfl rfl (by omega) (zv_i hmi) ?_
        refine gz_iload_n dX7_mirror_86 rfl ?_
        refine zz_if_eqB (tgt := 94) dX7_mirror_87 rfl (fun b87 => ?_) (fun b87 => ?_)
        ·
          refine zz_iconst dX7_mirror_94 ?_
          refine zz_iadd dX7_mirror_95 ?_
          refine zc_iast (n := x) dX7_mirror_96 rfl (by decide) rfl (by omega) rfl ?_
          refine gz_aload_n dX7_mirror_97 rfl ?_
          refine gz_getf 3 dX7_mirror_98 rfl rfl wf_Heliographs_39 (by decide) rfl ?_
          refine gz_getf 3 dX7_mirror_101 rfl rfl wf_Heliographs_146 (by decide) rfl ?_
          refine gz_iload_n dX7_mirror_104 rfl ?_
          refine gz_iald (n := x) dX7_mirror_105 rfl rfl (by omega) rfl ?_
          refine gz_ireturn dX7_mirror_106 rfl rfl ?_
          first | exact hfin1 b87 | exact hfin2 b87
        ·
          refine zz_iconst dX7_mirror_90 ?_
          refine gz_goto (tgt := 95) dX7_mirror_91 rfl ?_
          refine zz_iadd dX7_mirror_95 ?_
          refine zc_iast (n := x) dX7_mirror_96 rfl (by decide) rfl (by omega) rfl ?_
          refine gz_aload_n dX7_mirror_97 rfl ?_
          refine gz_getf 3 dX7_mirror_98 rfl rfl wf_Heliographs_39 (by decide) rfl ?_
          refine gz_getf 3 dX7_mirror_101 rfl rfl wf_Heliographs_146 (by decide) rfl ?_
          refine gz_iload_n dX7_mirror_104 rfl ?_
          refine gz_iald (n := x) dX7_mirror_105 rfl rfl (by omega) rfl ?_
          refine gz_ireturn dX7_mirror_106 rfl rfl ?_
          first | exact hfin1 b87 | exact hfin2 b87
      ·
        refine gz_aload_n dX7_mirror_55 rfl ?_
        refine gz_getf 3 dX7_mirror_56 rfl rfl wf_Heliographs_39 (by decide) rfl ?_
        refine gz_iload_n dX7_mirror_59 rfl ?_
        refine gv_1 (J := mX0_freeMirrors) (d1 := d - 1) dX7_mirror_60 wm_Heliographs_152 rfl jzX0_freeMirrors (Nat.le_of_ble_eq_true rfl) (Nat.le_of_ble_eq_true rfl) (by omega) ⟨Nat.le_refl _, Nat.le_refl _⟩ (zk_Does.to (zs_freeMirrors (Or.inl rfl) hp2 (by exact hcp) hw hc (x := (x : Int)) (by omega) (by omega)) (congrArg (fun z => some (Value.int (iZ z))) hfr)) ?_
        refine zz_if_gt (tgt := 76) dX7_mirror_63 rfl (by omega) (fun b63 => ?_) (fun b63 => ?_)
        rotate_left
        · exact absurd (hcf b52) (by omega)
        refine gz_aload_n dX7_mirror_76 rfl ?_
        refine gz_getf 3 dX7_mirror_77 rfl rfl wf_Heliographs_39 (by decide) rfl ?_
        refine gz_getf 3 dX7_mirror_80 rfl rfl wf_Heliographs_146 (by decide) rfl ?_
        refine gz_iload_n dX7_mirror_83 rfl ?_
        refine gz_dup2 dX7_mirror_84 rfl rfl ?_
        refine gz_iald (v := .int (iZ (mi))) (n := x) dX7_mirror_85 rfl rfl (by omega) (zv_i hmi) ?_
        refine gz_iload_n dX7_mirror_86 rfl ?_
        refine zz_if_eqB (tgt := 94) dX7_mirror_87 rfl (fun b87 => ?_) (fun b87 => ?_)
        ·
          refine zz_iconst dX7_mirror_94 ?_
          refine zz_iadd dX7_mirror_95 ?_
          refine zc_iast (n := x) dX7_mirror_96 rfl (by decide) rfl (by omega) rfl ?_
          refine gz_aload_n dX7_mirror_97 rfl ?_
          refine gz_getf 3 dX7_mirror_98 rfl rfl wf_Heliographs_39 (by decide) rfl ?_
          refine gz_getf 3 dX7_mirror_101 rfl rfl wf_Heliographs_146 (by decide) rfl ?_
          refine gz_iload_n dX7_mirror_104 rfl ?_
          refine gz_iald (n := x) dX7_mirror_105 rfl rfl (by omega) rfl ?_
          refine gz_ireturn dX7_mirror_106 rfl rfl ?_
          first | exact hfin1 b87 | exact hfin2 b87
        ·
          refine zz_iconst dX7_mirror_90 ?_
          refine gz_goto (tgt := 95) dX7_mirror_91 rfl ?_
          refine zz_iadd dX7_mirror_95 ?_
          refine zc_iast (n := x) dX7_mirror_96 rfl (by decide) rfl (by omega) rfl ?_
          refine gz_aload_n dX7_mirror_97 rfl ?_
          refine gz_getf 3 dX7_mirror_98 rfl rfl wf_Heliographs_39 (by decide) rfl ?_
          refine gz_getf 3 dX7_mirror_101 rfl rfl wf_Heliographs_146 (by decide) rfl ?_
          refine gz_iload_n dX7_mirror_104 rfl ?_
          refine gz_iald (n := x) dX7_mirror_105 rfl rfl (by omega) rfl ?_
          refine gz_ireturn dX7_mirror_106 rfl rfl ?_
          first | exact hfin1 b87 | exact hfin2 b87
  )
end

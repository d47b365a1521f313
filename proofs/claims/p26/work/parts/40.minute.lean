/-! A MINUTE -/
section
variable {l : Launch} {Γ : zk_G} {d : Nat} {Z : Nat → Nat → Int} {F : Heap → Prop}
theorem sFind_bd (f : Nat → Bool) : ∀ n i, -1 ≤ sFind f i n ∧ sFind f i n < i + n ∨ sFind f i n = -1
  | 0, i => Or.inr rfl
  | n + 1, i => by
    by_cases h : f i = true
    · rw [sFind_t h]; omega
    · rw [sFind_f h]
      have := sFind_bd f n (i + 1)
      omega
theorem sFirst_bd {π σ : zV} (h : wP π) (a t : Int) : -1 ≤ sFirst π σ a t ∧ sFirst π σ a t < 12 ∧ (0 ≤ sFirst π σ a t → sFirst π σ a t < π 0 1) := by
  have h1 := wP_n h
  unfold sFirst
  split
  · omega
  · have := sFind_bd (sFst π σ (sD π σ t.toNat) a) (π 0 1).toNat 0
    omega
theorem zeq_u {Z Z2 : zV} (h : zeq Z Z2) (a j : Nat) (z : Int) : zeq (zb_u Z a j z) (zb_u Z2 a j z) := by
  intro x y q
  unfold zb_u
  by_cases e : x = a ∧ y = j
  · rw [if_pos e, if_pos e]
  · rw [if_neg e, if_neg e, h x y q]
noncomputable def sSend (π : zV) (H : zV → Nat → Bool) (σ : zV) (k : Nat) : zV :=
  if σ 4 k = 0 ∧ π 10 k ≤ σ 0 1 ∧ 0 < sFree π σ (σ 2 k) ∧ H σ k = false ∧ 0 ≤ sFirst π σ (σ 2 k) (σ 3 k) ∧ sFind (fun m => decide (σ 7 m = sFirst π σ (σ 2 k) (σ 3 k))) 0 (π 0 3).toNat < 0 then zb_u (zb_u (zb_u σ 4 k 1) 7 k (sFirst π σ (σ 2 k) (σ 3 k))) 5 k (π 7 k) else σ
set_option maxHeartbeats 8000000 in
theorem zs_sendOff {c p : Nat} (hcs : c = 336 ∨ c = 352) (hp : p = 368 ∨ p = 400) (hcp : Z c 0 = (p : Int)) (hw : wP (vP Z p)) {N : Int} (hc : wC (vP Z p) (vC Z c) N) (hlit : ∀ w : Nat, w < 12 → 0 ≤ Z (c + 11) w ∧ Z (c + 11) w ≤ 1) {H : zV → Nat → Bool} (hH : hOr Z p H) {k : Nat} (hk : (k : Int) < Z p 3) (hd : 5 ≤ d) : zk_DoesR l Γ mX0_sendOff d [.ref c, .int (iZ (k : Int))] Z F none (fun Z2 => zeq (zW Z c (sSend (vP Z p) H (vC Z c) k)) Z2) := by
  intro Q hq
  have hcs2 := hcs
  have hp2 := hp
  have h0 := wP_n hw
  have h1 := wP_m hw (i := k) (by simp only [vP_ap, vC_ap, Nat.reduceAdd, Nat.reduceLT, Nat.add_zero, ↓reduceIte]; omega)
  have h2 := wC_m hc (k := k) (by simp only [vP_ap, vC_ap, Nat.reduceAdd, Nat.reduceLT, Nat.add_zero, ↓reduceIte]; omega)
  have h3 := wC_n hc
  simp only [wM, vP_ap, vC_ap, Nat.reduceAdd, Nat.reduceLT, Nat.add_zero, ↓reduceIte] at h0 h1 h2 h3
  obtain ⟨o, ho⟩ : ∃ z, Z (c + 4) k = z := ⟨_, rfl⟩
  obtain ⟨du, hdu⟩ : ∃ z, Z (p + 10) k = z := ⟨_, rfl⟩
  obtain ⟨mi, hmi⟩ : ∃ z, Z c 1 = z := ⟨_, rfl⟩
  obtain ⟨pe, hpe⟩ : ∃ z, Z (c + 2) k = z := ⟨_, rfl⟩
  obtain ⟨go, hgo⟩ : ∃ z, Z (c + 3) k = z := ⟨_, rfl⟩
  obtain ⟨wd, hwd⟩ : ∃ z, Z (p + 7) k = z := ⟨_, rfl⟩
  rw [ho, hpe, hgo] at h2
  rw [hmi] at h3
  rw [hdu, hwd] at h1
  have h4 := wC_k hc (k := pe.toNat) (by simp only [vP_ap, vC_ap, Nat.reduceAdd, Nat.reduceLT, Nat.add_zero, ↓reduceIte]; omega)
  have h5 := sNum_bd (sAt (vC Z c) pe 1) (vP Z p 0 3).toNat 0
  have h6 := sFirst_bd (σ := vC Z c) hw pe go
  have h7 := sFind_bd (fun m => decide (vC Z c 7 m = sFirst (vP Z p) (vC Z c) pe go)) (vP Z p 0 3).toNat 0
  have hfr : sFree (vP Z p) (vC Z c) pe = vC Z c 1 pe.toNat - sNum (sAt (vC Z c) pe 1) 0 (vP Z p 0 3).toNat := rfl
  simp only [vP_ap, vC_ap, Nat.reduceAdd, Nat.reduceLT, Nat.add_zero, ↓reduceIte] at h4 h5 h6 h7 hfr
  obtain ⟨fr, hfr2⟩ : ∃ z, sFree (vP Z p) (vC Z c) pe = z := ⟨_, rfl⟩
  obtain ⟨w, hw2⟩ : ∃ z, sFirst (vP Z p) (vC Z c) pe go = z := ⟨_, rfl⟩
  rw [hfr2] at hfr
  rw [hw2] at h6 h7
  obtain ⟨mo, hmo2⟩ : ∃ z, sFind (fun m => decide (vC Z c 7 m = w)) 0 (Z p 3).toNat = z := ⟨_, rfl⟩
  have hmo3 : sFind (fun m => decide (Z (c + 7) m = w)) 0 (Z p 3).toNat = mo := hmo2
  rw [hmo3] at h7
  have hcond : (vC Z c 4 k = 0 ∧ vP Z p 10 k ≤ vC Z c 0 1 ∧ 0 < sFree (vP Z p) (vC Z c) (vC Z c 2 k) ∧ H (vC Z c) k = false ∧ 0 ≤ sFirst (vP Z p) (vC Z c) (vC Z c 2 k) (vC Z c 3 k) ∧ sFind (fun m => decide (vC Z c 7 m = sFirst (vP Z p) (vC Z c) (vC Z c 2 k) (vC Z c 3 k))) 0 (vP Z p 0 3).toNat < 0) = (o = 0 ∧ du ≤ mi ∧ 0 < fr ∧ H (vC Z c) k = false ∧ 0 ≤ w ∧ mo < 0) := by
    rw [show vC Z c 2 k = pe from hpe, show vC Z c 3 k = go from hgo, hw2, hfr2, show vC Z c 4 k = o from ho, show vP Z p 10 k = du from hdu, show vC Z c 0 1 = mi from hmi]
    rw [show sFind (fun m => decide (vC Z c 7 m = w)) 0 (vP Z p 0 3).toNat = mo from hmo2]
  have hno : ¬ (o = 0 ∧ du ≤ mi ∧ 0 < fr ∧ H (vC Z c) k = false ∧ 0 ≤ w ∧ mo < 0) → ∀ Z2 : zV, zeq Z Z2 → Q none (zb_M Z2) F := fun q Z2 h => hq Z2 (by rw [← hcond] at q; unfold sSend; rw [if_neg q, zW_self]; exact h)
  have hyes : (o = 0 ∧ du ≤ mi ∧ 0 < fr ∧ H (vC Z c) k = false ∧ 0 ≤ w ∧ mo < 0) → ∀ Z2 : zV, zeq (zb_u (zb_u (zb_u Z (c + 4) k 1) (c + 7) k w) (c + 5) k wd) Z2 → Q none (zb_M Z2) F := fun q Z2 h => hq Z2 (by
    rw [← hcond] at q
    unfold sSend
    rw [if_pos q, show vC Z c 2 k = pe from hpe, show vC Z c 3 k = go from hgo, hw2, show vP Z p 7 k = wd from hwd, ← zW_u _ _ _ _ _ _ (by decide), ← zW_u _ _ _ _ _ _ (by decide), ← zW_u _ _ _ _ _ _ (by decide), zW_self]
    exact h)
  have hfst : ∀ Z5 : zV, zeq Z Z5 → zk_DoesR l Γ mX0_firstPassOfWay (d - 1) [.ref c, .int (iZ pe), .int (iZ go)] Z5 F (some (.int (iZ w))) (fun Z2 => zeq Z5 Z2) := by
    intro Z5 h
    have e0 : Z5 p 0 = Z p 0 := h.at (by omega) 0
    have q := zs_first (l := l) (Γ := Γ) (d := d - 1) (F := F) (Z := Z5) hcs hp ((h.at (by omega) 0).trans hcp) (by rw [h.vP hp]; exact hw) (fun w h2 => by rw [h.at (by omega) w]; exact hlit w h2) (a := pe) (t := go) (by omega) (by omega) (by omega)
    rw [h.vP hp, h.vC hcs, hw2] at q
    exact q
  have hmov : ∀ Z5 : zV, zeq Z Z5 → zk_Does l Γ mX0_messageOver (d - 1) 0 0 [.ref c, .int (iZ w)] (zb_M Z5) F (some (.int (iZ mo))) (zb_M Z5) F := by
    intro Z5 h
    have e0 : Z5 p 3 = Z p 3 := h.at (by omega) 3
    have q := zs_messageOver (l := l) (Γ := Γ) (d := d - 1) (F := F) (Z := Z5) hcs hp ((h.at (by omega) 0).trans hcp) (by rw [h.vP hp]; exact hw) (N := N) (by rw [h.vP hp, h.vC hcs]; exact hc) (x := w) (by omega)
    rw [h.vC hcs, e0, hmo2] at q
    exact q
  rcases hcs with rfl | rfl <;> rcases hp with rfl | rfl <;> (
    have hpl := congrArg Int.toNat hcp
    simp only [Int.toNat_natCast] at hpl
    simp only [Nat.reduceAdd] at ho hdu hmi hpe hgo hwd
    refine gz_aload_n dX0_sendOff_0 rfl ?_
    refine gz_getf 0 dX0_sendOff_1 rfl rfl wf_Heliographs_Chain_53 (by decide) (congrArg Value.ref hpl) ?_
    refine gz_iload_n dX0_sendOff_4 rfl ?_
    refine gv_1 (J := mX3_hasMessage) (d1 := d - 1) dX0_sendOff_5 wm_Heliographs_Chain_94 rfl jzX3_hasMessage (Nat.le_of_ble_eq_true rfl) (Nat.le_of_ble_eq_true rfl) (by omega) ⟨Nat.le_refl _, Nat.le_refl _⟩ (zs_hasMessage hp2 (by omega) h0.2.2.2) ?_
    refine zz_if_eqB (tgt := 64) dX0_sendOff_8 rfl (fun b8 => ?_) (fun b8 => ?_)
    · exact absurd (by simp only [decide_eq_true_eq]; omega) b8
    refine gz_aload_n dX0_sendOff_11 rfl ?_
    refine gz_getf 6 dX0_sendOff_12 rfl rfl wf_Heliographs_Chain_25 (by decide) rfl ?_
    refine gz_iload_n dX0_sendOff_15 rfl ?_
    refine gz_iald (v := .int (iZ (o))) (n := k) dX0_sendOff_16 rfl rfl (by omega) (congrArg (fun z => Value.int (iZ z)) ho) ?_
    refine zz_if_ne (tgt := 64) dX0_sendOff_17 rfl (by omega) (fun b17 => ?_) (fun b17 => ?_)
    ·
      refine gz_return_ dX0_sendOff_64 rfl ?_
      first
        | exact hno (fun q => by omega) Z (zeq.refl Z)
        | exact hno (fun q => by rw [b61] at q; cases q.2.2.2.1) Z58 hZ58
        | exact hno (fun q => by omega) Z78 (hZ58.trans hZ78)
        | exact hyes ⟨by omega, by omega, by omega, Bool.eq_false_iff.mpr b61, by omega, by omega⟩ _ (zeq_u (zeq_u (zeq_u (hZ58.trans hZ78) _ _ _) _ _ _) _ _ _)
    ·
      refine gz_aload_n dX0_sendOff_20 rfl ?_
      refine gz_getf 0 dX0_sendOff_21 rfl rfl wf_Heliographs_Chain_53 (by decide) (congrArg Value.ref hpl) ?_
      refine gz_getf 13 dX0_sendOff_24 rfl rfl wf_Heliographs_Chain_118 (by decide) rfl ?_
      refine gz_iload_n dX0_sendOff_27 rfl ?_
      refine gz_iald (v := .int (iZ (du))) (n := k) dX0_sendOff_28 rfl rfl (by omega) (congrArg (fun z => Value.int (iZ z)) hdu) ?_
      refine gz_aload_n dX0_sendOff_29 rfl ?_
      refine gz_getf (v := .int (iZ (mi))) 1 dX0_sendOff_30 rfl rfl wf_Heliographs_Chain_71 (by decide) (congrArg (fun z => Value.int (iZ z)) hmi) ?_
      refine zz_icmp_gt (tgt := 64) dX0_sendOff_33 rfl (by omega) (fun b33 => ?_) (fun b33 => ?_)
      ·
        refine gz_return_ dX0_sendOff_64 rfl ?_
        first
          | exact hno (fun q => by omega) Z (zeq.refl Z)
          | exact hno (fun q => by rw [b61] at q; cases q.2.2.2.1) Z58 hZ58
          | exact hno (fun q => by omega) Z78 (hZ58.trans hZ78)
          | exact hyes ⟨by omega, by omega, by omega, Bool.eq_false_iff.mpr b61, by omega, by omega⟩ _ (zeq_u (zeq_u (zeq_u (hZ58.trans hZ78) _ _ _) _ _ _) _ _ _)
      ·
        refine gz_aload_n dX0_sendOff_36 rfl ?_
        refine gz_aload_n dX0_sendOff_37 rfl ?_
        refine gz_getf 4 dX0_sendOff_38 rfl rfl wf_Heliographs_Chain_19 (by decide) rfl ?_
        refine gz_iload_n dX0_sendOff_41 rfl ?_
        refine gz_iald (v := .int (iZ (pe))) (n := k) dX0_sendOff_42 rfl rfl (by omega) (congrArg (fun z => Value.int (iZ z)) hpe) ?_
        refine gv_1 (J := mX0_freeMirrors) (d1 := d - 1) dX0_sendOff_43 wm_Heliographs_Chain_121 rfl jzX0_freeMirrors (Nat.le_of_ble_eq_true rfl) (Nat.le_of_ble_eq_true rfl) (by omega) ⟨Nat.le_refl _, Nat.le_refl _⟩ (zk_Does.to (zs_freeMirrors hcs2 hp2 (by exact hcp) hw hc (x := pe) (by omega) (by omega)) (congrArg (fun z => some (Value.int (iZ z))) hfr2)) ?_
        refine zz_if_le (tgt := 64) dX0_sendOff_46 rfl (by omega) (fun b46 => ?_) (fun b46 => ?_)
        ·
          refine gz_return_ dX0_sendOff_64 rfl ?_
          first
            | exact hno (fun q => by omega) Z (zeq.refl Z)
            | exact hno (fun q => by rw [b61] at q; cases q.2.2.2.1) Z58 hZ58
            | exact hno (fun q => by omega) Z78 (hZ58.trans hZ78)
            | exact hyes ⟨by omega, by omega, by omega, Bool.eq_false_iff.mpr b61, by omega, by omega⟩ _ (zeq_u (zeq_u (zeq_u (hZ58.trans hZ78) _ _ _) _ _ _) _ _ _)
        ·
          refine gz_aload_n dX0_sendOff_49 rfl ?_
          refine gz_getf 0 dX0_sendOff_50 rfl rfl wf_Heliographs_Chain_53 (by decide) (congrArg Value.ref hpl) ?_
          refine gz_getf 14 dX0_sendOff_53 rfl rfl wf_Heliographs_Chain_125 (by decide) rfl ?_
          refine gz_iload_n dX0_sendOff_56 rfl ?_
          refine gz_aload_n dX0_sendOff_57 rfl ?_
          refine gq_2 (J := mX2_isHeld) (d1 := d - 1) dX0_sendOff_58 wm_Heliographs_Chain_129 rfl jzX2_isHeld (Nat.le_of_ble_eq_true rfl) (Nat.le_of_ble_eq_true rfl) (by omega) (zs_isHeld hcs2 hp2 (by exact hcp) hw hc hlit hH (by omega) (by omega)) (fun Z58 hZ58 => ?_)
          refine zz_if_eqB (tgt := 65) dX0_sendOff_61 rfl (fun b61 => ?_) (fun b61 => ?_)
          ·
            refine gz_aload_n dX0_sendOff_65 rfl ?_
            refine gz_aload_n dX0_sendOff_66 rfl ?_
            refine gz_getf 4 dX0_sendOff_67 rfl rfl wf_Heliographs_Chain_19 (by decide) rfl ?_
            refine gz_iload_n dX0_sendOff_70 rfl ?_
            refine gz_iald (v := .int (iZ (pe))) (n := k) dX0_sendOff_71 rfl rfl (by omega) (zv_i ((hZ58.at (by decide) k).trans hpe)) ?_
            refine gz_aload_n dX0_sendOff_72 rfl ?_
            refine gz_getf 5 dX0_sendOff_73 rfl rfl wf_Heliographs_Chain_22 (by decide) rfl ?_
            refine gz_iload_n dX0_sendOff_76 rfl ?_
            refine gz_iald (v := .int (iZ (go))) (n := k) dX0_sendOff_77 rfl rfl (by omega) (zv_i ((hZ58.at (by decide) k).trans hgo)) ?_
            refine gq_2 (J := mX0_firstPassOfWay) (d1 := d - 1) dX0_sendOff_78 wm_Heliographs_Chain_135 rfl jzX0_firstPassOfWay (Nat.le_of_ble_eq_true rfl) (Nat.le_of_ble_eq_true rfl) (by omega) (hfst Z58 hZ58) (fun Z78 hZ78 => ?_)
            refine gz_istore_n dX0_sendOff_81 (Nat.le_of_ble_eq_true rfl) rfl ?_
            refine gz_iload_n dX0_sendOff_82 rfl ?_
            refine zz_if_lt (tgt := 123) dX0_sendOff_83 rfl (by omega) (fun b83 => ?_) (fun b83 => ?_)
            ·
              refine gz_return_ dX0_sendOff_123 rfl ?_
              first
                | exact hno (fun q => by omega) Z (zeq.refl Z)
                | exact hno (fun q => by rw [b61] at q; cases q.2.2.2.1) Z58 hZ58
                | exact hno (fun q => by omega) Z78 (hZ58.trans hZ78)
                | exact hyes ⟨by omega, by omega, by omega, Bool.eq_false_iff.mpr b61, by omega, by omega⟩ _ (zeq_u (zeq_u (zeq_u (hZ58.trans hZ78) _ _ _) _ _ _) _ _ _)
            ·
              refine gz_aload_n dX0_sendOff_86 rfl ?_
              refine gz_iload_n dX0_sendOff_87 rfl ?_
              refine gv_1 (J := mX0_messageOver) (d1 := d - 1) dX0_sendOff_88 wm_Heliographs_Chain_138 rfl jzX0_messageOver (Nat.le_of_ble_eq_true rfl) (Nat.le_of_ble_eq_true rfl) (by omega) ⟨Nat.le_refl _, Nat.le_refl _⟩ (hmov Z78 (hZ58.trans hZ78)) ?_
              refine zz_if_ge (tgt := 123) dX0_sendOff_91 rfl (by omega) (fun b91 => ?_) (fun b91 => ?_)
              ·
                refine gz_return_ dX0_sendOff_123 rfl ?_
                first
                  | exact hno (fun q => by omega) Z (zeq.refl Z)
                  | exact hno (fun q => by rw [b61] at q; cases q.2.2.2.1) Z58 hZ58
                  | exact hno (fun q => by omega) Z78 (hZ58.trans hZ78)
                  | exact hyes ⟨by omega, by omega, by omega, Bool.eq_false_iff.mpr b61, by omega, by omega⟩ _ (zeq_u (zeq_u (zeq_u (hZ58.trans hZ78) _ _ _) _ _ _) _ _ _)
              ·
                refine gz_aload_n dX0_sendOff_94 rfl ?_
                refine gz_getf 6 dX0_sendOff_95 rfl rfl wf_Heliographs_Chain_25 (by decide) rfl ?_
                refine gz_iload_n dX0_sendOff_98 rfl ?_
                refine zz_iconst dX0_sendOff_99 ?_
                refine zc_iast (n := k) dX0_sendOff_100 rfl (by decide) rfl (by omega) rfl ?_
                refine gz_aload_n dX0_sendOff_101 rfl ?_
                refine gz_getf 9 dX0_sendOff_102 rfl rfl wf_Heliographs_Chain_34 (by decide) rfl ?_
                refine gz_iload_n dX0_sendOff_105 rfl ?_
                refine gz_iload_n dX0_sendOff_106 rfl ?_
                refine zc_iast (n := k) dX0_sendOff_107 rfl (by decide) rfl (by omega) rfl ?_
                refine gz_aload_n dX0_sendOff_108 rfl ?_
                refine gz_getf 7 dX0_sendOff_109 rfl rfl wf_Heliographs_Chain_28 (by decide) rfl ?_
                refine gz_iload_n dX0_sendOff_112 rfl ?_
                refine gz_aload_n dX0_sendOff_113 rfl ?_
                refine gz_getf 0 dX0_sendOff_114 rfl rfl wf_Heliographs_Chain_53 (by decide) (congrArg Value.ref ((congrArg Int.toNat (((zb_u_a _ _ (by decide)).trans (zb_u_a _ _ (by decide))).trans ((hZ58.trans hZ78).at (by decide) 0))).trans hpl)) ?_
                refine gz_getf 10 dX0_sendOff_117 rfl rfl wf_Heliographs_Chain_115 (by decide) rfl ?_
                refine gz_iload_n dX0_sendOff_120 rfl ?_
                refine gz_iald (v := .int (iZ (wd))) (n := k) dX0_sendOff_121 rfl rfl (by omega) (zv_i (((zb_u_a _ _ (by decide)).trans (zb_u_a _ _ (by decide))).trans ((hZ58.trans hZ78).at (by decide) k |>.trans hwd))) ?_
                refine zc_iast (n := k) dX0_sendOff_122 rfl (by decide) rfl (by omega) rfl ?_
                refine gz_return_ dX0_sendOff_123 rfl ?_
                first
                  | exact hno (fun q => by omega) Z (zeq.refl Z)
                  | exact hno (fun q => by rw [b61] at q; cases q.2.2.2.1) Z58 hZ58
                  | exact hno (fun q => by omega) Z78 (hZ58.trans hZ78)
                  | exact hyes ⟨by omega, by omega, by omega, Bool.eq_false_iff.mpr b61, by omega, by omega⟩ _ (zeq_u (zeq_u (zeq_u (hZ58.trans hZ78) _ _ _) _ _ _) _ _ _)
          ·
            refine gz_return_ dX0_sendOff_64 rfl ?_
            first
              | exact hno (fun q => by omega) Z (zeq.refl Z)
              | exact hno (fun q => by rw [b61] at q; cases q.2.2.2.1) Z58 hZ58
              | exact hno (fun q => by omega) Z78 (hZ58.trans hZ78)
              | exact hyes ⟨by omega, by omega, by omega, Bool.eq_false_iff.mpr b61, by omega, by omega⟩ _ (zeq_u (zeq_u (zeq_u (hZ58.trans hZ78) _ _ _) _ _ _) _ _ _)
  )
end

/-! THE FIRST PASS OF A WAY, AND HOW FAR IT IS -/
section
variable {l : Launch} {Γ : zk_G} {d : Nat} {Z : Nat → Nat → Int} {F : Heap → Prop}
def sFst (π σ : zV) (R : Nat → Int) (a : Int) (w : Nat) : Bool := decide (σ 11 w ≠ 0) && sEnd π a w && decide (π 6 w + R (sAcross π w a).toNat = R a.toNat)
noncomputable def sFar (π σ : zV) (a t : Int) : Int := if sD π σ t.toNat a.toNat < 1000000 then sD π σ t.toNat a.toNat else -1
noncomputable def sFirst (π σ : zV) (a t : Int) : Int := if a = t ∨ 1000000 ≤ sD π σ t.toNat a.toNat then -1 else sFind (sFst π σ (sD π σ t.toNat) a) 0 (π 0 1).toNat
theorem zs_first_loop {c p : Nat} (hcs : c = 336 ∨ c = 352) (hp : p = 368 ∨ p = 400) (hcp : Z c 0 = (p : Int)) (hw : wP (vP Z p)) (hlit : ∀ w : Nat, w < 12 → 0 ≤ Z (c + 11) w ∧ Z (c + 11) w ≤ 1) {R : Nat → Int} (hR : ∀ k : Nat, (k : Int) < Z p 0 → Z (c + 12) k = R k ∧ 0 ≤ R k ∧ R k ≤ 1000000) {a t : Int} (ha : 0 ≤ a ∧ a < Z p 0) (ht : 0 ≤ t ∧ t < Z p 0) (hd : 2 ≤ d) {Q : Option Value → zk_M → (Heap → Prop) → Prop} : ∀ (n i : Nat) (L4 : Option Value), (i : Int) + n = Z p 1 → Q (some (.int (iZ (sFind (sFst (vP Z p) (vC Z c) R a) i n)))) (zb_M Z) F → zk_Go l Γ mX0_firstPassOfWay d 0 0 Q 36 [some (.ref c), some (.int (iZ a)), some (.int (iZ t)), some (.int (iZ (i : Int))), L4] [] (zb_M Z) F := by
  intro n
  induction n with
  | zero =>
    intro i L4 hi hq
    have hcs2 := hcs
    have hp2 := hp
    have h0 := wP_n hw
    simp only [vP_ap, vC_ap, Nat.reduceAdd, Nat.reduceLT, Nat.add_zero, ↓reduceIte] at h0
    have hpl := congrArg Int.toNat hcp
    simp only [Int.toNat_natCast] at hpl
    rcases hcs with rfl | rfl <;> rcases hp with rfl | rfl <;> (
      refine gz_iload_n dX0_firstPassOfWay_36 rfl ?_
      refine gz_aload_n dX0_firstPassOfWay_37 rfl ?_
      refine gz_getf 0 dX0_firstPassOfWay_38 rfl rfl wf_Heliographs_Chain_53 (by decide) (congrArg Value.ref hpl) ?_
      refine gz_getf 1 dX0_firstPassOfWay_41 rfl rfl wf_Heliographs_Chain_148 (by decide) rfl ?_
      refine zz_icmp_ge (tgt := 124) dX0_firstPassOfWay_44 rfl (by omega) (fun b44 => ?_) (fun b44 => ?_)
      rotate_left
      · exact absurd b44 (by omega)
      refine zz_iconst dX0_firstPassOfWay_124 ?_
      refine gz_ireturn dX0_firstPassOfWay_125 rfl rfl ?_
      rw [sFind_0] at hq
      exact hq
    )
  | succ n ih =>
    intro i L4 hi hq
    have hcs2 := hcs
    have hp2 := hp
    have h0 := wP_n hw
    simp only [vP_ap, vC_ap, Nat.reduceAdd, Nat.reduceLT, Nat.add_zero, ↓reduceIte] at h0
    have hpl := congrArg Int.toNat hcp
    simp only [Int.toNat_natCast] at hpl
    have h1 := wP_w hw (w := i) (by simp only [vP_ap, vC_ap, Nat.reduceAdd, Nat.reduceLT, Nat.add_zero, ↓reduceIte]; omega)
    have h3 := sAcross_bd hw (w := i) (by simp only [vP_ap, vC_ap, Nat.reduceAdd, Nat.reduceLT, Nat.add_zero, ↓reduceIte]; omega) a
    simp only [vP_ap, vC_ap, Nat.reduceAdd, Nat.reduceLT, Nat.add_zero, ↓reduceIte] at h1 h3
    have hl1 := hlit i (by omega)
    obtain ⟨ac, hac⟩ : ∃ z, sAcross (vP Z p) i a = z := ⟨_, rfl⟩
    rw [hac] at h3
    obtain ⟨fw, hfw⟩ : ∃ z, Z (p + 6) i = z := ⟨_, rfl⟩
    have hr1 := hR ac.toNat (by omega)
    have hr2 := hR a.toNat (by omega)
    obtain ⟨rn, hrn⟩ : ∃ z, Z (c + 12) ac.toNat = z := ⟨_, rfl⟩
    obtain ⟨ra, hra⟩ : ∃ z, Z (c + 12) a.toNat = z := ⟨_, rfl⟩
    have hyes : Z (c + 11) i ≠ 0 → sEnd (vP Z p) a i = true → fw + rn = ra → sFst (vP Z p) (vC Z c) R a i = true := fun q1 q2 q3 => by
      have e6 : vP Z p 6 i = fw := by simp only [vP_ap, vC_ap, Nat.reduceAdd, Nat.reduceLT, Nat.add_zero, ↓reduceIte]; exact hfw
      have e11 : vC Z c 11 i ≠ 0 := by simp only [vP_ap, vC_ap, Nat.reduceAdd, Nat.reduceLT, Nat.add_zero, ↓reduceIte]; exact q1
      unfold sFst
      rw [q2, decide_eq_true e11, hac, e6, ← hr1.1, ← hr2.1, hrn, hra, decide_eq_true q3]
      rfl
    have hno : sFst (vP Z p) (vC Z c) R a i = true → Z (c + 11) i ≠ 0 ∧ sEnd (vP Z p) a i = true ∧ fw + rn = ra := fun q => by
      have e6 : vP Z p 6 i = fw := by simp only [vP_ap, vC_ap, Nat.reduceAdd, Nat.reduceLT, Nat.add_zero, ↓reduceIte]; exact hfw
      unfold sFst at q
      rw [hac, e6, ← hr1.1, ← hr2.1, hrn, hra] at q
      simp only [Bool.and_eq_true, decide_eq_true_eq] at q
      exact ⟨by have q4 := q.1.1; simp only [vP_ap, vC_ap, Nat.reduceAdd, Nat.reduceLT, Nat.add_zero, ↓reduceIte] at q4; exact q4, q.1.2, q.2⟩
    rcases hcs with rfl | rfl <;> rcases hp with rfl | rfl <;> (
      simp only [Nat.reduceAdd] at h1 hl1 hfw hrn hra hr1 hr2 hyes hno
      refine gz_iload_n dX0_firstPassOfWay_36 rfl ?_
      refine gz_aload_n dX0_firstPassOfWay_37 rfl ?_
      refine gz_getf 0 dX0_firstPassOfWay_38 rfl rfl wf_Heliographs_Chain_53 (by decide) (congrArg Value.ref hpl) ?_
      refine gz_getf 1 dX0_firstPassOfWay_41 rfl rfl wf_Heliographs_Chain_148 (by decide) rfl ?_
      refine zz_icmp_ge (tgt := 124) dX0_firstPassOfWay_44 rfl (by omega) (fun b44 => ?_) (fun b44 => ?_)
      · exact absurd b44 (by omega)
      refine gz_aload_n dX0_firstPassOfWay_47 rfl ?_
      refine gz_iload_n dX0_firstPassOfWay_48 rfl ?_
      refine gv_1 (J := mX0_isLit) (d1 := d - 1) dX0_firstPassOfWay_49 wm_Heliographs_Chain_98 rfl jzX0_isLit (Nat.le_of_ble_eq_true rfl) (Nat.le_of_ble_eq_true rfl) (by omega) ⟨Nat.le_refl _, Nat.le_refl _⟩ (zs_isLit hcs2 (by omega) (by exact hl1)) ?_
      refine zz_if_eqB (tgt := 118) dX0_firstPassOfWay_52 rfl (fun b52 => ?_) (fun b52 => ?_)
      ·
        refine zz_iinc dX0_firstPassOfWay_118 rfl rfl ?_
        refine gz_goto (tgt := 36) dX0_firstPassOfWay_121 rfl ?_
        first
          | exact ih (i + 1) _ (by omega) (by rw [sFind_f (fun q => b113 (hno q).2.2)] at hq; exact hq)
          | exact ih (i + 1) _ (by omega) (by rw [sFind_f (fun q => b64 (hno q).2.1)] at hq; exact hq)
          | exact ih (i + 1) _ (by omega) (by rw [sFind_f (fun q => b52 (decide_eq_true (hno q).1))] at hq; exact hq)
      ·
        refine gz_aload_n dX0_firstPassOfWay_55 rfl ?_
        refine gz_getf 0 dX0_firstPassOfWay_56 rfl rfl wf_Heliographs_Chain_53 (by decide) (congrArg Value.ref hpl) ?_
        refine gz_iload_n dX0_firstPassOfWay_59 rfl ?_
        refine gz_iload_n dX0_firstPassOfWay_60 rfl ?_
        refine gv_2 (J := mX3_isEnd) (d1 := d - 1) dX0_firstPassOfWay_61 wm_Heliographs_Chain_151 rfl jzX3_isEnd (Nat.le_of_ble_eq_true rfl) (Nat.le_of_ble_eq_true rfl) (by omega) ⟨Nat.le_refl _, Nat.le_refl _⟩ (zs_isEnd hp2 hw (by omega) (by omega) (by omega)) ?_
        refine zz_if_eqB (tgt := 118) dX0_firstPassOfWay_64 rfl (fun b64 => ?_) (fun b64 => ?_)
        ·
          refine zz_iinc dX0_firstPassOfWay_118 rfl rfl ?_
          refine gz_goto (tgt := 36) dX0_firstPassOfWay_121 rfl ?_
          first
            | exact ih (i + 1) _ (by omega) (by rw [sFind_f (fun q => b113 (hno q).2.2)] at hq; exact hq)
            | exact ih (i + 1) _ (by omega) (by rw [sFind_f (fun q => b64 (hno q).2.1)] at hq; exact hq)
            | exact ih (i + 1) _ (by omega) (by rw [sFind_f (fun q => b52 (decide_eq_true (hno q).1))] at hq; exact hq)
        ·
          refine gz_aload_n dX0_firstPassOfWay_67 rfl ?_
          refine gz_getf 0 dX0_firstPassOfWay_68 rfl rfl wf_Heliographs_Chain_53 (by decide) (congrArg Value.ref hpl) ?_
          refine gz_iload_n dX0_firstPassOfWay_71 rfl ?_
          refine gz_iload_n dX0_firstPassOfWay_72 rfl ?_
          refine gv_2 (J := mX3_across) (d1 := d - 1) dX0_firstPassOfWay_73 wm_Heliographs_Chain_107 rfl jzX3_across (Nat.le_of_ble_eq_true rfl) (Nat.le_of_ble_eq_true rfl) (by omega) ⟨Nat.le_refl _, Nat.le_refl _⟩ (zk_Does.to (zs_across hp2 hw (by omega) (by omega) (by omega)) (congrArg (fun z => some (Value.int (iZ z))) hac)) ?_
          refine gz_istore dX0_firstPassOfWay_76 (Nat.le_of_ble_eq_true rfl) rfl ?_
          refine gz_aload_n dX0_firstPassOfWay_78 rfl ?_
          refine gz_getf 0 dX0_firstPassOfWay_79 rfl rfl wf_Heliographs_Chain_53 (by decide) (congrArg Value.ref hpl) ?_
          refine gz_iload dX0_firstPassOfWay_82 rfl ?_
          refine gv_1 (J := mX3_hasPeak) (d1 := d - 1) dX0_firstPassOfWay_84 wm_Heliographs_Chain_144 rfl jzX3_hasPeak (Nat.le_of_ble_eq_true rfl) (Nat.le_of_ble_eq_true rfl) (by omega) ⟨Nat.le_refl _, Nat.le_refl _⟩ (zs_hasPeak hp2 (by omega) h0.1) ?_
          refine zz_if_eqB (tgt := 118) dX0_firstPassOfWay_87 rfl (fun b87 => ?_) (fun b87 => ?_)
          · exact absurd (by simp only [decide_eq_true_eq]; omega) b87
          refine gz_aload_n dX0_firstPassOfWay_90 rfl ?_
          refine gz_getf 0 dX0_firstPassOfWay_91 rfl rfl wf_Heliographs_Chain_53 (by decide) (congrArg Value.ref hpl) ?_
          refine gz_getf 9 dX0_firstPassOfWay_94 rfl rfl wf_Heliographs_Chain_104 (by decide) rfl ?_
          refine gz_iload_n dX0_firstPassOfWay_97 rfl ?_
          refine gz_iald (v := .int (iZ (fw))) (n := i) dX0_firstPassOfWay_98 rfl rfl (by omega) (congrArg (fun z => Value.int (iZ z)) hfw) ?_
          refine gz_aload_n dX0_firstPassOfWay_99 rfl ?_
          refine gz_getf 15 dX0_firstPassOfWay_100 rfl rfl wf_Heliographs_Chain_50 (by decide) rfl ?_
          refine gz_iload dX0_firstPassOfWay_103 rfl ?_
          refine gn_iald (v := .int (iZ (rn))) dX0_firstPassOfWay_105 rfl (by omega) (congrArg (fun z => Value.int (iZ z)) hrn) ?_
          refine zz_iadd dX0_firstPassOfWay_106 ?_
          refine gz_aload_n dX0_firstPassOfWay_107 rfl ?_
          refine gz_getf 15 dX0_firstPassOfWay_108 rfl rfl wf_Heliographs_Chain_50 (by decide) rfl ?_
          refine gz_iload_n dX0_firstPassOfWay_111 rfl ?_
          refine gn_iald (v := .int (iZ (ra))) dX0_firstPassOfWay_112 rfl (by omega) (congrArg (fun z => Value.int (iZ z)) hra) ?_
          refine zz_icmp_ne (tgt := 118) dX0_firstPassOfWay_113 rfl (by omega) (fun b113 => ?_) (fun b113 => ?_)
          ·
            refine zz_iinc dX0_firstPassOfWay_118 rfl rfl ?_
            refine gz_goto (tgt := 36) dX0_firstPassOfWay_121 rfl ?_
            first
              | exact ih (i + 1) _ (by omega) (by rw [sFind_f (fun q => b113 (hno q).2.2)] at hq; exact hq)
              | exact ih (i + 1) _ (by omega) (by rw [sFind_f (fun q => b64 (hno q).2.1)] at hq; exact hq)
              | exact ih (i + 1) _ (by omega) (by rw [sFind_f (fun q => b52 (decide_eq_true (hno q).1))] at hq; exact hq)
          ·
            refine gz_iload_n dX0_firstPassOfWay_116 rfl ?_
            refine gz_ireturn dX0_firstPassOfWay_117 rfl rfl ?_
            rw [sFind_t (by exact hyes (by exact of_decide_eq_true b52) b64 b113)] at hq
            exact hq
    )

theorem zs_first_tail {c p : Nat} (hcs : c = 336 ∨ c = 352) (hp : p = 368 ∨ p = 400) (hcp : Z c 0 = (p : Int)) (hw : wP (vP Z p)) (hlit : ∀ w : Nat, w < 12 → 0 ≤ Z (c + 11) w ∧ Z (c + 11) w ≤ 1) {R : Nat → Int} (hR : ∀ k : Nat, (k : Int) < Z p 0 → Z (c + 12) k = R k ∧ 0 ≤ R k ∧ R k ≤ 1000000) {a t : Int} (ha : 0 ≤ a ∧ a < Z p 0) (ht : 0 ≤ t ∧ t < Z p 0) (hd : 2 ≤ d) {Q : Option Value → zk_M → (Heap → Prop) → Prop} (hq : Q (some (.int (iZ (if a = t ∨ 1000000 ≤ R a.toNat then -1 else sFind (sFst (vP Z p) (vC Z c) R a) 0 (Z p 1).toNat)))) (zb_M Z) F) : zk_Go l Γ mX0_firstPassOfWay d 0 0 Q 5 [some (.ref c), some (.int (iZ a)), some (.int (iZ t)), none, none] [] (zb_M Z) F := by
  have hcs2 := hcs
  have hp2 := hp
  have h0 := wP_n hw
  simp only [vP_ap, vC_ap, Nat.reduceAdd, Nat.reduceLT, Nat.add_zero, ↓reduceIte] at h0
  have hpl := congrArg Int.toNat hcp
  simp only [Int.toNat_natCast] at hpl
  have hr2 := hR a.toNat (by omega)
  obtain ⟨ra, hra⟩ : ∃ z, Z (c + 12) a.toNat = z := ⟨_, rfl⟩
  have hr3 : R a.toNat = ra := by rw [← hr2.1]; exact hra
  rw [hr3] at hq hr2
  obtain ⟨np, hnp⟩ : ∃ z, (Z p 1).toNat = z := ⟨_, rfl⟩
  rw [hnp] at hq
  have en : (np : Int) = Z p 1 := by omega
  rcases hcs with rfl | rfl <;> rcases hp with rfl | rfl <;> (
    simp only [Nat.reduceAdd] at hra hr2
    refine gz_iload_n dX0_firstPassOfWay_5 rfl ?_
    refine gz_iload_n dX0_firstPassOfWay_6 rfl ?_
    refine zz_icmp_eq (tgt := 32) dX0_firstPassOfWay_7 rfl (by omega) (fun b7 => ?_) (fun b7 => ?_)
    ·
      refine zz_iconst dX0_firstPassOfWay_32 ?_
      refine gz_ireturn dX0_firstPassOfWay_33 rfl rfl ?_
      rw [if_pos (by omega)] at hq
      exact hq
    ·
      refine gz_aload_n dX0_firstPassOfWay_10 rfl ?_
      refine gz_getf 0 dX0_firstPassOfWay_11 rfl rfl wf_Heliographs_Chain_53 (by decide) (congrArg Value.ref hpl) ?_
      refine gz_iload_n dX0_firstPassOfWay_14 rfl ?_
      refine gv_1 (J := mX3_hasPeak) (d1 := d - 1) dX0_firstPassOfWay_15 wm_Heliographs_Chain_144 rfl jzX3_hasPeak (Nat.le_of_ble_eq_true rfl) (Nat.le_of_ble_eq_true rfl) (by omega) ⟨Nat.le_refl _, Nat.le_refl _⟩ (zs_hasPeak hp2 (by omega) h0.1) ?_
      refine zz_if_eqB (tgt := 32) dX0_firstPassOfWay_18 rfl (fun b18 => ?_) (fun b18 => ?_)
      · exact absurd (by simp only [decide_eq_true_eq]; omega) b18
      refine gz_aload_n dX0_firstPassOfWay_21 rfl ?_
      refine gz_getf 15 dX0_firstPassOfWay_22 rfl rfl wf_Heliographs_Chain_50 (by decide) rfl ?_
      refine gz_iload_n dX0_firstPassOfWay_25 rfl ?_
      refine gn_iald (v := .int (iZ (ra))) dX0_firstPassOfWay_26 rfl (by omega) (congrArg (fun z => Value.int (iZ z)) hra) ?_
      refine zz_ldc (z := 1000000) dX0_firstPassOfWay_27 wk_Heliographs_Chain_147 rfl ?_
      refine zz_icmp_lt (tgt := 34) dX0_firstPassOfWay_29 rfl (by omega) (fun b29 => ?_) (fun b29 => ?_)
      ·
        refine zz_iconst dX0_firstPassOfWay_34 ?_
        refine gz_istore_n dX0_firstPassOfWay_35 (Nat.le_of_ble_eq_true rfl) rfl ?_
        exact zs_first_loop hcs2 hp2 hcp hw hlit hR ha ht hd np 0 _ (by omega) (by rw [if_neg (by omega)] at hq; exact hq)
      ·
        refine zz_iconst dX0_firstPassOfWay_32 ?_
        refine gz_ireturn dX0_firstPassOfWay_33 rfl rfl ?_
        rw [if_pos (by omega)] at hq
        exact hq
  )
theorem zs_far_tail {c p : Nat} (hcs : c = 336 ∨ c = 352) (hp : p = 368 ∨ p = 400) (hcp : Z c 0 = (p : Int)) (hw : wP (vP Z p)) (hlit : ∀ w : Nat, w < 12 → 0 ≤ Z (c + 11) w ∧ Z (c + 11) w ≤ 1) {R : Nat → Int} (hR : ∀ k : Nat, (k : Int) < Z p 0 → Z (c + 12) k = R k ∧ 0 ≤ R k ∧ R k ≤ 1000000) {a t : Int} (ha : 0 ≤ a ∧ a < Z p 0) (ht : 0 ≤ t ∧ t < Z p 0) (hd : 2 ≤ d) {Q : Option Value → zk_M → (Heap → Prop) → Prop} (hq : Q (some (.int (iZ (if R a.toNat < 1000000 then R a.toNat else -1)))) (zb_M Z) F) : zk_Go l Γ mX0_farOfWay d 0 0 Q 5 [some (.ref c), some (.int (iZ a)), some (.int (iZ t))] [] (zb_M Z) F := by
  have hcs2 := hcs
  have hp2 := hp
  have h0 := wP_n hw
  simp only [vP_ap, vC_ap, Nat.reduceAdd, Nat.reduceLT, Nat.add_zero, ↓reduceIte] at h0
  have hpl := congrArg Int.toNat hcp
  simp only [Int.toNat_natCast] at hpl
  have hr2 := hR a.toNat (by omega)
  obtain ⟨ra, hra⟩ : ∃ z, Z (c + 12) a.toNat = z := ⟨_, rfl⟩
  have hr3 : R a.toNat = ra := by rw [← hr2.1]; exact hra
  rw [hr3] at hq hr2
  obtain ⟨np, hnp⟩ : ∃ z, (Z p 1).toNat = z := ⟨_, rfl⟩
  skip
  have en : (np : Int) = Z p 1 := by omega
  rcases hcs with rfl | rfl <;> rcases hp with rfl | rfl <;> (
    simp only [Nat.reduceAdd] at hra hr2
    refine gz_aload_n dX0_farOfWay_5 rfl ?_
    refine gz_getf 0 dX0_farOfWay_6 rfl rfl wf_Heliographs_Chain_53 (by decide) (congrArg Value.ref hpl) ?_
    refine gz_iload_n dX0_farOfWay_9 rfl ?_
    refine gv_1 (J := mX3_hasPeak) (d1 := d - 1) dX0_farOfWay_10 wm_Heliographs_Chain_144 rfl jzX3_hasPeak (Nat.le_of_ble_eq_true rfl) (Nat.le_of_ble_eq_true rfl) (by omega) ⟨Nat.le_refl _, Nat.le_refl _⟩ (zs_hasPeak hp2 (by omega) h0.1) ?_
    refine zz_if_eqB (tgt := 36) dX0_farOfWay_13 rfl (fun b13 => ?_) (fun b13 => ?_)
    · exact absurd (by simp only [decide_eq_true_eq]; omega) b13
    refine gz_aload_n dX0_farOfWay_16 rfl ?_
    refine gz_getf 15 dX0_farOfWay_17 rfl rfl wf_Heliographs_Chain_50 (by decide) rfl ?_
    refine gz_iload_n dX0_farOfWay_20 rfl ?_
    refine gn_iald (v := .int (iZ (ra))) dX0_farOfWay_21 rfl (by omega) (congrArg (fun z => Value.int (iZ z)) hra) ?_
    refine zz_ldc (z := 1000000) dX0_farOfWay_22 wk_Heliographs_Chain_147 rfl ?_
    refine zz_icmp_ge (tgt := 36) dX0_farOfWay_24 rfl (by omega) (fun b24 => ?_) (fun b24 => ?_)
    ·
      refine zz_iconst dX0_farOfWay_36 ?_
      refine gz_ireturn dX0_farOfWay_37 rfl rfl ?_
      first
        | (rw [if_pos (by omega)] at hq; exact hq)
        | (rw [if_neg (by omega)] at hq; exact hq)
    ·
      refine gz_aload_n dX0_farOfWay_27 rfl ?_
      refine gz_getf 15 dX0_farOfWay_28 rfl rfl wf_Heliographs_Chain_50 (by decide) rfl ?_
      refine gz_iload_n dX0_farOfWay_31 rfl ?_
      refine gn_iald (v := .int (iZ (ra))) dX0_farOfWay_32 rfl (by omega) (congrArg (fun z => Value.int (iZ z)) hra) ?_
      refine gz_goto (tgt := 37) dX0_farOfWay_33 rfl ?_
      refine gz_ireturn dX0_farOfWay_37 rfl rfl ?_
      first
        | (rw [if_pos (by omega)] at hq; exact hq)
        | (rw [if_neg (by omega)] at hq; exact hq)
  )
theorem zs_first {c p : Nat} (hcs : c = 336 ∨ c = 352) (hp : p = 368 ∨ p = 400) (hcp : Z c 0 = (p : Int)) (hw : wP (vP Z p)) (hlit : ∀ w : Nat, w < 12 → 0 ≤ Z (c + 11) w ∧ Z (c + 11) w ≤ 1) {a t : Int} (ha : 0 ≤ a ∧ a < Z p 0) (ht : 0 ≤ t ∧ t < Z p 0) (hd : 3 ≤ d) : zk_DoesR l Γ mX0_firstPassOfWay d [.ref c, .int (iZ a), .int (iZ t)] Z F (some (.int (iZ (sFirst (vP Z p) (vC Z c) a t)))) (fun Z2 => zeq Z Z2) := by
  intro Q hq
  have hcs2 := hcs
  have hp2 := hp
  have et : ((t.toNat : Nat) : Int) = t := Int.toNat_of_nonneg ht.1
  have hme := zs_measure (l := l) (Γ := Γ) (d := d - 1) (F := F) hcs hp hcp hw hlit (t := t.toNat) (by omega) (by omega)
  rw [et] at hme
  have htl : ∀ Z2 : zV, (zeq Z Z2 ∧ ∀ k : Nat, (k : Int) < Z p 0 → Z2 (c + 12) k = sD (vP Z p) (vC Z c) t.toNat k) → zk_Go l Γ mX0_firstPassOfWay d 0 0 Q 5 [some (.ref c), some (.int (iZ a)), some (.int (iZ t)), none, none] [] (zb_M Z2) F := by
    intro Z2 hZ2
    obtain ⟨hz2, hk2⟩ := hZ2
    have e0 := hz2.at (a := p) (by omega) 0
    have e1 := hz2.at (a := p) (by omega) 1
    have hw2 : wP (vP Z2 p) := by rw [hz2.vP hp]; exact hw
    have q0 := hq Z2 hz2
    refine zs_first_tail hcs hp ((hz2.at (a := c) (by omega) 0).trans hcp) hw2 (fun w hw0 => by rw [hz2.at (a := c + 11) (by omega) w]; exact hlit w hw0) (R := sD (vP Z p) (vC Z c) t.toNat) (fun k hk => ⟨hk2 k (by omega), by have q := sD_bd hw (vC Z c) t.toNat (k := k) (by simp only [vP_ap, vC_ap, Nat.reduceAdd, Nat.reduceLT, Nat.add_zero, ↓reduceIte]; omega); omega⟩) (by omega) (by omega) (by omega) ?_
    rw [hz2.vP hp, hz2.vC hcs, e1]
    exact q0
  rcases hcs with rfl | rfl <;> rcases hp with rfl | rfl <;> (
    refine gz_aload_n dX0_firstPassOfWay_0 rfl ?_
    refine gz_iload_n dX0_firstPassOfWay_1 rfl ?_
    refine gq_1 (J := mX0_measure) (d1 := d - 1) dX0_firstPassOfWay_2 wm_Heliographs_Chain_141 rfl jzX0_measure (Nat.le_of_ble_eq_true rfl) (Nat.le_of_ble_eq_true rfl) (by omega) (hme) (fun Z2 hZ2 => ?_)
    exact htl Z2 hZ2
  )
theorem zs_far {c p : Nat} (hcs : c = 336 ∨ c = 352) (hp : p = 368 ∨ p = 400) (hcp : Z c 0 = (p : Int)) (hw : wP (vP Z p)) (hlit : ∀ w : Nat, w < 12 → 0 ≤ Z (c + 11) w ∧ Z (c + 11) w ≤ 1) {a t : Int} (ha : 0 ≤ a ∧ a < Z p 0) (ht : 0 ≤ t ∧ t < Z p 0) (hd : 3 ≤ d) : zk_DoesR l Γ mX0_farOfWay d [.ref c, .int (iZ a), .int (iZ t)] Z F (some (.int (iZ (sFar (vP Z p) (vC Z c) a t)))) (fun Z2 => zeq Z Z2) := by
  intro Q hq
  have hcs2 := hcs
  have hp2 := hp
  have et : ((t.toNat : Nat) : Int) = t := Int.toNat_of_nonneg ht.1
  have hme := zs_measure (l := l) (Γ := Γ) (d := d - 1) (F := F) hcs hp hcp hw hlit (t := t.toNat) (by omega) (by omega)
  rw [et] at hme
  have htl : ∀ Z2 : zV, (zeq Z Z2 ∧ ∀ k : Nat, (k : Int) < Z p 0 → Z2 (c + 12) k = sD (vP Z p) (vC Z c) t.toNat k) → zk_Go l Γ mX0_farOfWay d 0 0 Q 5 [some (.ref c), some (.int (iZ a)), some (.int (iZ t))] [] (zb_M Z2) F := by
    intro Z2 hZ2
    obtain ⟨hz2, hk2⟩ := hZ2
    have e0 := hz2.at (a := p) (by omega) 0
    have e1 := hz2.at (a := p) (by omega) 1
    have hw2 : wP (vP Z2 p) := by rw [hz2.vP hp]; exact hw
    have q0 := hq Z2 hz2
    refine zs_far_tail hcs hp ((hz2.at (a := c) (by omega) 0).trans hcp) hw2 (fun w hw0 => by rw [hz2.at (a := c + 11) (by omega) w]; exact hlit w hw0) (R := sD (vP Z p) (vC Z c) t.toNat) (fun k hk => ⟨hk2 k (by omega), by have q := sD_bd hw (vC Z c) t.toNat (k := k) (by simp only [vP_ap, vC_ap, Nat.reduceAdd, Nat.reduceLT, Nat.add_zero, ↓reduceIte]; omega); omega⟩) (by omega) (by omega) (by omega) ?_
    exact q0
  rcases hcs with rfl | rfl <;> rcases hp with rfl | rfl <;> (
    refine gz_aload_n dX0_farOfWay_0 rfl ?_
    refine gz_iload_n dX0_farOfWay_1 rfl ?_
    refine gq_1 (J := mX0_measure) (d1 := d - 1) dX0_farOfWay_2 wm_Heliographs_Chain_141 rfl jzX0_measure (Nat.le_of_ble_eq_true rfl) (Nat.le_of_ble_eq_true rfl) (by omega) (hme) (fun Z2 hZ2 => ?_)
    exact htl Z2 hZ2
  )
end

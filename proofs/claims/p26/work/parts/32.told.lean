/-! WHAT IS TOLD -/
section
variable {l : Launch} {Γ : zk_G} {d : Nat} {Z : Nat → Nat → Int} {F : Heap → Prop}
theorem zs_isLit {c : Nat} (hcs : c = 336 ∨ c = 352) {x : Int} (hx : 0 ≤ x ∧ x < 12) (hl : 0 ≤ Z (c + 11) x.toNat ∧ Z (c + 11) x.toNat ≤ 1) : zk_Does l Γ mX0_isLit d 0 0 [.ref c, .int (iZ x)] (zb_M Z) F (some (.int (iZ (bI (decide (Z (c + 11) x.toNat ≠ 0)))))) (zb_M Z) F := by
  intro Q hq
  rcases hcs with rfl | rfl <;> (
    simp only [Nat.reduceAdd] at hl
    refine gz_iload_n dX0_isLit_0 rfl ?_
    refine zz_if_lt (tgt := 26) dX0_isLit_1 rfl (by omega) (fun b1 => ?_) (fun b1 => ?_)
    · exact absurd b1 (by omega)
    refine gz_iload_n dX0_isLit_4 rfl ?_
    refine gz_aload_n dX0_isLit_5 rfl ?_
    refine gz_getf 14 dX0_isLit_6 rfl rfl wf_Heliographs_Chain_46 (by decide) rfl ?_
    refine gz_alen (k := 2) dX0_isLit_9 rfl (by decide) ?_
    refine zz_icmp_ge (tgt := 26) dX0_isLit_10 rfl (by omega) (fun b10 => ?_) (fun b10 => ?_)
    · exact absurd b10 (by omega)
    refine gz_aload_n dX0_isLit_13 rfl ?_
    refine gz_getf 14 dX0_isLit_14 rfl rfl wf_Heliographs_Chain_46 (by decide) rfl ?_
    refine gz_iload_n dX0_isLit_17 rfl ?_
    refine gn_zald dX0_isLit_18 rfl (by omega) rfl ?_
    refine zz_if_eq (tgt := 26) dX0_isLit_19 rfl (by omega) (fun b19 => ?_) (fun b19 => ?_)
    ·
      refine zz_iconst dX0_isLit_26 ?_
      refine gz_ireturn dX0_isLit_27 rfl rfl ?_
      (first | (rw [bI_t (by simp only [Nat.reduceAdd, decide_eq_true_eq, ne_eq]; omega)] at hq; exact hq) | (rw [bI_f (by simp only [Nat.reduceAdd, decide_eq_true_eq, ne_eq]; omega)] at hq; exact hq))
    ·
      refine zz_iconst dX0_isLit_22 ?_
      refine gz_goto (tgt := 27) dX0_isLit_23 rfl ?_
      refine gz_ireturn dX0_isLit_27 rfl rfl ?_
      (first | (rw [bI_t (by simp only [Nat.reduceAdd, decide_eq_true_eq, ne_eq]; omega)] at hq; exact hq) | (rw [bI_f (by simp only [Nat.reduceAdd, decide_eq_true_eq, ne_eq]; omega)] at hq; exact hq))
  )
theorem zs_isCarried {c p : Nat} (hcs : c = 336 ∨ c = 352) (hp : p = 368 ∨ p = 400) (hcp : Z c 0 = (p : Int)) (hw : wP (vP Z p)) {N : Int} (hc : wC (vP Z p) (vC Z c) N) {x : Int} (hx : 0 ≤ x ∧ x < Z p 3) (hd : 1 ≤ d) : zk_Does l Γ mX0_isCarried d 0 0 [.ref c, .int (iZ x)] (zb_M Z) F (some (.int (iZ (bI (decide (Z (c + 4) x.toNat = 1)))))) (zb_M Z) F := by
  intro Q hq
  rcases hcs with rfl | rfl <;> rcases hp with rfl | rfl <;> (
    have hpl := congrArg Int.toNat hcp
    simp only [Int.toNat_natCast] at hpl
    have h0 := wP_n hw
    have h1 := wP_m hw (i := x.toNat) (by simp only [vP, vC, Nat.reduceAdd, Nat.reduceLT, Nat.add_zero, ↓reduceIte]; omega)
    have h2 := wC_m hc (k := x.toNat) (by simp only [vP, vC, Nat.reduceAdd, Nat.reduceLT, Nat.add_zero, ↓reduceIte]; omega)
    simp only [wM, vP, vC, Nat.reduceAdd, Nat.reduceLT, Nat.add_zero, ↓reduceIte] at h0 h1 h2
    refine gz_aload_n dX0_isCarried_0 rfl ?_
    refine gz_getf 0 dX0_isCarried_1 rfl rfl wf_Heliographs_Chain_53 (by decide) (congrArg Value.ref hpl) ?_
    refine gz_iload_n dX0_isCarried_4 rfl ?_
    refine gv_1 (J := mX3_hasMessage) (d1 := d - 1) dX0_isCarried_5 wm_Heliographs_Chain_94 rfl jzX3_hasMessage (Nat.le_of_ble_eq_true rfl) (Nat.le_of_ble_eq_true rfl) (by omega) ⟨Nat.le_refl _, Nat.le_refl _⟩ (zs_hasMessage (by simp) (by omega) h0.2.2.2) ?_
    refine zz_if_eqB (tgt := 25) dX0_isCarried_8 rfl (fun b8 => ?_) (fun b8 => ?_)
    · exact absurd (by simp only [decide_eq_true_eq]; omega) b8
    refine gz_aload_n dX0_isCarried_11 rfl ?_
    refine gz_getf 6 dX0_isCarried_12 rfl rfl wf_Heliographs_Chain_25 (by decide) rfl ?_
    refine gz_iload_n dX0_isCarried_15 rfl ?_
    refine gn_iald dX0_isCarried_16 rfl (by omega) rfl ?_
    refine zz_iconst dX0_isCarried_17 ?_
    refine zz_icmp_ne (tgt := 25) dX0_isCarried_18 rfl (by omega) (fun b18 => ?_) (fun b18 => ?_)
    ·
      refine zz_iconst dX0_isCarried_25 ?_
      refine gz_ireturn dX0_isCarried_26 rfl rfl ?_
      (first | (rw [bI_t (by simp only [Nat.reduceAdd, decide_eq_true_eq, ne_eq]; omega)] at hq; exact hq) | (rw [bI_f (by simp only [Nat.reduceAdd, decide_eq_true_eq, ne_eq]; omega)] at hq; exact hq))
    ·
      refine zz_iconst dX0_isCarried_21 ?_
      refine gz_goto (tgt := 26) dX0_isCarried_22 rfl ?_
      refine gz_ireturn dX0_isCarried_26 rfl rfl ?_
      (first | (rw [bI_t (by simp only [Nat.reduceAdd, decide_eq_true_eq, ne_eq]; omega)] at hq; exact hq) | (rw [bI_f (by simp only [Nat.reduceAdd, decide_eq_true_eq, ne_eq]; omega)] at hq; exact hq))
  )
theorem zs_leftOf {c p : Nat} (hcs : c = 336 ∨ c = 352) (hp : p = 368 ∨ p = 400) (hcp : Z c 0 = (p : Int)) (hw : wP (vP Z p)) {N : Int} (hc : wC (vP Z p) (vC Z c) N) {x : Int} (hx : 0 ≤ x ∧ x < Z p 3) (hd : 1 ≤ d) : zk_Does l Γ mX0_leftOf d 0 0 [.ref c, .int (iZ x)] (zb_M Z) F (some (.int (iZ (Z (c + 5) x.toNat)))) (zb_M Z) F := by
  intro Q hq
  rcases hcs with rfl | rfl <;> rcases hp with rfl | rfl <;> (
    have hpl := congrArg Int.toNat hcp
    simp only [Int.toNat_natCast] at hpl
    have h0 := wP_n hw
    have h1 := wP_m hw (i := x.toNat) (by simp only [vP, vC, Nat.reduceAdd, Nat.reduceLT, Nat.add_zero, ↓reduceIte]; omega)
    have h2 := wC_m hc (k := x.toNat) (by simp only [vP, vC, Nat.reduceAdd, Nat.reduceLT, Nat.add_zero, ↓reduceIte]; omega)
    simp only [wM, vP, vC, Nat.reduceAdd, Nat.reduceLT, Nat.add_zero, ↓reduceIte] at h0 h1 h2
    refine gz_aload_n dX0_leftOf_0 rfl ?_
    refine gz_getf 0 dX0_leftOf_1 rfl rfl wf_Heliographs_Chain_53 (by decide) (congrArg Value.ref hpl) ?_
    refine gz_iload_n dX0_leftOf_4 rfl ?_
    refine gv_1 (J := mX3_hasMessage) (d1 := d - 1) dX0_leftOf_5 wm_Heliographs_Chain_94 rfl jzX3_hasMessage (Nat.le_of_ble_eq_true rfl) (Nat.le_of_ble_eq_true rfl) (by omega) ⟨Nat.le_refl _, Nat.le_refl _⟩ (zs_hasMessage (by simp) (by omega) h0.2.2.2) ?_
    refine zz_if_eqB (tgt := 20) dX0_leftOf_8 rfl (fun b8 => ?_) (fun b8 => ?_)
    · exact absurd (by simp only [decide_eq_true_eq]; omega) b8
    refine gz_aload_n dX0_leftOf_11 rfl ?_
    refine gz_getf 7 dX0_leftOf_12 rfl rfl wf_Heliographs_Chain_28 (by decide) rfl ?_
    refine gz_iload_n dX0_leftOf_15 rfl ?_
    refine gn_iald dX0_leftOf_16 rfl (by omega) rfl ?_
    refine gz_goto (tgt := 21) dX0_leftOf_17 rfl ?_
    refine gz_ireturn dX0_leftOf_21 rfl rfl ?_
    exact hq
  )
theorem zs_breaksOf {c p : Nat} (hcs : c = 336 ∨ c = 352) (hp : p = 368 ∨ p = 400) (hcp : Z c 0 = (p : Int)) (hw : wP (vP Z p)) {N : Int} (hc : wC (vP Z p) (vC Z c) N) {x : Int} (hx : 0 ≤ x ∧ x < Z p 3) (hd : 1 ≤ d) : zk_Does l Γ mX0_breaksOf d 0 0 [.ref c, .int (iZ x)] (zb_M Z) F (some (.int (iZ (Z (c + 8) x.toNat)))) (zb_M Z) F := by
  intro Q hq
  rcases hcs with rfl | rfl <;> rcases hp with rfl | rfl <;> (
    have hpl := congrArg Int.toNat hcp
    simp only [Int.toNat_natCast] at hpl
    have h0 := wP_n hw
    have h1 := wP_m hw (i := x.toNat) (by simp only [vP, vC, Nat.reduceAdd, Nat.reduceLT, Nat.add_zero, ↓reduceIte]; omega)
    have h2 := wC_m hc (k := x.toNat) (by simp only [vP, vC, Nat.reduceAdd, Nat.reduceLT, Nat.add_zero, ↓reduceIte]; omega)
    simp only [wM, vP, vC, Nat.reduceAdd, Nat.reduceLT, Nat.add_zero, ↓reduceIte] at h0 h1 h2
    refine gz_aload_n dX0_breaksOf_0 rfl ?_
    refine gz_getf 0 dX0_breaksOf_1 rfl rfl wf_Heliographs_Chain_53 (by decide) (congrArg Value.ref hpl) ?_
    refine gz_iload_n dX0_breaksOf_4 rfl ?_
    refine gv_1 (J := mX3_hasMessage) (d1 := d - 1) dX0_breaksOf_5 wm_Heliographs_Chain_94 rfl jzX3_hasMessage (Nat.le_of_ble_eq_true rfl) (Nat.le_of_ble_eq_true rfl) (by omega) ⟨Nat.le_refl _, Nat.le_refl _⟩ (zs_hasMessage (by simp) (by omega) h0.2.2.2) ?_
    refine zz_if_eqB (tgt := 20) dX0_breaksOf_8 rfl (fun b8 => ?_) (fun b8 => ?_)
    · exact absurd (by simp only [decide_eq_true_eq]; omega) b8
    refine gz_aload_n dX0_breaksOf_11 rfl ?_
    refine gz_getf 10 dX0_breaksOf_12 rfl rfl wf_Heliographs_Chain_37 (by decide) rfl ?_
    refine gz_iload_n dX0_breaksOf_15 rfl ?_
    refine gn_iald dX0_breaksOf_16 rfl (by omega) rfl ?_
    refine gz_goto (tgt := 21) dX0_breaksOf_17 rfl ?_
    refine gz_ireturn dX0_breaksOf_21 rfl rfl ?_
    exact hq
  )
theorem zs_freeMirrors {c p : Nat} (hcs : c = 336 ∨ c = 352) (hp : p = 368 ∨ p = 400) (hcp : Z c 0 = (p : Int)) (hw : wP (vP Z p)) {N : Int} (hc : wC (vP Z p) (vC Z c) N) {x : Int} (hx : 0 ≤ x ∧ x < Z p 0) (hd : 2 ≤ d) : zk_Does l Γ mX0_freeMirrors d 0 0 [.ref c, .int (iZ x)] (zb_M Z) F (some (.int (iZ (sFree (vP Z p) (vC Z c) x)))) (zb_M Z) F := by
  intro Q hq
  rcases hcs with rfl | rfl <;> rcases hp with rfl | rfl <;> (
    have hpl := congrArg Int.toNat hcp
    simp only [Int.toNat_natCast] at hpl
    have h0 := wP_n hw
    have h1 := wP_k hw (k := x.toNat) (by simp only [vP, vC, Nat.reduceAdd, Nat.reduceLT, Nat.add_zero, ↓reduceIte]; omega)
    have h2 := wC_k hc (k := x.toNat) (by simp only [vP, vC, Nat.reduceAdd, Nat.reduceLT, Nat.add_zero, ↓reduceIte]; omega)
    simp only [vP, vC, Nat.reduceAdd, Nat.reduceLT, Nat.add_zero, ↓reduceIte] at h0 h1 h2
    refine gz_aload_n dX0_freeMirrors_0 rfl ?_
    refine gz_getf 0 dX0_freeMirrors_1 rfl rfl wf_Heliographs_Chain_53 (by decide) (congrArg Value.ref hpl) ?_
    refine gz_iload_n dX0_freeMirrors_4 rfl ?_
    refine gv_1 (J := mX3_hasPeak) (d1 := d - 1) dX0_freeMirrors_5 wm_Heliographs_Chain_144 rfl jzX3_hasPeak (Nat.le_of_ble_eq_true rfl) (Nat.le_of_ble_eq_true rfl) (by omega) ⟨Nat.le_refl _, Nat.le_refl _⟩ (zs_hasPeak (by simp) (by omega) h0.1) ?_
    refine zz_if_eqB (tgt := 27) dX0_freeMirrors_8 rfl (fun b8 => ?_) (fun b8 => ?_)
    · exact absurd (by simp only [decide_eq_true_eq]; omega) b8
    refine gz_aload_n dX0_freeMirrors_11 rfl ?_
    refine gz_getf 3 dX0_freeMirrors_12 rfl rfl wf_Heliographs_Chain_15 (by decide) rfl ?_
    refine gz_iload_n dX0_freeMirrors_15 rfl ?_
    refine gn_iald dX0_freeMirrors_16 rfl (by omega) rfl ?_
    refine gz_aload_n dX0_freeMirrors_17 rfl ?_
    refine gz_iload_n dX0_freeMirrors_18 rfl ?_
    refine zz_iconst dX0_freeMirrors_19 ?_
    refine gv_2 (J := mX0_messagesAt) (d1 := d - 1) dX0_freeMirrors_20 wm_Heliographs_Chain_173 rfl jzX0_messagesAt (Nat.le_of_ble_eq_true rfl) (Nat.le_of_ble_eq_true rfl) (by omega) ⟨Nat.le_refl _, Nat.le_refl _⟩ (zs_messagesAt (by simp) (by simp) hcp hw hc (by omega) (by omega)) ?_
    refine zz_isub dX0_freeMirrors_23 ?_
    refine gz_goto (tgt := 28) dX0_freeMirrors_24 rfl ?_
    refine gz_ireturn dX0_freeMirrors_28 rfl rfl ?_
    exact hq
  )
theorem zs_messageOver_loop {c p : Nat} (hcs : c = 336 ∨ c = 352) (hp : p = 368 ∨ p = 400) (hcp : Z c 0 = (p : Int)) (hw : wP (vP Z p)) {N : Int} (hc : wC (vP Z p) (vC Z c) N) {x : Int} (hx : -2147483648 ≤ x ∧ x < 2147483648) {Q : Option Value → zk_M → (Heap → Prop) → Prop} : ∀ (n i : Nat), (i : Int) + n = Z p 3 → Q (some (.int (iZ (sFind (fun m => decide (vC Z c 7 m = x)) i n)))) (zb_M Z) F → zk_Go l Γ mX0_messageOver d 0 0 Q 2 [some (.ref c), some (.int (iZ x)), some (.int (iZ (i : Int)))] [] (zb_M Z) F := by
  rcases hcs with rfl | rfl <;> rcases hp with rfl | rfl <;> (
    intro n
    induction n with
    | zero =>
      intro i hi hq
      have hpl := congrArg Int.toNat hcp
      simp only [Int.toNat_natCast] at hpl
      have h0 := wP_n hw
      simp only [vP, vC, Nat.reduceAdd, Nat.reduceLT, Nat.add_zero, ↓reduceIte] at h0
      refine gz_iload_n dX0_messageOver_2 rfl ?_
      refine gz_aload_n dX0_messageOver_3 rfl ?_
      refine gz_getf 0 dX0_messageOver_4 rfl rfl wf_Heliographs_Chain_53 (by decide) (congrArg Value.ref hpl) ?_
      refine gz_getf 3 dX0_messageOver_7 rfl rfl wf_Heliographs_Chain_81 (by decide) rfl ?_
      refine zz_icmp_ge (tgt := 37) dX0_messageOver_10 rfl (by omega) (fun b10 => ?_) (fun b10 => ?_)
      rotate_left
      · exact absurd b10 (by omega)
      refine zz_iconst dX0_messageOver_37 ?_
      refine gz_ireturn dX0_messageOver_38 rfl rfl ?_
      exact hq
    | succ n ih =>
      intro i hi hq
      have hpl := congrArg Int.toNat hcp
      simp only [Int.toNat_natCast] at hpl
      have h0 := wP_n hw
      simp only [vP, vC, Nat.reduceAdd, Nat.reduceLT, Nat.add_zero, ↓reduceIte] at h0
      have h1 := wC_m hc (k := i) (by simp only [vP, vC, Nat.reduceAdd, Nat.reduceLT, Nat.add_zero, ↓reduceIte]; omega)
      simp only [wM, vP, vC, Nat.reduceAdd, Nat.reduceLT, Nat.add_zero, ↓reduceIte] at h1
      refine gz_iload_n dX0_messageOver_2 rfl ?_
      refine gz_aload_n dX0_messageOver_3 rfl ?_
      refine gz_getf 0 dX0_messageOver_4 rfl rfl wf_Heliographs_Chain_53 (by decide) (congrArg Value.ref hpl) ?_
      refine gz_getf 3 dX0_messageOver_7 rfl rfl wf_Heliographs_Chain_81 (by decide) rfl ?_
      refine zz_icmp_ge (tgt := 37) dX0_messageOver_10 rfl (by omega) (fun b10 => ?_) (fun b10 => ?_)
      · exact absurd b10 (by omega)
      refine gz_iload_n dX0_messageOver_13 rfl ?_
      refine zz_bipush (x := 8) dX0_messageOver_14 rfl ?_
      refine zz_icmp_ge (tgt := 37) dX0_messageOver_16 rfl (by omega) (fun b16 => ?_) (fun b16 => ?_)
      · exact absurd b16 (by omega)
      refine gz_aload_n dX0_messageOver_19 rfl ?_
      refine gz_getf 9 dX0_messageOver_20 rfl rfl wf_Heliographs_Chain_34 (by decide) rfl ?_
      refine gz_iload_n dX0_messageOver_23 rfl ?_
      refine gz_iald (n := i) dX0_messageOver_24 rfl rfl (by omega) rfl ?_
      refine gz_iload_n dX0_messageOver_25 rfl ?_
      refine zz_icmp_ne (tgt := 31) dX0_messageOver_26 rfl (by omega) (fun b26 => ?_) (fun b26 => ?_)
      ·
        refine zz_iinc dX0_messageOver_31 rfl rfl ?_
        refine gz_goto (tgt := 2) dX0_messageOver_34 rfl ?_
        exact ih (i + 1) (by omega) (by rw [sFind_f (by simp only [vP, vC, Nat.reduceAdd, Nat.reduceLT, Nat.add_zero, ↓reduceIte, decide_eq_true_eq]; omega)] at hq; exact hq)
      ·
        rw [sFind_t (by simp only [vP, vC, Nat.reduceAdd, Nat.reduceLT, Nat.add_zero, ↓reduceIte, decide_eq_true_eq]; omega)] at hq
        refine gz_iload_n dX0_messageOver_29 rfl ?_
        refine gz_ireturn dX0_messageOver_30 rfl rfl ?_
        exact hq
  )
theorem zs_messageOver {c p : Nat} (hcs : c = 336 ∨ c = 352) (hp : p = 368 ∨ p = 400) (hcp : Z c 0 = (p : Int)) (hw : wP (vP Z p)) {N : Int} (hc : wC (vP Z p) (vC Z c) N) {x : Int} (hx : -2147483648 ≤ x ∧ x < 2147483648) : zk_Does l Γ mX0_messageOver d 0 0 [.ref c, .int (iZ x)] (zb_M Z) F (some (.int (iZ (sFind (fun m => decide (vC Z c 7 m = x)) 0 (Z p 3).toNat)))) (zb_M Z) F := by
  intro Q hq
  refine zz_iconst dX0_messageOver_0 ?_
  refine gz_istore_n dX0_messageOver_1 (Nat.le_of_ble_eq_true rfl) rfl ?_
  exact zs_messageOver_loop hcs hp hcp hw hc hx (Z p 3).toNat 0 (by have := wP_n hw; simp only [vP, vC, Nat.reduceAdd, Nat.reduceLT, Nat.add_zero, ↓reduceIte] at this; omega) hq
theorem zs_breaksInAll_loop {c p : Nat} (hcs : c = 336 ∨ c = 352) (hp : p = 368 ∨ p = 400) (hcp : Z c 0 = (p : Int)) (hw : wP (vP Z p)) {N : Int} (hc : wC (vP Z p) (vC Z c) N) {Q : Option Value → zk_M → (Heap → Prop) → Prop} : ∀ (n i : Nat) (A : Int), (i : Int) + n = Z p 3 → 0 ≤ A ∧ A ≤ i * 90000 → Q (some (.int (iZ (A + sSum (vC Z c 8) i n)))) (zb_M Z) F → zk_Go l Γ mX0_breaksInAll d 0 0 Q 4 [some (.ref c), some (.int (iZ A)), some (.int (iZ (i : Int)))] [] (zb_M Z) F := by
  rcases hcs with rfl | rfl <;> rcases hp with rfl | rfl <;> (
    intro n
    induction n with
    | zero =>
      intro i A hi hA hq
      have hpl := congrArg Int.toNat hcp
      simp only [Int.toNat_natCast] at hpl
      have h0 := wP_n hw
      simp only [vP, vC, Nat.reduceAdd, Nat.reduceLT, Nat.add_zero, ↓reduceIte] at h0
      refine gz_iload_n dX0_breaksInAll_4 rfl ?_
      refine gz_aload_n dX0_breaksInAll_5 rfl ?_
      refine gz_getf 0 dX0_breaksInAll_6 rfl rfl wf_Heliographs_Chain_53 (by decide) (congrArg Value.ref hpl) ?_
      refine gz_getf 3 dX0_breaksInAll_9 rfl rfl wf_Heliographs_Chain_81 (by decide) rfl ?_
      refine zz_icmp_ge (tgt := 36) dX0_breaksInAll_12 rfl (by omega) (fun b12 => ?_) (fun b12 => ?_)
      rotate_left
      · exact absurd b12 (by omega)
      refine gz_iload_n dX0_breaksInAll_36 rfl ?_
      refine gz_ireturn dX0_breaksInAll_37 rfl rfl ?_
      rw [sSum_0, Int.add_zero] at hq
      exact hq
    | succ n ih =>
      intro i A hi hA hq
      have hpl := congrArg Int.toNat hcp
      simp only [Int.toNat_natCast] at hpl
      have h0 := wP_n hw
      simp only [vP, vC, Nat.reduceAdd, Nat.reduceLT, Nat.add_zero, ↓reduceIte] at h0
      have h1 := wC_m hc (k := i) (by simp only [vP, vC, Nat.reduceAdd, Nat.reduceLT, Nat.add_zero, ↓reduceIte]; omega)
      simp only [wM, vP, vC, Nat.reduceAdd, Nat.reduceLT, Nat.add_zero, ↓reduceIte] at h1
      have h5 := wC_n hc
      simp only [vP, vC, Nat.reduceAdd, Nat.reduceLT, Nat.add_zero, ↓reduceIte] at h5
      refine gz_iload_n dX0_breaksInAll_4 rfl ?_
      refine gz_aload_n dX0_breaksInAll_5 rfl ?_
      refine gz_getf 0 dX0_breaksInAll_6 rfl rfl wf_Heliographs_Chain_53 (by decide) (congrArg Value.ref hpl) ?_
      refine gz_getf 3 dX0_breaksInAll_9 rfl rfl wf_Heliographs_Chain_81 (by decide) rfl ?_
      refine zz_icmp_ge (tgt := 36) dX0_breaksInAll_12 rfl (by omega) (fun b12 => ?_) (fun b12 => ?_)
      · exact absurd b12 (by omega)
      refine gz_iload_n dX0_breaksInAll_15 rfl ?_
      refine zz_bipush (x := 8) dX0_breaksInAll_16 rfl ?_
      refine zz_icmp_ge (tgt := 36) dX0_breaksInAll_18 rfl (by omega) (fun b18 => ?_) (fun b18 => ?_)
      · exact absurd b18 (by omega)
      refine gz_iload_n dX0_breaksInAll_21 rfl ?_
      refine gz_aload_n dX0_breaksInAll_22 rfl ?_
      refine gz_getf 10 dX0_breaksInAll_23 rfl rfl wf_Heliographs_Chain_37 (by decide) rfl ?_
      refine gz_iload_n dX0_breaksInAll_26 rfl ?_
      refine gz_iald (n := i) dX0_breaksInAll_27 rfl rfl (by omega) rfl ?_
      refine zz_iadd dX0_breaksInAll_28 ?_
      refine gz_istore_n dX0_breaksInAll_29 (Nat.le_of_ble_eq_true rfl) rfl ?_
      refine zz_iinc dX0_breaksInAll_30 rfl rfl ?_
      refine gz_goto (tgt := 4) dX0_breaksInAll_33 rfl ?_
      exact ih (i + 1) _ (by omega) (by omega) (by rw [sSum_1, ← Int.add_assoc] at hq; exact hq)
  )
theorem zs_breaksInAll {c p : Nat} (hcs : c = 336 ∨ c = 352) (hp : p = 368 ∨ p = 400) (hcp : Z c 0 = (p : Int)) (hw : wP (vP Z p)) {N : Int} (hc : wC (vP Z p) (vC Z c) N) : zk_Does l Γ mX0_breaksInAll d 0 0 [.ref c] (zb_M Z) F (some (.int (iZ (sSum (vC Z c 8) 0 (Z p 3).toNat)))) (zb_M Z) F := by
  intro Q hq
  refine zz_iconst dX0_breaksInAll_0 ?_
  refine gz_istore_n dX0_breaksInAll_1 (Nat.le_of_ble_eq_true rfl) rfl ?_
  refine zz_iconst dX0_breaksInAll_2 ?_
  refine gz_istore_n dX0_breaksInAll_3 (Nat.le_of_ble_eq_true rfl) rfl ?_
  exact zs_breaksInAll_loop hcs hp hcp hw hc (Z p 3).toNat 0 0 (by have := wP_n hw; simp only [vP, vC, Nat.reduceAdd, Nat.reduceLT, Nat.add_zero, ↓reduceIte] at this; omega) (by omega) (by rw [Int.zero_add]; exact hq)
theorem zs_tally_8 {c p : Nat} (hcs : c = 336 ∨ c = 352) (hp : p = 368 ∨ p = 400) (hcp : Z c 0 = (p : Int)) (hw : wP (vP Z p)) {N : Int} (hc : wC (vP Z p) (vC Z c) N) (hd : 1 ≤ d) : zk_Does l Γ mX0_tally d 0 0 [.ref c, .int (iZ 8)] (zb_M Z) F (some (.int (iZ (sTally (vP Z p) (vC Z c) 8)))) (zb_M Z) F := by
  intro Q hq
  rcases hcs with rfl | rfl <;> rcases hp with rfl | rfl <;> (
    have hpl := congrArg Int.toNat hcp
    simp only [Int.toNat_natCast] at hpl
    refine gz_iload_n dX0_tally_0 rfl ?_
    refine zz_tsw (tgt := 32) dX0_tally_1 (by omega) (by decide) (by decide) rfl rfl ?_
    refine gz_aload_n dX0_tally_32 rfl ?_
    refine zz_iconst dX0_tally_33 ?_
    refine gv_1 (J := mX0_messagesIn) (d1 := d - 1) dX0_tally_34 wm_Heliographs_Chain_179 rfl jzX0_messagesIn (Nat.le_of_ble_eq_true rfl) (Nat.le_of_ble_eq_true rfl) (by omega) ⟨Nat.le_refl _, Nat.le_refl _⟩ (zs_messagesIn (by simp) (by simp) hcp hw hc (by omega)) ?_
    refine gz_ireturn dX0_tally_37 rfl rfl ?_
    exact hq
  )
theorem zs_tally_9 {c p : Nat} (hcs : c = 336 ∨ c = 352) (hp : p = 368 ∨ p = 400) (hcp : Z c 0 = (p : Int)) (hw : wP (vP Z p)) {N : Int} (hc : wC (vP Z p) (vC Z c) N) (hd : 1 ≤ d) : zk_Does l Γ mX0_tally d 0 0 [.ref c, .int (iZ 9)] (zb_M Z) F (some (.int (iZ (sTally (vP Z p) (vC Z c) 9)))) (zb_M Z) F := by
  intro Q hq
  rcases hcs with rfl | rfl <;> rcases hp with rfl | rfl <;> (
    have hpl := congrArg Int.toNat hcp
    simp only [Int.toNat_natCast] at hpl
    refine gz_iload_n dX0_tally_0 rfl ?_
    refine zz_tsw (tgt := 38) dX0_tally_1 (by omega) (by decide) (by decide) rfl rfl ?_
    refine gz_aload_n dX0_tally_38 rfl ?_
    refine zz_iconst dX0_tally_39 ?_
    refine gv_1 (J := mX0_messagesIn) (d1 := d - 1) dX0_tally_40 wm_Heliographs_Chain_179 rfl jzX0_messagesIn (Nat.le_of_ble_eq_true rfl) (Nat.le_of_ble_eq_true rfl) (by omega) ⟨Nat.le_refl _, Nat.le_refl _⟩ (zs_messagesIn (by simp) (by simp) hcp hw hc (by omega)) ?_
    refine gz_ireturn dX0_tally_43 rfl rfl ?_
    exact hq
  )
theorem zs_tally_10 {c p : Nat} (hcs : c = 336 ∨ c = 352) (hp : p = 368 ∨ p = 400) (hcp : Z c 0 = (p : Int)) (hw : wP (vP Z p)) {N : Int} (hc : wC (vP Z p) (vC Z c) N) (hd : 1 ≤ d) : zk_Does l Γ mX0_tally d 0 0 [.ref c, .int (iZ 10)] (zb_M Z) F (some (.int (iZ (sTally (vP Z p) (vC Z c) 10)))) (zb_M Z) F := by
  intro Q hq
  rcases hcs with rfl | rfl <;> rcases hp with rfl | rfl <;> (
    have hpl := congrArg Int.toNat hcp
    simp only [Int.toNat_natCast] at hpl
    refine gz_iload_n dX0_tally_0 rfl ?_
    refine zz_tsw (tgt := 44) dX0_tally_1 (by omega) (by decide) (by decide) rfl rfl ?_
    refine gz_aload_n dX0_tally_44 rfl ?_
    refine zz_iconst dX0_tally_45 ?_
    refine gv_1 (J := mX0_messagesIn) (d1 := d - 1) dX0_tally_46 wm_Heliographs_Chain_179 rfl jzX0_messagesIn (Nat.le_of_ble_eq_true rfl) (Nat.le_of_ble_eq_true rfl) (by omega) ⟨Nat.le_refl _, Nat.le_refl _⟩ (zs_messagesIn (by simp) (by simp) hcp hw hc (by omega)) ?_
    refine gz_ireturn dX0_tally_49 rfl rfl ?_
    exact hq
  )
theorem zs_tally_11 {c p : Nat} (hcs : c = 336 ∨ c = 352) (hp : p = 368 ∨ p = 400) (hcp : Z c 0 = (p : Int)) (hw : wP (vP Z p)) {N : Int} (hc : wC (vP Z p) (vC Z c) N) (hd : 1 ≤ d) : zk_Does l Γ mX0_tally d 0 0 [.ref c, .int (iZ 11)] (zb_M Z) F (some (.int (iZ (sTally (vP Z p) (vC Z c) 11)))) (zb_M Z) F := by
  intro Q hq
  rcases hcs with rfl | rfl <;> rcases hp with rfl | rfl <;> (
    have hpl := congrArg Int.toNat hcp
    simp only [Int.toNat_natCast] at hpl
    refine gz_iload_n dX0_tally_0 rfl ?_
    refine zz_tsw (tgt := 50) dX0_tally_1 (by omega) (by decide) (by decide) rfl rfl ?_
    refine gz_aload_n dX0_tally_50 rfl ?_
    refine gv_0 (J := mX0_breaksInAll) (d1 := d - 1) dX0_tally_51 wm_Heliographs_Chain_182 rfl jzX0_breaksInAll (Nat.le_of_ble_eq_true rfl) (Nat.le_of_ble_eq_true rfl) (by omega) ⟨Nat.le_refl _, Nat.le_refl _⟩ (zs_breaksInAll (by simp) (by simp) hcp hw hc) ?_
    refine gz_ireturn dX0_tally_54 rfl rfl ?_
    exact hq
  )
theorem zs_tally_12 {c p : Nat} (hcs : c = 336 ∨ c = 352) (hp : p = 368 ∨ p = 400) (hcp : Z c 0 = (p : Int)) (hw : wP (vP Z p)) {N : Int} (hc : wC (vP Z p) (vC Z c) N) (hd : 1 ≤ d) : zk_Does l Γ mX0_tally d 0 0 [.ref c, .int (iZ 12)] (zb_M Z) F (some (.int (iZ (sTally (vP Z p) (vC Z c) 12)))) (zb_M Z) F := by
  intro Q hq
  rcases hcs with rfl | rfl <;> rcases hp with rfl | rfl <;> (
    have hpl := congrArg Int.toNat hcp
    simp only [Int.toNat_natCast] at hpl
    refine gz_iload_n dX0_tally_0 rfl ?_
    refine zz_tswD (tgt := 55) dX0_tally_1 (by omega) (by decide) rfl ?_
    refine gz_aload_n dX0_tally_55 rfl ?_
    refine gz_getf 13 dX0_tally_56 rfl rfl wf_Heliographs_Chain_57 (by decide) rfl ?_
    refine gz_ireturn dX0_tally_59 rfl rfl ?_
    exact hq
  )
theorem zs_tally {c p : Nat} (hcs : c = 336 ∨ c = 352) (hp : p = 368 ∨ p = 400) (hcp : Z c 0 = (p : Int)) (hw : wP (vP Z p)) {N : Int} (hc : wC (vP Z p) (vC Z c) N) {y : Int} (hy : 8 ≤ y ∧ y ≤ 12) (hd : 1 ≤ d) : zk_Does l Γ mX0_tally d 0 0 [.ref c, .int (iZ y)] (zb_M Z) F (some (.int (iZ (sTally (vP Z p) (vC Z c) y)))) (zb_M Z) F := by
  rcases (show y = 8 ∨ y = 9 ∨ y = 10 ∨ y = 11 ∨ y = 12 from by omega) with rfl | rfl | rfl | rfl | rfl
  · exact zs_tally_8 hcs hp hcp hw hc hd
  · exact zs_tally_9 hcs hp hcp hw hc hd
  · exact zs_tally_10 hcs hp hcp hw hc hd
  · exact zs_tally_11 hcs hp hcp hw hc hd
  · exact zs_tally_12 hcs hp hcp hw hc hd
theorem zs_peakTold_0 {c p : Nat} (hcs : c = 336 ∨ c = 352) (hp : p = 368 ∨ p = 400) (hcp : Z c 0 = (p : Int)) (hw : wP (vP Z p)) {N : Int} (hc : wC (vP Z p) (vC Z c) N) {x : Int} (hx : 0 ≤ x ∧ x < Z p 0) (hd : 4 ≤ d) : zk_Does l Γ mX0_peakTold d 0 0 [.ref c, .int (iZ x), .int (iZ 0)] (zb_M Z) F (some (.int (iZ (sPk (vP Z p) (vC Z c) x 0)))) (zb_M Z) F := by
  intro Q hq
  rcases hcs with rfl | rfl <;> rcases hp with rfl | rfl <;> (
    have hpl := congrArg Int.toNat hcp
    simp only [Int.toNat_natCast] at hpl
    have h0 := wP_n hw
    have h1 := wP_k hw (k := x.toNat) (by simp only [vP, vC, Nat.reduceAdd, Nat.reduceLT, Nat.add_zero, ↓reduceIte]; omega)
    have h2 := wC_k hc (k := x.toNat) (by simp only [vP, vC, Nat.reduceAdd, Nat.reduceLT, Nat.add_zero, ↓reduceIte]; omega)
    simp only [vP, vC, Nat.reduceAdd, Nat.reduceLT, Nat.add_zero, ↓reduceIte] at h0 h1 h2
    refine gz_aload_n dX0_peakTold_0 rfl ?_
    refine gz_getf 0 dX0_peakTold_1 rfl rfl wf_Heliographs_Chain_53 (by decide) (congrArg Value.ref hpl) ?_
    refine gz_iload_n dX0_peakTold_4 rfl ?_
    refine gv_1 (J := mX3_hasPeak) (d1 := d - 1) dX0_peakTold_5 wm_Heliographs_Chain_144 rfl jzX3_hasPeak (Nat.le_of_ble_eq_true rfl) (Nat.le_of_ble_eq_true rfl) (by omega) ⟨Nat.le_refl _, Nat.le_refl _⟩ (zs_hasPeak (by simp) (by omega) h0.1) ?_
    refine zz_if_neB (tgt := 13) dX0_peakTold_8 rfl (fun b8 => ?_) (fun b8 => ?_)
    rotate_left
    · exact absurd (by simp only [decide_eq_true_eq]; omega) b8
    refine gz_iload_n dX0_peakTold_13 rfl ?_
    refine zz_tsw (tgt := 52) dX0_peakTold_14 (by omega) (by decide) (by decide) rfl rfl ?_
    refine gz_aload_n dX0_peakTold_52 rfl ?_
    refine gz_getf 0 dX0_peakTold_53 rfl rfl wf_Heliographs_Chain_53 (by decide) (congrArg Value.ref hpl) ?_
    refine gz_getf 4 dX0_peakTold_56 rfl rfl wf_Heliographs_Chain_186 (by decide) rfl ?_
    refine gz_iload_n dX0_peakTold_59 rfl ?_
    refine gn_iald dX0_peakTold_60 rfl (by omega) rfl ?_
    refine gz_ireturn dX0_peakTold_61 rfl rfl ?_
    exact hq
  )
theorem zs_peakTold_1 {c p : Nat} (hcs : c = 336 ∨ c = 352) (hp : p = 368 ∨ p = 400) (hcp : Z c 0 = (p : Int)) (hw : wP (vP Z p)) {N : Int} (hc : wC (vP Z p) (vC Z c) N) {x : Int} (hx : 0 ≤ x ∧ x < Z p 0) (hd : 4 ≤ d) : zk_Does l Γ mX0_peakTold d 0 0 [.ref c, .int (iZ x), .int (iZ 1)] (zb_M Z) F (some (.int (iZ (sPk (vP Z p) (vC Z c) x 1)))) (zb_M Z) F := by
  intro Q hq
  rcases hcs with rfl | rfl <;> rcases hp with rfl | rfl <;> (
    have hpl := congrArg Int.toNat hcp
    simp only [Int.toNat_natCast] at hpl
    have h0 := wP_n hw
    have h1 := wP_k hw (k := x.toNat) (by simp only [vP, vC, Nat.reduceAdd, Nat.reduceLT, Nat.add_zero, ↓reduceIte]; omega)
    have h2 := wC_k hc (k := x.toNat) (by simp only [vP, vC, Nat.reduceAdd, Nat.reduceLT, Nat.add_zero, ↓reduceIte]; omega)
    simp only [vP, vC, Nat.reduceAdd, Nat.reduceLT, Nat.add_zero, ↓reduceIte] at h0 h1 h2
    refine gz_aload_n dX0_peakTold_0 rfl ?_
    refine gz_getf 0 dX0_peakTold_1 rfl rfl wf_Heliographs_Chain_53 (by decide) (congrArg Value.ref hpl) ?_
    refine gz_iload_n dX0_peakTold_4 rfl ?_
    refine gv_1 (J := mX3_hasPeak) (d1 := d - 1) dX0_peakTold_5 wm_Heliographs_Chain_144 rfl jzX3_hasPeak (Nat.le_of_ble_eq_true rfl) (Nat.le_of_ble_eq_true rfl) (by omega) ⟨Nat.le_refl _, Nat.le_refl _⟩ (zs_hasPeak (by simp) (by omega) h0.1) ?_
    refine zz_if_neB (tgt := 13) dX0_peakTold_8 rfl (fun b8 => ?_) (fun b8 => ?_)
    rotate_left
    · exact absurd (by simp only [decide_eq_true_eq]; omega) b8
    refine gz_iload_n dX0_peakTold_13 rfl ?_
    refine zz_tsw (tgt := 62) dX0_peakTold_14 (by omega) (by decide) (by decide) rfl rfl ?_
    refine gz_aload_n dX0_peakTold_62 rfl ?_
    refine gz_getf 0 dX0_peakTold_63 rfl rfl wf_Heliographs_Chain_53 (by decide) (congrArg Value.ref hpl) ?_
    refine gz_getf 5 dX0_peakTold_66 rfl rfl wf_Heliographs_Chain_189 (by decide) rfl ?_
    refine gz_iload_n dX0_peakTold_69 rfl ?_
    refine gn_iald dX0_peakTold_70 rfl (by omega) rfl ?_
    refine gz_ireturn dX0_peakTold_71 rfl rfl ?_
    exact hq
  )
theorem zs_peakTold_2 {c p : Nat} (hcs : c = 336 ∨ c = 352) (hp : p = 368 ∨ p = 400) (hcp : Z c 0 = (p : Int)) (hw : wP (vP Z p)) {N : Int} (hc : wC (vP Z p) (vC Z c) N) {x : Int} (hx : 0 ≤ x ∧ x < Z p 0) (hd : 4 ≤ d) : zk_Does l Γ mX0_peakTold d 0 0 [.ref c, .int (iZ x), .int (iZ 2)] (zb_M Z) F (some (.int (iZ (sPk (vP Z p) (vC Z c) x 2)))) (zb_M Z) F := by
  intro Q hq
  rcases hcs with rfl | rfl <;> rcases hp with rfl | rfl <;> (
    have hpl := congrArg Int.toNat hcp
    simp only [Int.toNat_natCast] at hpl
    have h0 := wP_n hw
    have h1 := wP_k hw (k := x.toNat) (by simp only [vP, vC, Nat.reduceAdd, Nat.reduceLT, Nat.add_zero, ↓reduceIte]; omega)
    have h2 := wC_k hc (k := x.toNat) (by simp only [vP, vC, Nat.reduceAdd, Nat.reduceLT, Nat.add_zero, ↓reduceIte]; omega)
    simp only [vP, vC, Nat.reduceAdd, Nat.reduceLT, Nat.add_zero, ↓reduceIte] at h0 h1 h2
    refine gz_aload_n dX0_peakTold_0 rfl ?_
    refine gz_getf 0 dX0_peakTold_1 rfl rfl wf_Heliographs_Chain_53 (by decide) (congrArg Value.ref hpl) ?_
    refine gz_iload_n dX0_peakTold_4 rfl ?_
    refine gv_1 (J := mX3_hasPeak) (d1 := d - 1) dX0_peakTold_5 wm_Heliographs_Chain_144 rfl jzX3_hasPeak (Nat.le_of_ble_eq_true rfl) (Nat.le_of_ble_eq_true rfl) (by omega) ⟨Nat.le_refl _, Nat.le_refl _⟩ (zs_hasPeak (by simp) (by omega) h0.1) ?_
    refine zz_if_neB (tgt := 13) dX0_peakTold_8 rfl (fun b8 => ?_) (fun b8 => ?_)
    rotate_left
    · exact absurd (by simp only [decide_eq_true_eq]; omega) b8
    refine gz_iload_n dX0_peakTold_13 rfl ?_
    refine zz_tsw (tgt := 72) dX0_peakTold_14 (by omega) (by decide) (by decide) rfl rfl ?_
    refine gz_aload_n dX0_peakTold_72 rfl ?_
    refine gz_getf 3 dX0_peakTold_73 rfl rfl wf_Heliographs_Chain_15 (by decide) rfl ?_
    refine gz_iload_n dX0_peakTold_76 rfl ?_
    refine gn_iald dX0_peakTold_77 rfl (by omega) rfl ?_
    refine gz_ireturn dX0_peakTold_78 rfl rfl ?_
    exact hq
  )
theorem zs_peakTold_3 {c p : Nat} (hcs : c = 336 ∨ c = 352) (hp : p = 368 ∨ p = 400) (hcp : Z c 0 = (p : Int)) (hw : wP (vP Z p)) {N : Int} (hc : wC (vP Z p) (vC Z c) N) {x : Int} (hx : 0 ≤ x ∧ x < Z p 0) (hd : 4 ≤ d) : zk_Does l Γ mX0_peakTold d 0 0 [.ref c, .int (iZ x), .int (iZ 3)] (zb_M Z) F (some (.int (iZ (sPk (vP Z p) (vC Z c) x 3)))) (zb_M Z) F := by
  intro Q hq
  rcases hcs with rfl | rfl <;> rcases hp with rfl | rfl <;> (
    have hpl := congrArg Int.toNat hcp
    simp only [Int.toNat_natCast] at hpl
    have h0 := wP_n hw
    have h1 := wP_k hw (k := x.toNat) (by simp only [vP, vC, Nat.reduceAdd, Nat.reduceLT, Nat.add_zero, ↓reduceIte]; omega)
    have h2 := wC_k hc (k := x.toNat) (by simp only [vP, vC, Nat.reduceAdd, Nat.reduceLT, Nat.add_zero, ↓reduceIte]; omega)
    simp only [vP, vC, Nat.reduceAdd, Nat.reduceLT, Nat.add_zero, ↓reduceIte] at h0 h1 h2
    refine gz_aload_n dX0_peakTold_0 rfl ?_
    refine gz_getf 0 dX0_peakTold_1 rfl rfl wf_Heliographs_Chain_53 (by decide) (congrArg Value.ref hpl) ?_
    refine gz_iload_n dX0_peakTold_4 rfl ?_
    refine gv_1 (J := mX3_hasPeak) (d1 := d - 1) dX0_peakTold_5 wm_Heliographs_Chain_144 rfl jzX3_hasPeak (Nat.le_of_ble_eq_true rfl) (Nat.le_of_ble_eq_true rfl) (by omega) ⟨Nat.le_refl _, Nat.le_refl _⟩ (zs_hasPeak (by simp) (by omega) h0.1) ?_
    refine zz_if_neB (tgt := 13) dX0_peakTold_8 rfl (fun b8 => ?_) (fun b8 => ?_)
    rotate_left
    · exact absurd (by simp only [decide_eq_true_eq]; omega) b8
    refine gz_iload_n dX0_peakTold_13 rfl ?_
    refine zz_tsw (tgt := 79) dX0_peakTold_14 (by omega) (by decide) (by decide) rfl rfl ?_
    refine gz_aload_n dX0_peakTold_79 rfl ?_
    refine gz_iload_n dX0_peakTold_80 rfl ?_
    refine gv_1 (J := mX0_freeMirrors) (d1 := d - 1) dX0_peakTold_81 wm_Heliographs_Chain_121 rfl jzX0_freeMirrors (Nat.le_of_ble_eq_true rfl) (Nat.le_of_ble_eq_true rfl) (by omega) ⟨Nat.le_refl _, Nat.le_refl _⟩ (zs_freeMirrors (by simp) (by simp) hcp hw hc hx (by omega)) ?_
    refine gz_ireturn dX0_peakTold_84 rfl rfl ?_
    exact hq
  )
theorem zs_peakTold_4 {c p : Nat} (hcs : c = 336 ∨ c = 352) (hp : p = 368 ∨ p = 400) (hcp : Z c 0 = (p : Int)) (hw : wP (vP Z p)) {N : Int} (hc : wC (vP Z p) (vC Z c) N) {x : Int} (hx : 0 ≤ x ∧ x < Z p 0) (hd : 4 ≤ d) : zk_Does l Γ mX0_peakTold d 0 0 [.ref c, .int (iZ x), .int (iZ 4)] (zb_M Z) F (some (.int (iZ (sPk (vP Z p) (vC Z c) x 4)))) (zb_M Z) F := by
  intro Q hq
  rcases hcs with rfl | rfl <;> rcases hp with rfl | rfl <;> (
    have hpl := congrArg Int.toNat hcp
    simp only [Int.toNat_natCast] at hpl
    have h0 := wP_n hw
    have h1 := wP_k hw (k := x.toNat) (by simp only [vP, vC, Nat.reduceAdd, Nat.reduceLT, Nat.add_zero, ↓reduceIte]; omega)
    have h2 := wC_k hc (k := x.toNat) (by simp only [vP, vC, Nat.reduceAdd, Nat.reduceLT, Nat.add_zero, ↓reduceIte]; omega)
    simp only [vP, vC, Nat.reduceAdd, Nat.reduceLT, Nat.add_zero, ↓reduceIte] at h0 h1 h2
    refine gz_aload_n dX0_peakTold_0 rfl ?_
    refine gz_getf 0 dX0_peakTold_1 rfl rfl wf_Heliographs_Chain_53 (by decide) (congrArg Value.ref hpl) ?_
    refine gz_iload_n dX0_peakTold_4 rfl ?_
    refine gv_1 (J := mX3_hasPeak) (d1 := d - 1) dX0_peakTold_5 wm_Heliographs_Chain_144 rfl jzX3_hasPeak (Nat.le_of_ble_eq_true rfl) (Nat.le_of_ble_eq_true rfl) (by omega) ⟨Nat.le_refl _, Nat.le_refl _⟩ (zs_hasPeak (by simp) (by omega) h0.1) ?_
    refine zz_if_neB (tgt := 13) dX0_peakTold_8 rfl (fun b8 => ?_) (fun b8 => ?_)
    rotate_left
    · exact absurd (by simp only [decide_eq_true_eq]; omega) b8
    refine gz_iload_n dX0_peakTold_13 rfl ?_
    refine zz_tsw (tgt := 85) dX0_peakTold_14 (by omega) (by decide) (by decide) rfl rfl ?_
    refine gz_aload_n dX0_peakTold_85 rfl ?_
    refine gz_iload_n dX0_peakTold_86 rfl ?_
    refine zz_iconst dX0_peakTold_87 ?_
    refine gv_2 (J := mX0_messagesAt) (d1 := d - 1) dX0_peakTold_88 wm_Heliographs_Chain_173 rfl jzX0_messagesAt (Nat.le_of_ble_eq_true rfl) (Nat.le_of_ble_eq_true rfl) (by omega) ⟨Nat.le_refl _, Nat.le_refl _⟩ (zs_messagesAt (by simp) (by simp) hcp hw hc (by omega) (by omega)) ?_
    refine gz_ireturn dX0_peakTold_91 rfl rfl ?_
    exact hq
  )
theorem zs_peakTold_5 {c p : Nat} (hcs : c = 336 ∨ c = 352) (hp : p = 368 ∨ p = 400) (hcp : Z c 0 = (p : Int)) (hw : wP (vP Z p)) {N : Int} (hc : wC (vP Z p) (vC Z c) N) {x : Int} (hx : 0 ≤ x ∧ x < Z p 0) (hd : 4 ≤ d) : zk_Does l Γ mX0_peakTold d 0 0 [.ref c, .int (iZ x), .int (iZ 5)] (zb_M Z) F (some (.int (iZ (sPk (vP Z p) (vC Z c) x 5)))) (zb_M Z) F := by
  intro Q hq
  rcases hcs with rfl | rfl <;> rcases hp with rfl | rfl <;> (
    have hpl := congrArg Int.toNat hcp
    simp only [Int.toNat_natCast] at hpl
    have h0 := wP_n hw
    have h1 := wP_k hw (k := x.toNat) (by simp only [vP, vC, Nat.reduceAdd, Nat.reduceLT, Nat.add_zero, ↓reduceIte]; omega)
    have h2 := wC_k hc (k := x.toNat) (by simp only [vP, vC, Nat.reduceAdd, Nat.reduceLT, Nat.add_zero, ↓reduceIte]; omega)
    simp only [vP, vC, Nat.reduceAdd, Nat.reduceLT, Nat.add_zero, ↓reduceIte] at h0 h1 h2
    refine gz_aload_n dX0_peakTold_0 rfl ?_
    refine gz_getf 0 dX0_peakTold_1 rfl rfl wf_Heliographs_Chain_53 (by decide) (congrArg Value.ref hpl) ?_
    refine gz_iload_n dX0_peakTold_4 rfl ?_
    refine gv_1 (J := mX3_hasPeak) (d1 := d - 1) dX0_peakTold_5 wm_Heliographs_Chain_144 rfl jzX3_hasPeak (Nat.le_of_ble_eq_true rfl) (Nat.le_of_ble_eq_true rfl) (by omega) ⟨Nat.le_refl _, Nat.le_refl _⟩ (zs_hasPeak (by simp) (by omega) h0.1) ?_
    refine zz_if_neB (tgt := 13) dX0_peakTold_8 rfl (fun b8 => ?_) (fun b8 => ?_)
    rotate_left
    · exact absurd (by simp only [decide_eq_true_eq]; omega) b8
    refine gz_iload_n dX0_peakTold_13 rfl ?_
    refine zz_tsw (tgt := 92) dX0_peakTold_14 (by omega) (by decide) (by decide) rfl rfl ?_
    refine gz_aload_n dX0_peakTold_92 rfl ?_
    refine gz_iload_n dX0_peakTold_93 rfl ?_
    refine gv_1 (J := mX0_passesOf) (d1 := d - 1) dX0_peakTold_94 wm_Heliographs_Chain_192 rfl jzX0_passesOf (Nat.le_of_ble_eq_true rfl) (Nat.le_of_ble_eq_true rfl) (by omega) ⟨Nat.le_refl _, Nat.le_refl _⟩ (zs_passesOf (by simp) (by simp) hcp hw hc (by omega) (by omega)) ?_
    refine gz_ireturn dX0_peakTold_97 rfl rfl ?_
    exact hq
  )
theorem zs_peakTold_6 {c p : Nat} (hcs : c = 336 ∨ c = 352) (hp : p = 368 ∨ p = 400) (hcp : Z c 0 = (p : Int)) (hw : wP (vP Z p)) {N : Int} (hc : wC (vP Z p) (vC Z c) N) {x : Int} (hx : 0 ≤ x ∧ x < Z p 0) (hd : 4 ≤ d) : zk_Does l Γ mX0_peakTold d 0 0 [.ref c, .int (iZ x), .int (iZ 6)] (zb_M Z) F (some (.int (iZ (sPk (vP Z p) (vC Z c) x 6)))) (zb_M Z) F := by
  intro Q hq
  rcases hcs with rfl | rfl <;> rcases hp with rfl | rfl <;> (
    have hpl := congrArg Int.toNat hcp
    simp only [Int.toNat_natCast] at hpl
    have h0 := wP_n hw
    have h1 := wP_k hw (k := x.toNat) (by simp only [vP, vC, Nat.reduceAdd, Nat.reduceLT, Nat.add_zero, ↓reduceIte]; omega)
    have h2 := wC_k hc (k := x.toNat) (by simp only [vP, vC, Nat.reduceAdd, Nat.reduceLT, Nat.add_zero, ↓reduceIte]; omega)
    simp only [vP, vC, Nat.reduceAdd, Nat.reduceLT, Nat.add_zero, ↓reduceIte] at h0 h1 h2
    refine gz_aload_n dX0_peakTold_0 rfl ?_
    refine gz_getf 0 dX0_peakTold_1 rfl rfl wf_Heliographs_Chain_53 (by decide) (congrArg Value.ref hpl) ?_
    refine gz_iload_n dX0_peakTold_4 rfl ?_
    refine gv_1 (J := mX3_hasPeak) (d1 := d - 1) dX0_peakTold_5 wm_Heliographs_Chain_144 rfl jzX3_hasPeak (Nat.le_of_ble_eq_true rfl) (Nat.le_of_ble_eq_true rfl) (by omega) ⟨Nat.le_refl _, Nat.le_refl _⟩ (zs_hasPeak (by simp) (by omega) h0.1) ?_
    refine zz_if_neB (tgt := 13) dX0_peakTold_8 rfl (fun b8 => ?_) (fun b8 => ?_)
    rotate_left
    · exact absurd (by simp only [decide_eq_true_eq]; omega) b8
    refine gz_iload_n dX0_peakTold_13 rfl ?_
    refine zz_tswD (tgt := 98) dX0_peakTold_14 (by omega) (by decide) rfl ?_
    refine gz_aload_n dX0_peakTold_98 rfl ?_
    refine gz_iload_n dX0_peakTold_99 rfl ?_
    refine gv_1 (J := mX0_openPassesOf) (d1 := d - 1) dX0_peakTold_100 wm_Heliographs_Chain_195 rfl jzX0_openPassesOf (Nat.le_of_ble_eq_true rfl) (Nat.le_of_ble_eq_true rfl) (by omega) ⟨Nat.le_refl _, Nat.le_refl _⟩ (zs_openPassesOf (by simp) (by simp) hcp hw hc (by omega) (by omega)) ?_
    refine gz_ireturn dX0_peakTold_103 rfl rfl ?_
    exact hq
  )
theorem zs_peakTold {c p : Nat} (hcs : c = 336 ∨ c = 352) (hp : p = 368 ∨ p = 400) (hcp : Z c 0 = (p : Int)) (hw : wP (vP Z p)) {N : Int} (hc : wC (vP Z p) (vC Z c) N) {x : Int} (hx : 0 ≤ x ∧ x < Z p 0) {y : Int} (hy : 0 ≤ y ∧ y ≤ 6) (hd : 4 ≤ d) : zk_Does l Γ mX0_peakTold d 0 0 [.ref c, .int (iZ x), .int (iZ y)] (zb_M Z) F (some (.int (iZ (sPk (vP Z p) (vC Z c) x y)))) (zb_M Z) F := by
  rcases (show y = 0 ∨ y = 1 ∨ y = 2 ∨ y = 3 ∨ y = 4 ∨ y = 5 ∨ y = 6 from by omega) with rfl | rfl | rfl | rfl | rfl | rfl | rfl
  · exact zs_peakTold_0 hcs hp hcp hw hc hx hd
  · exact zs_peakTold_1 hcs hp hcp hw hc hx hd
  · exact zs_peakTold_2 hcs hp hcp hw hc hx hd
  · exact zs_peakTold_3 hcs hp hcp hw hc hx hd
  · exact zs_peakTold_4 hcs hp hcp hw hc hx hd
  · exact zs_peakTold_5 hcs hp hcp hw hc hx hd
  · exact zs_peakTold_6 hcs hp hcp hw hc hx hd
theorem zs_passTold_0 {c p : Nat} (hcs : c = 336 ∨ c = 352) (hp : p = 368 ∨ p = 400) (hcp : Z c 0 = (p : Int)) (hw : wP (vP Z p)) {N : Int} (hc : wC (vP Z p) (vC Z c) N) {x : Int} (hx : 0 ≤ x ∧ x < Z p 1) (hd : 1 ≤ d) : zk_Does l Γ mX0_passTold d 0 0 [.ref c, .int (iZ x), .int (iZ 0)] (zb_M Z) F (some (.int (iZ (sPs (vP Z p) (vC Z c) x 0)))) (zb_M Z) F := by
  intro Q hq
  rcases hcs with rfl | rfl <;> rcases hp with rfl | rfl <;> (
    have hpl := congrArg Int.toNat hcp
    simp only [Int.toNat_natCast] at hpl
    have h0 := wP_n hw
    have h1 := wP_w hw (w := x.toNat) (by simp only [vP, vC, Nat.reduceAdd, Nat.reduceLT, Nat.add_zero, ↓reduceIte]; omega)
    have h2 := wC_w hc (w := x.toNat) (by simp only [vP, vC, Nat.reduceAdd, Nat.reduceLT, Nat.add_zero, ↓reduceIte]; omega)
    simp only [vP, vC, Nat.reduceAdd, Nat.reduceLT, Nat.add_zero, ↓reduceIte] at h0 h1 h2
    refine gz_aload_n dX0_passTold_0 rfl ?_
    refine gz_getf 0 dX0_passTold_1 rfl rfl wf_Heliographs_Chain_53 (by decide) (congrArg Value.ref hpl) ?_
    refine gz_iload_n dX0_passTold_4 rfl ?_
    refine gv_1 (J := mX3_hasPass) (d1 := d - 1) dX0_passTold_5 wm_Heliographs_Chain_164 rfl jzX3_hasPass (Nat.le_of_ble_eq_true rfl) (Nat.le_of_ble_eq_true rfl) (by omega) ⟨Nat.le_refl _, Nat.le_refl _⟩ (zs_hasPass (by simp) (by omega) h0.2.1) ?_
    refine zz_if_neB (tgt := 13) dX0_passTold_8 rfl (fun b8 => ?_) (fun b8 => ?_)
    rotate_left
    · exact absurd (by simp only [decide_eq_true_eq]; omega) b8
    refine gz_iload_n dX0_passTold_13 rfl ?_
    refine zz_tsw (tgt := 48) dX0_passTold_14 (by omega) (by decide) (by decide) rfl rfl ?_
    refine gz_aload_n dX0_passTold_48 rfl ?_
    refine gz_getf 0 dX0_passTold_49 rfl rfl wf_Heliographs_Chain_53 (by decide) (congrArg Value.ref hpl) ?_
    refine gz_getf 7 dX0_passTold_52 rfl rfl wf_Heliographs_Chain_154 (by decide) rfl ?_
    refine gz_iload_n dX0_passTold_55 rfl ?_
    refine gn_iald dX0_passTold_56 rfl (by omega) rfl ?_
    refine gz_ireturn dX0_passTold_57 rfl rfl ?_
    exact hq
  )
theorem zs_passTold_1 {c p : Nat} (hcs : c = 336 ∨ c = 352) (hp : p = 368 ∨ p = 400) (hcp : Z c 0 = (p : Int)) (hw : wP (vP Z p)) {N : Int} (hc : wC (vP Z p) (vC Z c) N) {x : Int} (hx : 0 ≤ x ∧ x < Z p 1) (hd : 1 ≤ d) : zk_Does l Γ mX0_passTold d 0 0 [.ref c, .int (iZ x), .int (iZ 1)] (zb_M Z) F (some (.int (iZ (sPs (vP Z p) (vC Z c) x 1)))) (zb_M Z) F := by
  intro Q hq
  rcases hcs with rfl | rfl <;> rcases hp with rfl | rfl <;> (
    have hpl := congrArg Int.toNat hcp
    simp only [Int.toNat_natCast] at hpl
    have h0 := wP_n hw
    have h1 := wP_w hw (w := x.toNat) (by simp only [vP, vC, Nat.reduceAdd, Nat.reduceLT, Nat.add_zero, ↓reduceIte]; omega)
    have h2 := wC_w hc (w := x.toNat) (by simp only [vP, vC, Nat.reduceAdd, Nat.reduceLT, Nat.add_zero, ↓reduceIte]; omega)
    simp only [vP, vC, Nat.reduceAdd, Nat.reduceLT, Nat.add_zero, ↓reduceIte] at h0 h1 h2
    refine gz_aload_n dX0_passTold_0 rfl ?_
    refine gz_getf 0 dX0_passTold_1 rfl rfl wf_Heliographs_Chain_53 (by decide) (congrArg Value.ref hpl) ?_
    refine gz_iload_n dX0_passTold_4 rfl ?_
    refine gv_1 (J := mX3_hasPass) (d1 := d - 1) dX0_passTold_5 wm_Heliographs_Chain_164 rfl jzX3_hasPass (Nat.le_of_ble_eq_true rfl) (Nat.le_of_ble_eq_true rfl) (by omega) ⟨Nat.le_refl _, Nat.le_refl _⟩ (zs_hasPass (by simp) (by omega) h0.2.1) ?_
    refine zz_if_neB (tgt := 13) dX0_passTold_8 rfl (fun b8 => ?_) (fun b8 => ?_)
    rotate_left
    · exact absurd (by simp only [decide_eq_true_eq]; omega) b8
    refine gz_iload_n dX0_passTold_13 rfl ?_
    refine zz_tsw (tgt := 58) dX0_passTold_14 (by omega) (by decide) (by decide) rfl rfl ?_
    refine gz_aload_n dX0_passTold_58 rfl ?_
    refine gz_getf 0 dX0_passTold_59 rfl rfl wf_Heliographs_Chain_53 (by decide) (congrArg Value.ref hpl) ?_
    refine gz_getf 8 dX0_passTold_62 rfl rfl wf_Heliographs_Chain_157 (by decide) rfl ?_
    refine gz_iload_n dX0_passTold_65 rfl ?_
    refine gn_iald dX0_passTold_66 rfl (by omega) rfl ?_
    refine gz_ireturn dX0_passTold_67 rfl rfl ?_
    exact hq
  )
theorem zs_passTold_2 {c p : Nat} (hcs : c = 336 ∨ c = 352) (hp : p = 368 ∨ p = 400) (hcp : Z c 0 = (p : Int)) (hw : wP (vP Z p)) {N : Int} (hc : wC (vP Z p) (vC Z c) N) {x : Int} (hx : 0 ≤ x ∧ x < Z p 1) (hd : 1 ≤ d) : zk_Does l Γ mX0_passTold d 0 0 [.ref c, .int (iZ x), .int (iZ 2)] (zb_M Z) F (some (.int (iZ (sPs (vP Z p) (vC Z c) x 2)))) (zb_M Z) F := by
  intro Q hq
  rcases hcs with rfl | rfl <;> rcases hp with rfl | rfl <;> (
    have hpl := congrArg Int.toNat hcp
    simp only [Int.toNat_natCast] at hpl
    have h0 := wP_n hw
    have h1 := wP_w hw (w := x.toNat) (by simp only [vP, vC, Nat.reduceAdd, Nat.reduceLT, Nat.add_zero, ↓reduceIte]; omega)
    have h2 := wC_w hc (w := x.toNat) (by simp only [vP, vC, Nat.reduceAdd, Nat.reduceLT, Nat.add_zero, ↓reduceIte]; omega)
    simp only [vP, vC, Nat.reduceAdd, Nat.reduceLT, Nat.add_zero, ↓reduceIte] at h0 h1 h2
    refine gz_aload_n dX0_passTold_0 rfl ?_
    refine gz_getf 0 dX0_passTold_1 rfl rfl wf_Heliographs_Chain_53 (by decide) (congrArg Value.ref hpl) ?_
    refine gz_iload_n dX0_passTold_4 rfl ?_
    refine gv_1 (J := mX3_hasPass) (d1 := d - 1) dX0_passTold_5 wm_Heliographs_Chain_164 rfl jzX3_hasPass (Nat.le_of_ble_eq_true rfl) (Nat.le_of_ble_eq_true rfl) (by omega) ⟨Nat.le_refl _, Nat.le_refl _⟩ (zs_hasPass (by simp) (by omega) h0.2.1) ?_
    refine zz_if_neB (tgt := 13) dX0_passTold_8 rfl (fun b8 => ?_) (fun b8 => ?_)
    rotate_left
    · exact absurd (by simp only [decide_eq_true_eq]; omega) b8
    refine gz_iload_n dX0_passTold_13 rfl ?_
    refine zz_tsw (tgt := 68) dX0_passTold_14 (by omega) (by decide) (by decide) rfl rfl ?_
    refine gz_aload_n dX0_passTold_68 rfl ?_
    refine gz_getf 0 dX0_passTold_69 rfl rfl wf_Heliographs_Chain_53 (by decide) (congrArg Value.ref hpl) ?_
    refine gz_getf 9 dX0_passTold_72 rfl rfl wf_Heliographs_Chain_104 (by decide) rfl ?_
    refine gz_iload_n dX0_passTold_75 rfl ?_
    refine gn_iald dX0_passTold_76 rfl (by omega) rfl ?_
    refine gz_ireturn dX0_passTold_77 rfl rfl ?_
    exact hq
  )
theorem zs_passTold_3 {c p : Nat} (hcs : c = 336 ∨ c = 352) (hp : p = 368 ∨ p = 400) (hcp : Z c 0 = (p : Int)) (hw : wP (vP Z p)) {N : Int} (hc : wC (vP Z p) (vC Z c) N) {x : Int} (hx : 0 ≤ x ∧ x < Z p 1) (hd : 1 ≤ d) : zk_Does l Γ mX0_passTold d 0 0 [.ref c, .int (iZ x), .int (iZ 3)] (zb_M Z) F (some (.int (iZ (sPs (vP Z p) (vC Z c) x 3)))) (zb_M Z) F := by
  intro Q hq
  rcases hcs with rfl | rfl <;> rcases hp with rfl | rfl <;> (
    have hpl := congrArg Int.toNat hcp
    simp only [Int.toNat_natCast] at hpl
    have h0 := wP_n hw
    have h1 := wP_w hw (w := x.toNat) (by simp only [vP, vC, Nat.reduceAdd, Nat.reduceLT, Nat.add_zero, ↓reduceIte]; omega)
    have h2 := wC_w hc (w := x.toNat) (by simp only [vP, vC, Nat.reduceAdd, Nat.reduceLT, Nat.add_zero, ↓reduceIte]; omega)
    simp only [vP, vC, Nat.reduceAdd, Nat.reduceLT, Nat.add_zero, ↓reduceIte] at h0 h1 h2
    refine gz_aload_n dX0_passTold_0 rfl ?_
    refine gz_getf 0 dX0_passTold_1 rfl rfl wf_Heliographs_Chain_53 (by decide) (congrArg Value.ref hpl) ?_
    refine gz_iload_n dX0_passTold_4 rfl ?_
    refine gv_1 (J := mX3_hasPass) (d1 := d - 1) dX0_passTold_5 wm_Heliographs_Chain_164 rfl jzX3_hasPass (Nat.le_of_ble_eq_true rfl) (Nat.le_of_ble_eq_true rfl) (by omega) ⟨Nat.le_refl _, Nat.le_refl _⟩ (zs_hasPass (by simp) (by omega) h0.2.1) ?_
    refine zz_if_neB (tgt := 13) dX0_passTold_8 rfl (fun b8 => ?_) (fun b8 => ?_)
    rotate_left
    · exact absurd (by simp only [decide_eq_true_eq]; omega) b8
    refine gz_iload_n dX0_passTold_13 rfl ?_
    refine zz_tsw (tgt := 78) dX0_passTold_14 (by omega) (by decide) (by decide) rfl rfl ?_
    refine gz_aload_n dX0_passTold_78 rfl ?_
    refine gz_getf 0 dX0_passTold_79 rfl rfl wf_Heliographs_Chain_53 (by decide) (congrArg Value.ref hpl) ?_
    refine gz_iload_n dX0_passTold_82 rfl ?_
    refine gv_1 (J := mX3_cloudsOver) (d1 := d - 1) dX0_passTold_83 wm_Heliographs_Chain_198 rfl jzX3_cloudsOver (Nat.le_of_ble_eq_true rfl) (Nat.le_of_ble_eq_true rfl) (by omega) ⟨Nat.le_refl _, Nat.le_refl _⟩ (zs_cloudsOver (by simp) hw (by omega)) ?_
    refine gz_ireturn dX0_passTold_86 rfl rfl ?_
    exact hq
  )
theorem zs_passTold_4 {c p : Nat} (hcs : c = 336 ∨ c = 352) (hp : p = 368 ∨ p = 400) (hcp : Z c 0 = (p : Int)) (hw : wP (vP Z p)) {N : Int} (hc : wC (vP Z p) (vC Z c) N) {x : Int} (hx : 0 ≤ x ∧ x < Z p 1) (hd : 1 ≤ d) : zk_Does l Γ mX0_passTold d 0 0 [.ref c, .int (iZ x), .int (iZ 4)] (zb_M Z) F (some (.int (iZ (sPs (vP Z p) (vC Z c) x 4)))) (zb_M Z) F := by
  intro Q hq
  rcases hcs with rfl | rfl <;> rcases hp with rfl | rfl <;> (
    have hpl := congrArg Int.toNat hcp
    simp only [Int.toNat_natCast] at hpl
    have h0 := wP_n hw
    have h1 := wP_w hw (w := x.toNat) (by simp only [vP, vC, Nat.reduceAdd, Nat.reduceLT, Nat.add_zero, ↓reduceIte]; omega)
    have h2 := wC_w hc (w := x.toNat) (by simp only [vP, vC, Nat.reduceAdd, Nat.reduceLT, Nat.add_zero, ↓reduceIte]; omega)
    simp only [vP, vC, Nat.reduceAdd, Nat.reduceLT, Nat.add_zero, ↓reduceIte] at h0 h1 h2
    refine gz_aload_n dX0_passTold_0 rfl ?_
    refine gz_getf 0 dX0_passTold_1 rfl rfl wf_Heliographs_Chain_53 (by decide) (congrArg Value.ref hpl) ?_
    refine gz_iload_n dX0_passTold_4 rfl ?_
    refine gv_1 (J := mX3_hasPass) (d1 := d - 1) dX0_passTold_5 wm_Heliographs_Chain_164 rfl jzX3_hasPass (Nat.le_of_ble_eq_true rfl) (Nat.le_of_ble_eq_true rfl) (by omega) ⟨Nat.le_refl _, Nat.le_refl _⟩ (zs_hasPass (by simp) (by omega) h0.2.1) ?_
    refine zz_if_neB (tgt := 13) dX0_passTold_8 rfl (fun b8 => ?_) (fun b8 => ?_)
    rotate_left
    · exact absurd (by simp only [decide_eq_true_eq]; omega) b8
    refine gz_iload_n dX0_passTold_13 rfl ?_
    refine zz_tsw (tgt := 87) dX0_passTold_14 (by omega) (by decide) (by decide) rfl rfl ?_
    refine gz_aload_n dX0_passTold_87 rfl ?_
    refine gz_iload_n dX0_passTold_88 rfl ?_
    refine gv_1 (J := mX0_messageOver) (d1 := d - 1) dX0_passTold_89 wm_Heliographs_Chain_138 rfl jzX0_messageOver (Nat.le_of_ble_eq_true rfl) (Nat.le_of_ble_eq_true rfl) (by omega) ⟨Nat.le_refl _, Nat.le_refl _⟩ (zs_messageOver (by simp) (by simp) hcp hw hc (by omega)) ?_
    refine gz_ireturn dX0_passTold_92 rfl rfl ?_
    exact hq
  )
theorem zs_passTold_5 {c p : Nat} (hcs : c = 336 ∨ c = 352) (hp : p = 368 ∨ p = 400) (hcp : Z c 0 = (p : Int)) (hw : wP (vP Z p)) {N : Int} (hc : wC (vP Z p) (vC Z c) N) {x : Int} (hx : 0 ≤ x ∧ x < Z p 1) (hd : 1 ≤ d) : zk_Does l Γ mX0_passTold d 0 0 [.ref c, .int (iZ x), .int (iZ 5)] (zb_M Z) F (some (.int (iZ (sPs (vP Z p) (vC Z c) x 5)))) (zb_M Z) F := by
  intro Q hq
  rcases hcs with rfl | rfl <;> rcases hp with rfl | rfl <;> (
    have hpl := congrArg Int.toNat hcp
    simp only [Int.toNat_natCast] at hpl
    have h0 := wP_n hw
    have h1 := wP_w hw (w := x.toNat) (by simp only [vP, vC, Nat.reduceAdd, Nat.reduceLT, Nat.add_zero, ↓reduceIte]; omega)
    have h2 := wC_w hc (w := x.toNat) (by simp only [vP, vC, Nat.reduceAdd, Nat.reduceLT, Nat.add_zero, ↓reduceIte]; omega)
    simp only [vP, vC, Nat.reduceAdd, Nat.reduceLT, Nat.add_zero, ↓reduceIte] at h0 h1 h2
    refine gz_aload_n dX0_passTold_0 rfl ?_
    refine gz_getf 0 dX0_passTold_1 rfl rfl wf_Heliographs_Chain_53 (by decide) (congrArg Value.ref hpl) ?_
    refine gz_iload_n dX0_passTold_4 rfl ?_
    refine gv_1 (J := mX3_hasPass) (d1 := d - 1) dX0_passTold_5 wm_Heliographs_Chain_164 rfl jzX3_hasPass (Nat.le_of_ble_eq_true rfl) (Nat.le_of_ble_eq_true rfl) (by omega) ⟨Nat.le_refl _, Nat.le_refl _⟩ (zs_hasPass (by simp) (by omega) h0.2.1) ?_
    refine zz_if_neB (tgt := 13) dX0_passTold_8 rfl (fun b8 => ?_) (fun b8 => ?_)
    rotate_left
    · exact absurd (by simp only [decide_eq_true_eq]; omega) b8
    refine gz_iload_n dX0_passTold_13 rfl ?_
    refine zz_tswD (tgt := 93) dX0_passTold_14 (by omega) (by decide) rfl ?_
    refine gz_aload_n dX0_passTold_93 rfl ?_
    refine gz_getf 12 dX0_passTold_94 rfl rfl wf_Heliographs_Chain_43 (by decide) rfl ?_
    refine gz_iload_n dX0_passTold_97 rfl ?_
    refine gn_iald dX0_passTold_98 rfl (by omega) rfl ?_
    refine gz_ireturn dX0_passTold_99 rfl rfl ?_
    exact hq
  )
theorem zs_passTold {c p : Nat} (hcs : c = 336 ∨ c = 352) (hp : p = 368 ∨ p = 400) (hcp : Z c 0 = (p : Int)) (hw : wP (vP Z p)) {N : Int} (hc : wC (vP Z p) (vC Z c) N) {x : Int} (hx : 0 ≤ x ∧ x < Z p 1) {y : Int} (hy : 0 ≤ y ∧ y ≤ 5) (hd : 1 ≤ d) : zk_Does l Γ mX0_passTold d 0 0 [.ref c, .int (iZ x), .int (iZ y)] (zb_M Z) F (some (.int (iZ (sPs (vP Z p) (vC Z c) x y)))) (zb_M Z) F := by
  rcases (show y = 0 ∨ y = 1 ∨ y = 2 ∨ y = 3 ∨ y = 4 ∨ y = 5 from by omega) with rfl | rfl | rfl | rfl | rfl | rfl
  · exact zs_passTold_0 hcs hp hcp hw hc hx hd
  · exact zs_passTold_1 hcs hp hcp hw hc hx hd
  · exact zs_passTold_2 hcs hp hcp hw hc hx hd
  · exact zs_passTold_3 hcs hp hcp hw hc hx hd
  · exact zs_passTold_4 hcs hp hcp hw hc hx hd
  · exact zs_passTold_5 hcs hp hcp hw hc hx hd
theorem zs_messageTold_0 {c p : Nat} (hcs : c = 336 ∨ c = 352) (hp : p = 368 ∨ p = 400) (hcp : Z c 0 = (p : Int)) (hw : wP (vP Z p)) {N : Int} (hc : wC (vP Z p) (vC Z c) N) {x : Int} (hx : 0 ≤ x ∧ x < Z p 3) (hd : 1 ≤ d) : zk_Does l Γ mX0_messageTold d 0 0 [.ref c, .int (iZ x), .int (iZ 0)] (zb_M Z) F (some (.int (iZ (sMs (vP Z p) (vC Z c) x 0)))) (zb_M Z) F := by
  intro Q hq
  rcases hcs with rfl | rfl <;> rcases hp with rfl | rfl <;> (
    have hpl := congrArg Int.toNat hcp
    simp only [Int.toNat_natCast] at hpl
    have h0 := wP_n hw
    have h1 := wP_m hw (i := x.toNat) (by simp only [vP, vC, Nat.reduceAdd, Nat.reduceLT, Nat.add_zero, ↓reduceIte]; omega)
    have h2 := wC_m hc (k := x.toNat) (by simp only [vP, vC, Nat.reduceAdd, Nat.reduceLT, Nat.add_zero, ↓reduceIte]; omega)
    simp only [wM, vP, vC, Nat.reduceAdd, Nat.reduceLT, Nat.add_zero, ↓reduceIte] at h0 h1 h2
    refine gz_aload_n dX0_messageTold_0 rfl ?_
    refine gz_getf 0 dX0_messageTold_1 rfl rfl wf_Heliographs_Chain_53 (by decide) (congrArg Value.ref hpl) ?_
    refine gz_iload_n dX0_messageTold_4 rfl ?_
    refine gv_1 (J := mX3_hasMessage) (d1 := d - 1) dX0_messageTold_5 wm_Heliographs_Chain_94 rfl jzX3_hasMessage (Nat.le_of_ble_eq_true rfl) (Nat.le_of_ble_eq_true rfl) (by omega) ⟨Nat.le_refl _, Nat.le_refl _⟩ (zs_hasMessage (by simp) (by omega) h0.2.2.2) ?_
    refine zz_if_neB (tgt := 13) dX0_messageTold_8 rfl (fun b8 => ?_) (fun b8 => ?_)
    rotate_left
    · exact absurd (by simp only [decide_eq_true_eq]; omega) b8
    refine gz_iload_n dX0_messageTold_13 rfl ?_
    refine zz_tsw (tgt := 60) dX0_messageTold_14 (by omega) (by decide) (by decide) rfl rfl ?_
    refine gz_aload_n dX0_messageTold_60 rfl ?_
    refine gz_getf 0 dX0_messageTold_61 rfl rfl wf_Heliographs_Chain_53 (by decide) (congrArg Value.ref hpl) ?_
    refine gz_getf 10 dX0_messageTold_64 rfl rfl wf_Heliographs_Chain_115 (by decide) rfl ?_
    refine gz_iload_n dX0_messageTold_67 rfl ?_
    refine gn_iald dX0_messageTold_68 rfl (by omega) rfl ?_
    refine gz_ireturn dX0_messageTold_69 rfl rfl ?_
    exact hq
  )
theorem zs_messageTold_1 {c p : Nat} (hcs : c = 336 ∨ c = 352) (hp : p = 368 ∨ p = 400) (hcp : Z c 0 = (p : Int)) (hw : wP (vP Z p)) {N : Int} (hc : wC (vP Z p) (vC Z c) N) {x : Int} (hx : 0 ≤ x ∧ x < Z p 3) (hd : 1 ≤ d) : zk_Does l Γ mX0_messageTold d 0 0 [.ref c, .int (iZ x), .int (iZ 1)] (zb_M Z) F (some (.int (iZ (sMs (vP Z p) (vC Z c) x 1)))) (zb_M Z) F := by
  intro Q hq
  rcases hcs with rfl | rfl <;> rcases hp with rfl | rfl <;> (
    have hpl := congrArg Int.toNat hcp
    simp only [Int.toNat_natCast] at hpl
    have h0 := wP_n hw
    have h1 := wP_m hw (i := x.toNat) (by simp only [vP, vC, Nat.reduceAdd, Nat.reduceLT, Nat.add_zero, ↓reduceIte]; omega)
    have h2 := wC_m hc (k := x.toNat) (by simp only [vP, vC, Nat.reduceAdd, Nat.reduceLT, Nat.add_zero, ↓reduceIte]; omega)
    simp only [wM, vP, vC, Nat.reduceAdd, Nat.reduceLT, Nat.add_zero, ↓reduceIte] at h0 h1 h2
    refine gz_aload_n dX0_messageTold_0 rfl ?_
    refine gz_getf 0 dX0_messageTold_1 rfl rfl wf_Heliographs_Chain_53 (by decide) (congrArg Value.ref hpl) ?_
    refine gz_iload_n dX0_messageTold_4 rfl ?_
    refine gv_1 (J := mX3_hasMessage) (d1 := d - 1) dX0_messageTold_5 wm_Heliographs_Chain_94 rfl jzX3_hasMessage (Nat.le_of_ble_eq_true rfl) (Nat.le_of_ble_eq_true rfl) (by omega) ⟨Nat.le_refl _, Nat.le_refl _⟩ (zs_hasMessage (by simp) (by omega) h0.2.2.2) ?_
    refine zz_if_neB (tgt := 13) dX0_messageTold_8 rfl (fun b8 => ?_) (fun b8 => ?_)
    rotate_left
    · exact absurd (by simp only [decide_eq_true_eq]; omega) b8
    refine gz_iload_n dX0_messageTold_13 rfl ?_
    refine zz_tsw (tgt := 70) dX0_messageTold_14 (by omega) (by decide) (by decide) rfl rfl ?_
    refine gz_aload_n dX0_messageTold_70 rfl ?_
    refine gz_getf 4 dX0_messageTold_71 rfl rfl wf_Heliographs_Chain_19 (by decide) rfl ?_
    refine gz_iload_n dX0_messageTold_74 rfl ?_
    refine gn_iald dX0_messageTold_75 rfl (by omega) rfl ?_
    refine gz_ireturn dX0_messageTold_76 rfl rfl ?_
    exact hq
  )
theorem zs_messageTold_2 {c p : Nat} (hcs : c = 336 ∨ c = 352) (hp : p = 368 ∨ p = 400) (hcp : Z c 0 = (p : Int)) (hw : wP (vP Z p)) {N : Int} (hc : wC (vP Z p) (vC Z c) N) {x : Int} (hx : 0 ≤ x ∧ x < Z p 3) (hd : 1 ≤ d) : zk_Does l Γ mX0_messageTold d 0 0 [.ref c, .int (iZ x), .int (iZ 2)] (zb_M Z) F (some (.int (iZ (sMs (vP Z p) (vC Z c) x 2)))) (zb_M Z) F := by
  intro Q hq
  rcases hcs with rfl | rfl <;> rcases hp with rfl | rfl <;> (
    have hpl := congrArg Int.toNat hcp
    simp only [Int.toNat_natCast] at hpl
    have h0 := wP_n hw
    have h1 := wP_m hw (i := x.toNat) (by simp only [vP, vC, Nat.reduceAdd, Nat.reduceLT, Nat.add_zero, ↓reduceIte]; omega)
    have h2 := wC_m hc (k := x.toNat) (by simp only [vP, vC, Nat.reduceAdd, Nat.reduceLT, Nat.add_zero, ↓reduceIte]; omega)
    simp only [wM, vP, vC, Nat.reduceAdd, Nat.reduceLT, Nat.add_zero, ↓reduceIte] at h0 h1 h2
    refine gz_aload_n dX0_messageTold_0 rfl ?_
    refine gz_getf 0 dX0_messageTold_1 rfl rfl wf_Heliographs_Chain_53 (by decide) (congrArg Value.ref hpl) ?_
    refine gz_iload_n dX0_messageTold_4 rfl ?_
    refine gv_1 (J := mX3_hasMessage) (d1 := d - 1) dX0_messageTold_5 wm_Heliographs_Chain_94 rfl jzX3_hasMessage (Nat.le_of_ble_eq_true rfl) (Nat.le_of_ble_eq_true rfl) (by omega) ⟨Nat.le_refl _, Nat.le_refl _⟩ (zs_hasMessage (by simp) (by omega) h0.2.2.2) ?_
    refine zz_if_neB (tgt := 13) dX0_messageTold_8 rfl (fun b8 => ?_) (fun b8 => ?_)
    rotate_left
    · exact absurd (by simp only [decide_eq_true_eq]; omega) b8
    refine gz_iload_n dX0_messageTold_13 rfl ?_
    refine zz_tsw (tgt := 77) dX0_messageTold_14 (by omega) (by decide) (by decide) rfl rfl ?_
    refine gz_aload_n dX0_messageTold_77 rfl ?_
    refine gz_getf 5 dX0_messageTold_78 rfl rfl wf_Heliographs_Chain_22 (by decide) rfl ?_
    refine gz_iload_n dX0_messageTold_81 rfl ?_
    refine gn_iald dX0_messageTold_82 rfl (by omega) rfl ?_
    refine gz_ireturn dX0_messageTold_83 rfl rfl ?_
    exact hq
  )
theorem zs_messageTold_3 {c p : Nat} (hcs : c = 336 ∨ c = 352) (hp : p = 368 ∨ p = 400) (hcp : Z c 0 = (p : Int)) (hw : wP (vP Z p)) {N : Int} (hc : wC (vP Z p) (vC Z c) N) {x : Int} (hx : 0 ≤ x ∧ x < Z p 3) (hd : 1 ≤ d) : zk_Does l Γ mX0_messageTold d 0 0 [.ref c, .int (iZ x), .int (iZ 3)] (zb_M Z) F (some (.int (iZ (sMs (vP Z p) (vC Z c) x 3)))) (zb_M Z) F := by
  intro Q hq
  rcases hcs with rfl | rfl <;> rcases hp with rfl | rfl <;> (
    have hpl := congrArg Int.toNat hcp
    simp only [Int.toNat_natCast] at hpl
    have h0 := wP_n hw
    have h1 := wP_m hw (i := x.toNat) (by simp only [vP, vC, Nat.reduceAdd, Nat.reduceLT, Nat.add_zero, ↓reduceIte]; omega)
    have h2 := wC_m hc (k := x.toNat) (by simp only [vP, vC, Nat.reduceAdd, Nat.reduceLT, Nat.add_zero, ↓reduceIte]; omega)
    simp only [wM, vP, vC, Nat.reduceAdd, Nat.reduceLT, Nat.add_zero, ↓reduceIte] at h0 h1 h2
    refine gz_aload_n dX0_messageTold_0 rfl ?_
    refine gz_getf 0 dX0_messageTold_1 rfl rfl wf_Heliographs_Chain_53 (by decide) (congrArg Value.ref hpl) ?_
    refine gz_iload_n dX0_messageTold_4 rfl ?_
    refine gv_1 (J := mX3_hasMessage) (d1 := d - 1) dX0_messageTold_5 wm_Heliographs_Chain_94 rfl jzX3_hasMessage (Nat.le_of_ble_eq_true rfl) (Nat.le_of_ble_eq_true rfl) (by omega) ⟨Nat.le_refl _, Nat.le_refl _⟩ (zs_hasMessage (by simp) (by omega) h0.2.2.2) ?_
    refine zz_if_neB (tgt := 13) dX0_messageTold_8 rfl (fun b8 => ?_) (fun b8 => ?_)
    rotate_left
    · exact absurd (by simp only [decide_eq_true_eq]; omega) b8
    refine gz_iload_n dX0_messageTold_13 rfl ?_
    refine zz_tsw (tgt := 84) dX0_messageTold_14 (by omega) (by decide) (by decide) rfl rfl ?_
    refine gz_aload_n dX0_messageTold_84 rfl ?_
    refine gz_getf 6 dX0_messageTold_85 rfl rfl wf_Heliographs_Chain_25 (by decide) rfl ?_
    refine gz_iload_n dX0_messageTold_88 rfl ?_
    refine gn_iald dX0_messageTold_89 rfl (by omega) rfl ?_
    refine gz_ireturn dX0_messageTold_90 rfl rfl ?_
    exact hq
  )
theorem zs_messageTold_4 {c p : Nat} (hcs : c = 336 ∨ c = 352) (hp : p = 368 ∨ p = 400) (hcp : Z c 0 = (p : Int)) (hw : wP (vP Z p)) {N : Int} (hc : wC (vP Z p) (vC Z c) N) {x : Int} (hx : 0 ≤ x ∧ x < Z p 3) (hd : 1 ≤ d) : zk_Does l Γ mX0_messageTold d 0 0 [.ref c, .int (iZ x), .int (iZ 4)] (zb_M Z) F (some (.int (iZ (sMs (vP Z p) (vC Z c) x 4)))) (zb_M Z) F := by
  intro Q hq
  rcases hcs with rfl | rfl <;> rcases hp with rfl | rfl <;> (
    have hpl := congrArg Int.toNat hcp
    simp only [Int.toNat_natCast] at hpl
    have h0 := wP_n hw
    have h1 := wP_m hw (i := x.toNat) (by simp only [vP, vC, Nat.reduceAdd, Nat.reduceLT, Nat.add_zero, ↓reduceIte]; omega)
    have h2 := wC_m hc (k := x.toNat) (by simp only [vP, vC, Nat.reduceAdd, Nat.reduceLT, Nat.add_zero, ↓reduceIte]; omega)
    simp only [wM, vP, vC, Nat.reduceAdd, Nat.reduceLT, Nat.add_zero, ↓reduceIte] at h0 h1 h2
    refine gz_aload_n dX0_messageTold_0 rfl ?_
    refine gz_getf 0 dX0_messageTold_1 rfl rfl wf_Heliographs_Chain_53 (by decide) (congrArg Value.ref hpl) ?_
    refine gz_iload_n dX0_messageTold_4 rfl ?_
    refine gv_1 (J := mX3_hasMessage) (d1 := d - 1) dX0_messageTold_5 wm_Heliographs_Chain_94 rfl jzX3_hasMessage (Nat.le_of_ble_eq_true rfl) (Nat.le_of_ble_eq_true rfl) (by omega) ⟨Nat.le_refl _, Nat.le_refl _⟩ (zs_hasMessage (by simp) (by omega) h0.2.2.2) ?_
    refine zz_if_neB (tgt := 13) dX0_messageTold_8 rfl (fun b8 => ?_) (fun b8 => ?_)
    rotate_left
    · exact absurd (by simp only [decide_eq_true_eq]; omega) b8
    refine gz_iload_n dX0_messageTold_13 rfl ?_
    refine zz_tsw (tgt := 91) dX0_messageTold_14 (by omega) (by decide) (by decide) rfl rfl ?_
    refine gz_aload_n dX0_messageTold_91 rfl ?_
    refine gz_getf 9 dX0_messageTold_92 rfl rfl wf_Heliographs_Chain_34 (by decide) rfl ?_
    refine gz_iload_n dX0_messageTold_95 rfl ?_
    refine gn_iald dX0_messageTold_96 rfl (by omega) rfl ?_
    refine gz_ireturn dX0_messageTold_97 rfl rfl ?_
    exact hq
  )
theorem zs_messageTold_5 {c p : Nat} (hcs : c = 336 ∨ c = 352) (hp : p = 368 ∨ p = 400) (hcp : Z c 0 = (p : Int)) (hw : wP (vP Z p)) {N : Int} (hc : wC (vP Z p) (vC Z c) N) {x : Int} (hx : 0 ≤ x ∧ x < Z p 3) (hd : 1 ≤ d) : zk_Does l Γ mX0_messageTold d 0 0 [.ref c, .int (iZ x), .int (iZ 5)] (zb_M Z) F (some (.int (iZ (sMs (vP Z p) (vC Z c) x 5)))) (zb_M Z) F := by
  intro Q hq
  rcases hcs with rfl | rfl <;> rcases hp with rfl | rfl <;> (
    have hpl := congrArg Int.toNat hcp
    simp only [Int.toNat_natCast] at hpl
    have h0 := wP_n hw
    have h1 := wP_m hw (i := x.toNat) (by simp only [vP, vC, Nat.reduceAdd, Nat.reduceLT, Nat.add_zero, ↓reduceIte]; omega)
    have h2 := wC_m hc (k := x.toNat) (by simp only [vP, vC, Nat.reduceAdd, Nat.reduceLT, Nat.add_zero, ↓reduceIte]; omega)
    simp only [wM, vP, vC, Nat.reduceAdd, Nat.reduceLT, Nat.add_zero, ↓reduceIte] at h0 h1 h2
    refine gz_aload_n dX0_messageTold_0 rfl ?_
    refine gz_getf 0 dX0_messageTold_1 rfl rfl wf_Heliographs_Chain_53 (by decide) (congrArg Value.ref hpl) ?_
    refine gz_iload_n dX0_messageTold_4 rfl ?_
    refine gv_1 (J := mX3_hasMessage) (d1 := d - 1) dX0_messageTold_5 wm_Heliographs_Chain_94 rfl jzX3_hasMessage (Nat.le_of_ble_eq_true rfl) (Nat.le_of_ble_eq_true rfl) (by omega) ⟨Nat.le_refl _, Nat.le_refl _⟩ (zs_hasMessage (by simp) (by omega) h0.2.2.2) ?_
    refine zz_if_neB (tgt := 13) dX0_messageTold_8 rfl (fun b8 => ?_) (fun b8 => ?_)
    rotate_left
    · exact absurd (by simp only [decide_eq_true_eq]; omega) b8
    refine gz_iload_n dX0_messageTold_13 rfl ?_
    refine zz_tsw (tgt := 98) dX0_messageTold_14 (by omega) (by decide) (by decide) rfl rfl ?_
    refine gz_aload_n dX0_messageTold_98 rfl ?_
    refine gz_getf 7 dX0_messageTold_99 rfl rfl wf_Heliographs_Chain_28 (by decide) rfl ?_
    refine gz_iload_n dX0_messageTold_102 rfl ?_
    refine gn_iald dX0_messageTold_103 rfl (by omega) rfl ?_
    refine gz_ireturn dX0_messageTold_104 rfl rfl ?_
    exact hq
  )
theorem zs_messageTold_6 {c p : Nat} (hcs : c = 336 ∨ c = 352) (hp : p = 368 ∨ p = 400) (hcp : Z c 0 = (p : Int)) (hw : wP (vP Z p)) {N : Int} (hc : wC (vP Z p) (vC Z c) N) {x : Int} (hx : 0 ≤ x ∧ x < Z p 3) (hd : 1 ≤ d) : zk_Does l Γ mX0_messageTold d 0 0 [.ref c, .int (iZ x), .int (iZ 6)] (zb_M Z) F (some (.int (iZ (sMs (vP Z p) (vC Z c) x 6)))) (zb_M Z) F := by
  intro Q hq
  rcases hcs with rfl | rfl <;> rcases hp with rfl | rfl <;> (
    have hpl := congrArg Int.toNat hcp
    simp only [Int.toNat_natCast] at hpl
    have h0 := wP_n hw
    have h1 := wP_m hw (i := x.toNat) (by simp only [vP, vC, Nat.reduceAdd, Nat.reduceLT, Nat.add_zero, ↓reduceIte]; omega)
    have h2 := wC_m hc (k := x.toNat) (by simp only [vP, vC, Nat.reduceAdd, Nat.reduceLT, Nat.add_zero, ↓reduceIte]; omega)
    simp only [wM, vP, vC, Nat.reduceAdd, Nat.reduceLT, Nat.add_zero, ↓reduceIte] at h0 h1 h2
    refine gz_aload_n dX0_messageTold_0 rfl ?_
    refine gz_getf 0 dX0_messageTold_1 rfl rfl wf_Heliographs_Chain_53 (by decide) (congrArg Value.ref hpl) ?_
    refine gz_iload_n dX0_messageTold_4 rfl ?_
    refine gv_1 (J := mX3_hasMessage) (d1 := d - 1) dX0_messageTold_5 wm_Heliographs_Chain_94 rfl jzX3_hasMessage (Nat.le_of_ble_eq_true rfl) (Nat.le_of_ble_eq_true rfl) (by omega) ⟨Nat.le_refl _, Nat.le_refl _⟩ (zs_hasMessage (by simp) (by omega) h0.2.2.2) ?_
    refine zz_if_neB (tgt := 13) dX0_messageTold_8 rfl (fun b8 => ?_) (fun b8 => ?_)
    rotate_left
    · exact absurd (by simp only [decide_eq_true_eq]; omega) b8
    refine gz_iload_n dX0_messageTold_13 rfl ?_
    refine zz_tsw (tgt := 105) dX0_messageTold_14 (by omega) (by decide) (by decide) rfl rfl ?_
    refine gz_aload_n dX0_messageTold_105 rfl ?_
    refine gz_getf 10 dX0_messageTold_106 rfl rfl wf_Heliographs_Chain_37 (by decide) rfl ?_
    refine gz_iload_n dX0_messageTold_109 rfl ?_
    refine gn_iald dX0_messageTold_110 rfl (by omega) rfl ?_
    refine gz_ireturn dX0_messageTold_111 rfl rfl ?_
    exact hq
  )
theorem zs_messageTold_7 {c p : Nat} (hcs : c = 336 ∨ c = 352) (hp : p = 368 ∨ p = 400) (hcp : Z c 0 = (p : Int)) (hw : wP (vP Z p)) {N : Int} (hc : wC (vP Z p) (vC Z c) N) {x : Int} (hx : 0 ≤ x ∧ x < Z p 3) (hd : 1 ≤ d) : zk_Does l Γ mX0_messageTold d 0 0 [.ref c, .int (iZ x), .int (iZ 7)] (zb_M Z) F (some (.int (iZ (sMs (vP Z p) (vC Z c) x 7)))) (zb_M Z) F := by
  intro Q hq
  rcases hcs with rfl | rfl <;> rcases hp with rfl | rfl <;> (
    have hpl := congrArg Int.toNat hcp
    simp only [Int.toNat_natCast] at hpl
    have h0 := wP_n hw
    have h1 := wP_m hw (i := x.toNat) (by simp only [vP, vC, Nat.reduceAdd, Nat.reduceLT, Nat.add_zero, ↓reduceIte]; omega)
    have h2 := wC_m hc (k := x.toNat) (by simp only [vP, vC, Nat.reduceAdd, Nat.reduceLT, Nat.add_zero, ↓reduceIte]; omega)
    simp only [wM, vP, vC, Nat.reduceAdd, Nat.reduceLT, Nat.add_zero, ↓reduceIte] at h0 h1 h2
    refine gz_aload_n dX0_messageTold_0 rfl ?_
    refine gz_getf 0 dX0_messageTold_1 rfl rfl wf_Heliographs_Chain_53 (by decide) (congrArg Value.ref hpl) ?_
    refine gz_iload_n dX0_messageTold_4 rfl ?_
    refine gv_1 (J := mX3_hasMessage) (d1 := d - 1) dX0_messageTold_5 wm_Heliographs_Chain_94 rfl jzX3_hasMessage (Nat.le_of_ble_eq_true rfl) (Nat.le_of_ble_eq_true rfl) (by omega) ⟨Nat.le_refl _, Nat.le_refl _⟩ (zs_hasMessage (by simp) (by omega) h0.2.2.2) ?_
    refine zz_if_neB (tgt := 13) dX0_messageTold_8 rfl (fun b8 => ?_) (fun b8 => ?_)
    rotate_left
    · exact absurd (by simp only [decide_eq_true_eq]; omega) b8
    refine gz_iload_n dX0_messageTold_13 rfl ?_
    refine zz_tsw (tgt := 112) dX0_messageTold_14 (by omega) (by decide) (by decide) rfl rfl ?_
    refine gz_aload_n dX0_messageTold_112 rfl ?_
    refine gz_getf 8 dX0_messageTold_113 rfl rfl wf_Heliographs_Chain_31 (by decide) rfl ?_
    refine gz_iload_n dX0_messageTold_116 rfl ?_
    refine gn_iald dX0_messageTold_117 rfl (by omega) rfl ?_
    refine gz_ireturn dX0_messageTold_118 rfl rfl ?_
    exact hq
  )
theorem zs_messageTold_8 {c p : Nat} (hcs : c = 336 ∨ c = 352) (hp : p = 368 ∨ p = 400) (hcp : Z c 0 = (p : Int)) (hw : wP (vP Z p)) {N : Int} (hc : wC (vP Z p) (vC Z c) N) {x : Int} (hx : 0 ≤ x ∧ x < Z p 3) (hd : 1 ≤ d) : zk_Does l Γ mX0_messageTold d 0 0 [.ref c, .int (iZ x), .int (iZ 8)] (zb_M Z) F (some (.int (iZ (sMs (vP Z p) (vC Z c) x 8)))) (zb_M Z) F := by
  intro Q hq
  rcases hcs with rfl | rfl <;> rcases hp with rfl | rfl <;> (
    have hpl := congrArg Int.toNat hcp
    simp only [Int.toNat_natCast] at hpl
    have h0 := wP_n hw
    have h1 := wP_m hw (i := x.toNat) (by simp only [vP, vC, Nat.reduceAdd, Nat.reduceLT, Nat.add_zero, ↓reduceIte]; omega)
    have h2 := wC_m hc (k := x.toNat) (by simp only [vP, vC, Nat.reduceAdd, Nat.reduceLT, Nat.add_zero, ↓reduceIte]; omega)
    simp only [wM, vP, vC, Nat.reduceAdd, Nat.reduceLT, Nat.add_zero, ↓reduceIte] at h0 h1 h2
    refine gz_aload_n dX0_messageTold_0 rfl ?_
    refine gz_getf 0 dX0_messageTold_1 rfl rfl wf_Heliographs_Chain_53 (by decide) (congrArg Value.ref hpl) ?_
    refine gz_iload_n dX0_messageTold_4 rfl ?_
    refine gv_1 (J := mX3_hasMessage) (d1 := d - 1) dX0_messageTold_5 wm_Heliographs_Chain_94 rfl jzX3_hasMessage (Nat.le_of_ble_eq_true rfl) (Nat.le_of_ble_eq_true rfl) (by omega) ⟨Nat.le_refl _, Nat.le_refl _⟩ (zs_hasMessage (by simp) (by omega) h0.2.2.2) ?_
    refine zz_if_neB (tgt := 13) dX0_messageTold_8 rfl (fun b8 => ?_) (fun b8 => ?_)
    rotate_left
    · exact absurd (by simp only [decide_eq_true_eq]; omega) b8
    refine gz_iload_n dX0_messageTold_13 rfl ?_
    refine zz_tswD (tgt := 119) dX0_messageTold_14 (by omega) (by decide) rfl ?_
    refine gz_aload_n dX0_messageTold_119 rfl ?_
    refine gz_getf 11 dX0_messageTold_120 rfl rfl wf_Heliographs_Chain_40 (by decide) rfl ?_
    refine gz_iload_n dX0_messageTold_123 rfl ?_
    refine gn_iald dX0_messageTold_124 rfl (by omega) rfl ?_
    refine gz_ireturn dX0_messageTold_125 rfl rfl ?_
    exact hq
  )
theorem zs_messageTold {c p : Nat} (hcs : c = 336 ∨ c = 352) (hp : p = 368 ∨ p = 400) (hcp : Z c 0 = (p : Int)) (hw : wP (vP Z p)) {N : Int} (hc : wC (vP Z p) (vC Z c) N) {x : Int} (hx : 0 ≤ x ∧ x < Z p 3) {y : Int} (hy : 0 ≤ y ∧ y ≤ 8) (hd : 1 ≤ d) : zk_Does l Γ mX0_messageTold d 0 0 [.ref c, .int (iZ x), .int (iZ y)] (zb_M Z) F (some (.int (iZ (sMs (vP Z p) (vC Z c) x y)))) (zb_M Z) F := by
  rcases (show y = 0 ∨ y = 1 ∨ y = 2 ∨ y = 3 ∨ y = 4 ∨ y = 5 ∨ y = 6 ∨ y = 7 ∨ y = 8 from by omega) with rfl | rfl | rfl | rfl | rfl | rfl | rfl | rfl | rfl
  · exact zs_messageTold_0 hcs hp hcp hw hc hx hd
  · exact zs_messageTold_1 hcs hp hcp hw hc hx hd
  · exact zs_messageTold_2 hcs hp hcp hw hc hx hd
  · exact zs_messageTold_3 hcs hp hcp hw hc hx hd
  · exact zs_messageTold_4 hcs hp hcp hw hc hx hd
  · exact zs_messageTold_5 hcs hp hcp hw hc hx hd
  · exact zs_messageTold_6 hcs hp hcp hw hc hx hd
  · exact zs_messageTold_7 hcs hp hcp hw hc hx hd
  · exact zs_messageTold_8 hcs hp hcp hw hc hx hd
end

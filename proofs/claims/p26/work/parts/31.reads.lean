/-! THE CHAIN AND THE PLAN: reads -/
section
variable {l : Launch} {Γ : zk_G} {d : Nat} {Z : Nat → Nat → Int} {F : Heap → Prop}
theorem zs_messagesAt_loop {c p : Nat} (hcs : c = 336 ∨ c = 352) (hp : p = 368 ∨ p = 400) (hcp : Z c 0 = (p : Int)) (hw : wP (vP Z p)) {N : Int} (hc : wC (vP Z p) (vC Z c) N) {x y : Int} (hx : -2147483648 ≤ x ∧ x < 2147483648) (hy : -2147483648 ≤ y ∧ y < 2147483648) {Q : Option Value → zk_M → (Heap → Prop) → Prop} : ∀ (n i : Nat) (A : Int), (i : Int) + n = Z p 3 → 0 ≤ A ∧ A ≤ i → Q (some (.int (iZ (A + sNum (sAt (vC Z c) x y) i n)))) (zb_M Z) F → zk_Go l Γ mX0_messagesAt d 0 0 Q 5 [some (.ref c), some (.int (iZ x)), some (.int (iZ y)), some (.int (iZ A)), some (.int (iZ (i : Int)))] [] (zb_M Z) F := by
  rcases hcs with rfl | rfl <;> rcases hp with rfl | rfl <;> (
    intro n
    induction n with
    | zero =>
      intro i A hi hA hq
      have hpl := congrArg Int.toNat hcp
      simp only [Int.toNat_natCast] at hpl
      have h0 := wP_n hw
      simp only [vP, vC, Nat.reduceAdd, Nat.reduceLT, Nat.add_zero, ↓reduceIte] at h0
      refine gz_iload dX0_messagesAt_5 rfl ?_
      refine gz_aload_n dX0_messagesAt_7 rfl ?_
      refine gz_getf 0 dX0_messagesAt_8 rfl rfl wf_Heliographs_Chain_53 (by decide) (congrArg Value.ref hpl) ?_
      refine gz_getf 3 dX0_messagesAt_11 rfl rfl wf_Heliographs_Chain_81 (by decide) rfl ?_
      refine zz_icmp_ge (tgt := 55) dX0_messagesAt_14 rfl (by omega) (fun b14 => ?_) (fun b14 => ?_)
      rotate_left
      · exact absurd b14 (by omega)
      refine gz_iload_n dX0_messagesAt_55 rfl ?_
      refine gz_ireturn dX0_messagesAt_56 rfl rfl ?_
      rw [sNum_0, Int.add_zero] at hq
      exact hq
    | succ n ih =>
      intro i A hi hA hq
      have hpl := congrArg Int.toNat hcp
      simp only [Int.toNat_natCast] at hpl
      have h0 := wP_n hw
      simp only [vP, vC, Nat.reduceAdd, Nat.reduceLT, Nat.add_zero, ↓reduceIte] at h0
      have h1 := wC_m hc (k := i) (by simp only [vP, vC, Nat.reduceAdd, Nat.reduceLT, Nat.add_zero, ↓reduceIte]; omega)
      simp only [wM, vP, vC, Nat.reduceAdd, Nat.reduceLT, Nat.add_zero, ↓reduceIte] at h1
      refine gz_iload dX0_messagesAt_5 rfl ?_
      refine gz_aload_n dX0_messagesAt_7 rfl ?_
      refine gz_getf 0 dX0_messagesAt_8 rfl rfl wf_Heliographs_Chain_53 (by decide) (congrArg Value.ref hpl) ?_
      refine gz_getf 3 dX0_messagesAt_11 rfl rfl wf_Heliographs_Chain_81 (by decide) rfl ?_
      refine zz_icmp_ge (tgt := 55) dX0_messagesAt_14 rfl (by omega) (fun b14 => ?_) (fun b14 => ?_)
      · exact absurd b14 (by omega)
      refine gz_iload dX0_messagesAt_17 rfl ?_
      refine zz_bipush (x := 8) dX0_messagesAt_19 rfl ?_
      refine zz_icmp_ge (tgt := 55) dX0_messagesAt_21 rfl (by omega) (fun b21 => ?_) (fun b21 => ?_)
      · exact absurd b21 (by omega)
      refine gz_aload_n dX0_messagesAt_24 rfl ?_
      refine gz_getf 4 dX0_messagesAt_25 rfl rfl wf_Heliographs_Chain_19 (by decide) rfl ?_
      refine gz_iload dX0_messagesAt_28 rfl ?_
      refine gz_iald (n := i) dX0_messagesAt_30 rfl rfl (by omega) rfl ?_
      refine gz_iload_n dX0_messagesAt_31 rfl ?_
      refine zz_icmp_ne (tgt := 49) dX0_messagesAt_32 rfl (by omega) (fun b32 => ?_) (fun b32 => ?_)
      ·
        refine zz_iinc dX0_messagesAt_49 rfl rfl ?_
        refine gz_goto (tgt := 5) dX0_messagesAt_52 rfl ?_
        (first | exact ih (i + 1) _ (by omega) (by omega) (by rw [sNum_t (by simp only [sAt, vP, vC, Nat.reduceAdd, Nat.reduceLT, Nat.add_zero, ↓reduceIte, decide_eq_true_eq]; omega), ← Int.add_assoc] at hq; exact hq) | exact ih (i + 1) _ (by omega) (by omega) (by rw [sNum_f (by simp only [sAt, vP, vC, Nat.reduceAdd, Nat.reduceLT, Nat.add_zero, ↓reduceIte, decide_eq_true_eq]; omega)] at hq; exact hq))
      ·
        refine gz_aload_n dX0_messagesAt_35 rfl ?_
        refine gz_getf 6 dX0_messagesAt_36 rfl rfl wf_Heliographs_Chain_25 (by decide) rfl ?_
        refine gz_iload dX0_messagesAt_39 rfl ?_
        refine gz_iald (n := i) dX0_messagesAt_41 rfl rfl (by omega) rfl ?_
        refine gz_iload_n dX0_messagesAt_42 rfl ?_
        refine zz_icmp_ne (tgt := 49) dX0_messagesAt_43 rfl (by omega) (fun b43 => ?_) (fun b43 => ?_)
        ·
          refine zz_iinc dX0_messagesAt_49 rfl rfl ?_
          refine gz_goto (tgt := 5) dX0_messagesAt_52 rfl ?_
          (first | exact ih (i + 1) _ (by omega) (by omega) (by rw [sNum_t (by simp only [sAt, vP, vC, Nat.reduceAdd, Nat.reduceLT, Nat.add_zero, ↓reduceIte, decide_eq_true_eq]; omega), ← Int.add_assoc] at hq; exact hq) | exact ih (i + 1) _ (by omega) (by omega) (by rw [sNum_f (by simp only [sAt, vP, vC, Nat.reduceAdd, Nat.reduceLT, Nat.add_zero, ↓reduceIte, decide_eq_true_eq]; omega)] at hq; exact hq))
        ·
          refine zz_iinc dX0_messagesAt_46 rfl rfl ?_
          refine zz_iinc dX0_messagesAt_49 rfl rfl ?_
          refine gz_goto (tgt := 5) dX0_messagesAt_52 rfl ?_
          (first | exact ih (i + 1) _ (by omega) (by omega) (by rw [sNum_t (by simp only [sAt, vP, vC, Nat.reduceAdd, Nat.reduceLT, Nat.add_zero, ↓reduceIte, decide_eq_true_eq]; omega), ← Int.add_assoc] at hq; exact hq) | exact ih (i + 1) _ (by omega) (by omega) (by rw [sNum_f (by simp only [sAt, vP, vC, Nat.reduceAdd, Nat.reduceLT, Nat.add_zero, ↓reduceIte, decide_eq_true_eq]; omega)] at hq; exact hq))
  )
theorem zs_messagesAt {c p : Nat} (hcs : c = 336 ∨ c = 352) (hp : p = 368 ∨ p = 400) (hcp : Z c 0 = (p : Int)) (hw : wP (vP Z p)) {N : Int} (hc : wC (vP Z p) (vC Z c) N) {x y : Int} (hx : -2147483648 ≤ x ∧ x < 2147483648) (hy : -2147483648 ≤ y ∧ y < 2147483648) : zk_Does l Γ mX0_messagesAt d 0 0 [.ref c, .int (iZ x), .int (iZ y)] (zb_M Z) F (some (.int (iZ (sNum (sAt (vC Z c) x y) 0 (Z p 3).toNat)))) (zb_M Z) F := by
  intro Q hq
  refine zz_iconst dX0_messagesAt_0 ?_
  refine gz_istore_n dX0_messagesAt_1 (Nat.le_of_ble_eq_true rfl) rfl ?_
  refine zz_iconst dX0_messagesAt_2 ?_
  refine gz_istore dX0_messagesAt_3 (Nat.le_of_ble_eq_true rfl) rfl ?_
  exact zs_messagesAt_loop hcs hp hcp hw hc hx hy (Z p 3).toNat 0 0 (by have := wP_n hw; simp only [vP, vC, Nat.reduceAdd, Nat.reduceLT, Nat.add_zero, ↓reduceIte] at this; omega) (by omega) (by rw [Int.zero_add]; exact hq)
theorem zs_messagesIn_loop {c p : Nat} (hcs : c = 336 ∨ c = 352) (hp : p = 368 ∨ p = 400) (hcp : Z c 0 = (p : Int)) (hw : wP (vP Z p)) {N : Int} (hc : wC (vP Z p) (vC Z c) N) {y : Int} (hy : -2147483648 ≤ y ∧ y < 2147483648) {Q : Option Value → zk_M → (Heap → Prop) → Prop} : ∀ (n i : Nat) (A : Int), (i : Int) + n = Z p 3 → 0 ≤ A ∧ A ≤ i → Q (some (.int (iZ (A + sNum (sIn (vC Z c) y) i n)))) (zb_M Z) F → zk_Go l Γ mX0_messagesIn d 0 0 Q 4 [some (.ref c), some (.int (iZ y)), some (.int (iZ A)), some (.int (iZ (i : Int)))] [] (zb_M Z) F := by
  rcases hcs with rfl | rfl <;> rcases hp with rfl | rfl <;> (
    intro n
    induction n with
    | zero =>
      intro i A hi hA hq
      have hpl := congrArg Int.toNat hcp
      simp only [Int.toNat_natCast] at hpl
      have h0 := wP_n hw
      simp only [vP, vC, Nat.reduceAdd, Nat.reduceLT, Nat.add_zero, ↓reduceIte] at h0
      refine gz_iload_n dX0_messagesIn_4 rfl ?_
      refine gz_aload_n dX0_messagesIn_5 rfl ?_
      refine gz_getf 0 dX0_messagesIn_6 rfl rfl wf_Heliographs_Chain_53 (by decide) (congrArg Value.ref hpl) ?_
      refine gz_getf 3 dX0_messagesIn_9 rfl rfl wf_Heliographs_Chain_81 (by decide) rfl ?_
      refine zz_icmp_ge (tgt := 40) dX0_messagesIn_12 rfl (by omega) (fun b12 => ?_) (fun b12 => ?_)
      rotate_left
      · exact absurd b12 (by omega)
      refine gz_iload_n dX0_messagesIn_40 rfl ?_
      refine gz_ireturn dX0_messagesIn_41 rfl rfl ?_
      rw [sNum_0, Int.add_zero] at hq
      exact hq
    | succ n ih =>
      intro i A hi hA hq
      have hpl := congrArg Int.toNat hcp
      simp only [Int.toNat_natCast] at hpl
      have h0 := wP_n hw
      simp only [vP, vC, Nat.reduceAdd, Nat.reduceLT, Nat.add_zero, ↓reduceIte] at h0
      have h1 := wC_m hc (k := i) (by simp only [vP, vC, Nat.reduceAdd, Nat.reduceLT, Nat.add_zero, ↓reduceIte]; omega)
      simp only [wM, vP, vC, Nat.reduceAdd, Nat.reduceLT, Nat.add_zero, ↓reduceIte] at h1
      refine gz_iload_n dX0_messagesIn_4 rfl ?_
      refine gz_aload_n dX0_messagesIn_5 rfl ?_
      refine gz_getf 0 dX0_messagesIn_6 rfl rfl wf_Heliographs_Chain_53 (by decide) (congrArg Value.ref hpl) ?_
      refine gz_getf 3 dX0_messagesIn_9 rfl rfl wf_Heliographs_Chain_81 (by decide) rfl ?_
      refine zz_icmp_ge (tgt := 40) dX0_messagesIn_12 rfl (by omega) (fun b12 => ?_) (fun b12 => ?_)
      · exact absurd b12 (by omega)
      refine gz_iload_n dX0_messagesIn_15 rfl ?_
      refine zz_bipush (x := 8) dX0_messagesIn_16 rfl ?_
      refine zz_icmp_ge (tgt := 40) dX0_messagesIn_18 rfl (by omega) (fun b18 => ?_) (fun b18 => ?_)
      · exact absurd b18 (by omega)
      refine gz_aload_n dX0_messagesIn_21 rfl ?_
      refine gz_getf 6 dX0_messagesIn_22 rfl rfl wf_Heliographs_Chain_25 (by decide) rfl ?_
      refine gz_iload_n dX0_messagesIn_25 rfl ?_
      refine gz_iald (n := i) dX0_messagesIn_26 rfl rfl (by omega) rfl ?_
      refine gz_iload_n dX0_messagesIn_27 rfl ?_
      refine zz_icmp_ne (tgt := 34) dX0_messagesIn_28 rfl (by omega) (fun b28 => ?_) (fun b28 => ?_)
      ·
        refine zz_iinc dX0_messagesIn_34 rfl rfl ?_
        refine gz_goto (tgt := 4) dX0_messagesIn_37 rfl ?_
        (first | exact ih (i + 1) _ (by omega) (by omega) (by rw [sNum_t (by simp only [sIn, vP, vC, Nat.reduceAdd, Nat.reduceLT, Nat.add_zero, ↓reduceIte, decide_eq_true_eq]; omega), ← Int.add_assoc] at hq; exact hq) | exact ih (i + 1) _ (by omega) (by omega) (by rw [sNum_f (by simp only [sIn, vP, vC, Nat.reduceAdd, Nat.reduceLT, Nat.add_zero, ↓reduceIte, decide_eq_true_eq]; omega)] at hq; exact hq))
      ·
        refine zz_iinc dX0_messagesIn_31 rfl rfl ?_
        refine zz_iinc dX0_messagesIn_34 rfl rfl ?_
        refine gz_goto (tgt := 4) dX0_messagesIn_37 rfl ?_
        (first | exact ih (i + 1) _ (by omega) (by omega) (by rw [sNum_t (by simp only [sIn, vP, vC, Nat.reduceAdd, Nat.reduceLT, Nat.add_zero, ↓reduceIte, decide_eq_true_eq]; omega), ← Int.add_assoc] at hq; exact hq) | exact ih (i + 1) _ (by omega) (by omega) (by rw [sNum_f (by simp only [sIn, vP, vC, Nat.reduceAdd, Nat.reduceLT, Nat.add_zero, ↓reduceIte, decide_eq_true_eq]; omega)] at hq; exact hq))
  )
theorem zs_messagesIn {c p : Nat} (hcs : c = 336 ∨ c = 352) (hp : p = 368 ∨ p = 400) (hcp : Z c 0 = (p : Int)) (hw : wP (vP Z p)) {N : Int} (hc : wC (vP Z p) (vC Z c) N) {y : Int} (hy : -2147483648 ≤ y ∧ y < 2147483648) : zk_Does l Γ mX0_messagesIn d 0 0 [.ref c, .int (iZ y)] (zb_M Z) F (some (.int (iZ (sNum (sIn (vC Z c) y) 0 (Z p 3).toNat)))) (zb_M Z) F := by
  intro Q hq
  refine zz_iconst dX0_messagesIn_0 ?_
  refine gz_istore_n dX0_messagesIn_1 (Nat.le_of_ble_eq_true rfl) rfl ?_
  refine zz_iconst dX0_messagesIn_2 ?_
  refine gz_istore_n dX0_messagesIn_3 (Nat.le_of_ble_eq_true rfl) rfl ?_
  exact zs_messagesIn_loop hcs hp hcp hw hc hy (Z p 3).toNat 0 0 (by have := wP_n hw; simp only [vP, vC, Nat.reduceAdd, Nat.reduceLT, Nat.add_zero, ↓reduceIte] at this; omega) (by omega) (by rw [Int.zero_add]; exact hq)
theorem zs_isEnd {p : Nat} (hp : p = 368 ∨ p = 400) (hw : wP (vP Z p)) {x y : Int} (hx : 0 ≤ x ∧ x < Z p 1) (hy : -2147483648 ≤ y ∧ y < 2147483648) (hd : 1 ≤ d) : zk_Does l Γ mX3_isEnd d 0 0 [.ref p, .int (iZ x), .int (iZ y)] (zb_M Z) F (some (.int (iZ (bI (sEnd (vP Z p) y x.toNat))))) (zb_M Z) F := by
  intro Q hq
  rcases hp with rfl | rfl <;> (
    have h0 := wP_n hw
    have h1 := wP_w hw (w := x.toNat) (by simp only [vP, vC, Nat.reduceAdd, Nat.reduceLT, Nat.add_zero, ↓reduceIte]; omega)
    simp only [vP, vC, Nat.reduceAdd, Nat.reduceLT, Nat.add_zero, ↓reduceIte] at h0 h1
    refine gz_aload_n dX3_isEnd_0 rfl ?_
    refine gz_iload_n dX3_isEnd_1 rfl ?_
    refine gv_1 (J := mX3_hasPass) (d1 := d - 1) dX3_isEnd_2 wm_Heliographs_Plan_81 rfl jzX3_hasPass (Nat.le_of_ble_eq_true rfl) (Nat.le_of_ble_eq_true rfl) (by omega) ⟨Nat.le_refl _, Nat.le_refl _⟩ (zs_hasPass (by simp) (by omega) h0.2.1) ?_
    refine zz_if_eqB (tgt := 32) dX3_isEnd_5 rfl (fun b5 => ?_) (fun b5 => ?_)
    · exact absurd (by simp only [decide_eq_true_eq]; omega) b5
    refine gz_aload_n dX3_isEnd_8 rfl ?_
    refine gz_getf 7 dX3_isEnd_9 rfl rfl wf_Heliographs_Plan_21 (by decide) rfl ?_
    refine gz_iload_n dX3_isEnd_12 rfl ?_
    refine gn_iald dX3_isEnd_13 rfl (by omega) rfl ?_
    refine gz_iload_n dX3_isEnd_14 rfl ?_
    refine zz_icmp_eq (tgt := 28) dX3_isEnd_15 rfl (by omega) (fun b15 => ?_) (fun b15 => ?_)
    ·
      refine zz_iconst dX3_isEnd_28 ?_
      refine gz_goto (tgt := 33) dX3_isEnd_29 rfl ?_
      refine gz_ireturn dX3_isEnd_33 rfl rfl ?_
      (first | exact hq | (rw [bI_t (by simp only [sEnd, vP, vC, Nat.reduceAdd, Nat.reduceLT, Nat.add_zero, ↓reduceIte, decide_eq_true_eq]; omega)] at hq; exact hq) | (rw [bI_f (by simp only [sEnd, vP, vC, Nat.reduceAdd, Nat.reduceLT, Nat.add_zero, ↓reduceIte, decide_eq_true_eq]; omega)] at hq; exact hq))
    ·
      refine gz_aload_n dX3_isEnd_18 rfl ?_
      refine gz_getf 8 dX3_isEnd_19 rfl rfl wf_Heliographs_Plan_24 (by decide) rfl ?_
      refine gz_iload_n dX3_isEnd_22 rfl ?_
      refine gn_iald dX3_isEnd_23 rfl (by omega) rfl ?_
      refine gz_iload_n dX3_isEnd_24 rfl ?_
      refine zz_icmp_ne (tgt := 32) dX3_isEnd_25 rfl (by omega) (fun b25 => ?_) (fun b25 => ?_)
      ·
        refine zz_iconst dX3_isEnd_32 ?_
        refine gz_ireturn dX3_isEnd_33 rfl rfl ?_
        (first | exact hq | (rw [bI_t (by simp only [sEnd, vP, vC, Nat.reduceAdd, Nat.reduceLT, Nat.add_zero, ↓reduceIte, decide_eq_true_eq]; omega)] at hq; exact hq) | (rw [bI_f (by simp only [sEnd, vP, vC, Nat.reduceAdd, Nat.reduceLT, Nat.add_zero, ↓reduceIte, decide_eq_true_eq]; omega)] at hq; exact hq))
      ·
        refine zz_iconst dX3_isEnd_28 ?_
        refine gz_goto (tgt := 33) dX3_isEnd_29 rfl ?_
        refine gz_ireturn dX3_isEnd_33 rfl rfl ?_
        (first | exact hq | (rw [bI_t (by simp only [sEnd, vP, vC, Nat.reduceAdd, Nat.reduceLT, Nat.add_zero, ↓reduceIte, decide_eq_true_eq]; omega)] at hq; exact hq) | (rw [bI_f (by simp only [sEnd, vP, vC, Nat.reduceAdd, Nat.reduceLT, Nat.add_zero, ↓reduceIte, decide_eq_true_eq]; omega)] at hq; exact hq))
  )
theorem zs_across {p : Nat} (hp : p = 368 ∨ p = 400) (hw : wP (vP Z p)) {x y : Int} (hx : 0 ≤ x ∧ x < Z p 1) (hy : -2147483648 ≤ y ∧ y < 2147483648) (hd : 1 ≤ d) : zk_Does l Γ mX3_across d 0 0 [.ref p, .int (iZ x), .int (iZ y)] (zb_M Z) F (some (.int (iZ (sAcross (vP Z p) x.toNat y)))) (zb_M Z) F := by
  intro Q hq
  rcases hp with rfl | rfl <;> (
    have h0 := wP_n hw
    have h1 := wP_w hw (w := x.toNat) (by simp only [vP, vC, Nat.reduceAdd, Nat.reduceLT, Nat.add_zero, ↓reduceIte]; omega)
    simp only [vP, vC, Nat.reduceAdd, Nat.reduceLT, Nat.add_zero, ↓reduceIte] at h0 h1
    refine gz_aload_n dX3_across_0 rfl ?_
    refine gz_iload_n dX3_across_1 rfl ?_
    refine gv_1 (J := mX3_hasPass) (d1 := d - 1) dX3_across_2 wm_Heliographs_Plan_81 rfl jzX3_hasPass (Nat.le_of_ble_eq_true rfl) (Nat.le_of_ble_eq_true rfl) (by omega) ⟨Nat.le_refl _, Nat.le_refl _⟩ (zs_hasPass (by simp) (by omega) h0.2.1) ?_
    refine zz_if_neB (tgt := 10) dX3_across_5 rfl (fun b5 => ?_) (fun b5 => ?_)
    rotate_left
    · exact absurd (by simp only [decide_eq_true_eq]; omega) b5
    refine gz_aload_n dX3_across_10 rfl ?_
    refine gz_getf 7 dX3_across_11 rfl rfl wf_Heliographs_Plan_21 (by decide) rfl ?_
    refine gz_iload_n dX3_across_14 rfl ?_
    refine gn_iald dX3_across_15 rfl (by omega) rfl ?_
    refine gz_iload_n dX3_across_16 rfl ?_
    refine zz_icmp_ne (tgt := 29) dX3_across_17 rfl (by omega) (fun b17 => ?_) (fun b17 => ?_)
    ·
      refine gz_aload_n dX3_across_29 rfl ?_
      refine gz_getf 7 dX3_across_30 rfl rfl wf_Heliographs_Plan_21 (by decide) rfl ?_
      refine gz_iload_n dX3_across_33 rfl ?_
      refine gn_iald dX3_across_34 rfl (by omega) rfl ?_
      refine gz_ireturn dX3_across_35 rfl rfl ?_
      (first | (rw [show sAcross (vP Z _) x.toNat y = _ from if_pos (by simp only [vP, vC, Nat.reduceAdd, Nat.reduceLT, Nat.add_zero, ↓reduceIte]; omega)] at hq; exact hq) | (rw [show sAcross (vP Z _) x.toNat y = _ from if_neg (by simp only [vP, vC, Nat.reduceAdd, Nat.reduceLT, Nat.add_zero, ↓reduceIte]; omega)] at hq; exact hq))
    ·
      refine gz_aload_n dX3_across_20 rfl ?_
      refine gz_getf 8 dX3_across_21 rfl rfl wf_Heliographs_Plan_24 (by decide) rfl ?_
      refine gz_iload_n dX3_across_24 rfl ?_
      refine gn_iald dX3_across_25 rfl (by omega) rfl ?_
      refine gz_goto (tgt := 35) dX3_across_26 rfl ?_
      refine gz_ireturn dX3_across_35 rfl rfl ?_
      (first | (rw [show sAcross (vP Z _) x.toNat y = _ from if_pos (by simp only [vP, vC, Nat.reduceAdd, Nat.reduceLT, Nat.add_zero, ↓reduceIte]; omega)] at hq; exact hq) | (rw [show sAcross (vP Z _) x.toNat y = _ from if_neg (by simp only [vP, vC, Nat.reduceAdd, Nat.reduceLT, Nat.add_zero, ↓reduceIte]; omega)] at hq; exact hq))
  )
theorem sPass_iff {c p : Nat} {x m : Int} (hx : 0 ≤ x) : sPass (vP Z p) (vC Z c) x.toNat m = true ↔ (x ≠ Z c 2 ∧ (sSun (vP Z p) (Z (p + 4) x.toNat).toNat m = true ∧ sSun (vP Z p) (Z (p + 5) x.toNat).toNat m = true) ∧ ¬ sCl (vP Z p) x m = true) := by
  have e : ((x.toNat : Nat) : Int) = x := Int.toNat_of_nonneg hx
  unfold sPass sOpen
  rw [e]
  simp only [vP, vC, Nat.reduceAdd, Nat.reduceLT, Nat.add_zero, ↓reduceIte, Bool.and_eq_true, decide_eq_true_eq, Bool.not_eq_true', Bool.not_eq_true, ne_eq]
theorem zs_isPassable {c p : Nat} (hcs : c = 336 ∨ c = 352) (hp : p = 368 ∨ p = 400) (hcp : Z c 0 = (p : Int)) (hw : wP (vP Z p)) {N : Int} (hc : wC (vP Z p) (vC Z c) N) {x m : Int} (hx : 0 ≤ x ∧ x < Z p 1) (hm : 0 ≤ m ∧ m < 100000) (hd : 2 ≤ d) : zk_Does l Γ mX0_isPassable d 0 0 [.ref c, .int (iZ x), .int (iZ m)] (zb_M Z) F (some (.int (iZ (bI (sPass (vP Z p) (vC Z c) x.toNat m))))) (zb_M Z) F := by
  intro Q hq
  have key := sPass_iff (Z := Z) (c := c) (p := p) (m := m) hx.1
  rcases hcs with rfl | rfl <;> rcases hp with rfl | rfl <;> (
    have hpl := congrArg Int.toNat hcp
    simp only [Int.toNat_natCast] at hpl
    have h0 := wP_n hw
    have h1 := wP_w hw (w := x.toNat) (by simp only [vP, vC, Nat.reduceAdd, Nat.reduceLT, Nat.add_zero, ↓reduceIte]; omega)
    simp only [vP, vC, Nat.reduceAdd, Nat.reduceLT, Nat.add_zero, ↓reduceIte] at h0 h1
    have h2 := wC_n hc
    simp only [vP, vC, Nat.reduceAdd, Nat.reduceLT, Nat.add_zero, ↓reduceIte] at h2
    simp only [vP, vC, Nat.reduceAdd, Nat.reduceLT, Nat.add_zero, ↓reduceIte] at key
    refine gz_aload_n dX0_isPassable_0 rfl ?_
    refine gz_getf 0 dX0_isPassable_1 rfl rfl wf_Heliographs_Chain_53 (by decide) (congrArg Value.ref hpl) ?_
    refine gz_iload_n dX0_isPassable_4 rfl ?_
    refine gv_1 (J := mX3_hasPass) (d1 := d - 1) dX0_isPassable_5 wm_Heliographs_Chain_164 rfl jzX3_hasPass (Nat.le_of_ble_eq_true rfl) (Nat.le_of_ble_eq_true rfl) (by omega) ⟨Nat.le_refl _, Nat.le_refl _⟩ (zs_hasPass (by simp) (by omega) h0.2.1) ?_
    refine zz_if_eqB (tgt := 75) dX0_isPassable_8 rfl (fun b8 => ?_) (fun b8 => ?_)
    · exact absurd (by simp only [decide_eq_true_eq]; omega) b8
    refine gz_iload_n dX0_isPassable_11 rfl ?_
    refine gz_aload_n dX0_isPassable_12 rfl ?_
    refine gz_getf 2 dX0_isPassable_13 rfl rfl wf_Heliographs_Chain_9 (by decide) rfl ?_
    refine zz_icmp_eq (tgt := 75) dX0_isPassable_16 rfl (by omega) (fun b16 => ?_) (fun b16 => ?_)
    ·
      refine zz_iconst dX0_isPassable_75 ?_
      refine gz_ireturn dX0_isPassable_76 rfl rfl ?_
      (first | (rw [bI_t (key.mpr ⟨by omega, ⟨b36, b56⟩, b68⟩)] at hq; exact hq) | (rw [bI_f (fun q => absurd (key.mp q).1 (by omega))] at hq; exact hq) | (rw [bI_f (fun q => absurd (key.mp q).2.1.1 b36)] at hq; exact hq) | (rw [bI_f (fun q => absurd (key.mp q).2.1.2 b56)] at hq; exact hq) | (rw [bI_f (fun q => absurd b68 (key.mp q).2.2)] at hq; exact hq))
    ·
      refine gz_aload_n dX0_isPassable_19 rfl ?_
      refine gz_getf 0 dX0_isPassable_20 rfl rfl wf_Heliographs_Chain_53 (by decide) (congrArg Value.ref hpl) ?_
      refine gz_aload_n dX0_isPassable_23 rfl ?_
      refine gz_getf 0 dX0_isPassable_24 rfl rfl wf_Heliographs_Chain_53 (by decide) (congrArg Value.ref hpl) ?_
      refine gz_getf 7 dX0_isPassable_27 rfl rfl wf_Heliographs_Chain_154 (by decide) rfl ?_
      refine gz_iload_n dX0_isPassable_30 rfl ?_
      refine gn_iald dX0_isPassable_31 rfl (by omega) rfl ?_
      refine gz_iload_n dX0_isPassable_32 rfl ?_
      refine gv_2 (J := mX3_isSunny) (d1 := d - 1) dX0_isPassable_33 wm_Heliographs_Chain_167 rfl jzX3_isSunny (Nat.le_of_ble_eq_true rfl) (Nat.le_of_ble_eq_true rfl) (by omega) ⟨Nat.le_refl _, Nat.le_refl _⟩ (zs_isSunny (by simp) hw (by omega) hm (by omega)) ?_
      refine zz_if_eqB (tgt := 75) dX0_isPassable_36 rfl (fun b36 => ?_) (fun b36 => ?_)
      ·
        refine zz_iconst dX0_isPassable_75 ?_
        refine gz_ireturn dX0_isPassable_76 rfl rfl ?_
        (first | (rw [bI_t (key.mpr ⟨by omega, ⟨b36, b56⟩, b68⟩)] at hq; exact hq) | (rw [bI_f (fun q => absurd (key.mp q).1 (by omega))] at hq; exact hq) | (rw [bI_f (fun q => absurd (key.mp q).2.1.1 b36)] at hq; exact hq) | (rw [bI_f (fun q => absurd (key.mp q).2.1.2 b56)] at hq; exact hq) | (rw [bI_f (fun q => absurd b68 (key.mp q).2.2)] at hq; exact hq))
      ·
        refine gz_aload_n dX0_isPassable_39 rfl ?_
        refine gz_getf 0 dX0_isPassable_40 rfl rfl wf_Heliographs_Chain_53 (by decide) (congrArg Value.ref hpl) ?_
        refine gz_aload_n dX0_isPassable_43 rfl ?_
        refine gz_getf 0 dX0_isPassable_44 rfl rfl wf_Heliographs_Chain_53 (by decide) (congrArg Value.ref hpl) ?_
        refine gz_getf 8 dX0_isPassable_47 rfl rfl wf_Heliographs_Chain_157 (by decide) rfl ?_
        refine gz_iload_n dX0_isPassable_50 rfl ?_
        refine gn_iald dX0_isPassable_51 rfl (by omega) rfl ?_
        refine gz_iload_n dX0_isPassable_52 rfl ?_
        refine gv_2 (J := mX3_isSunny) (d1 := d - 1) dX0_isPassable_53 wm_Heliographs_Chain_167 rfl jzX3_isSunny (Nat.le_of_ble_eq_true rfl) (Nat.le_of_ble_eq_true rfl) (by omega) ⟨Nat.le_refl _, Nat.le_refl _⟩ (zs_isSunny (by simp) hw (by omega) hm (by omega)) ?_
        refine zz_if_eqB (tgt := 75) dX0_isPassable_56 rfl (fun b56 => ?_) (fun b56 => ?_)
        ·
          refine zz_iconst dX0_isPassable_75 ?_
          refine gz_ireturn dX0_isPassable_76 rfl rfl ?_
          (first | (rw [bI_t (key.mpr ⟨by omega, ⟨b36, b56⟩, b68⟩)] at hq; exact hq) | (rw [bI_f (fun q => absurd (key.mp q).1 (by omega))] at hq; exact hq) | (rw [bI_f (fun q => absurd (key.mp q).2.1.1 b36)] at hq; exact hq) | (rw [bI_f (fun q => absurd (key.mp q).2.1.2 b56)] at hq; exact hq) | (rw [bI_f (fun q => absurd b68 (key.mp q).2.2)] at hq; exact hq))
        ·
          refine gz_aload_n dX0_isPassable_59 rfl ?_
          refine gz_getf 0 dX0_isPassable_60 rfl rfl wf_Heliographs_Chain_53 (by decide) (congrArg Value.ref hpl) ?_
          refine gz_iload_n dX0_isPassable_63 rfl ?_
          refine gz_iload_n dX0_isPassable_64 rfl ?_
          refine gv_2 (J := mX3_isCloudy) (d1 := d - 1) dX0_isPassable_65 wm_Heliographs_Chain_170 rfl jzX3_isCloudy (Nat.le_of_ble_eq_true rfl) (Nat.le_of_ble_eq_true rfl) (by omega) ⟨Nat.le_refl _, Nat.le_refl _⟩ (zs_isCloudy (by simp) hw (by omega) hm) ?_
          refine zz_if_neB (tgt := 75) dX0_isPassable_68 rfl (fun b68 => ?_) (fun b68 => ?_)
          ·
            refine zz_iconst dX0_isPassable_75 ?_
            refine gz_ireturn dX0_isPassable_76 rfl rfl ?_
            (first | (rw [bI_t (key.mpr ⟨by omega, ⟨b36, b56⟩, b68⟩)] at hq; exact hq) | (rw [bI_f (fun q => absurd (key.mp q).1 (by omega))] at hq; exact hq) | (rw [bI_f (fun q => absurd (key.mp q).2.1.1 b36)] at hq; exact hq) | (rw [bI_f (fun q => absurd (key.mp q).2.1.2 b56)] at hq; exact hq) | (rw [bI_f (fun q => absurd b68 (key.mp q).2.2)] at hq; exact hq))
          ·
            refine zz_iconst dX0_isPassable_71 ?_
            refine gz_goto (tgt := 76) dX0_isPassable_72 rfl ?_
            refine gz_ireturn dX0_isPassable_76 rfl rfl ?_
            (first | (rw [bI_t (key.mpr ⟨by omega, ⟨b36, b56⟩, b68⟩)] at hq; exact hq) | (rw [bI_f (fun q => absurd (key.mp q).1 (by omega))] at hq; exact hq) | (rw [bI_f (fun q => absurd (key.mp q).2.1.1 b36)] at hq; exact hq) | (rw [bI_f (fun q => absurd (key.mp q).2.1.2 b56)] at hq; exact hq) | (rw [bI_f (fun q => absurd b68 (key.mp q).2.2)] at hq; exact hq))
  )
theorem zs_isPassableN {c p : Nat} (hcs : c = 336 ∨ c = 352) (hp : p = 368 ∨ p = 400) (hcp : Z c 0 = (p : Int)) (hw : wP (vP Z p)) {N : Int} (hc : wC (vP Z p) (vC Z c) N) {w : Nat} {m : Int} (hx : (w : Int) < Z p 1) (hm : 0 ≤ m ∧ m < 100000) (hd : 2 ≤ d) : zk_Does l Γ mX0_isPassable d 0 0 [.ref c, .int (iZ (w : Int)), .int (iZ m)] (zb_M Z) F (some (.int (iZ (bI (sPass (vP Z p) (vC Z c) w m))))) (zb_M Z) F := by
  have h := zs_isPassable (l := l) (Γ := Γ) (F := F) hcs hp hcp hw hc (x := (w : Int)) (m := m) ⟨by omega, hx⟩ hm hd
  rw [Int.toNat_natCast] at h
  exact h
theorem zs_isEndN {p : Nat} (hp : p = 368 ∨ p = 400) (hw : wP (vP Z p)) {w : Nat} {y : Int} (hx : (w : Int) < Z p 1) (hy : -2147483648 ≤ y ∧ y < 2147483648) (hd : 1 ≤ d) : zk_Does l Γ mX3_isEnd d 0 0 [.ref p, .int (iZ (w : Int)), .int (iZ y)] (zb_M Z) F (some (.int (iZ (bI (sEnd (vP Z p) y w))))) (zb_M Z) F := by
  have h := zs_isEnd (l := l) (Γ := Γ) (F := F) hp hw (x := (w : Int)) (y := y) ⟨by omega, hx⟩ hy hd
  rw [Int.toNat_natCast] at h
  exact h
theorem zs_isSunnyN {p : Nat} (hp : p = 368 ∨ p = 400) (hw : wP (vP Z p)) {k : Nat} {m : Int} (hx : (k : Int) < Z p 0) (hm : 0 ≤ m ∧ m < 100000) (hd : 1 ≤ d) : zk_Does l Γ mX3_isSunny d 0 0 [.ref p, .int (iZ (k : Int)), .int (iZ m)] (zb_M Z) F (some (.int (iZ (bI (sSun (vP Z p) k m))))) (zb_M Z) F := by
  have h := zs_isSunny (l := l) (Γ := Γ) (F := F) hp hw (x := (k : Int)) (m := m) ⟨by omega, hx⟩ hm hd
  rw [Int.toNat_natCast] at h
  exact h
theorem zs_sunnyPeaks_loop {c p : Nat} (hcs : c = 336 ∨ c = 352) (hp : p = 368 ∨ p = 400) (hcp : Z c 0 = (p : Int)) (hw : wP (vP Z p)) {N : Int} (hc : wC (vP Z p) (vC Z c) N)  (hd : 2 ≤ d) {Q : Option Value → zk_M → (Heap → Prop) → Prop} : ∀ (n i : Nat) (A : Int), (i : Int) + n = Z p 0 → 0 ≤ A ∧ A ≤ i → Q (some (.int (iZ (A + sNum (fun k => sSun (vP Z p) k (Z c 1)) i n)))) (zb_M Z) F → zk_Go l Γ mX0_sunnyPeaks d 0 0 Q 4 [some (.ref c), some (.int (iZ A)), some (.int (iZ (i : Int)))] [] (zb_M Z) F := by
  rcases hcs with rfl | rfl <;> rcases hp with rfl | rfl <;> (
    intro n
    induction n with
    | zero =>
      intro i A hi hA hq
      have hpl := congrArg Int.toNat hcp
      simp only [Int.toNat_natCast] at hpl
      have h0 := wP_n hw
      simp only [vP, vC, Nat.reduceAdd, Nat.reduceLT, Nat.add_zero, ↓reduceIte] at h0
      refine gz_iload_n dX0_sunnyPeaks_4 rfl ?_
      refine gz_aload_n dX0_sunnyPeaks_5 rfl ?_
      refine gz_getf 0 dX0_sunnyPeaks_6 rfl rfl wf_Heliographs_Chain_53 (by decide) (congrArg Value.ref hpl) ?_
      refine gz_getf 0 dX0_sunnyPeaks_9 rfl rfl wf_Heliographs_Chain_176 (by decide) rfl ?_
      refine zz_icmp_ge (tgt := 39) dX0_sunnyPeaks_12 rfl (by omega) (fun b12 => ?_) (fun b12 => ?_)
      rotate_left
      · exact absurd b12 (by omega)
      refine gz_iload_n dX0_sunnyPeaks_39 rfl ?_
      refine gz_ireturn dX0_sunnyPeaks_40 rfl rfl ?_
      rw [sNum_0, Int.add_zero] at hq
      exact hq
    | succ n ih =>
      intro i A hi hA hq
      have hpl := congrArg Int.toNat hcp
      simp only [Int.toNat_natCast] at hpl
      have h0 := wP_n hw
      have h2 := wC_n hc
      simp only [vP, vC, Nat.reduceAdd, Nat.reduceLT, Nat.add_zero, ↓reduceIte] at h0 h2
      refine gz_iload_n dX0_sunnyPeaks_4 rfl ?_
      refine gz_aload_n dX0_sunnyPeaks_5 rfl ?_
      refine gz_getf 0 dX0_sunnyPeaks_6 rfl rfl wf_Heliographs_Chain_53 (by decide) (congrArg Value.ref hpl) ?_
      refine gz_getf 0 dX0_sunnyPeaks_9 rfl rfl wf_Heliographs_Chain_176 (by decide) rfl ?_
      refine zz_icmp_ge (tgt := 39) dX0_sunnyPeaks_12 rfl (by omega) (fun b12 => ?_) (fun b12 => ?_)
      · exact absurd b12 (by omega)
      refine gz_aload_n dX0_sunnyPeaks_15 rfl ?_
      refine gz_getf 0 dX0_sunnyPeaks_16 rfl rfl wf_Heliographs_Chain_53 (by decide) (congrArg Value.ref hpl) ?_
      refine gz_iload_n dX0_sunnyPeaks_19 rfl ?_
      refine gz_aload_n dX0_sunnyPeaks_20 rfl ?_
      refine gz_getf 1 dX0_sunnyPeaks_21 rfl rfl wf_Heliographs_Chain_71 (by decide) rfl ?_
      refine gv_2 (J := mX3_isSunny) (d1 := d - 1) dX0_sunnyPeaks_24 wm_Heliographs_Chain_167 rfl jzX3_isSunny (Nat.le_of_ble_eq_true rfl) (Nat.le_of_ble_eq_true rfl) (by omega) ⟨Nat.le_refl _, Nat.le_refl _⟩ (zs_isSunnyN (by simp) hw (by omega) (by omega) (by omega)) ?_
      refine zz_if_eqB (tgt := 33) dX0_sunnyPeaks_27 rfl (fun b27 => ?_) (fun b27 => ?_)
      ·
        refine zz_iinc dX0_sunnyPeaks_33 rfl rfl ?_
        refine gz_goto (tgt := 4) dX0_sunnyPeaks_36 rfl ?_
        (first | exact ih (i + 1) _ (by omega) (by omega) (by rw [sNum_t (by first | exact b27 | exact b27), ← Int.add_assoc] at hq; exact hq) | exact ih (i + 1) _ (by omega) (by omega) (by rw [sNum_f (by first | exact b27 | exact b27)] at hq; exact hq))
      ·
        refine zz_iinc dX0_sunnyPeaks_30 rfl rfl ?_
        refine zz_iinc dX0_sunnyPeaks_33 rfl rfl ?_
        refine gz_goto (tgt := 4) dX0_sunnyPeaks_36 rfl ?_
        (first | exact ih (i + 1) _ (by omega) (by omega) (by rw [sNum_t (by first | exact b27 | exact b27), ← Int.add_assoc] at hq; exact hq) | exact ih (i + 1) _ (by omega) (by omega) (by rw [sNum_f (by first | exact b27 | exact b27)] at hq; exact hq))
  )
theorem zs_sunnyPeaks {c p : Nat} (hcs : c = 336 ∨ c = 352) (hp : p = 368 ∨ p = 400) (hcp : Z c 0 = (p : Int)) (hw : wP (vP Z p)) {N : Int} (hc : wC (vP Z p) (vC Z c) N)  (hd : 2 ≤ d) : zk_Does l Γ mX0_sunnyPeaks d 0 0 [.ref c] (zb_M Z) F (some (.int (iZ (sNum (fun k => sSun (vP Z p) k (Z c 1)) 0 (Z p 0).toNat)))) (zb_M Z) F := by
  intro Q hq
  refine zz_iconst dX0_sunnyPeaks_0 ?_
  refine gz_istore_n dX0_sunnyPeaks_1 (Nat.le_of_ble_eq_true rfl) rfl ?_
  refine zz_iconst dX0_sunnyPeaks_2 ?_
  refine gz_istore_n dX0_sunnyPeaks_3 (Nat.le_of_ble_eq_true rfl) rfl ?_
  exact zs_sunnyPeaks_loop hcs hp hcp hw hc hd (Z p 0).toNat 0 0 (by have := wP_n hw; simp only [vP, vC, Nat.reduceAdd, Nat.reduceLT, Nat.add_zero, ↓reduceIte] at this; omega) (by omega) (by rw [Int.zero_add]; exact hq)
theorem zs_openPasses_loop {c p : Nat} (hcs : c = 336 ∨ c = 352) (hp : p = 368 ∨ p = 400) (hcp : Z c 0 = (p : Int)) (hw : wP (vP Z p)) {N : Int} (hc : wC (vP Z p) (vC Z c) N)  (hd : 3 ≤ d) {Q : Option Value → zk_M → (Heap → Prop) → Prop} : ∀ (n i : Nat) (A : Int), (i : Int) + n = Z p 1 → 0 ≤ A ∧ A ≤ i → Q (some (.int (iZ (A + sNum (fun w => sPass (vP Z p) (vC Z c) w (Z c 1)) i n)))) (zb_M Z) F → zk_Go l Γ mX0_openPasses d 0 0 Q 4 [some (.ref c), some (.int (iZ A)), some (.int (iZ (i : Int)))] [] (zb_M Z) F := by
  rcases hcs with rfl | rfl <;> rcases hp with rfl | rfl <;> (
    intro n
    induction n with
    | zero =>
      intro i A hi hA hq
      have hpl := congrArg Int.toNat hcp
      simp only [Int.toNat_natCast] at hpl
      have h0 := wP_n hw
      simp only [vP, vC, Nat.reduceAdd, Nat.reduceLT, Nat.add_zero, ↓reduceIte] at h0
      refine gz_iload_n dX0_openPasses_4 rfl ?_
      refine gz_aload_n dX0_openPasses_5 rfl ?_
      refine gz_getf 0 dX0_openPasses_6 rfl rfl wf_Heliographs_Chain_53 (by decide) (congrArg Value.ref hpl) ?_
      refine gz_getf 1 dX0_openPasses_9 rfl rfl wf_Heliographs_Chain_148 (by decide) rfl ?_
      refine zz_icmp_ge (tgt := 36) dX0_openPasses_12 rfl (by omega) (fun b12 => ?_) (fun b12 => ?_)
      rotate_left
      · exact absurd b12 (by omega)
      refine gz_iload_n dX0_openPasses_36 rfl ?_
      refine gz_ireturn dX0_openPasses_37 rfl rfl ?_
      rw [sNum_0, Int.add_zero] at hq
      exact hq
    | succ n ih =>
      intro i A hi hA hq
      have hpl := congrArg Int.toNat hcp
      simp only [Int.toNat_natCast] at hpl
      have h0 := wP_n hw
      have h2 := wC_n hc
      simp only [vP, vC, Nat.reduceAdd, Nat.reduceLT, Nat.add_zero, ↓reduceIte] at h0 h2
      refine gz_iload_n dX0_openPasses_4 rfl ?_
      refine gz_aload_n dX0_openPasses_5 rfl ?_
      refine gz_getf 0 dX0_openPasses_6 rfl rfl wf_Heliographs_Chain_53 (by decide) (congrArg Value.ref hpl) ?_
      refine gz_getf 1 dX0_openPasses_9 rfl rfl wf_Heliographs_Chain_148 (by decide) rfl ?_
      refine zz_icmp_ge (tgt := 36) dX0_openPasses_12 rfl (by omega) (fun b12 => ?_) (fun b12 => ?_)
      · exact absurd b12 (by omega)
      refine gz_aload_n dX0_openPasses_15 rfl ?_
      refine gz_iload_n dX0_openPasses_16 rfl ?_
      refine gz_aload_n dX0_openPasses_17 rfl ?_
      refine gz_getf 1 dX0_openPasses_18 rfl rfl wf_Heliographs_Chain_71 (by decide) rfl ?_
      refine gv_2 (J := mX0_isPassable) (d1 := d - 1) dX0_openPasses_21 wm_Heliographs_Chain_90 rfl jzX0_isPassable (Nat.le_of_ble_eq_true rfl) (Nat.le_of_ble_eq_true rfl) (by omega) ⟨Nat.le_refl _, Nat.le_refl _⟩ (zs_isPassableN (by simp) (by simp) hcp hw hc (by omega) (by omega) (by omega)) ?_
      refine zz_if_eqB (tgt := 30) dX0_openPasses_24 rfl (fun b24 => ?_) (fun b24 => ?_)
      ·
        refine zz_iinc dX0_openPasses_30 rfl rfl ?_
        refine gz_goto (tgt := 4) dX0_openPasses_33 rfl ?_
        (first | exact ih (i + 1) _ (by omega) (by omega) (by rw [sNum_t (by first | exact b24 | exact b24), ← Int.add_assoc] at hq; exact hq) | exact ih (i + 1) _ (by omega) (by omega) (by rw [sNum_f (by first | exact b24 | exact b24)] at hq; exact hq))
      ·
        refine zz_iinc dX0_openPasses_27 rfl rfl ?_
        refine zz_iinc dX0_openPasses_30 rfl rfl ?_
        refine gz_goto (tgt := 4) dX0_openPasses_33 rfl ?_
        (first | exact ih (i + 1) _ (by omega) (by omega) (by rw [sNum_t (by first | exact b24 | exact b24), ← Int.add_assoc] at hq; exact hq) | exact ih (i + 1) _ (by omega) (by omega) (by rw [sNum_f (by first | exact b24 | exact b24)] at hq; exact hq))
  )
theorem zs_openPasses {c p : Nat} (hcs : c = 336 ∨ c = 352) (hp : p = 368 ∨ p = 400) (hcp : Z c 0 = (p : Int)) (hw : wP (vP Z p)) {N : Int} (hc : wC (vP Z p) (vC Z c) N)  (hd : 3 ≤ d) : zk_Does l Γ mX0_openPasses d 0 0 [.ref c] (zb_M Z) F (some (.int (iZ (sNum (fun w => sPass (vP Z p) (vC Z c) w (Z c 1)) 0 (Z p 1).toNat)))) (zb_M Z) F := by
  intro Q hq
  refine zz_iconst dX0_openPasses_0 ?_
  refine gz_istore_n dX0_openPasses_1 (Nat.le_of_ble_eq_true rfl) rfl ?_
  refine zz_iconst dX0_openPasses_2 ?_
  refine gz_istore_n dX0_openPasses_3 (Nat.le_of_ble_eq_true rfl) rfl ?_
  exact zs_openPasses_loop hcs hp hcp hw hc hd (Z p 1).toNat 0 0 (by have := wP_n hw; simp only [vP, vC, Nat.reduceAdd, Nat.reduceLT, Nat.add_zero, ↓reduceIte] at this; omega) (by omega) (by rw [Int.zero_add]; exact hq)
theorem zs_passesOf_loop {c p : Nat} (hcs : c = 336 ∨ c = 352) (hp : p = 368 ∨ p = 400) (hcp : Z c 0 = (p : Int)) (hw : wP (vP Z p)) {N : Int} (hc : wC (vP Z p) (vC Z c) N) {y : Int} (hy : -2147483648 ≤ y ∧ y < 2147483648) (hd : 2 ≤ d) {Q : Option Value → zk_M → (Heap → Prop) → Prop} : ∀ (n i : Nat) (A : Int), (i : Int) + n = Z p 1 → 0 ≤ A ∧ A ≤ i → Q (some (.int (iZ (A + sNum (sEnd (vP Z p) y) i n)))) (zb_M Z) F → zk_Go l Γ mX0_passesOf d 0 0 Q 4 [some (.ref c), some (.int (iZ y)), some (.int (iZ A)), some (.int (iZ (i : Int)))] [] (zb_M Z) F := by
  rcases hcs with rfl | rfl <;> rcases hp with rfl | rfl <;> (
    intro n
    induction n with
    | zero =>
      intro i A hi hA hq
      have hpl := congrArg Int.toNat hcp
      simp only [Int.toNat_natCast] at hpl
      have h0 := wP_n hw
      simp only [vP, vC, Nat.reduceAdd, Nat.reduceLT, Nat.add_zero, ↓reduceIte] at h0
      refine gz_iload_n dX0_passesOf_4 rfl ?_
      refine gz_aload_n dX0_passesOf_5 rfl ?_
      refine gz_getf 0 dX0_passesOf_6 rfl rfl wf_Heliographs_Chain_53 (by decide) (congrArg Value.ref hpl) ?_
      refine gz_getf 1 dX0_passesOf_9 rfl rfl wf_Heliographs_Chain_148 (by decide) rfl ?_
      refine zz_icmp_ge (tgt := 36) dX0_passesOf_12 rfl (by omega) (fun b12 => ?_) (fun b12 => ?_)
      rotate_left
      · exact absurd b12 (by omega)
      refine gz_iload_n dX0_passesOf_36 rfl ?_
      refine gz_ireturn dX0_passesOf_37 rfl rfl ?_
      rw [sNum_0, Int.add_zero] at hq
      exact hq
    | succ n ih =>
      intro i A hi hA hq
      have hpl := congrArg Int.toNat hcp
      simp only [Int.toNat_natCast] at hpl
      have h0 := wP_n hw
      have h2 := wC_n hc
      simp only [vP, vC, Nat.reduceAdd, Nat.reduceLT, Nat.add_zero, ↓reduceIte] at h0 h2
      refine gz_iload_n dX0_passesOf_4 rfl ?_
      refine gz_aload_n dX0_passesOf_5 rfl ?_
      refine gz_getf 0 dX0_passesOf_6 rfl rfl wf_Heliographs_Chain_53 (by decide) (congrArg Value.ref hpl) ?_
      refine gz_getf 1 dX0_passesOf_9 rfl rfl wf_Heliographs_Chain_148 (by decide) rfl ?_
      refine zz_icmp_ge (tgt := 36) dX0_passesOf_12 rfl (by omega) (fun b12 => ?_) (fun b12 => ?_)
      · exact absurd b12 (by omega)
      refine gz_aload_n dX0_passesOf_15 rfl ?_
      refine gz_getf 0 dX0_passesOf_16 rfl rfl wf_Heliographs_Chain_53 (by decide) (congrArg Value.ref hpl) ?_
      refine gz_iload_n dX0_passesOf_19 rfl ?_
      refine gz_iload_n dX0_passesOf_20 rfl ?_
      refine gv_2 (J := mX3_isEnd) (d1 := d - 1) dX0_passesOf_21 wm_Heliographs_Chain_151 rfl jzX3_isEnd (Nat.le_of_ble_eq_true rfl) (Nat.le_of_ble_eq_true rfl) (by omega) ⟨Nat.le_refl _, Nat.le_refl _⟩ (zs_isEndN (by simp) hw (by omega) hy (by omega)) ?_
      refine zz_if_eqB (tgt := 30) dX0_passesOf_24 rfl (fun b24 => ?_) (fun b24 => ?_)
      ·
        refine zz_iinc dX0_passesOf_30 rfl rfl ?_
        refine gz_goto (tgt := 4) dX0_passesOf_33 rfl ?_
        (first | exact ih (i + 1) _ (by omega) (by omega) (by rw [sNum_t (by first | exact b24 | exact b24), ← Int.add_assoc] at hq; exact hq) | exact ih (i + 1) _ (by omega) (by omega) (by rw [sNum_f (by first | exact b24 | exact b24)] at hq; exact hq))
      ·
        refine zz_iinc dX0_passesOf_27 rfl rfl ?_
        refine zz_iinc dX0_passesOf_30 rfl rfl ?_
        refine gz_goto (tgt := 4) dX0_passesOf_33 rfl ?_
        (first | exact ih (i + 1) _ (by omega) (by omega) (by rw [sNum_t (by first | exact b24 | exact b24), ← Int.add_assoc] at hq; exact hq) | exact ih (i + 1) _ (by omega) (by omega) (by rw [sNum_f (by first | exact b24 | exact b24)] at hq; exact hq))
  )
theorem zs_passesOf {c p : Nat} (hcs : c = 336 ∨ c = 352) (hp : p = 368 ∨ p = 400) (hcp : Z c 0 = (p : Int)) (hw : wP (vP Z p)) {N : Int} (hc : wC (vP Z p) (vC Z c) N) {y : Int} (hy : -2147483648 ≤ y ∧ y < 2147483648) (hd : 2 ≤ d) : zk_Does l Γ mX0_passesOf d 0 0 [.ref c, .int (iZ y)] (zb_M Z) F (some (.int (iZ (sNum (sEnd (vP Z p) y) 0 (Z p 1).toNat)))) (zb_M Z) F := by
  intro Q hq
  refine zz_iconst dX0_passesOf_0 ?_
  refine gz_istore_n dX0_passesOf_1 (Nat.le_of_ble_eq_true rfl) rfl ?_
  refine zz_iconst dX0_passesOf_2 ?_
  refine gz_istore_n dX0_passesOf_3 (Nat.le_of_ble_eq_true rfl) rfl ?_
  exact zs_passesOf_loop hcs hp hcp hw hc hy hd (Z p 1).toNat 0 0 (by have := wP_n hw; simp only [vP, vC, Nat.reduceAdd, Nat.reduceLT, Nat.add_zero, ↓reduceIte] at this; omega) (by omega) (by rw [Int.zero_add]; exact hq)
theorem zs_openPassesOf_loop {c p : Nat} (hcs : c = 336 ∨ c = 352) (hp : p = 368 ∨ p = 400) (hcp : Z c 0 = (p : Int)) (hw : wP (vP Z p)) {N : Int} (hc : wC (vP Z p) (vC Z c) N) {y : Int} (hy : -2147483648 ≤ y ∧ y < 2147483648) (hd : 3 ≤ d) {Q : Option Value → zk_M → (Heap → Prop) → Prop} : ∀ (n i : Nat) (A : Int), (i : Int) + n = Z p 1 → 0 ≤ A ∧ A ≤ i → Q (some (.int (iZ (A + sNum (fun w => sEnd (vP Z p) y w && sPass (vP Z p) (vC Z c) w (Z c 1)) i n)))) (zb_M Z) F → zk_Go l Γ mX0_openPassesOf d 0 0 Q 4 [some (.ref c), some (.int (iZ y)), some (.int (iZ A)), some (.int (iZ (i : Int)))] [] (zb_M Z) F := by
  rcases hcs with rfl | rfl <;> rcases hp with rfl | rfl <;> (
    intro n
    induction n with
    | zero =>
      intro i A hi hA hq
      have hpl := congrArg Int.toNat hcp
      simp only [Int.toNat_natCast] at hpl
      have h0 := wP_n hw
      simp only [vP, vC, Nat.reduceAdd, Nat.reduceLT, Nat.add_zero, ↓reduceIte] at h0
      refine gz_iload_n dX0_openPassesOf_4 rfl ?_
      refine gz_aload_n dX0_openPassesOf_5 rfl ?_
      refine gz_getf 0 dX0_openPassesOf_6 rfl rfl wf_Heliographs_Chain_53 (by decide) (congrArg Value.ref hpl) ?_
      refine gz_getf 1 dX0_openPassesOf_9 rfl rfl wf_Heliographs_Chain_148 (by decide) rfl ?_
      refine zz_icmp_ge (tgt := 48) dX0_openPassesOf_12 rfl (by omega) (fun b12 => ?_) (fun b12 => ?_)
      rotate_left
      · exact absurd b12 (by omega)
      refine gz_iload_n dX0_openPassesOf_48 rfl ?_
      refine gz_ireturn dX0_openPassesOf_49 rfl rfl ?_
      rw [sNum_0, Int.add_zero] at hq
      exact hq
    | succ n ih =>
      intro i A hi hA hq
      have hpl := congrArg Int.toNat hcp
      simp only [Int.toNat_natCast] at hpl
      have h0 := wP_n hw
      have h2 := wC_n hc
      simp only [vP, vC, Nat.reduceAdd, Nat.reduceLT, Nat.add_zero, ↓reduceIte] at h0 h2
      refine gz_iload_n dX0_openPassesOf_4 rfl ?_
      refine gz_aload_n dX0_openPassesOf_5 rfl ?_
      refine gz_getf 0 dX0_openPassesOf_6 rfl rfl wf_Heliographs_Chain_53 (by decide) (congrArg Value.ref hpl) ?_
      refine gz_getf 1 dX0_openPassesOf_9 rfl rfl wf_Heliographs_Chain_148 (by decide) rfl ?_
      refine zz_icmp_ge (tgt := 48) dX0_openPassesOf_12 rfl (by omega) (fun b12 => ?_) (fun b12 => ?_)
      · exact absurd b12 (by omega)
      refine gz_aload_n dX0_openPassesOf_15 rfl ?_
      refine gz_getf 0 dX0_openPassesOf_16 rfl rfl wf_Heliographs_Chain_53 (by decide) (congrArg Value.ref hpl) ?_
      refine gz_iload_n dX0_openPassesOf_19 rfl ?_
      refine gz_iload_n dX0_openPassesOf_20 rfl ?_
      refine gv_2 (J := mX3_isEnd) (d1 := d - 1) dX0_openPassesOf_21 wm_Heliographs_Chain_151 rfl jzX3_isEnd (Nat.le_of_ble_eq_true rfl) (Nat.le_of_ble_eq_true rfl) (by omega) ⟨Nat.le_refl _, Nat.le_refl _⟩ (zs_isEndN (by simp) hw (by omega) hy (by omega)) ?_
      refine zz_if_eqB (tgt := 42) dX0_openPassesOf_24 rfl (fun b24 => ?_) (fun b24 => ?_)
      ·
        refine zz_iinc dX0_openPassesOf_42 rfl rfl ?_
        refine gz_goto (tgt := 4) dX0_openPassesOf_45 rfl ?_
        (first | exact ih (i + 1) _ (by omega) (by omega) (by rw [sNum_t (by first | exact Bool.and_eq_true_iff.mpr ⟨b24, b36⟩ | exact fun q => b36 (Bool.and_eq_true_iff.mp q).2 | exact fun q => b24 (Bool.and_eq_true_iff.mp q).1), ← Int.add_assoc] at hq; exact hq) | exact ih (i + 1) _ (by omega) (by omega) (by rw [sNum_f (by first | exact Bool.and_eq_true_iff.mpr ⟨b24, b36⟩ | exact fun q => b36 (Bool.and_eq_true_iff.mp q).2 | exact fun q => b24 (Bool.and_eq_true_iff.mp q).1)] at hq; exact hq))
      ·
        refine gz_aload_n dX0_openPassesOf_27 rfl ?_
        refine gz_iload_n dX0_openPassesOf_28 rfl ?_
        refine gz_aload_n dX0_openPassesOf_29 rfl ?_
        refine gz_getf 1 dX0_openPassesOf_30 rfl rfl wf_Heliographs_Chain_71 (by decide) rfl ?_
        refine gv_2 (J := mX0_isPassable) (d1 := d - 1) dX0_openPassesOf_33 wm_Heliographs_Chain_90 rfl jzX0_isPassable (Nat.le_of_ble_eq_true rfl) (Nat.le_of_ble_eq_true rfl) (by omega) ⟨Nat.le_refl _, Nat.le_refl _⟩ (zs_isPassableN (by simp) (by simp) hcp hw hc (by omega) (by omega) (by omega)) ?_
        refine zz_if_eqB (tgt := 42) dX0_openPassesOf_36 rfl (fun b36 => ?_) (fun b36 => ?_)
        ·
          refine zz_iinc dX0_openPassesOf_42 rfl rfl ?_
          refine gz_goto (tgt := 4) dX0_openPassesOf_45 rfl ?_
          (first | exact ih (i + 1) _ (by omega) (by omega) (by rw [sNum_t (by first | exact Bool.and_eq_true_iff.mpr ⟨b24, b36⟩ | exact fun q => b36 (Bool.and_eq_true_iff.mp q).2 | exact fun q => b24 (Bool.and_eq_true_iff.mp q).1), ← Int.add_assoc] at hq; exact hq) | exact ih (i + 1) _ (by omega) (by omega) (by rw [sNum_f (by first | exact Bool.and_eq_true_iff.mpr ⟨b24, b36⟩ | exact fun q => b36 (Bool.and_eq_true_iff.mp q).2 | exact fun q => b24 (Bool.and_eq_true_iff.mp q).1)] at hq; exact hq))
        ·
          refine zz_iinc dX0_openPassesOf_39 rfl rfl ?_
          refine zz_iinc dX0_openPassesOf_42 rfl rfl ?_
          refine gz_goto (tgt := 4) dX0_openPassesOf_45 rfl ?_
          (first | exact ih (i + 1) _ (by omega) (by omega) (by rw [sNum_t (by first | exact Bool.and_eq_true_iff.mpr ⟨b24, b36⟩ | exact fun q => b36 (Bool.and_eq_true_iff.mp q).2 | exact fun q => b24 (Bool.and_eq_true_iff.mp q).1), ← Int.add_assoc] at hq; exact hq) | exact ih (i + 1) _ (by omega) (by omega) (by rw [sNum_f (by first | exact Bool.and_eq_true_iff.mpr ⟨b24, b36⟩ | exact fun q => b36 (Bool.and_eq_true_iff.mp q).2 | exact fun q => b24 (Bool.and_eq_true_iff.mp q).1)] at hq; exact hq))
  )
theorem zs_openPassesOf {c p : Nat} (hcs : c = 336 ∨ c = 352) (hp : p = 368 ∨ p = 400) (hcp : Z c 0 = (p : Int)) (hw : wP (vP Z p)) {N : Int} (hc : wC (vP Z p) (vC Z c) N) {y : Int} (hy : -2147483648 ≤ y ∧ y < 2147483648) (hd : 3 ≤ d) : zk_Does l Γ mX0_openPassesOf d 0 0 [.ref c, .int (iZ y)] (zb_M Z) F (some (.int (iZ (sNum (fun w => sEnd (vP Z p) y w && sPass (vP Z p) (vC Z c) w (Z c 1)) 0 (Z p 1).toNat)))) (zb_M Z) F := by
  intro Q hq
  refine zz_iconst dX0_openPassesOf_0 ?_
  refine gz_istore_n dX0_openPassesOf_1 (Nat.le_of_ble_eq_true rfl) rfl ?_
  refine zz_iconst dX0_openPassesOf_2 ?_
  refine gz_istore_n dX0_openPassesOf_3 (Nat.le_of_ble_eq_true rfl) rfl ?_
  exact zs_openPassesOf_loop hcs hp hcp hw hc hy hd (Z p 1).toNat 0 0 (by have := wP_n hw; simp only [vP, vC, Nat.reduceAdd, Nat.reduceLT, Nat.add_zero, ↓reduceIte] at this; omega) (by omega) (by rw [Int.zero_add]; exact hq)
theorem zs_cloudsOver_loop {p : Nat} (hp : p = 368 ∨ p = 400) (hw : wP (vP Z p)) {y : Int} (hy : -2147483648 ≤ y ∧ y < 2147483648) {Q : Option Value → zk_M → (Heap → Prop) → Prop} : ∀ (n i : Nat) (A : Int), (i : Int) + n = Z p 2 → 0 ≤ A ∧ A ≤ i → Q (some (.int (iZ (A + sNum (fun i => decide (vP Z p 11 i = y)) i n)))) (zb_M Z) F → zk_Go l Γ mX3_cloudsOver d 0 0 Q 4 [some (.ref p), some (.int (iZ y)), some (.int (iZ A)), some (.int (iZ (i : Int)))] [] (zb_M Z) F := by
  rcases hp with rfl | rfl <;> (
    intro n
    induction n with
    | zero =>
      intro i A hi hA hq
      have h0 := wP_n hw
      simp only [vP, vC, Nat.reduceAdd, Nat.reduceLT, Nat.add_zero, ↓reduceIte] at h0
      refine gz_iload_n dX3_cloudsOver_4 rfl ?_
      refine gz_aload_n dX3_cloudsOver_5 rfl ?_
      refine gz_getf 2 dX3_cloudsOver_6 rfl rfl wf_Heliographs_Plan_68 (by decide) rfl ?_
      refine zz_icmp_ge (tgt := 37) dX3_cloudsOver_9 rfl (by omega) (fun b9 => ?_) (fun b9 => ?_)
      rotate_left
      · exact absurd b9 (by omega)
      refine gz_iload_n dX3_cloudsOver_37 rfl ?_
      refine gz_ireturn dX3_cloudsOver_38 rfl rfl ?_
      rw [sNum_0, Int.add_zero] at hq
      exact hq
    | succ n ih =>
      intro i A hi hA hq
      have h0 := wP_n hw
      have h1 := wP_c hw (i := i) (by simp only [vP, vC, Nat.reduceAdd, Nat.reduceLT, Nat.add_zero, ↓reduceIte]; omega)
      simp only [vP, vC, Nat.reduceAdd, Nat.reduceLT, Nat.add_zero, ↓reduceIte] at h0 h1
      refine gz_iload_n dX3_cloudsOver_4 rfl ?_
      refine gz_aload_n dX3_cloudsOver_5 rfl ?_
      refine gz_getf 2 dX3_cloudsOver_6 rfl rfl wf_Heliographs_Plan_68 (by decide) rfl ?_
      refine zz_icmp_ge (tgt := 37) dX3_cloudsOver_9 rfl (by omega) (fun b9 => ?_) (fun b9 => ?_)
      · exact absurd b9 (by omega)
      refine gz_iload_n dX3_cloudsOver_12 rfl ?_
      refine zz_bipush (x := 8) dX3_cloudsOver_13 rfl ?_
      refine zz_icmp_ge (tgt := 37) dX3_cloudsOver_15 rfl (by omega) (fun b15 => ?_) (fun b15 => ?_)
      · exact absurd b15 (by omega)
      refine gz_aload_n dX3_cloudsOver_18 rfl ?_
      refine gz_getf 15 dX3_cloudsOver_19 rfl rfl wf_Heliographs_Plan_49 (by decide) rfl ?_
      refine gz_iload_n dX3_cloudsOver_22 rfl ?_
      refine gz_iald (n := i) dX3_cloudsOver_23 rfl rfl (by omega) rfl ?_
      refine gz_iload_n dX3_cloudsOver_24 rfl ?_
      refine zz_icmp_ne (tgt := 31) dX3_cloudsOver_25 rfl (by omega) (fun b25 => ?_) (fun b25 => ?_)
      ·
        refine zz_iinc dX3_cloudsOver_31 rfl rfl ?_
        refine gz_goto (tgt := 4) dX3_cloudsOver_34 rfl ?_
        (first | exact ih (i + 1) _ (by omega) (by omega) (by rw [sNum_t (by simp only [vP, vC, Nat.reduceAdd, Nat.reduceLT, Nat.add_zero, ↓reduceIte, decide_eq_true_eq]; omega), ← Int.add_assoc] at hq; exact hq) | exact ih (i + 1) _ (by omega) (by omega) (by rw [sNum_f (by simp only [vP, vC, Nat.reduceAdd, Nat.reduceLT, Nat.add_zero, ↓reduceIte, decide_eq_true_eq]; omega)] at hq; exact hq))
      ·
        refine zz_iinc dX3_cloudsOver_28 rfl rfl ?_
        refine zz_iinc dX3_cloudsOver_31 rfl rfl ?_
        refine gz_goto (tgt := 4) dX3_cloudsOver_34 rfl ?_
        (first | exact ih (i + 1) _ (by omega) (by omega) (by rw [sNum_t (by simp only [vP, vC, Nat.reduceAdd, Nat.reduceLT, Nat.add_zero, ↓reduceIte, decide_eq_true_eq]; omega), ← Int.add_assoc] at hq; exact hq) | exact ih (i + 1) _ (by omega) (by omega) (by rw [sNum_f (by simp only [vP, vC, Nat.reduceAdd, Nat.reduceLT, Nat.add_zero, ↓reduceIte, decide_eq_true_eq]; omega)] at hq; exact hq))
  )
theorem zs_cloudsOver {p : Nat} (hp : p = 368 ∨ p = 400) (hw : wP (vP Z p)) {y : Int} (hy : -2147483648 ≤ y ∧ y < 2147483648) : zk_Does l Γ mX3_cloudsOver d 0 0 [.ref p, .int (iZ y)] (zb_M Z) F (some (.int (iZ (sNum (fun i => decide (vP Z p 11 i = y)) 0 (Z p 2).toNat)))) (zb_M Z) F := by
  intro Q hq
  refine zz_iconst dX3_cloudsOver_0 ?_
  refine gz_istore_n dX3_cloudsOver_1 (Nat.le_of_ble_eq_true rfl) rfl ?_
  refine zz_iconst dX3_cloudsOver_2 ?_
  refine gz_istore_n dX3_cloudsOver_3 (Nat.le_of_ble_eq_true rfl) rfl ?_
  exact zs_cloudsOver_loop hp hw hy (Z p 2).toNat 0 0 (by have := wP_n hw; simp only [vP, vC, Nat.reduceAdd, Nat.reduceLT, Nat.add_zero, ↓reduceIte] at this; omega) (by omega) (by rw [Int.zero_add]; exact hq)
end

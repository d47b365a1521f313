/-! THE CHAIN AND THE PLAN: reads -/
section
variable {l : Launch} {Γ : zk_G} {d : Nat} {Z : Nat → Nat → Int} {F : Heap → Prop}
theorem zs_messagesAt_loop {c p : Nat} (hcs : c = 336 ∨ c = 352) (hp : p = 368 ∨ p = 400) (hcp : Z c 0 = (p : Int)) (hw : wP (vP Z p)) {N : Int} (hc : wC (vP Z p) (vC Z c) N) {x y : Int} (hx : -2147483648 ≤ x ∧ x < 2147483648) (hy : -2147483648 ≤ y ∧ y < 2147483648) {Q : Option Value → zk_M → (Heap → Prop) → Prop} : ∀ (n i : Nat) (A : Int), (i : Int) + n = Z p 3 → 0 ≤ A ∧ A ≤ i → Q (some (.int (iZ (A + sNum (sAt (vC Z c) x y) i n)))) (zb_M Z) F → zk_Go l Γ mX0_messagesAt d 0 0 Q 5 [some (.ref c), some (.int (iZ x)), some (.int (iZ y)), some (.int (iZ A)), some (.int (iZ (i : Int)))] [] (zb_M Z) F := by
  rcases hcs with rfl | rfl <;> rcases hp with rfl | rfl <;> (
    intro n
    induction n with
    | zero =>
      intro i A hi hA hq
      have hpl := congrArg Int.toNat hcp
      simp only [Int.toNat_natCast] at hpl
      have h0 := wP_n hw
      simp only [vP, vC, Nat.reduceAdd, Nat.reduceLT, Nat.add_zero, ↓reduceIte] at h0
      refine gz_iload dX0_messagesAt_5 rfl ?_
      refine gz_aload_n dX0_messagesAt_7 rfl ?_
      refine gz_getf 0 dX0_messagesAt_8 rfl rfl wf_Heliographs_Chain_53 (by decide) (congrArg Value.ref hpl) ?_
      refine gz_getf 3 dX0_messagesAt_11 rfl rfl wf_Heliographs_Chain_81 (by decide) rfl ?_
      refine zz_icmp_ge (tgt := 55) dX0_messagesAt_14 rfl (by omega) (fun b14 => ?_) (fun b14 => ?_)
      rotate_left
      · exact absurd b14 (by omega)
      refine gz_iload_n dX0_messagesAt_55 rfl ?_
      refine gz_ireturn dX0_messagesAt_56 rfl rfl ?_
      rw [sNum_0, Int.add_zero] at hq
      exact hq
    | succ n ih =>
      intro i A hi hA hq
      have hpl := congrArg Int.toNat hcp
      simp only [Int.toNat_natCast] at hpl
      have h0 := wP_n hw
      simp only [vP, vC, Nat.reduceAdd, Nat.reduceLT, Nat.add_zero, ↓reduceIte] at h0
      have h1 := wC_m hc (k := i) (by simp only [vP, vC, Nat.reduceAdd, Nat.reduceLT, Nat.add_zero, ↓reduceIte]; omega)
      simp only [wM, vP, vC, Nat.reduceAdd, Nat.reduceLT, Nat.add_zero, ↓reduceIte] at h1
      refine gz_iload dX0_messagesAt_5 rfl ?_
      refine gz_aload_n dX0_messagesAt_7 rfl ?_
      refine gz_getf 0 dX0_messagesAt_8 rfl rfl wf_Heliographs_Chain_53 (by decide) (congrArg Value.ref hpl) ?_
      refine gz_getf 3 dX0_messagesAt_11 rfl rfl wf_Heliographs_Chain_81 (by decide) rfl ?_
      refine zz_icmp_ge (tgt := 55) dX0_messagesAt_14 rfl (by omega) (fun b14 => ?_) (fun b14 => ?_)
      · exact absurd b14 (by omega)
      refine gz_iload dX0_messagesAt_17 rfl ?_
      refine zz_bipush (x := 8) dX0_messagesAt_19 rfl ?_
      refine zz_icmp_ge (tgt := 55) dX0_messagesAt_21 rfl (by omega) (fun b21 => ?_) (fun b21 => ?_)
      · exact absurd b21 (by omega)
      refine gz_aload_n dX0_messagesAt_24 rfl ?_
      refine gz_getf 4 dX0_messagesAt_25 rfl rfl wf_Heliographs_Chain_19 (by decide) rfl ?_
      refine gz_iload dX0_messagesAt_28 rfl ?_
      refine gz_iald (n := i) dX0_messagesAt_30 rfl rfl (by omega) rfl ?_
      refine gz_iload_n dX0_messagesAt_31 rfl ?_
      refine zz_icmp_ne (tgt := 49) dX0_messagesAt_32 rfl (by omega) (fun b32 => ?_) (fun b32 => ?_)
      ·
        refine zz_iinc dX0_messagesAt_49 rfl rfl ?_
        refine gz_goto (tgt := 5) dX0_messagesAt_52 rfl ?_
        (first | exact ih (i + 1) _ (by omega) (by omega) (by rw [sNum_t (by simp only [sAt, vP, vC, Nat.reduceAdd, Nat.reduceLT, Nat.add_zero, ↓reduceIte, decide_eq_true_eq]; omega), ← Int.add_assoc] at hq; exact hq) | exact ih (i + 1) _ (by omega) (by omega) (by rw [sNum_f (by simp only [sAt, vP, vC, Nat.reduceAdd, Nat.reduceLT, Nat.add_zero, ↓reduceIte, decide_eq_true_eq]; omega)] at hq; exact hq))
      ·
        refine gz_aload_n dX0_messagesAt_35 rfl ?_
        refine gz_getf 6 dX0_messagesAt_36 rfl rfl wf_Heliographs_Chain_25 (by decide) rfl ?_
        refine gz_iload dX0_messagesAt_39 rfl ?_
        refine gz_iald (n := i) dX0_messagesAt_41 rfl rfl (by omega) rfl ?_
        refine gz_iload_n dX0_messagesAt_42 rfl ?_
        refine zz_icmp_ne (tgt := 49) dX0_messagesAt_43 rfl (by omega) (fun b43 => ?_) (fun b43 => ?_)
        ·
          refine zz_iinc dX0_messagesAt_49 rfl rfl ?_
          refine gz_goto (tgt := 5) dX0_messagesAt_52 rfl ?_
          (first | exact ih (i + 1) _ (by omega) (by omega) (by rw [sNum_t (by simp only [sAt, vP, vC, Nat.reduceAdd, Nat.reduceLT, Nat.add_zero, ↓reduceIte, decide_eq_true_eq]; omega), ← Int.add_assoc] at hq; exact hq) | exact ih (i + 1) _ (by omega) (by omega) (by rw [sNum_f (by simp only [sAt, vP, vC, Nat.reduceAdd, Nat.reduceLT, Nat.add_zero, ↓reduceIte, decide_eq_true_eq]; omega)] at hq; exact hq))
        ·
          refine zz_iinc dX0_messagesAt_46 rfl rfl ?_
          refine zz_iinc dX0_messagesAt_49 rfl rfl ?_
          refine gz_goto (tgt := 5) dX0_messagesAt_52 rfl ?_
          (first | exact ih (i + 1) _ (by omega) (by omega) (by rw [sNum_t (by simp only [sAt, vP, vC, Nat.reduceAdd, Nat.reduceLT, Nat.add_zero, ↓reduceIte, decide_eq_true_eq]; omega), ← Int.add_assoc] at hq; exact hq) | exact ih (i + 1) _ (by omega) (by omega) (by rw [sNum_f (by simp only [sAt, vP, vC, Nat.reduceAdd, Nat.reduceLT, Nat.add_zero, ↓reduceIte, decide_eq_true_eq]; omega)] at hq; exact hq))
  )
theorem zs_messagesAt {c p : Nat} (hcs : c = 336 ∨ c = 352) (hp : p = 368 ∨ p = 400) (hcp : Z c 0 = (p : Int)) (hw : wP (vP Z p)) {N : Int} (hc : wC (vP Z p) (vC Z c) N) {x y : Int} (hx : -2147483648 ≤ x ∧ x < 2147483648) (hy : -2147483648 ≤ y ∧ y < 2147483648) : zk_Does l Γ mX0_messagesAt d 0 0 [.ref c, .int (iZ x), .int (iZ y)] (zb_M Z) F (some (.int (iZ (sNum (sAt (vC Z c) x y) 0 (Z p 3).toNat)))) (zb_M Z) F := by
  intro Q hq
  refine zz_iconst dX0_messagesAt_0 ?_
  refine gz_istore_n dX0_messagesAt_1 (Nat.le_of_ble_eq_true rfl) rfl ?_
  refine zz_iconst dX0_messagesAt_2 ?_
  refine gz_istore dX0_messagesAt_3 (Nat.le_of_ble_eq_true rfl) rfl ?_
  exact zs_messagesAt_loop hcs hp hcp hw hc hx hy (Z p 3).toNat 0 0 (by have := wP_n hw; simp only [vP, vC, Nat.reduceAdd, Nat.reduceLT, Nat.add_zero, ↓reduceIte] at this; omega) (by omega) (by rw [Int.zero_add]; exact hq)
theorem zs_messagesIn_loop {c p : Nat} (hcs : c = 336 ∨ c = 352) (hp : p = 368 ∨ p = 400) (hcp : Z c 0 = (p : Int)) (hw : wP (vP Z p)) {N : Int} (hc : wC (vP Z p) (vC Z c) N) {y : Int} (hy : -2147483648 ≤ y ∧ y < 2147483648) {Q : Option Value → zk_M → (Heap → Prop) → Prop} : ∀ (n i : Nat) (A : Int), (i : Int) + n = Z p 3 → 0 ≤ A ∧ A ≤ i → Q (some (.int (iZ (A + sNum (sIn (vC Z c) y) i n)))) (zb_M Z) F → zk_Go l Γ mX0_messagesIn d 0 0 Q 4 [some (.ref c), some (.int (iZ y)), some (.int (iZ A)), some (.int (iZ (i : Int)))] [] (zb_M Z) F := by
  rcases hcs with rfl | rfl <;> rcases hp with rfl | rfl <;> (
    intro n
    induction n with
    | zero =>
      intro i A hi hA hq
      have hpl := congrArg Int.toNat hcp
      simp only [Int.toNat_natCast] at hpl
      have h0 := wP_n hw
      simp only [vP, vC, Nat.reduceAdd, Nat.reduceLT, Nat.add_zero, ↓reduceIte] at h0
      refine gz_iload_n dX0_messagesIn_4 rfl ?_
      refine gz_aload_n dX0_messagesIn_5 rfl ?_
      refine gz_getf 0 dX0_messagesIn_6 rfl rfl wf_Heliographs_Chain_53 (by decide) (congrArg Value.ref hpl) ?_
      refine gz_getf 3 dX0_messagesIn_9 rfl rfl wf_Heliographs_Chain_81 (by decide) rfl ?_
      refine zz_icmp_ge (tgt := 40) dX0_messagesIn_12 rfl (by omega) (fun b12 => ?_) (fun b12 => ?_)
      rotate_left
      · exact absurd b12 (by omega)
      refine gz_iload_n dX0_messagesIn_40 rfl ?_
      refine gz_ireturn dX0_messagesIn_41 rfl rfl ?_
      rw [sNum_0, Int.add_zero] at hq
      exact hq
    | succ n ih =>
      intro i A hi hA hq
      have hpl := congrArg Int.toNat hcp
      simp only [Int.toNat_natCast] at hpl
      have h0 := wP_n hw
      simp only [vP, vC, Nat.reduceAdd, Nat.reduceLT, Nat.add_zero, ↓reduceIte] at h0
      have h1 := wC_m hc (k := i) (by simp only [vP, vC, Nat.reduceAdd, Nat.reduceLT, Nat.add_zero, ↓reduceIte]; omega)
      simp only [wM, vP, vC, Nat.reduceAdd, Nat.reduceLT, Nat.add_zero, ↓reduceIte] at h1
      refine gz_iload_n dX0_messagesIn_4 rfl ?_
      refine gz_aload_n dX0_messagesIn_5 rfl ?_
      refine gz_getf 0 dX0_messagesIn_6 rfl rfl wf_Heliographs_Chain_53 (by decide) (congrArg Value.ref hpl) ?_
      refine gz_getf 3 dX0_messagesIn_9 rfl rfl wf_Heliographs_Chain_81 (by decide) rfl ?_
      refine zz_icmp_ge (tgt := 40) dX0_messagesIn_12 rfl (by omega) (fun b12 => ?_) (fun b12 => ?_)
      · exact absurd b12 (by omega)
      refine gz_iload_n dX0_messagesIn_15 rfl ?_
      refine zz_bipush (x := 8) dX0_messagesIn_16 rfl ?_
      refine zz_icmp_ge (tgt := 40) dX0_messagesIn_18 rfl (by omega) (fun b18 => ?_) (fun b18 => ?_)
      · exact absurd b18 (by omega)
      refine gz_aload_n dX0_messagesIn_21 rfl ?_
      refine gz_getf 6 dX0_messagesIn_22 rfl rfl wf_Heliographs_Chain_25 (by decide) rfl ?_
      refine gz_iload_n dX0_messagesIn_25 rfl ?_
      refine gz_iald (n := i) dX0_messagesIn_26 rfl rfl (by omega) rfl ?_
      refine gz_iload_n dX0_messagesIn_27 rfl ?_
      refine zz_icmp_ne (tgt := 34) dX0_messagesIn_28 rfl (by omega) (fun b28 => ?_) (fun b28 => ?_)
      ·
        refine zz_iinc dX0_messagesIn_34 rfl rfl ?_
        refine gz_goto (tgt := 4) dX0_messagesIn_37 rfl ?_
        (first | exact ih (i + 1) _ (by omega) (by omega) (by rw [sNum_t (by simp only [sIn, vP, vC, Nat.reduceAdd, Nat.reduceLT, Nat.add_zero, ↓reduceIte, decide_eq_true_eq]; omega), ← Int.add_assoc] at hq; exact hq) | exact ih (i + 1) _ (by omega) (by omega) (by rw [sNum_f (by simp only [sIn, vP, vC, Nat.reduceAdd, Nat.reduceLT, Nat.add_zero, ↓reduceIte, decide_eq_true_eq]; omega)] at hq; exact hq))
      ·
        refine zz_iinc dX0_messagesIn_31 rfl rfl ?_
        refine zz_iinc dX0_messagesIn_34 rfl rfl ?_
        refine gz_goto (tgt := 4) dX0_messagesIn_37 rfl ?_
        (first | exact ih (i + 1) _ (by omega) (by omega) (by rw [sNum_t (by simp only [sIn, vP, vC, Nat.reduceAdd, Nat.reduceLT, Nat.add_zero, ↓reduceIte, decide_eq_true_eq]; omega), ← Int.add_assoc] at hq; exact hq) | exact ih (i + 1) _ (by omega) (by omega) (by rw [sNum_f (by simp only [sIn, vP, vC, Nat.reduceAdd, Nat.reduceLT, Nat.add_zero, ↓reduceIte, decide_eq_true_eq]; omega)] at hq; exact hq))
  )
theorem zs_messagesIn {c p : Nat} (hcs : c = 336 ∨ c = 352) (hp : p = 368 ∨ p = 400) (hcp : Z c 0 = (p : Int)) (hw : wP (vP Z p)) {N : Int} (hc : wC (vP Z p) (vC Z c) N) {y : Int} (hy : -2147483648 ≤ y ∧ y < 2147483648) : zk_Does l Γ mX0_messagesIn d 0 0 [.ref c, .int (iZ y)] (zb_M Z) F (some (.int (iZ (sNum (sIn (vC Z c) y) 0 (Z p 3).toNat)))) (zb_M Z) F := by
  intro Q hq
  refine zz_iconst dX0_messagesIn_0 ?_
  refine gz_istore_n dX0_messagesIn_1 (Nat.le_of_ble_eq_true rfl) rfl ?_
  refine zz_iconst dX0_messagesIn_2 ?_
  refine gz_istore_n dX0_messagesIn_3 (Nat.le_of_ble_eq_true rfl) rfl ?_
  exact zs_messagesIn_loop hcs hp hcp hw hc hy (Z p 3).toNat 0 0 (by have := wP_n hw; simp only [vP, vC, Nat.reduceAdd, Nat.reduceLT, Nat.add_zero, ↓reduceIte] at this; omega) (by omega) (by rw [Int.zero_add]; exact hq)
end

/-! THE PLAN: reads -/
section
variable {l : Launch} {Γ : zk_G} {d : Nat} {Z : Nat → Nat → Int} {F : Heap → Prop}
theorem zs_hasPeak {p : Nat} (hp : p = 368 ∨ p = 400) {x : Int} (hx : -2147483648 ≤ x ∧ x < 2147483648) (hn : 0 ≤ Z p 0 ∧ Z p 0 ≤ 8) : zk_Does l Γ mX3_hasPeak d 0 0 [.ref p, .int (iZ x)] (zb_M Z) F (some (.int (iZ (bI (decide (0 ≤ x ∧ x < Z p 0)))))) (zb_M Z) F := by
  intro Q hq
  rcases hp with rfl | rfl <;> (
    refine gz_iload_n dX3_hasPeak_0 rfl ?_
    refine zz_if_lt (tgt := 22) dX3_hasPeak_1 rfl (by omega) (fun b1 => ?_) (fun b1 => ?_)
    ·
      refine zz_iconst dX3_hasPeak_22 ?_
      refine gz_ireturn dX3_hasPeak_23 rfl rfl ?_
      (first | (rw [bI_t (by simp only [decide_eq_true_eq]; omega)] at hq; exact hq) | (rw [bI_f (by simp only [decide_eq_true_eq]; omega)] at hq; exact hq))
    ·
      refine gz_iload_n dX3_hasPeak_4 rfl ?_
      refine gz_aload_n dX3_hasPeak_5 rfl ?_
      refine gz_getf 0 dX3_hasPeak_6 rfl rfl wf_Heliographs_Plan_61 (by decide) rfl ?_
      refine zz_icmp_ge (tgt := 22) dX3_hasPeak_9 rfl (by omega) (fun b9 => ?_) (fun b9 => ?_)
      ·
        refine zz_iconst dX3_hasPeak_22 ?_
        refine gz_ireturn dX3_hasPeak_23 rfl rfl ?_
        (first | (rw [bI_t (by simp only [decide_eq_true_eq]; omega)] at hq; exact hq) | (rw [bI_f (by simp only [decide_eq_true_eq]; omega)] at hq; exact hq))
      ·
        refine gz_iload_n dX3_hasPeak_12 rfl ?_
        refine zz_bipush (x := 8) dX3_hasPeak_13 rfl ?_
        refine zz_icmp_ge (tgt := 22) dX3_hasPeak_15 rfl (by omega) (fun b15 => ?_) (fun b15 => ?_)
        ·
          refine zz_iconst dX3_hasPeak_22 ?_
          refine gz_ireturn dX3_hasPeak_23 rfl rfl ?_
          (first | (rw [bI_t (by simp only [decide_eq_true_eq]; omega)] at hq; exact hq) | (rw [bI_f (by simp only [decide_eq_true_eq]; omega)] at hq; exact hq))
        ·
          refine zz_iconst dX3_hasPeak_18 ?_
          refine gz_goto (tgt := 23) dX3_hasPeak_19 rfl ?_
          refine gz_ireturn dX3_hasPeak_23 rfl rfl ?_
          (first | (rw [bI_t (by simp only [decide_eq_true_eq]; omega)] at hq; exact hq) | (rw [bI_f (by simp only [decide_eq_true_eq]; omega)] at hq; exact hq))
  )
theorem zs_hasPass {p : Nat} (hp : p = 368 ∨ p = 400) {x : Int} (hx : -2147483648 ≤ x ∧ x < 2147483648) (hn : 0 ≤ Z p 1 ∧ Z p 1 ≤ 12) : zk_Does l Γ mX3_hasPass d 0 0 [.ref p, .int (iZ x)] (zb_M Z) F (some (.int (iZ (bI (decide (0 ≤ x ∧ x < Z p 1)))))) (zb_M Z) F := by
  intro Q hq
  rcases hp with rfl | rfl <;> (
    refine gz_iload_n dX3_hasPass_0 rfl ?_
    refine zz_if_lt (tgt := 22) dX3_hasPass_1 rfl (by omega) (fun b1 => ?_) (fun b1 => ?_)
    ·
      refine zz_iconst dX3_hasPass_22 ?_
      refine gz_ireturn dX3_hasPass_23 rfl rfl ?_
      (first | (rw [bI_t (by simp only [decide_eq_true_eq]; omega)] at hq; exact hq) | (rw [bI_f (by simp only [decide_eq_true_eq]; omega)] at hq; exact hq))
    ·
      refine gz_iload_n dX3_hasPass_4 rfl ?_
      refine gz_aload_n dX3_hasPass_5 rfl ?_
      refine gz_getf 1 dX3_hasPass_6 rfl rfl wf_Heliographs_Plan_65 (by decide) rfl ?_
      refine zz_icmp_ge (tgt := 22) dX3_hasPass_9 rfl (by omega) (fun b9 => ?_) (fun b9 => ?_)
      ·
        refine zz_iconst dX3_hasPass_22 ?_
        refine gz_ireturn dX3_hasPass_23 rfl rfl ?_
        (first | (rw [bI_t (by simp only [decide_eq_true_eq]; omega)] at hq; exact hq) | (rw [bI_f (by simp only [decide_eq_true_eq]; omega)] at hq; exact hq))
      ·
        refine gz_iload_n dX3_hasPass_12 rfl ?_
        refine zz_bipush (x := 12) dX3_hasPass_13 rfl ?_
        refine zz_icmp_ge (tgt := 22) dX3_hasPass_15 rfl (by omega) (fun b15 => ?_) (fun b15 => ?_)
        ·
          refine zz_iconst dX3_hasPass_22 ?_
          refine gz_ireturn dX3_hasPass_23 rfl rfl ?_
          (first | (rw [bI_t (by simp only [decide_eq_true_eq]; omega)] at hq; exact hq) | (rw [bI_f (by simp only [decide_eq_true_eq]; omega)] at hq; exact hq))
        ·
          refine zz_iconst dX3_hasPass_18 ?_
          refine gz_goto (tgt := 23) dX3_hasPass_19 rfl ?_
          refine gz_ireturn dX3_hasPass_23 rfl rfl ?_
          (first | (rw [bI_t (by simp only [decide_eq_true_eq]; omega)] at hq; exact hq) | (rw [bI_f (by simp only [decide_eq_true_eq]; omega)] at hq; exact hq))
  )
theorem zs_hasMessage {p : Nat} (hp : p = 368 ∨ p = 400) {x : Int} (hx : -2147483648 ≤ x ∧ x < 2147483648) (hn : 0 ≤ Z p 3 ∧ Z p 3 ≤ 8) : zk_Does l Γ mX3_hasMessage d 0 0 [.ref p, .int (iZ x)] (zb_M Z) F (some (.int (iZ (bI (decide (0 ≤ x ∧ x < Z p 3)))))) (zb_M Z) F := by
  intro Q hq
  rcases hp with rfl | rfl <;> (
    refine gz_iload_n dX3_hasMessage_0 rfl ?_
    refine zz_if_lt (tgt := 22) dX3_hasMessage_1 rfl (by omega) (fun b1 => ?_) (fun b1 => ?_)
    ·
      refine zz_iconst dX3_hasMessage_22 ?_
      refine gz_ireturn dX3_hasMessage_23 rfl rfl ?_
      (first | (rw [bI_t (by simp only [decide_eq_true_eq]; omega)] at hq; exact hq) | (rw [bI_f (by simp only [decide_eq_true_eq]; omega)] at hq; exact hq))
    ·
      refine gz_iload_n dX3_hasMessage_4 rfl ?_
      refine gz_aload_n dX3_hasMessage_5 rfl ?_
      refine gz_getf 3 dX3_hasMessage_6 rfl rfl wf_Heliographs_Plan_71 (by decide) rfl ?_
      refine zz_icmp_ge (tgt := 22) dX3_hasMessage_9 rfl (by omega) (fun b9 => ?_) (fun b9 => ?_)
      ·
        refine zz_iconst dX3_hasMessage_22 ?_
        refine gz_ireturn dX3_hasMessage_23 rfl rfl ?_
        (first | (rw [bI_t (by simp only [decide_eq_true_eq]; omega)] at hq; exact hq) | (rw [bI_f (by simp only [decide_eq_true_eq]; omega)] at hq; exact hq))
      ·
        refine gz_iload_n dX3_hasMessage_12 rfl ?_
        refine zz_bipush (x := 8) dX3_hasMessage_13 rfl ?_
        refine zz_icmp_ge (tgt := 22) dX3_hasMessage_15 rfl (by omega) (fun b15 => ?_) (fun b15 => ?_)
        ·
          refine zz_iconst dX3_hasMessage_22 ?_
          refine gz_ireturn dX3_hasMessage_23 rfl rfl ?_
          (first | (rw [bI_t (by simp only [decide_eq_true_eq]; omega)] at hq; exact hq) | (rw [bI_f (by simp only [decide_eq_true_eq]; omega)] at hq; exact hq))
        ·
          refine zz_iconst dX3_hasMessage_18 ?_
          refine gz_goto (tgt := 23) dX3_hasMessage_19 rfl ?_
          refine gz_ireturn dX3_hasMessage_23 rfl rfl ?_
          (first | (rw [bI_t (by simp only [decide_eq_true_eq]; omega)] at hq; exact hq) | (rw [bI_f (by simp only [decide_eq_true_eq]; omega)] at hq; exact hq))
  )
theorem zs_isSunny {p : Nat} (hp : p = 368 ∨ p = 400) (hw : wP (vP Z p)) {x m : Int} (hx : 0 ≤ x ∧ x < Z p 0) (hm : 0 ≤ m ∧ m < 100000) (hd : 1 ≤ d) : zk_Does l Γ mX3_isSunny d 0 0 [.ref p, .int (iZ x), .int (iZ m)] (zb_M Z) F (some (.int (iZ (bI (sSun (vP Z p) x.toNat m))))) (zb_M Z) F := by
  intro Q hq
  have h0 := hw.1
  have h1 := hw.2.2.2.2.1 x.toNat (by simp only [vP, vC, Nat.reduceAdd, Nat.reduceLT, Nat.add_zero, ↓reduceIte]; omega)
  rcases hp with rfl | rfl <;> (
    simp only [vP, vC, Nat.reduceAdd, Nat.reduceLT, Nat.add_zero, ↓reduceIte] at h0 h1
    refine gz_aload_n dX3_isSunny_0 rfl ?_
    refine gz_iload_n dX3_isSunny_1 rfl ?_
    refine gv_1 (J := mX3_hasPeak) (d1 := d - 1) dX3_isSunny_2 wm_Heliographs_Plan_77 rfl jzX3_hasPeak (Nat.le_of_ble_eq_true rfl) (Nat.le_of_ble_eq_true rfl) (by omega) ⟨Nat.le_refl _, Nat.le_refl _⟩ (zs_hasPeak (by simp) (by omega) h0) ?_
    refine zz_if_neB (tgt := 10) dX3_isSunny_5 rfl (fun b5 => ?_) (fun b5 => ?_)
    rotate_left
    · exact absurd (by simp only [decide_eq_true_eq]; omega) b5
    refine gz_iload_n dX3_isSunny_10 rfl ?_
    refine zz_bipush (x := 120) dX3_isSunny_11 rfl ?_
    refine zz_irem dX3_isSunny_13 (by omega) ?_
    refine gz_istore_n dX3_isSunny_14 (Nat.le_of_ble_eq_true rfl) rfl ?_
    refine gz_iload_n dX3_isSunny_15 rfl ?_
    refine gz_aload_n dX3_isSunny_16 rfl ?_
    refine gz_getf 4 dX3_isSunny_17 rfl rfl wf_Heliographs_Plan_9 (by decide) rfl ?_
    refine gz_iload_n dX3_isSunny_20 rfl ?_
    refine gn_iald dX3_isSunny_21 rfl (by omega) rfl ?_
    refine zz_icmp_lt (tgt := 39) dX3_isSunny_22 rfl (by omega) (fun b22 => ?_) (fun b22 => ?_)
    ·
      refine zz_iconst dX3_isSunny_39 ?_
      refine gz_ireturn dX3_isSunny_40 rfl rfl ?_
      (first | exact hq | (rw [bI_t (by simp only [sSun, vP, Nat.reduceAdd, Nat.reduceLT, Nat.add_zero, ↓reduceIte, decide_eq_true_eq]; omega)] at hq; exact hq) | (rw [bI_f (by simp only [sSun, vP, Nat.reduceAdd, Nat.reduceLT, Nat.add_zero, ↓reduceIte, decide_eq_true_eq]; omega)] at hq; exact hq))
    ·
      refine gz_iload_n dX3_isSunny_25 rfl ?_
      refine gz_aload_n dX3_isSunny_26 rfl ?_
      refine gz_getf 5 dX3_isSunny_27 rfl rfl wf_Heliographs_Plan_15 (by decide) rfl ?_
      refine gz_iload_n dX3_isSunny_30 rfl ?_
      refine gn_iald dX3_isSunny_31 rfl (by omega) rfl ?_
      refine zz_icmp_ge (tgt := 39) dX3_isSunny_32 rfl (by omega) (fun b32 => ?_) (fun b32 => ?_)
      ·
        refine zz_iconst dX3_isSunny_39 ?_
        refine gz_ireturn dX3_isSunny_40 rfl rfl ?_
        (first | exact hq | (rw [bI_t (by simp only [sSun, vP, Nat.reduceAdd, Nat.reduceLT, Nat.add_zero, ↓reduceIte, decide_eq_true_eq]; omega)] at hq; exact hq) | (rw [bI_f (by simp only [sSun, vP, Nat.reduceAdd, Nat.reduceLT, Nat.add_zero, ↓reduceIte, decide_eq_true_eq]; omega)] at hq; exact hq))
      ·
        refine zz_iconst dX3_isSunny_35 ?_
        refine gz_goto (tgt := 40) dX3_isSunny_36 rfl ?_
        refine gz_ireturn dX3_isSunny_40 rfl rfl ?_
        (first | exact hq | (rw [bI_t (by simp only [sSun, vP, Nat.reduceAdd, Nat.reduceLT, Nat.add_zero, ↓reduceIte, decide_eq_true_eq]; omega)] at hq; exact hq) | (rw [bI_f (by simp only [sSun, vP, Nat.reduceAdd, Nat.reduceLT, Nat.add_zero, ↓reduceIte, decide_eq_true_eq]; omega)] at hq; exact hq))
  )
theorem zs_isCloudy_loop {p : Nat} (hp : p = 368 ∨ p = 400) (hw : wP (vP Z p)) {x m : Int} (hx : 0 ≤ x ∧ x < 12) (hm : 0 ≤ m ∧ m < 100000) {Q : Option Value → zk_M → (Heap → Prop) → Prop} : ∀ (n i : Nat) (L4 : Option Value), (i : Int) + n = Z p 2 → Q (some (.int (iZ (bI ((List.range' i n).any (sCl1 (vP Z p) x m)))))) (zb_M Z) F → zk_Go l Γ mX3_isCloudy d 0 0 Q 2 [some (.ref p), some (.int (iZ x)), some (.int (iZ m)), some (.int (iZ (i : Int))), L4] [] (zb_M Z) F := by
  rcases hp with rfl | rfl <;> (
    intro n
    induction n with
    | zero =>
      intro i L4 hi hq
      have h0 := hw.2.2.1
      simp only [vP, vC, Nat.reduceAdd, Nat.reduceLT, Nat.add_zero, ↓reduceIte] at h0
      refine gz_iload_n dX3_isCloudy_2 rfl ?_
      refine gz_aload_n dX3_isCloudy_3 rfl ?_
      refine gz_getf 2 dX3_isCloudy_4 rfl rfl wf_Heliographs_Plan_68 (by decide) rfl ?_
      refine zz_icmp_ge (tgt := 67) dX3_isCloudy_7 rfl (by omega) (fun b7 => ?_) (fun b7 => ?_)
      rotate_left
      · exact absurd b7 (by omega)
      refine zz_iconst dX3_isCloudy_67 ?_
      refine gz_ireturn dX3_isCloudy_68 rfl rfl ?_
      exact hq
    | succ n ih =>
      intro i L4 hi hq
      have h0 := hw.2.2.1
      have h3 := hw.2.1
      have h2 := wP_rem hw m (i := i) (by simp only [vP, vC, Nat.reduceAdd, Nat.reduceLT, Nat.add_zero, ↓reduceIte]; omega)
      have h1 := hw.2.2.2.2.2.2.1 i (by simp only [vP, vC, Nat.reduceAdd, Nat.reduceLT, Nat.add_zero, ↓reduceIte]; omega)
      simp only [vP, vC, Nat.reduceAdd, Nat.reduceLT, Nat.add_zero, ↓reduceIte] at h0 h1 h2 h3
      refine gz_iload_n dX3_isCloudy_2 rfl ?_
      refine gz_aload_n dX3_isCloudy_3 rfl ?_
      refine gz_getf 2 dX3_isCloudy_4 rfl rfl wf_Heliographs_Plan_68 (by decide) rfl ?_
      refine zz_icmp_ge (tgt := 67) dX3_isCloudy_7 rfl (by omega) (fun b7 => ?_) (fun b7 => ?_)
      · exact absurd b7 (by omega)
      refine gz_iload_n dX3_isCloudy_10 rfl ?_
      refine zz_bipush (x := 8) dX3_isCloudy_11 rfl ?_
      refine zz_icmp_ge (tgt := 67) dX3_isCloudy_13 rfl (by omega) (fun b13 => ?_) (fun b13 => ?_)
      · exact absurd b13 (by omega)
      refine gz_aload_n dX3_isCloudy_16 rfl ?_
      refine gz_getf 16 dX3_isCloudy_17 rfl rfl wf_Heliographs_Plan_52 (by decide) rfl ?_
      refine gz_iload_n dX3_isCloudy_20 rfl ?_
      refine gz_iald (n := i) dX3_isCloudy_21 rfl rfl (by omega) rfl ?_
      refine gz_istore dX3_isCloudy_22 (Nat.le_of_ble_eq_true rfl) rfl ?_
      refine gz_aload_n dX3_isCloudy_24 rfl ?_
      refine gz_getf 15 dX3_isCloudy_25 rfl rfl wf_Heliographs_Plan_49 (by decide) rfl ?_
      refine gz_iload_n dX3_isCloudy_28 rfl ?_
      refine gz_iald (n := i) dX3_isCloudy_29 rfl rfl (by omega) rfl ?_
      refine gz_iload_n dX3_isCloudy_30 rfl ?_
      refine zz_icmp_ne (tgt := 61) dX3_isCloudy_31 rfl (by omega) (fun b31 => ?_) (fun b31 => ?_)
      ·
        refine zz_iinc dX3_isCloudy_61 rfl rfl ?_
        refine gz_goto (tgt := 2) dX3_isCloudy_64 rfl ?_
        exact ih (i + 1) _ (by omega) (by rw [any_f (by simp only [sCl1, vP, vC, Nat.reduceAdd, Nat.reduceLT, Nat.add_zero, ↓reduceIte, decide_eq_true_eq]; omega)] at hq; exact hq)
      ·
        refine gz_iload dX3_isCloudy_34 rfl ?_
        refine zz_if_le (tgt := 61) dX3_isCloudy_36 rfl (by omega) (fun b36 => ?_) (fun b36 => ?_)
        · exact absurd b36 (by omega)
        refine gz_iload_n dX3_isCloudy_39 rfl ?_
        refine gz_aload_n dX3_isCloudy_40 rfl ?_
        refine gz_getf 18 dX3_isCloudy_41 rfl rfl wf_Heliographs_Plan_58 (by decide) rfl ?_
        refine gz_iload_n dX3_isCloudy_44 rfl ?_
        refine gz_iald (n := i) dX3_isCloudy_45 rfl rfl (by omega) rfl ?_
        refine zz_iadd dX3_isCloudy_46 ?_
        refine gz_iload dX3_isCloudy_47 rfl ?_
        refine zz_irem dX3_isCloudy_49 (by omega) ?_
        refine gz_aload_n dX3_isCloudy_50 rfl ?_
        refine gz_getf 17 dX3_isCloudy_51 rfl rfl wf_Heliographs_Plan_55 (by decide) rfl ?_
        refine gz_iload_n dX3_isCloudy_54 rfl ?_
        refine gz_iald (n := i) dX3_isCloudy_55 rfl rfl (by omega) rfl ?_
        refine zz_icmp_ge (tgt := 61) dX3_isCloudy_56 rfl (by omega) (fun b56 => ?_) (fun b56 => ?_)
        ·
          refine zz_iinc dX3_isCloudy_61 rfl rfl ?_
          refine gz_goto (tgt := 2) dX3_isCloudy_64 rfl ?_
          exact ih (i + 1) _ (by omega) (by rw [any_f (by simp only [sCl1, vP, vC, Nat.reduceAdd, Nat.reduceLT, Nat.add_zero, ↓reduceIte, decide_eq_true_eq]; omega)] at hq; exact hq)
        ·
          rw [any_t (by simp only [sCl1, vP, vC, Nat.reduceAdd, Nat.reduceLT, Nat.add_zero, ↓reduceIte, decide_eq_true_eq]; omega)] at hq
          refine zz_iconst dX3_isCloudy_59 ?_
          refine gz_ireturn dX3_isCloudy_60 rfl rfl ?_
          exact hq
  )
theorem zs_isCloudy {p : Nat} (hp : p = 368 ∨ p = 400) (hw : wP (vP Z p)) {x m : Int} (hx : 0 ≤ x ∧ x < 12) (hm : 0 ≤ m ∧ m < 100000) : zk_Does l Γ mX3_isCloudy d 0 0 [.ref p, .int (iZ x), .int (iZ m)] (zb_M Z) F (some (.int (iZ (bI (sCl (vP Z p) x m))))) (zb_M Z) F := by
  intro Q hq
  refine zz_iconst dX3_isCloudy_0 ?_
  refine gz_istore_n dX3_isCloudy_1 (Nat.le_of_ble_eq_true rfl) rfl ?_
  exact zs_isCloudy_loop hp hw hx hm (Z p 2).toNat 0 _ (by have := hw.2.2.1; simp only [vP, vC, Nat.reduceAdd, Nat.reduceLT, Nat.add_zero, ↓reduceIte] at this; omega) hq
end

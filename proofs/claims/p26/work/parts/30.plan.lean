/-! THE PLAN: reads -/
section
variable {l : Launch} {Γ : zk_G} {d : Nat} {Z : Nat → Nat → Int} {F : Heap → Prop}
theorem zs_hasPeak {p : Nat} (hp : p = 368 ∨ p = 400) {x : Int} (hx : -2147483648 ≤ x ∧ x < 2147483648) (hn : 0 ≤ Z p 0 ∧ Z p 0 ≤ 8) : zk_Does l Γ mX3_hasPeak d 0 0 [.ref p, .int (iZ x)] (zb_M Z) F (some (.int (iZ (if 0 ≤ x ∧ x < Z p 0 then 1 else 0)))) (zb_M Z) F := by
  intro Q hq
  rcases hp with rfl | rfl <;> (
    refine gz_iload_n dX3_hasPeak_0 rfl ?_
    refine zz_if_lt (tgt := 22) dX3_hasPeak_1 rfl (by omega) (fun b1 => ?_) (fun b1 => ?_)
    ·
      refine zz_iconst dX3_hasPeak_22 ?_
      refine gz_ireturn dX3_hasPeak_23 rfl rfl ?_
      (first | exact hq | (rw [if_pos (by omega)] at hq; exact hq) | (rw [if_neg (by omega)] at hq; exact hq))
    ·
      refine gz_iload_n dX3_hasPeak_4 rfl ?_
      refine gz_aload_n dX3_hasPeak_5 rfl ?_
      refine gz_getf 0 dX3_hasPeak_6 rfl rfl wf_Heliographs_Plan_61 (by decide) rfl ?_
      refine zz_icmp_ge (tgt := 22) dX3_hasPeak_9 rfl (by omega) (fun b9 => ?_) (fun b9 => ?_)
      ·
        refine zz_iconst dX3_hasPeak_22 ?_
        refine gz_ireturn dX3_hasPeak_23 rfl rfl ?_
        (first | exact hq | (rw [if_pos (by omega)] at hq; exact hq) | (rw [if_neg (by omega)] at hq; exact hq))
      ·
        refine gz_iload_n dX3_hasPeak_12 rfl ?_
        refine zz_bipush (x := 8) dX3_hasPeak_13 rfl ?_
        refine zz_icmp_ge (tgt := 22) dX3_hasPeak_15 rfl (by omega) (fun b15 => ?_) (fun b15 => ?_)
        ·
          refine zz_iconst dX3_hasPeak_22 ?_
          refine gz_ireturn dX3_hasPeak_23 rfl rfl ?_
          (first | exact hq | (rw [if_pos (by omega)] at hq; exact hq) | (rw [if_neg (by omega)] at hq; exact hq))
        ·
          refine zz_iconst dX3_hasPeak_18 ?_
          refine gz_goto (tgt := 23) dX3_hasPeak_19 rfl ?_
          refine gz_ireturn dX3_hasPeak_23 rfl rfl ?_
          (first | exact hq | (rw [if_pos (by omega)] at hq; exact hq) | (rw [if_neg (by omega)] at hq; exact hq))
  )
theorem zs_hasPass {p : Nat} (hp : p = 368 ∨ p = 400) {x : Int} (hx : -2147483648 ≤ x ∧ x < 2147483648) (hn : 0 ≤ Z p 1 ∧ Z p 1 ≤ 12) : zk_Does l Γ mX3_hasPass d 0 0 [.ref p, .int (iZ x)] (zb_M Z) F (some (.int (iZ (if 0 ≤ x ∧ x < Z p 1 then 1 else 0)))) (zb_M Z) F := by
  intro Q hq
  rcases hp with rfl | rfl <;> (
    refine gz_iload_n dX3_hasPass_0 rfl ?_
    refine zz_if_lt (tgt := 22) dX3_hasPass_1 rfl (by omega) (fun b1 => ?_) (fun b1 => ?_)
    ·
      refine zz_iconst dX3_hasPass_22 ?_
      refine gz_ireturn dX3_hasPass_23 rfl rfl ?_
      (first | exact hq | (rw [if_pos (by omega)] at hq; exact hq) | (rw [if_neg (by omega)] at hq; exact hq))
    ·
      refine gz_iload_n dX3_hasPass_4 rfl ?_
      refine gz_aload_n dX3_hasPass_5 rfl ?_
      refine gz_getf 1 dX3_hasPass_6 rfl rfl wf_Heliographs_Plan_65 (by decide) rfl ?_
      refine zz_icmp_ge (tgt := 22) dX3_hasPass_9 rfl (by omega) (fun b9 => ?_) (fun b9 => ?_)
      ·
        refine zz_iconst dX3_hasPass_22 ?_
        refine gz_ireturn dX3_hasPass_23 rfl rfl ?_
        (first | exact hq | (rw [if_pos (by omega)] at hq; exact hq) | (rw [if_neg (by omega)] at hq; exact hq))
      ·
        refine gz_iload_n dX3_hasPass_12 rfl ?_
        refine zz_bipush (x := 12) dX3_hasPass_13 rfl ?_
        refine zz_icmp_ge (tgt := 22) dX3_hasPass_15 rfl (by omega) (fun b15 => ?_) (fun b15 => ?_)
        ·
          refine zz_iconst dX3_hasPass_22 ?_
          refine gz_ireturn dX3_hasPass_23 rfl rfl ?_
          (first | exact hq | (rw [if_pos (by omega)] at hq; exact hq) | (rw [if_neg (by omega)] at hq; exact hq))
        ·
          refine zz_iconst dX3_hasPass_18 ?_
          refine gz_goto (tgt := 23) dX3_hasPass_19 rfl ?_
          refine gz_ireturn dX3_hasPass_23 rfl rfl ?_
          (first | exact hq | (rw [if_pos (by omega)] at hq; exact hq) | (rw [if_neg (by omega)] at hq; exact hq))
  )
theorem zs_hasMessage {p : Nat} (hp : p = 368 ∨ p = 400) {x : Int} (hx : -2147483648 ≤ x ∧ x < 2147483648) (hn : 0 ≤ Z p 3 ∧ Z p 3 ≤ 8) : zk_Does l Γ mX3_hasMessage d 0 0 [.ref p, .int (iZ x)] (zb_M Z) F (some (.int (iZ (if 0 ≤ x ∧ x < Z p 3 then 1 else 0)))) (zb_M Z) F := by
  intro Q hq
  rcases hp with rfl | rfl <;> (
    refine gz_iload_n dX3_hasMessage_0 rfl ?_
    refine zz_if_lt (tgt := 22) dX3_hasMessage_1 rfl (by omega) (fun b1 => ?_) (fun b1 => ?_)
    ·
      refine zz_iconst dX3_hasMessage_22 ?_
      refine gz_ireturn dX3_hasMessage_23 rfl rfl ?_
      (first | exact hq | (rw [if_pos (by omega)] at hq; exact hq) | (rw [if_neg (by omega)] at hq; exact hq))
    ·
      refine gz_iload_n dX3_hasMessage_4 rfl ?_
      refine gz_aload_n dX3_hasMessage_5 rfl ?_
      refine gz_getf 3 dX3_hasMessage_6 rfl rfl wf_Heliographs_Plan_71 (by decide) rfl ?_
      refine zz_icmp_ge (tgt := 22) dX3_hasMessage_9 rfl (by omega) (fun b9 => ?_) (fun b9 => ?_)
      ·
        refine zz_iconst dX3_hasMessage_22 ?_
        refine gz_ireturn dX3_hasMessage_23 rfl rfl ?_
        (first | exact hq | (rw [if_pos (by omega)] at hq; exact hq) | (rw [if_neg (by omega)] at hq; exact hq))
      ·
        refine gz_iload_n dX3_hasMessage_12 rfl ?_
        refine zz_bipush (x := 8) dX3_hasMessage_13 rfl ?_
        refine zz_icmp_ge (tgt := 22) dX3_hasMessage_15 rfl (by omega) (fun b15 => ?_) (fun b15 => ?_)
        ·
          refine zz_iconst dX3_hasMessage_22 ?_
          refine gz_ireturn dX3_hasMessage_23 rfl rfl ?_
          (first | exact hq | (rw [if_pos (by omega)] at hq; exact hq) | (rw [if_neg (by omega)] at hq; exact hq))
        ·
          refine zz_iconst dX3_hasMessage_18 ?_
          refine gz_goto (tgt := 23) dX3_hasMessage_19 rfl ?_
          refine gz_ireturn dX3_hasMessage_23 rfl rfl ?_
          (first | exact hq | (rw [if_pos (by omega)] at hq; exact hq) | (rw [if_neg (by omega)] at hq; exact hq))
  )
end

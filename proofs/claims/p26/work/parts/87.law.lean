/-! THE LAW: below, cell -/
section
variable {l : Launch} {Γ : zk_G} {d : Nat} {M : zk_M} {F : Heap → Prop}
theorem and_pos (v : Int32) : 0 ≤ (v &&& 2147483647).toInt ∧ (v &&& 2147483647).toInt < 2147483648 := by
  have h : ((v &&& 2147483647).toBitVec).msb = false := by
    rw [Int32.toBitVec_and, BitVec.msb_and]
    have e : (2147483647 : Int32).toBitVec.msb = false := by decide
    rw [e, Bool.and_false]
  have h2 : 0 ≤ (v &&& 2147483647).toBitVec.toInt := by
    rw [BitVec.msb_eq_toInt] at h
    have := of_decide_eq_false h
    omega
  have h3 := Int32.toInt_lt (v &&& 2147483647)
  exact ⟨h2, by omega⟩
/-- a number that a cell chooses, below n -/
def lB (v : Int32) (n : Int) : Int := (v &&& 2147483647).toInt % n
theorem lB_bd (v : Int32) {n : Int} (h : 0 < n) : 0 ≤ lB v n ∧ lB v n < n := ⟨Int.emod_nonneg _ (by omega), Int.emod_lt_of_pos _ h⟩
/-- what a cell says -/
def lC (s : Nat → Int32) (len k : Nat) : Int32 := if k < len then s k else iZ (790386105 * ((k : Int) + 3))
theorem zL_below {v : Int32} {n : Int} (hn : 0 < n ∧ n < 2147483648) : zk_Does l Γ mL_below d 0 0 [.int v, .int (iZ n)] M F (some (.int (iZ (lB v n)))) M F := by
  intro Q hq
  have hp := and_pos v
  refine gz_iload_n dL_below_0 rfl ?_
  refine zz_ldc (z := 2147483647) dL_below_1 wk_HeliographsLaw_7 rfl ?_
  refine gz_iand dL_below_3 ?_
  rw [show v &&& iZ 2147483647 = iZ (v &&& 2147483647).toInt from (iZ_of _).symm]
  refine gz_iload_n dL_below_4 rfl ?_
  refine zz_irem dL_below_5 (by omega) ?_
  refine gz_ireturn dL_below_6 rfl rfl ?_
  exact hq
theorem zL_cell {s : Nat → Int32} {len k : Nat} (hs : M.1 56 = (100, len)) (hv : ∀ j, j < len → M.2.2 56 j = .int (s j)) (hl : len < 2147483648) (hk : k < 100000) : zk_Does l Γ mL_cell d 0 0 [.ref 56, .int (iZ (k : Int))] M F (some (.int (lC s len k))) M F := by
  intro Q hq
  refine gz_iload_n dL_cell_0 rfl ?_
  refine gz_aload_n dL_cell_1 rfl ?_
  refine gz_alen (k := 0) dL_cell_2 hs (by decide) ?_
  refine zz_icmp_ge (tgt := 12) dL_cell_3 rfl (by omega) (fun b3 => ?_) (fun b3 => ?_)
  ·
    refine zz_ldc (z := 790386105) dL_cell_12 wk_HeliographsLaw_8 rfl ?_
    refine gz_iload_n dL_cell_14 rfl ?_
    refine zz_iconst dL_cell_15 ?_
    refine zz_iadd dL_cell_16 ?_
    refine zz_imul dL_cell_17 ?_
    refine gz_ireturn dL_cell_18 rfl rfl ?_
    first | (rw [show lC s len k = s k from if_pos (by omega)] at hq; exact hq) | (rw [show lC s len k = iZ (790386105 * ((k : Int) + 3)) from if_neg (by omega)] at hq; exact hq)
  ·
    refine gz_aload_n dL_cell_6 rfl ?_
    refine gz_iload_n dL_cell_7 rfl ?_
    refine gz_iald (n := k) dL_cell_8 hs rfl (by omega) (hv k (by omega)) ?_
    refine gz_goto (tgt := 18) dL_cell_9 rfl ?_
    refine gz_ireturn dL_cell_18 rfl rfl ?_
    first | (rw [show lC s len k = s k from if_pos (by omega)] at hq; exact hq) | (rw [show lC s len k = iZ (790386105 * ((k : Int) + 3)) from if_neg (by omega)] at hq; exact hq)
end

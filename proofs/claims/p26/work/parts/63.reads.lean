/-! THE TAPE READS A TEXT; THE KIND OF A WORD -/
section
variable {l : Launch} {Γ : zk_G} {d : Nat} {Z : Nat → Nat → Int} {F : Heap → Prop}
theorem zs_reads_loop {a b n : Nat} {f : Nat → Int} (hs : zStr (zb_M Z) a b n f) {q e : Nat} {s : List Int} (hd : 4 ≤ d) {Q : Option Value → zk_M → (Heap → Prop) → Prop} : ∀ (m i : Nat) (t2 w2 : List Int), t2.length = m → w2.length = m → (∀ j, j < m → f (i + j) = t2.getD j 0) → hTp Z (q + i) (w2 ++ s) → i + m = n → Q (some (.int (iZ (bI (decide (w2 = t2)))))) (zb_M Z) F → zk_Go l Γ mX5_reads d 0 0 Q 15 [some (.ref 321), some (.ref a), some (.int (iZ (q : Int))), some (.int (iZ (e : Int))), some (.int (iZ (i : Int)))] [] (zb_M Z) F := by
  intro m
  induction m with
  | zero =>
    intro i t2 w2 ht hw hf h hni hq
    have hs2 := hs
    obtain ⟨len, s1, s2, s3, s4, s5, s6, s7⟩ := hs2
    have e1 : w2 = [] := List.length_eq_zero_iff.mp hw
    have e2 : t2 = [] := List.length_eq_zero_iff.mp ht
    refine gz_iload dX5_reads_15 rfl ?_
    refine gz_aload_n dX5_reads_17 rfl ?_
    refine gv_0 (J := mJ0_length_8abf5) (d1 := d - 1) dX5_reads_18 wm_Heliographs_Tape_19 s1 jzJ0_length_8abf5 (Nat.le_of_ble_eq_true rfl) (Nat.le_of_ble_eq_true rfl) (by omega) ⟨Nat.le_refl _, Nat.le_refl _⟩ (js_length hs (by omega)) ?_
    refine zz_icmp_ge (tgt := 49) dX5_reads_21 rfl (by omega) (fun b21 => ?_) (fun b21 => ?_)
    rotate_left
    · exact absurd b21 (by omega)
    refine zz_iconst dX5_reads_49 ?_
    refine gz_ireturn dX5_reads_50 rfl rfl ?_
    rw [e1, e2, bI_t (decide_eq_true rfl)] at hq
    exact hq
  | succ m ih =>
    intro i t2 w2 ht hw hf h hni hq
    have hs2 := hs
    obtain ⟨len, s1, s2, s3, s4, s5, s6, s7⟩ := hs2
    cases t2 with
    | nil => exact absurd ht (by show ¬ 0 = m + 1; omega)
    | cons c t3 =>
    cases w2 with
    | nil => exact absurd hw (by show ¬ 0 = m + 1; omega)
    | cons b2 w3 =>
    have ht3 : t3.length = m := by have : (c :: t3).length = t3.length + 1 := rfl; omega
    have hw3 : w3.length = m := by have : (b2 :: w3).length = w3.length + 1 := rfl; omega
    have hfi : f i = c := hf 0 (by omega)
    have hcb := (s7 i (by omega)).2
    have hbb := h.2.1
    have e0 : sHead (b2 :: w3 ++ s) = b2 := rfl
    refine gz_iload dX5_reads_15 rfl ?_
    refine gz_aload_n dX5_reads_17 rfl ?_
    refine gv_0 (J := mJ0_length_8abf5) (d1 := d - 1) dX5_reads_18 wm_Heliographs_Tape_19 s1 jzJ0_length_8abf5 (Nat.le_of_ble_eq_true rfl) (Nat.le_of_ble_eq_true rfl) (by omega) ⟨Nat.le_refl _, Nat.le_refl _⟩ (js_length hs (by omega)) ?_
    refine zz_icmp_ge (tgt := 49) dX5_reads_21 rfl (by omega) (fun b21 => ?_) (fun b21 => ?_)
    · exact absurd b21 (by omega)
    refine gz_aload_n dX5_reads_24 rfl ?_
    refine gz_iload_n dX5_reads_25 rfl ?_
    refine gz_iload dX5_reads_26 rfl ?_
    refine zz_iadd dX5_reads_28 ?_
    refine gv_1 (J := mX5_byteAt) (d1 := d - 1) dX5_reads_29 wm_Heliographs_Tape_24 rfl jzX5_byteAt (Nat.le_of_ble_eq_true rfl) (Nat.le_of_ble_eq_true rfl) (by omega) ⟨Nat.le_refl _, Nat.le_refl _⟩ (zs_byteAt (q := q + i) h) ?_
    refine gz_aload_n dX5_reads_32 rfl ?_
    refine gz_iload dX5_reads_33 rfl ?_
    refine gv_1 (J := mJ0_charAt_5068e) (d1 := d - 1) dX5_reads_35 wm_Heliographs_Tape_28 s1 jzJ0_charAt_5068e (Nat.le_of_ble_eq_true rfl) (Nat.le_of_ble_eq_true rfl) (by omega) ⟨Nat.le_refl _, Nat.le_refl _⟩ (js_charAt hs (by omega) (by omega)) ?_
    refine zz_icmp_eq (tgt := 43) dX5_reads_38 rfl (by omega) (fun b38 => ?_) (fun b38 => ?_)
    ·
      refine zz_iinc dX5_reads_43 rfl rfl ?_
      refine gz_goto (tgt := 15) dX5_reads_46 rfl ?_
      have ec : b2 = c := by rw [← hfi]; exact b38
      subst ec
      refine ih (i + 1) t3 w3 (by omega) (by omega) (fun j hj => by have q3 := hf (j + 1) (by omega); rw [show i + 1 + j = i + (j + 1) from by omega]; exact q3) h.2.2 (by omega) ?_
      by_cases e5 : w3 = t3
      · rw [bI_t (decide_eq_true (by rw [e5]))] at hq
        rw [bI_t (decide_eq_true e5)]
        exact hq
      · rw [bI_f (fun q3 => e5 (List.cons.inj (of_decide_eq_true q3)).2)] at hq
        rw [bI_f (fun q3 => e5 (of_decide_eq_true q3))]
        exact hq
    ·
      refine zz_iconst dX5_reads_41 ?_
      refine gz_ireturn dX5_reads_42 rfl rfl ?_
      rw [bI_f (fun q3 => b38 (by rw [hfi]; exact (List.cons.inj (of_decide_eq_true q3)).1))] at hq
      exact hq
end

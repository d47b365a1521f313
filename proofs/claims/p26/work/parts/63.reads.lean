/-! THE TAPE READS A TEXT; THE KIND OF A WORD -/
section
variable {l : Launch} {Γ : zk_G} {d : Nat} {Z : Nat → Nat → Int} {F : Heap → Prop}
theorem zs_reads_loop {a b n : Nat} {f : Nat → Int} (hs : zStr (zb_M Z) a b n f) {q e : Nat} {s : List Int} (hd : 4 ≤ d) {Q : Option Value → zk_M → (Heap → Prop) → Prop} : ∀ (m i : Nat) (t2 w2 : List Int), t2.length = m → w2.length = m → (∀ j, j < m → f (i + j) = t2.getD j 0) → hTp Z (q + i) (w2 ++ s) → i + m = n → Q (some (.int (iZ (bI (decide (w2 = t2)))))) (zb_M Z) F → zk_Go l Γ mX5_reads d 0 0 Q 15 [some (.ref 321), some (.ref a), some (.int (iZ (q : Int))), some (.int (iZ (e : Int))), some (.int (iZ (i : Int)))] [] (zb_M Z) F := by
  intro m
  induction m with
  | zero =>
    intro i t2 w2 ht hw hf h hni hq
    have hs2 := hs
    obtain ⟨len, s1, s2, s3, s4, s5, s6, s7⟩ := hs2
    have e1 : w2 = [] := List.length_eq_zero_iff.mp hw
    have e2 : t2 = [] := List.length_eq_zero_iff.mp ht
    refine gz_iload dX5_reads_15 rfl ?_
    refine gz_aload_n dX5_reads_17 rfl ?_
    refine gv_0 (J := mJ0_length_8abf5) (d1 := d - 1) dX5_reads_18 wm_Heliographs_Tape_19 s1 jzJ0_length_8abf5 (Nat.le_of_ble_eq_true rfl) (Nat.le_of_ble_eq_true rfl) (by omega) ⟨Nat.le_refl _, Nat.le_refl _⟩ (js_length hs (by omega)) ?_
    refine zz_icmp_ge (tgt := 49) dX5_reads_21 rfl (by omega) (fun b21 => ?_) (fun b21 => ?_)
    rotate_left
    · exact absurd b21 (by omega)
    refine zz_iconst dX5_reads_49 ?_
    refine gz_ireturn dX5_reads_50 rfl rfl ?_
    rw [e1, e2, bI_t (decide_eq_true rfl)] at hq
    exact hq
  | succ m ih =>
    intro i t2 w2 ht hw hf h hni hq
    have hs2 := hs
    obtain ⟨len, s1, s2, s3, s4, s5, s6, s7⟩ := hs2
    cases t2 with
    | nil => exact absurd ht (by show ¬ 0 = m + 1; omega)
    | cons c t3 =>
    cases w2 with
    | nil => exact absurd hw (by show ¬ 0 = m + 1; omega)
    | cons b2 w3 =>
    have ht3 : t3.length = m := by have : (c :: t3).length = t3.length + 1 := rfl; omega
    have hw3 : w3.length = m := by have : (b2 :: w3).length = w3.length + 1 := rfl; omega
    have hfi : f i = c := hf 0 (by omega)
    have hcb := (s7 i (by omega)).2
    have hbb := h.2.1
    have e0 : sHead (b2 :: w3 ++ s) = b2 := rfl
    refine gz_iload dX5_reads_15 rfl ?_
    refine gz_aload_n dX5_reads_17 rfl ?_
    refine gv_0 (J := mJ0_length_8abf5) (d1 := d - 1) dX5_reads_18 wm_Heliographs_Tape_19 s1 jzJ0_length_8abf5 (Nat.le_of_ble_eq_true rfl) (Nat.le_of_ble_eq_true rfl) (by omega) ⟨Nat.le_refl _, Nat.le_refl _⟩ (js_length hs (by omega)) ?_
    refine zz_icmp_ge (tgt := 49) dX5_reads_21 rfl (by omega) (fun b21 => ?_) (fun b21 => ?_)
    · exact absurd b21 (by omega)
    refine gz_aload_n dX5_reads_24 rfl ?_
    refine gz_iload_n dX5_reads_25 rfl ?_
    refine gz_iload dX5_reads_26 rfl ?_
    refine zz_iadd dX5_reads_28 ?_
    refine gv_1 (J := mX5_byteAt) (d1 := d - 1) dX5_reads_29 wm_Heliographs_Tape_24 rfl jzX5_byteAt (Nat.le_of_ble_eq_true rfl) (Nat.le_of_ble_eq_true rfl) (by omega) ⟨Nat.le_refl _, Nat.le_refl _⟩ (zs_byteAt (q := q + i) h) ?_
    refine gz_aload_n dX5_reads_32 rfl ?_
    refine gz_iload dX5_reads_33 rfl ?_
    refine gv_1 (J := mJ0_charAt_5068e) (d1 := d - 1) dX5_reads_35 wm_Heliographs_Tape_28 s1 jzJ0_charAt_5068e (Nat.le_of_ble_eq_true rfl) (Nat.le_of_ble_eq_true rfl) (by omega) ⟨Nat.le_refl _, Nat.le_refl _⟩ (js_charAt hs (by omega) (by omega)) ?_
    refine zz_icmp_eq (tgt := 43) dX5_reads_38 rfl (by omega) (fun b38 => ?_) (fun b38 => ?_)
    ·
      refine zz_iinc dX5_reads_43 rfl rfl ?_
      refine gz_goto (tgt := 15) dX5_reads_46 rfl ?_
      have ec : b2 = c := by rw [← hfi]; exact b38
      subst ec
      refine ih (i + 1) t3 w3 (by omega) (by omega) (fun j hj => by have q3 := hf (j + 1) (by omega); rw [show i + 1 + j = i + (j + 1) from by omega]; exact q3) h.2.2 (by omega) ?_
      by_cases e5 : w3 = t3
      · rw [bI_t (decide_eq_true (by rw [e5]))] at hq
        rw [bI_t (decide_eq_true e5)]
        exact hq
      · rw [bI_f (fun q3 => e5 (List.cons.inj (of_decide_eq_true q3)).2)] at hq
        rw [bI_f (fun q3 => e5 (of_decide_eq_true q3))]
        exact hq
    ·
      refine zz_iconst dX5_reads_41 ?_
      refine gz_ireturn dX5_reads_42 rfl rfl ?_
      rw [bI_f (fun q3 => b38 (by rw [hfi]; exact (List.cons.inj (of_decide_eq_true q3)).1))] at hq
      exact hq
theorem zs_reads {a b : Nat} {t w s : List Int} {q e : Nat} (hs : zStr (zb_M Z) a b t.length (fun j => t.getD j 0)) (h : hTp Z q (w ++ s)) (he : e = q + w.length) (hd : 4 ≤ d) : zk_Does l Γ mX5_reads d 0 0 [.ref 321, .ref a, .int (iZ (q : Int)), .int (iZ (e : Int))] (zb_M Z) F (some (.int (iZ (bI (decide (w = t)))))) (zb_M Z) F := by
  intro Q hq
  have hs2 := hs
  obtain ⟨len, s1, s2, s3, s4, s5, s6, s7⟩ := hs2
  have hl := (hTp_len h).2
  rw [List.length_append] at hl
  refine gz_aload_n dX5_reads_0 rfl ?_
  refine gv_0 (J := mJ0_length_8abf5) (d1 := d - 1) dX5_reads_1 wm_Heliographs_Tape_19 s1 jzJ0_length_8abf5 (Nat.le_of_ble_eq_true rfl) (Nat.le_of_ble_eq_true rfl) (by omega) ⟨Nat.le_refl _, Nat.le_refl _⟩ (js_length hs (by omega)) ?_
  refine gz_iload_n dX5_reads_4 rfl ?_
  refine gz_iload_n dX5_reads_5 rfl ?_
  refine zz_isub dX5_reads_6 ?_
  refine zz_icmp_eq (tgt := 12) dX5_reads_7 rfl (by omega) (fun b7 => ?_) (fun b7 => ?_)
  ·
    refine zz_iconst dX5_reads_12 ?_
    refine gz_istore dX5_reads_13 (Nat.le_of_ble_eq_true rfl) rfl ?_
    exact zs_reads_loop hs hd t.length 0 t w rfl (by omega) (fun j hj => by rw [Nat.zero_add]) h (by omega) hq
  ·
    refine zz_iconst dX5_reads_10 ?_
    refine gz_ireturn dX5_reads_11 rfl rfl ?_
    rw [bI_f (fun q3 => b7 (by rw [he, of_decide_eq_true q3]; omega))] at hq
    exact hq
/-- the kind whose text this is -/
def sKd (w : List Int) : Nat → Nat → Nat
  | _, 0 => 47
  | i, n + 1 => if w = kT i then i else sKd w (i + 1) n
theorem sKd_lt (w : List Int) : ∀ n i, i + n = 48 → sKd w i n < 48
  | 0, i, _ => (by decide : 47 < 48)
  | n + 1, i, h => by
    show (if w = kT i then i else sKd w (i + 1) n) < 48
    split
    · omega
    · exact sKd_lt w n (i + 1) (by omega)
theorem zs_kindOf_loop {w s : List Int} {q e : Nat} (h : hTp Z q (w ++ s)) (he : e = q + w.length) (hd : 5 ≤ d) {Q : Option Value → zk_M → (Heap → Prop) → Prop} : ∀ (n i : Nat), i + n = 48 → Q (some (.ref (sKd w i n))) (zb_M Z) F → zk_Go l Γ mX6_kindOf d 0 0 Q 2 [some (.ref 321), some (.int (iZ (q : Int))), some (.int (iZ (e : Int))), some (.int (iZ (i : Int)))] [] (zb_M Z) F := by
  intro n
  induction n with
  | zero =>
    intro i hi hq
    refine gz_iload_n dX6_kindOf_2 rfl ?_
    refine gz_getsN (C := "Heliographs") (n := "KINDS") (ds := "[LHeliographs$Kind;") (host := "Heliographs") (v := .ref 48) dX6_kindOf_3 (by decide) (by decide) (by show _ < _; decide) ?_
    refine gz_alen (k := 4) dX6_kindOf_6 rfl (by decide) ?_
    refine zz_icmp_ge (tgt := 39) dX6_kindOf_7 rfl (by omega) (fun b7 => ?_) (fun b7 => ?_)
    rotate_left
    · exact absurd b7 (by omega)
    refine gz_gets (v := .ref 47) dX6_kindOf_39 (by decide) wf_Heliographs_Tokens_48 (by first | exact True.intro | (show _ < _; decide)) ?_
    refine gz_areturn dX6_kindOf_42 rfl (Or.inl ⟨_, rfl⟩) ?_
    (first | exact hq | (rw [if_pos (by omega)] at hq; exact hq) | (rw [if_neg (by omega)] at hq; exact hq))
  | succ n ih =>
    intro i hi hq
    refine gz_iload_n dX6_kindOf_2 rfl ?_
    refine gz_getsN (C := "Heliographs") (n := "KINDS") (ds := "[LHeliographs$Kind;") (host := "Heliographs") (v := .ref 48) dX6_kindOf_3 (by decide) (by decide) (by show _ < _; decide) ?_
    refine gz_alen (k := 4) dX6_kindOf_6 rfl (by decide) ?_
    refine zz_icmp_ge (tgt := 39) dX6_kindOf_7 rfl (by omega) (fun b7 => ?_) (fun b7 => ?_)
    · exact absurd b7 (by omega)
    refine gz_aload_n dX6_kindOf_10 rfl ?_
    refine gz_getsN (C := "Heliographs") (n := "KINDS") (ds := "[LHeliographs$Kind;") (host := "Heliographs") (v := .ref 48) dX6_kindOf_11 (by decide) (by decide) (by show _ < _; decide) ?_
    refine gz_iload_n dX6_kindOf_14 rfl ?_
    refine gz_aald (k := 4) (n := i) dX6_kindOf_15 rfl (by decide) rfl (by omega) (kind_text (Z := Z) (by omega)).2.2 ?_
    refine gz_getf 0 dX6_kindOf_16 (kind_text (Z := Z) (by omega)).1 rfl wf_Heliographs_Tokens_101 (by decide) (kind_text (Z := Z) (by omega)).2.1 ?_
    refine gz_iload_n dX6_kindOf_19 rfl ?_
    refine gz_iload_n dX6_kindOf_20 rfl ?_
    refine gv_3 (J := mX5_reads) (d1 := d - 1) dX6_kindOf_21 wm_Heliographs_Tokens_105 rfl jzX5_reads (Nat.le_of_ble_eq_true rfl) (Nat.le_of_ble_eq_true rfl) (by omega) ⟨Nat.le_refl _, Nat.le_refl _⟩ (zs_reads (str_kind (by omega)) h he (by omega)) ?_
    refine zz_if_eqB (tgt := 33) dX6_kindOf_24 rfl (fun b24 => ?_) (fun b24 => ?_)
    ·
      refine zz_iinc dX6_kindOf_33 rfl rfl ?_
      refine gz_goto (tgt := 2) dX6_kindOf_36 rfl ?_
      exact ih (i + 1) (by omega) (by rw [show sKd w i (n + 1) = sKd w (i + 1) n from if_neg (fun q3 => b24 (decide_eq_true q3))] at hq; exact hq)
    ·
      refine gz_getsN (C := "Heliographs") (n := "KINDS") (ds := "[LHeliographs$Kind;") (host := "Heliographs") (v := .ref 48) dX6_kindOf_27 (by decide) (by decide) (by show _ < _; decide) ?_
      refine gz_iload_n dX6_kindOf_30 rfl ?_
      refine gz_aald (k := 4) (n := i) dX6_kindOf_31 rfl (by decide) rfl (by omega) (kind_text (Z := Z) (by omega)).2.2 ?_
      refine gz_areturn dX6_kindOf_32 rfl (Or.inl ⟨_, rfl⟩) ?_
      rw [show sKd w i (n + 1) = i from if_pos (of_decide_eq_true b24)] at hq
      exact hq
theorem zs_kindOf {w s : List Int} {q e : Nat} (h : hTp Z q (w ++ s)) (he : e = q + w.length) (hd : 5 ≤ d) : zk_Does l Γ mX6_kindOf d 0 0 [.ref 321, .int (iZ (q : Int)), .int (iZ (e : Int))] (zb_M Z) F (some (.ref (sKd w 0 48))) (zb_M Z) F := by
  intro Q hq
  refine zz_iconst dX6_kindOf_0 ?_
  refine gz_istore_n dX6_kindOf_1 (Nat.le_of_ble_eq_true rfl) rfl ?_
  exact zs_kindOf_loop h he hd 48 0 rfl hq
end

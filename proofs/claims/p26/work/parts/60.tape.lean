/-! THE TAPE AND ITS TOKENS: bytes -/
section
variable {l : Launch} {Γ : zk_G} {d : Nat} {Z : Nat → Nat → Int} {F : Heap → Prop}
/-- from place q on the tape reads s, and ends there -/
def hTp (Z : zV) : Nat → List Int → Prop
  | q, [] => Z 321 1 = (q : Int) ∧ q ≤ 2000
  | q, c :: s => Z 322 q = c ∧ (0 ≤ c ∧ c < 128) ∧ hTp Z (q + 1) s
theorem hTp_len {Z : zV} : ∀ {q : Nat} {s : List Int}, hTp Z q s → Z 321 1 = ((q + s.length : Nat) : Int) ∧ q + s.length ≤ 2000
  | q, [], h => ⟨h.1, h.2⟩
  | q, c :: s, h => by
    have r := hTp_len h.2.2
    have e : (c :: s).length = s.length + 1 := rfl
    rw [e, show q + (s.length + 1) = q + 1 + s.length from by omega]
    exact r
theorem hTp_to {Z Z2 : zV} (h1 : Z2 321 1 = Z 321 1) (h2 : ∀ j, Z2 322 j = Z 322 j) : ∀ {q : Nat} {s : List Int}, hTp Z q s → hTp Z2 q s
  | q, [], h => ⟨h1.trans h.1, h.2⟩
  | q, c :: s, h => ⟨(h2 q).trans h.1, h.2.1, hTp_to h1 h2 h.2.2⟩
def sHead : List Int → Int
  | [] => -1
  | c :: _ => c
def isL (c : Int) : Bool := decide (97 ≤ c ∧ c ≤ 122)
def isD (c : Int) : Bool := decide (48 ≤ c ∧ c ≤ 57)
theorem zs_byteAt {q : Nat} {s : List Int} (h : hTp Z q s) : zk_Does l Γ mX5_byteAt d 0 0 [.ref 321, .int (iZ (q : Int))] (zb_M Z) F (some (.int (iZ (sHead s)))) (zb_M Z) F := by
  intro Q hq
  have hl := hTp_len h
  have hb : s ≠ [] → Z 322 q = sHead s ∧ s.length ≠ 0 := fun e => by
    cases s with
    | nil => exact absurd rfl e
    | cons c s => exact ⟨h.1, by show s.length + 1 ≠ 0; omega⟩
  have hn : s.length = 0 → sHead s = -1 := fun e => by
    cases s with
    | nil => rfl
    | cons c s => exact absurd e (by show ¬ s.length + 1 = 0; omega)
  have hne : s.length ≠ 0 → s ≠ [] := fun e q => by rw [q] at e; exact e rfl
  refine gz_iload_n dX5_byteAt_0 rfl ?_
  refine zz_if_lt (tgt := 21) dX5_byteAt_1 rfl (by omega) (fun b1 => ?_) (fun b1 => ?_)
  · exact absurd b1 (by omega)
  refine gz_iload_n dX5_byteAt_4 rfl ?_
  refine gz_aload_n dX5_byteAt_5 rfl ?_
  refine gz_getf 1 dX5_byteAt_6 rfl rfl wf_Heliographs_Tape_15 (by decide) (zv_i hl.1) ?_
  refine zz_icmp_ge (tgt := 21) dX5_byteAt_9 rfl (by omega) (fun b9 => ?_) (fun b9 => ?_)
  ·
    refine zz_iconst dX5_byteAt_21 ?_
    refine gz_ireturn dX5_byteAt_22 rfl rfl ?_
    first
      | (rw [hn (by omega)] at hq; exact hq)
      | exact hq
  ·
    refine gz_iload_n dX5_byteAt_12 rfl ?_
    refine gz_aload_n dX5_byteAt_13 rfl ?_
    refine gz_getf 0 dX5_byteAt_14 rfl rfl wf_Heliographs_Tape_9 (by decide) rfl ?_
    refine gz_alen (k := 0) dX5_byteAt_17 rfl (by decide) ?_
    refine zz_icmp_lt (tgt := 23) dX5_byteAt_18 rfl (by omega) (fun b18 => ?_) (fun b18 => ?_)
    rotate_left
    · exact absurd b18 (by omega)
    refine gz_aload_n dX5_byteAt_23 rfl ?_
    refine gz_getf 0 dX5_byteAt_24 rfl rfl wf_Heliographs_Tape_9 (by decide) rfl ?_
    refine gz_iload_n dX5_byteAt_27 rfl ?_
    refine gz_iald (n := q) dX5_byteAt_28 rfl rfl (by omega) (zv_i (hb (hne (by omega))).1) ?_
    refine gz_ireturn dX5_byteAt_29 rfl rfl ?_
    first
      | (rw [hn (by omega)] at hq; exact hq)
      | exact hq
theorem zs_isLetter {x : Int} (hx : -1 ≤ x ∧ x < 65536) : zk_Does l Γ mX6_isLetter d 0 0 [.int (iZ x)] (zb_M Z) F (some (.int (iZ (bI (isL x))))) (zb_M Z) F := by
  intro Q hq
  refine gz_iload_n dX6_isLetter_0 rfl ?_
  refine zz_bipush (x := 97) dX6_isLetter_1 rfl ?_
  refine zz_icmp_lt (tgt := 16) dX6_isLetter_3 rfl (by omega) (fun b3 => ?_) (fun b3 => ?_)
  ·
    refine zz_iconst dX6_isLetter_16 ?_
    refine gz_ireturn dX6_isLetter_17 rfl rfl ?_
    first
      | (rw [bI_t (by unfold isL; simp only [decide_eq_true_eq]; omega)] at hq; exact hq)
      | (rw [bI_f (by unfold isL; simp only [decide_eq_true_eq]; omega)] at hq; exact hq)
  ·
    refine gz_iload_n dX6_isLetter_6 rfl ?_
    refine zz_bipush (x := 122) dX6_isLetter_7 rfl ?_
    refine zz_icmp_gt (tgt := 16) dX6_isLetter_9 rfl (by omega) (fun b9 => ?_) (fun b9 => ?_)
    ·
      refine zz_iconst dX6_isLetter_16 ?_
      refine gz_ireturn dX6_isLetter_17 rfl rfl ?_
      first
        | (rw [bI_t (by unfold isL; simp only [decide_eq_true_eq]; omega)] at hq; exact hq)
        | (rw [bI_f (by unfold isL; simp only [decide_eq_true_eq]; omega)] at hq; exact hq)
    ·
      refine zz_iconst dX6_isLetter_12 ?_
      refine gz_goto (tgt := 17) dX6_isLetter_13 rfl ?_
      refine gz_ireturn dX6_isLetter_17 rfl rfl ?_
      first
        | (rw [bI_t (by unfold isL; simp only [decide_eq_true_eq]; omega)] at hq; exact hq)
        | (rw [bI_f (by unfold isL; simp only [decide_eq_true_eq]; omega)] at hq; exact hq)
theorem zs_isDigit {x : Int} (hx : -1 ≤ x ∧ x < 65536) : zk_Does l Γ mX6_isDigit d 0 0 [.int (iZ x)] (zb_M Z) F (some (.int (iZ (bI (isD x))))) (zb_M Z) F := by
  intro Q hq
  refine gz_iload_n dX6_isDigit_0 rfl ?_
  refine zz_bipush (x := 48) dX6_isDigit_1 rfl ?_
  refine zz_icmp_lt (tgt := 16) dX6_isDigit_3 rfl (by omega) (fun b3 => ?_) (fun b3 => ?_)
  ·
    refine zz_iconst dX6_isDigit_16 ?_
    refine gz_ireturn dX6_isDigit_17 rfl rfl ?_
    first
      | (rw [bI_t (by unfold isD; simp only [decide_eq_true_eq]; omega)] at hq; exact hq)
      | (rw [bI_f (by unfold isD; simp only [decide_eq_true_eq]; omega)] at hq; exact hq)
  ·
    refine gz_iload_n dX6_isDigit_6 rfl ?_
    refine zz_bipush (x := 57) dX6_isDigit_7 rfl ?_
    refine zz_icmp_gt (tgt := 16) dX6_isDigit_9 rfl (by omega) (fun b9 => ?_) (fun b9 => ?_)
    ·
      refine zz_iconst dX6_isDigit_16 ?_
      refine gz_ireturn dX6_isDigit_17 rfl rfl ?_
      first
        | (rw [bI_t (by unfold isD; simp only [decide_eq_true_eq]; omega)] at hq; exact hq)
        | (rw [bI_f (by unfold isD; simp only [decide_eq_true_eq]; omega)] at hq; exact hq)
    ·
      refine zz_iconst dX6_isDigit_12 ?_
      refine gz_goto (tgt := 17) dX6_isDigit_13 rfl ?_
      refine gz_ireturn dX6_isDigit_17 rfl rfl ?_
      first
        | (rw [bI_t (by unfold isD; simp only [decide_eq_true_eq]; omega)] at hq; exact hq)
        | (rw [bI_f (by unfold isD; simp only [decide_eq_true_eq]; omega)] at hq; exact hq)
end

/-! THE TAPE AND ITS TOKENS: bytes -/
section
variable {l : Launch} {Γ : zk_G} {d : Nat} {Z : Nat → Nat → Int} {F : Heap → Prop}
/-- from place q on the tape reads s, and ends there -/
def hTp (Z : zV) : Nat → List Int → Prop
  | q, [] => Z 321 1 = (q : Int) ∧ q ≤ 2000
  | q, c :: s => Z 322 q = c ∧ (0 ≤ c ∧ c < 128) ∧ hTp Z (q + 1) s
theorem hTp_len {Z : zV} : ∀ {q : Nat} {s : List Int}, hTp Z q s → Z 321 1 = ((q + s.length : Nat) : Int) ∧ q + s.length ≤ 2000
  | q, [], h => ⟨h.1, h.2⟩
  | q, c :: s, h => by
    have r := hTp_len h.2.2
    have e : (c :: s).length = s.length + 1 := rfl
    rw [e, show q + (s.length + 1) = q + 1 + s.length from by omega]
    exact r
theorem hTp_to {Z Z2 : zV} (h1 : Z2 321 1 = Z 321 1) (h2 : ∀ j, Z2 322 j = Z 322 j) : ∀ {q : Nat} {s : List Int}, hTp Z q s → hTp Z2 q s
  | q, [], h => ⟨h1.trans h.1, h.2⟩
  | q, c :: s, h => ⟨(h2 q).trans h.1, h.2.1, hTp_to h1 h2 h.2.2⟩
def sHead : List Int → Int
  | [] => -1
  | c :: _ => c
def isL (c : Int) : Bool := decide (97 ≤ c ∧ c ≤ 122)
def isD (c : Int) : Bool := decide (48 ≤ c ∧ c ≤ 57)
theorem zs_byteAt {q : Nat} {s : List Int} (h : hTp Z q s) : zk_Does l Γ mX5_byteAt d 0 0 [.ref 321, .int (iZ (q : Int))] (zb_M Z) F (some (.int (iZ (sHead s)))) (zb_M Z) F := by
  intro Q hq
  have hl := hTp_len h
  have hb : s ≠ [] → Z 322 q = sHead s ∧ s.length ≠ 0 := fun e => by
    cases s with
    | nil => exact absurd rfl e
    | cons c s => exact ⟨h.1, by show s.length + 1 ≠ 0; omega⟩
  have hn : s.length = 0 → sHead s = -1 := fun e => by
    cases s with
    | nil => rfl
    | cons c s => exact absurd e (by show ¬ s.length + 1 = 0; omega)
  have hne : s.length ≠ 0 → s ≠ [] := fun e q => by rw [q] at e; exact e rfl
  refine gz_iload_n dX5_byteAt_0 rfl ?_
  refine zz_if_lt (tgt := 21) dX5_byteAt_1 rfl (by omega) (fun b1 => ?_) (fun b1 => ?_)
  · exact absurd b1 (by omega)
  refine gz_iload_n dX5_byteAt_4 rfl ?_
  refine gz_aload_n dX5_byteAt_5 rfl ?_
  refine gz_getf 1 dX5_byteAt_6 rfl rfl wf_Heliographs_Tape_15 (by decide) (zv_i hl.1) ?_
  refine zz_icmp_ge (tgt := 21) dX5_byteAt_9 rfl (by omega) (fun b9 => ?_) (fun b9 => ?_)
  ·
    refine zz_iconst dX5_byteAt_21 ?_
    refine gz_ireturn dX5_byteAt_22 rfl rfl ?_
    first
      | (rw [hn (by omega)] at hq; exact hq)
      | exact hq
  ·
    refine gz_iload_n dX5_byteAt_12 rfl ?_
    refine gz_aload_n dX5_byteAt_13 rfl ?_
    refine gz_getf 0 dX5_byteAt_14 rfl rfl wf_Heliographs_Tape_9 (by decide) rfl ?_
    refine gz_alen (k := 0) dX5_byteAt_17 rfl (by decide) ?_
    refine zz_icmp_lt (tgt := 23) dX5_byteAt_18 rfl (by omega) (fun b18 => ?_) (fun b18 => ?_)
    rotate_left
    · exact absurd b18 (by omega)
    refine gz_aload_n dX5_byteAt_23 rfl ?_
    refine gz_getf 0 dX5_byteAt_24 rfl rfl wf_Heliographs_Tape_9 (by decide) rfl ?_
    refine gz_iload_n dX5_byteAt_27 rfl ?_
    refine gz_iald (n := q) dX5_byteAt_28 rfl rfl (by omega) (zv_i (hb (hne (by omega))).1) ?_
    refine gz_ireturn dX5_byteAt_29 rfl rfl ?_
    first
      | (rw [hn (by omega)] at hq; exact hq)
      | exact hq
theorem zs_isLetter {x : Int} (hx : -1 ≤ x ∧ x < 65536) : zk_Does l Γ mX6_isLetter d 0 0 [.int (iZ x)] (zb_M Z) F (some (.int (iZ (bI (isL x))))) (zb_M Z) F := by
  intro Q hq
  refine gz_iload_n dX6_isLetter_0 rfl ?_
  refine zz_bipush (x := 97) dX6_isLetter_1 rfl ?_
  refine zz_icmp_lt (tgt := 16) dX6_isLetter_3 rfl (by omega) (fun b3 => ?_) (fun b3 => ?_)
  ·
    refine zz_iconst dX6_isLetter_16 ?_
    refine gz_ireturn dX6_isLetter_17 rfl rfl ?_
    first
      | (rw [bI_t (by unfold isL; simp only [decide_eq_true_eq]; omega)] at hq; exact hq)
      | (rw [bI_f (by unfold isL; simp only [decide_eq_true_eq]; omega)] at hq; exact hq)
  ·
    refine gz_iload_n dX6_isLetter_6 rfl ?_
    refine zz_bipush (x := 122) dX6_isLetter_7 rfl ?_
    refine zz_icmp_gt (tgt := 16) dX6_isLetter_9 rfl (by omega) (fun b9 => ?_) (fun b9 => ?_)
    ·
      refine zz_iconst dX6_isLetter_16 ?_
      refine gz_ireturn dX6_isLetter_17 rfl rfl ?_
      first
        | (rw [bI_t (by unfold isL; simp only [decide_eq_true_eq]; omega)] at hq; exact hq)
        | (rw [bI_f (by unfold isL; simp only [decide_eq_true_eq]; omega)] at hq; exact hq)
    ·
      refine zz_iconst dX6_isLetter_12 ?_
      refine gz_goto (tgt := 17) dX6_isLetter_13 rfl ?_
      refine gz_ireturn dX6_isLetter_17 rfl rfl ?_
      first
        | (rw [bI_t (by unfold isL; simp only [decide_eq_true_eq]; omega)] at hq; exact hq)
        | (rw [bI_f (by unfold isL; simp only [decide_eq_true_eq]; omega)] at hq; exact hq)
theorem zs_isDigit {x : Int} (hx : -1 ≤ x ∧ x < 65536) : zk_Does l Γ mX6_isDigit d 0 0 [.int (iZ x)] (zb_M Z) F (some (.int (iZ (bI (isD x))))) (zb_M Z) F := by
  intro Q hq
  refine gz_iload_n dX6_isDigit_0 rfl ?_
  refine zz_bipush (x := 48) dX6_isDigit_1 rfl ?_
  refine zz_icmp_lt (tgt := 16) dX6_isDigit_3 rfl (by omega) (fun b3 => ?_) (fun b3 => ?_)
  ·
    refine zz_iconst dX6_isDigit_16 ?_
    refine gz_ireturn dX6_isDigit_17 rfl rfl ?_
    first
      | (rw [bI_t (by unfold isD; simp only [decide_eq_true_eq]; omega)] at hq; exact hq)
      | (rw [bI_f (by unfold isD; simp only [decide_eq_true_eq]; omega)] at hq; exact hq)
  ·
    refine gz_iload_n dX6_isDigit_6 rfl ?_
    refine zz_bipush (x := 57) dX6_isDigit_7 rfl ?_
    refine zz_icmp_gt (tgt := 16) dX6_isDigit_9 rfl (by omega) (fun b9 => ?_) (fun b9 => ?_)
    ·
      refine zz_iconst dX6_isDigit_16 ?_
      refine gz_ireturn dX6_isDigit_17 rfl rfl ?_
      first
        | (rw [bI_t (by unfold isD; simp only [decide_eq_true_eq]; omega)] at hq; exact hq)
        | (rw [bI_f (by unfold isD; simp only [decide_eq_true_eq]; omega)] at hq; exact hq)
    ·
      refine zz_iconst dX6_isDigit_12 ?_
      refine gz_goto (tgt := 17) dX6_isDigit_13 rfl ?_
      refine gz_ireturn dX6_isDigit_17 rfl rfl ?_
      first
        | (rw [bI_t (by unfold isD; simp only [decide_eq_true_eq]; omega)] at hq; exact hq)
        | (rw [bI_f (by unfold isD; simp only [decide_eq_true_eq]; omega)] at hq; exact hq)
def sBl : List Int → Nat
  | [] => 0
  | c :: s => if c = 32 ∨ c = 10 then sBl s + 1 else 0
theorem zb_u_self (Z : zV) (a j : Nat) {z : Int} (h : Z a j = z) : zb_u Z a j z = Z := by
  funext x y
  unfold zb_u
  by_cases e : x = a ∧ y = j
  · rw [if_pos e, e.1, e.2, h]
  · rw [if_neg e]
theorem zb_u_u (Z : zV) (a j : Nat) (z y : Int) : zb_u (zb_u Z a j z) a j y = zb_u Z a j y := by
  funext x w
  unfold zb_u
  by_cases e : x = a ∧ w = j
  · rw [if_pos e, if_pos e]
  · rw [if_neg e, if_neg e, if_neg e]
theorem hTp_no {Z : zV} {a j : Nat} {z : Int} (ha : a ≠ 321 ∧ a ≠ 322) {q : Nat} {s : List Int} (h : hTp Z q s) : hTp (zb_u Z a j z) q s := hTp_to (zb_u_a _ _ (by omega)) (fun _ => zb_u_a _ _ (by omega)) h
theorem zs_skip (hd : 1 ≤ d) {Q : Option Value → zk_M → (Heap → Prop) → Prop} : ∀ (n q : Nat) (s : List Int) (Z : zV), s.length = n → Z 323 5 = (q : Int) → hTp Z q s → Q none (zb_M (zb_u Z 323 5 ((q + sBl s : Nat) : Int))) F → zk_Go l Γ mX6_skipBlanks d 0 0 Q 0 [some (.ref 323), some (.ref 321)] [] (zb_M Z) F := by
  intro n
  induction n with
  | zero =>
    intro q s Z hn h5 h hq
    have hl := hTp_len h
    cases s with
    | cons c s2 => exact absurd hn (by show ¬ s2.length + 1 = 0; omega)
    | nil =>
    have hq3 : Q none (zb_M Z) F := by rw [show q + sBl [] = q from rfl, zb_u_self Z 323 5 h5] at hq; exact hq
    have hl1 := hl.1
    simp only [List.length_nil, Nat.add_zero] at hl1
    refine gz_aload_n dX6_skipBlanks_0 rfl ?_
    refine gz_getf 5 dX6_skipBlanks_1 rfl rfl wf_Heliographs_Tokens_32 (by decide) (zv_i h5) ?_
    refine gz_aload_n dX6_skipBlanks_4 rfl ?_
    refine gz_getf 1 dX6_skipBlanks_5 rfl rfl wf_Heliographs_Tokens_43 (by decide) (zv_i hl.1) ?_
    refine zz_icmp_ge (tgt := 50) dX6_skipBlanks_8 rfl (by omega) (fun b8 => ?_) (fun b8 => ?_)
    rotate_left
    · exact absurd b8 (by omega)
    refine gz_return_ dX6_skipBlanks_50 rfl ?_
    exact hq3
  | succ n ih =>
    intro q s Z hn h5 h hq
    have hl := hTp_len h
    cases s with
    | nil => exact absurd hn (by show ¬ 0 = n + 1; omega)
    | cons c s2 =>
    have hn2 : s2.length = n := by have : (c :: s2).length = s2.length + 1 := rfl; omega
    have e0 : sHead (c :: s2) = c := rfl
    have hcb := h.2.1
    have el : (c :: s2).length = s2.length + 1 := rfl
    rw [el] at hl
    have hno : ¬ (c = 32 ∨ c = 10) → Q none (zb_M Z) F := fun e => by
      rw [show sBl (c :: s2) = 0 from if_neg e, Nat.add_zero, zb_u_self Z 323 5 h5] at hq
      exact hq
    have hyes : (c = 32 ∨ c = 10) → Q none (zb_M (zb_u Z 323 5 ((q + 1 + sBl s2 : Nat) : Int))) F := fun e => by
      rw [show sBl (c :: s2) = sBl s2 + 1 from if_pos e, show q + (sBl s2 + 1) = q + 1 + sBl s2 from by omega] at hq
      exact hq
    refine gz_aload_n dX6_skipBlanks_0 rfl ?_
    refine gz_getf 5 dX6_skipBlanks_1 rfl rfl wf_Heliographs_Tokens_32 (by decide) (zv_i h5) ?_
    refine gz_aload_n dX6_skipBlanks_4 rfl ?_
    refine gz_getf 1 dX6_skipBlanks_5 rfl rfl wf_Heliographs_Tokens_43 (by decide) (zv_i hl.1) ?_
    refine zz_icmp_ge (tgt := 50) dX6_skipBlanks_8 rfl (by omega) (fun b8 => ?_) (fun b8 => ?_)
    · exact absurd b8 (by omega)
    refine gz_aload_n dX6_skipBlanks_11 rfl ?_
    refine gz_aload_n dX6_skipBlanks_12 rfl ?_
    refine gz_getf 5 dX6_skipBlanks_13 rfl rfl wf_Heliographs_Tokens_32 (by decide) (zv_i h5) ?_
    refine gv_1 (J := mX5_byteAt) (d1 := d - 1) dX6_skipBlanks_16 wm_Heliographs_Tokens_59 rfl jzX5_byteAt (Nat.le_of_ble_eq_true rfl) (Nat.le_of_ble_eq_true rfl) (by omega) ⟨Nat.le_refl _, Nat.le_refl _⟩ (zs_byteAt h) ?_
    refine zz_bipush (x := 32) dX6_skipBlanks_19 rfl ?_
    refine zz_icmp_eq (tgt := 37) dX6_skipBlanks_21 rfl (by omega) (fun b21 => ?_) (fun b21 => ?_)
    ·
      refine gz_aload_n dX6_skipBlanks_37 rfl ?_
      refine gz_dup dX6_skipBlanks_38 rfl ?_
      refine gz_getf 5 dX6_skipBlanks_39 rfl rfl wf_Heliographs_Tokens_32 (by decide) (zv_i h5) ?_
      refine zz_iconst dX6_skipBlanks_42 ?_
      refine zz_iadd dX6_skipBlanks_43 ?_
      refine zc_putf 5 dX6_skipBlanks_44 rfl rfl wf_Heliographs_Tokens_32 (by decide) (by decide) jo_Heliographs_Tokens ju_Heliographs_Tokens rfl tyX6 tyX6_ok nmX6 rfl (fun _ => ⟨rfl, rfl⟩) rfl ?_
      refine gz_goto (tgt := 0) dX6_skipBlanks_47 rfl ?_
      exact ih (q + 1) s2 _ hn2 (zb_u_at _ _ _ _) (hTp_no (by decide) h.2.2) (by rw [zb_u_u]; exact hyes (by omega))
    ·
      refine gz_aload_n dX6_skipBlanks_24 rfl ?_
      refine gz_aload_n dX6_skipBlanks_25 rfl ?_
      refine gz_getf 5 dX6_skipBlanks_26 rfl rfl wf_Heliographs_Tokens_32 (by decide) (zv_i h5) ?_
      refine gv_1 (J := mX5_byteAt) (d1 := d - 1) dX6_skipBlanks_29 wm_Heliographs_Tokens_59 rfl jzX5_byteAt (Nat.le_of_ble_eq_true rfl) (Nat.le_of_ble_eq_true rfl) (by omega) ⟨Nat.le_refl _, Nat.le_refl _⟩ (zs_byteAt h) ?_
      refine zz_bipush (x := 10) dX6_skipBlanks_32 rfl ?_
      refine zz_icmp_ne (tgt := 50) dX6_skipBlanks_34 rfl (by omega) (fun b34 => ?_) (fun b34 => ?_)
      ·
        refine gz_return_ dX6_skipBlanks_50 rfl ?_
        exact hno (by omega)
      ·
        refine gz_aload_n dX6_skipBlanks_37 rfl ?_
        refine gz_dup dX6_skipBlanks_38 rfl ?_
        refine gz_getf 5 dX6_skipBlanks_39 rfl rfl wf_Heliographs_Tokens_32 (by decide) (zv_i h5) ?_
        refine zz_iconst dX6_skipBlanks_42 ?_
        refine zz_iadd dX6_skipBlanks_43 ?_
        refine zc_putf 5 dX6_skipBlanks_44 rfl rfl wf_Heliographs_Tokens_32 (by decide) (by decide) jo_Heliographs_Tokens ju_Heliographs_Tokens rfl tyX6 tyX6_ok nmX6 rfl (fun _ => ⟨rfl, rfl⟩) rfl ?_
        refine gz_goto (tgt := 0) dX6_skipBlanks_47 rfl ?_
        exact ih (q + 1) s2 _ hn2 (zb_u_at _ _ _ _) (hTp_no (by decide) h.2.2) (by rw [zb_u_u]; exact hyes (by omega))
end

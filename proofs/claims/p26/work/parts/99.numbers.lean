/-! THE BUILDER OF TEXTS: numbers -/
section
variable {l : Launch} {Γ : zk_G} {d : Nat} {F : Heap → Prop}
/-- a number below 1000 in letters -/
def zDec (x : Nat) : List Int := if x < 10 then [48 + (x : Int)] else if x < 100 then [48 + (x : Int) / 10, 48 + (x : Int) % 10] else [48 + (x : Int) / 100, 48 + (x : Int) / 10 % 10, 48 + (x : Int) % 10]
theorem zDec_len (x : Nat) : (zDec x).length = if x < 10 then 1 else if x < 100 then 2 else 3 := by unfold zDec; (repeat' split) <;> rfl
theorem zDec_bd {x : Nat} (hx : x < 1000) : ∀ c ∈ zDec x, 0 ≤ c ∧ c < 128 := by
  intro c hc
  unfold zDec at hc
  (repeat' split at hc) <;> simp only [List.mem_cons, List.mem_nil_iff, or_false] at hc <;> omega
/-- the machine's digits -/
def zDig (M : zk_M) : Prop := M.1 49 = (103, 100) ∧ M.1 50 = (103, 100) ∧ ∀ j, j < 100 → M.2.2 49 j = .int (iZ (48 + (j : Int) % 10)) ∧ M.2.2 50 j = .int (iZ (48 + (j : Int) / 10))
theorem zDig_keep {M M' : zk_M} {a b b' : Nat} (h : zDig M) (hn : 320 ≤ M.2.1) (ha : 320 ≤ a) (hb : 320 ≤ b) (hk : zKp M M' a b b') : zDig M' := by
  obtain ⟨h1, h2, h3⟩ := h
  obtain ⟨k1, k2, k3, k4⟩ := hk
  refine ⟨(k2 49 (by omega)).trans h1, (k2 50 (by omega)).trans h2, fun j hj => ?_⟩
  rw [k3 49 (by omega) (by omega) (by omega), k3 50 (by omega) (by omega) (by omega)]
  exact h3 j hj
theorem iZ_div100 : ∀ x : Fin 1000, iZ (-((x.val : Nat) : Int)) / iZ 100 = iZ (-((x.val / 100 : Nat) : Int)) := by decide +kernel
section
variable {M : zk_M} {a b cap : Nat} {t : List Int}
theorem ji_size {x : Nat} (hx : x < 1000) : zk_Does l Γ mJ6_stringSize_0f7a4 d 0 0 [.int (iZ (x : Int))] M F (some (.int (iZ ((zDec x).length : Int)))) M F := by
  intro Q hq
  rw [zDec_len] at hq
  refine zz_iconst dJ6_stringSize_0f7a4_0 ?_
  refine gz_istore_n (L2 := [some (.int (iZ ((x : Int)))), some (.int (iZ (1))), none, none]) dJ6_stringSize_0f7a4_1 (Nat.le_of_ble_eq_true rfl) rfl ?_
  refine gz_iload_n dJ6_stringSize_0f7a4_2 rfl ?_
  refine zz_if_lt (tgt := 11) dJ6_stringSize_0f7a4_3 rfl (by omega) (fun b3 => ?_) (fun b3 => ?_)
  · exact absurd b3 (by omega)
  refine zz_iconst dJ6_stringSize_0f7a4_6 ?_
  refine gz_istore_n (L2 := [some (.int (iZ ((x : Int)))), some (.int (iZ (0))), none, none]) dJ6_stringSize_0f7a4_7 (Nat.le_of_ble_eq_true rfl) rfl ?_
  refine gz_iload_n dJ6_stringSize_0f7a4_8 rfl ?_
  refine zz_ineg dJ6_stringSize_0f7a4_9 ?_
  refine gz_istore_n (L2 := [some (.int (iZ (-(x : Int)))), some (.int (iZ (0))), none, none]) dJ6_stringSize_0f7a4_10 (Nat.le_of_ble_eq_true rfl) rfl ?_
  refine zz_bipush (x := -10) dJ6_stringSize_0f7a4_11 rfl ?_
  refine gz_istore_n (L2 := [some (.int (iZ (-(x : Int)))), some (.int (iZ (0))), some (.int (iZ (-10))), none]) dJ6_stringSize_0f7a4_13 (Nat.le_of_ble_eq_true rfl) rfl ?_
  refine zz_iconst dJ6_stringSize_0f7a4_14 ?_
  refine gz_istore_n (L2 := [some (.int (iZ (-(x : Int)))), some (.int (iZ (0))), some (.int (iZ (-10))), some (.int (iZ (1)))]) dJ6_stringSize_0f7a4_15 (Nat.le_of_ble_eq_true rfl) rfl ?_
  by_cases h1 : x < 10
  · rw [if_pos h1] at hq
    refine gz_iload_n dJ6_stringSize_0f7a4_16 rfl ?_
    refine zz_bipush (x := 10) dJ6_stringSize_0f7a4_17 rfl ?_
    refine zz_icmp_ge (tgt := 42) dJ6_stringSize_0f7a4_19 rfl (by omega) (fun b19 => ?_) (fun b19 => ?_)
    · exact absurd b19 (by omega)
    refine gz_iload_n dJ6_stringSize_0f7a4_22 rfl ?_
    refine gz_iload_n dJ6_stringSize_0f7a4_23 rfl ?_
    refine zz_icmp_le (tgt := 31) dJ6_stringSize_0f7a4_24 rfl (by omega) (fun b24 => ?_) (fun b24 => ?_)
    · exact absurd b24 (by omega)
    refine gz_iload_n dJ6_stringSize_0f7a4_27 rfl ?_
    refine gz_iload_n dJ6_stringSize_0f7a4_28 rfl ?_
    refine zz_iadd dJ6_stringSize_0f7a4_29 ?_
    refine gz_ireturn dJ6_stringSize_0f7a4_30 rfl rfl ?_
    exact hq
  · rw [if_neg h1] at hq
    refine gz_iload_n dJ6_stringSize_0f7a4_16 rfl ?_
    refine zz_bipush (x := 10) dJ6_stringSize_0f7a4_17 rfl ?_
    refine zz_icmp_ge (tgt := 42) dJ6_stringSize_0f7a4_19 rfl (by omega) (fun b19 => ?_) (fun b19 => ?_)
    · exact absurd b19 (by omega)
    refine gz_iload_n dJ6_stringSize_0f7a4_22 rfl ?_
    refine gz_iload_n dJ6_stringSize_0f7a4_23 rfl ?_
    refine zz_icmp_le (tgt := 31) dJ6_stringSize_0f7a4_24 rfl (by omega) (fun b24 => ?_) (fun b24 => ?_)
    rotate_left
    · exact absurd b24 (by omega)
    refine zz_bipush (x := 10) dJ6_stringSize_0f7a4_31 rfl ?_
    refine gz_iload_n dJ6_stringSize_0f7a4_33 rfl ?_
    refine zz_imul dJ6_stringSize_0f7a4_34 ?_
    refine gz_istore_n (L2 := [some (.int (iZ (-(x : Int)))), some (.int (iZ (0))), some (.int (iZ (-100))), some (.int (iZ (1)))]) dJ6_stringSize_0f7a4_35 (Nat.le_of_ble_eq_true rfl) rfl ?_
    refine zz_iinc (L2 := [some (.int (iZ (-(x : Int)))), some (.int (iZ (0))), some (.int (iZ (-100))), some (.int (iZ (2)))]) dJ6_stringSize_0f7a4_36 rfl rfl ?_
    refine gz_goto (tgt := 16) dJ6_stringSize_0f7a4_39 rfl ?_
    by_cases h2 : x < 100
    · rw [if_pos h2] at hq
      refine gz_iload_n dJ6_stringSize_0f7a4_16 rfl ?_
      refine zz_bipush (x := 10) dJ6_stringSize_0f7a4_17 rfl ?_
      refine zz_icmp_ge (tgt := 42) dJ6_stringSize_0f7a4_19 rfl (by omega) (fun b19 => ?_) (fun b19 => ?_)
      · exact absurd b19 (by omega)
      refine gz_iload_n dJ6_stringSize_0f7a4_22 rfl ?_
      refine gz_iload_n dJ6_stringSize_0f7a4_23 rfl ?_
      refine zz_icmp_le (tgt := 31) dJ6_stringSize_0f7a4_24 rfl (by omega) (fun b24 => ?_) (fun b24 => ?_)
      · exact absurd b24 (by omega)
      refine gz_iload_n dJ6_stringSize_0f7a4_27 rfl ?_
      refine gz_iload_n dJ6_stringSize_0f7a4_28 rfl ?_
      refine zz_iadd dJ6_stringSize_0f7a4_29 ?_
      refine gz_ireturn dJ6_stringSize_0f7a4_30 rfl rfl ?_
      exact hq
    · rw [if_neg h2] at hq
      refine gz_iload_n dJ6_stringSize_0f7a4_16 rfl ?_
      refine zz_bipush (x := 10) dJ6_stringSize_0f7a4_17 rfl ?_
      refine zz_icmp_ge (tgt := 42) dJ6_stringSize_0f7a4_19 rfl (by omega) (fun b19 => ?_) (fun b19 => ?_)
      · exact absurd b19 (by omega)
      refine gz_iload_n dJ6_stringSize_0f7a4_22 rfl ?_
      refine gz_iload_n dJ6_stringSize_0f7a4_23 rfl ?_
      refine zz_icmp_le (tgt := 31) dJ6_stringSize_0f7a4_24 rfl (by omega) (fun b24 => ?_) (fun b24 => ?_)
      rotate_left
      · exact absurd b24 (by omega)
      refine zz_bipush (x := 10) dJ6_stringSize_0f7a4_31 rfl ?_
      refine gz_iload_n dJ6_stringSize_0f7a4_33 rfl ?_
      refine zz_imul dJ6_stringSize_0f7a4_34 ?_
      refine gz_istore_n (L2 := [some (.int (iZ (-(x : Int)))), some (.int (iZ (0))), some (.int (iZ (-1000))), some (.int (iZ (2)))]) dJ6_stringSize_0f7a4_35 (Nat.le_of_ble_eq_true rfl) rfl ?_
      refine zz_iinc (L2 := [some (.int (iZ (-(x : Int)))), some (.int (iZ (0))), some (.int (iZ (-1000))), some (.int (iZ (3)))]) dJ6_stringSize_0f7a4_36 rfl rfl ?_
      refine gz_goto (tgt := 16) dJ6_stringSize_0f7a4_39 rfl ?_
      refine gz_iload_n dJ6_stringSize_0f7a4_16 rfl ?_
      refine zz_bipush (x := 10) dJ6_stringSize_0f7a4_17 rfl ?_
      refine zz_icmp_ge (tgt := 42) dJ6_stringSize_0f7a4_19 rfl (by omega) (fun b19 => ?_) (fun b19 => ?_)
      · exact absurd b19 (by omega)
      refine gz_iload_n dJ6_stringSize_0f7a4_22 rfl ?_
      refine gz_iload_n dJ6_stringSize_0f7a4_23 rfl ?_
      refine zz_icmp_le (tgt := 31) dJ6_stringSize_0f7a4_24 rfl (by omega) (fun b24 => ?_) (fun b24 => ?_)
      · exact absurd b24 (by omega)
      refine gz_iload_n dJ6_stringSize_0f7a4_27 rfl ?_
      refine gz_iload_n dJ6_stringSize_0f7a4_28 rfl ?_
      refine zz_iadd dJ6_stringSize_0f7a4_29 ?_
      refine gz_ireturn dJ6_stringSize_0f7a4_30 rfl rfl ?_
      exact hq
theorem zk_up_j {G : Nat → Nat → Value} {a j k : Nat} {v : Value} (h : k = j) : zk_up G a j v a k = v := by rw [h]; exact zk_up_a2
theorem ji_chars1 {x n : Nat} (hg : zDig M) (hx : x < 10) (hb : M.1 b = (103, cap)) (hb2 : 320 ≤ b) (hc : cap < 100000) (hn : n + (zDec x).length ≤ cap) : zDo l Γ mJ6_getChars_ba4f3 d 0 0 [.int (iZ (x : Int)), .int (iZ ((n + (zDec x).length : Nat) : Int)), .ref b] M F (fun v M' => (∃ z, v = some (.int z)) ∧ M'.1 = M.1 ∧ M'.2.1 = M.2.1 ∧ (∀ c, c ≠ b → M'.2.2 c = M.2.2 c) ∧ ∀ j, M'.2.2 b j = if n ≤ j ∧ j < n + (zDec x).length then .int (iZ ((zDec x).getD (j - n) 0)) else M.2.2 b j) := by
  intro Q hq
  have el : (zDec x).length = 1 := by rw [zDec_len]; (repeat' split) <;> omega
  have ed : zDec x = [48 + (x : Int)] := by unfold zDec; (repeat' split) <;> first | rfl | omega
  obtain ⟨h1, h2, h3⟩ := hg
  rw [el] at hn ⊢
  refine gz_iload_n dJ6_getChars_ba4f3_0 rfl ?_
  refine gz_istore (L2 := [some (.int (iZ ((x : Int)))), some (.int (iZ (((n + 1 : Nat) : Int)))), some (.ref b), none, none, some (.int (iZ (((n + 1 : Nat) : Int)))), none]) dJ6_getChars_ba4f3_1 (Nat.le_of_ble_eq_true rfl) rfl ?_
  refine gz_iload_n dJ6_getChars_ba4f3_3 rfl ?_
  refine zz_if_ge (tgt := 11) dJ6_getChars_ba4f3_4 rfl (by omega) (fun b4 => ?_) (fun b4 => ?_)
  rotate_left
  · exact absurd b4 (by omega)
  refine zz_iconst dJ6_getChars_ba4f3_11 ?_
  refine gz_istore (L2 := [some (.int (iZ ((x : Int)))), some (.int (iZ (((n + 1 : Nat) : Int)))), some (.ref b), none, none, some (.int (iZ (((n + 1 : Nat) : Int)))), some (.int (iZ (0)))]) dJ6_getChars_ba4f3_12 (Nat.le_of_ble_eq_true rfl) rfl ?_
  refine gz_iload dJ6_getChars_ba4f3_14 rfl ?_
  refine zz_if_ne (tgt := 22) dJ6_getChars_ba4f3_16 rfl (by omega) (fun b16 => ?_) (fun b16 => ?_)
  · exact absurd rfl b16
  refine gz_iload_n dJ6_getChars_ba4f3_19 rfl ?_
  refine zz_ineg dJ6_getChars_ba4f3_20 ?_
  refine gz_istore_n (L2 := [some (.int (iZ (-(x : Int)))), some (.int (iZ (((n + 1 : Nat) : Int)))), some (.ref b), none, none, some (.int (iZ (((n + 1 : Nat) : Int)))), some (.int (iZ (0)))]) dJ6_getChars_ba4f3_21 (Nat.le_of_ble_eq_true rfl) rfl ?_
  refine gz_iload_n dJ6_getChars_ba4f3_22 rfl ?_
  refine zz_bipush (x := -100) dJ6_getChars_ba4f3_23 rfl ?_
  refine zz_icmp_gt (tgt := 72) dJ6_getChars_ba4f3_25 rfl (by omega) (fun b25 => ?_) (fun b25 => ?_)
  rotate_left
  · exact absurd b25 (by omega)
  refine gz_aload_n dJ6_getChars_ba4f3_72 rfl ?_
  refine zz_iinc (L2 := [some (.int (iZ (-(x : Int)))), some (.int (iZ (((n + 1 : Nat) : Int)))), some (.ref b), none, none, some (.int (iZ (((n + 1 : Nat) : Int) + -1))), some (.int (iZ (0)))]) dJ6_getChars_ba4f3_73 rfl rfl ?_
  refine gz_iload dJ6_getChars_ba4f3_76 rfl ?_
  refine gz_gets (v := .ref 49) dJ6_getChars_ba4f3_78 (by decide) wf_Integer_83 (by show _ < _; decide) ?_
  refine gz_iload_n dJ6_getChars_ba4f3_81 rfl ?_
  refine zz_ineg dJ6_getChars_ba4f3_82 ?_
  refine gz_bald (n := x) (v := .int (iZ (48 + ((x : Nat) : Int) % 10))) dJ6_getChars_ba4f3_83 h1 (by omega) (by omega) (h3 _ (by omega)).1 ?_
  refine gz_bast (n := n) dJ6_getChars_ba4f3_84 hb hb2 (by omega) (by omega) (nar_byte (by omega)).1 ?_
  refine gz_iload_n dJ6_getChars_ba4f3_85 rfl ?_
  refine zz_bipush (x := -9) dJ6_getChars_ba4f3_86 rfl ?_
  refine zz_icmp_ge (tgt := 104) dJ6_getChars_ba4f3_88 rfl (by omega) (fun b88 => ?_) (fun b88 => ?_)
  rotate_left
  · exact absurd b88 (by omega)
  refine gz_iload dJ6_getChars_ba4f3_104 rfl ?_
  refine zz_if_eq (tgt := 118) dJ6_getChars_ba4f3_106 rfl (by omega) (fun b106 => ?_) (fun b106 => ?_)
  rotate_left
  · exact absurd rfl b106
  refine gz_iload dJ6_getChars_ba4f3_118 rfl ?_
  refine gz_ireturn dJ6_getChars_ba4f3_120 rfl rfl ?_
  refine hq _ _ ⟨⟨_, rfl⟩, rfl, rfl, fun c hc => ?_, fun j => ?_⟩
  · show zk_up M.2.2 b _ _ c = _
    rw [zk_up_ne hc]
  · show zk_up M.2.2 b _ _ b j = _
    rw [el, ed]
    by_cases q0 : j = n + 0
    · rw [q0, if_pos ⟨by omega, by omega⟩, show n + 0 - n = 0 by omega]
      refine ((zk_up_j (by omega)).trans ?_)
      show Value.int (iZ _) = Value.int (iZ _)
      exact congrArg (fun z => Value.int (iZ z)) (by show 48 + (x : Int) % 10 = 48 + (x : Int); omega)
    ·
      rw [if_neg (by omega)]
      exact (zk_up_n2 (Or.inr (by omega)))
theorem ji_chars2 {x n : Nat} (hg : zDig M) (hx : 10 ≤ x ∧ x < 100) (hb : M.1 b = (103, cap)) (hb2 : 320 ≤ b) (hc : cap < 100000) (hn : n + (zDec x).length ≤ cap) : zDo l Γ mJ6_getChars_ba4f3 d 0 0 [.int (iZ (x : Int)), .int (iZ ((n + (zDec x).length : Nat) : Int)), .ref b] M F (fun v M' => (∃ z, v = some (.int z)) ∧ M'.1 = M.1 ∧ M'.2.1 = M.2.1 ∧ (∀ c, c ≠ b → M'.2.2 c = M.2.2 c) ∧ ∀ j, M'.2.2 b j = if n ≤ j ∧ j < n + (zDec x).length then .int (iZ ((zDec x).getD (j - n) 0)) else M.2.2 b j) := by
  intro Q hq
  have el : (zDec x).length = 2 := by rw [zDec_len]; (repeat' split) <;> omega
  have ed : zDec x = [48 + (x : Int) / 10, 48 + (x : Int) % 10] := by unfold zDec; (repeat' split) <;> first | rfl | omega
  obtain ⟨h1, h2, h3⟩ := hg
  rw [el] at hn ⊢
  refine gz_iload_n dJ6_getChars_ba4f3_0 rfl ?_
  refine gz_istore (L2 := [some (.int (iZ ((x : Int)))), some (.int (iZ (((n + 2 : Nat) : Int)))), some (.ref b), none, none, some (.int (iZ (((n + 2 : Nat) : Int)))), none]) dJ6_getChars_ba4f3_1 (Nat.le_of_ble_eq_true rfl) rfl ?_
  refine gz_iload_n dJ6_getChars_ba4f3_3 rfl ?_
  refine zz_if_ge (tgt := 11) dJ6_getChars_ba4f3_4 rfl (by omega) (fun b4 => ?_) (fun b4 => ?_)
  rotate_left
  · exact absurd b4 (by omega)
  refine zz_iconst dJ6_getChars_ba4f3_11 ?_
  refine gz_istore (L2 := [some (.int (iZ ((x : Int)))), some (.int (iZ (((n + 2 : Nat) : Int)))), some (.ref b), none, none, some (.int (iZ (((n + 2 : Nat) : Int)))), some (.int (iZ (0)))]) dJ6_getChars_ba4f3_12 (Nat.le_of_ble_eq_true rfl) rfl ?_
  refine gz_iload dJ6_getChars_ba4f3_14 rfl ?_
  refine zz_if_ne (tgt := 22) dJ6_getChars_ba4f3_16 rfl (by omega) (fun b16 => ?_) (fun b16 => ?_)
  · exact absurd rfl b16
  refine gz_iload_n dJ6_getChars_ba4f3_19 rfl ?_
  refine zz_ineg dJ6_getChars_ba4f3_20 ?_
  refine gz_istore_n (L2 := [some (.int (iZ (-(x : Int)))), some (.int (iZ (((n + 2 : Nat) : Int)))), some (.ref b), none, none, some (.int (iZ (((n + 2 : Nat) : Int)))), some (.int (iZ (0)))]) dJ6_getChars_ba4f3_21 (Nat.le_of_ble_eq_true rfl) rfl ?_
  refine gz_iload_n dJ6_getChars_ba4f3_22 rfl ?_
  refine zz_bipush (x := -100) dJ6_getChars_ba4f3_23 rfl ?_
  refine zz_icmp_gt (tgt := 72) dJ6_getChars_ba4f3_25 rfl (by omega) (fun b25 => ?_) (fun b25 => ?_)
  rotate_left
  · exact absurd b25 (by omega)
  refine gz_aload_n dJ6_getChars_ba4f3_72 rfl ?_
  refine zz_iinc (L2 := [some (.int (iZ (-(x : Int)))), some (.int (iZ (((n + 2 : Nat) : Int)))), some (.ref b), none, none, some (.int (iZ (((n + 2 : Nat) : Int) + -1))), some (.int (iZ (0)))]) dJ6_getChars_ba4f3_73 rfl rfl ?_
  refine gz_iload dJ6_getChars_ba4f3_76 rfl ?_
  refine gz_gets (v := .ref 49) dJ6_getChars_ba4f3_78 (by decide) wf_Integer_83 (by show _ < _; decide) ?_
  refine gz_iload_n dJ6_getChars_ba4f3_81 rfl ?_
  refine zz_ineg dJ6_getChars_ba4f3_82 ?_
  refine gz_bald (n := x) (v := .int (iZ (48 + ((x : Nat) : Int) % 10))) dJ6_getChars_ba4f3_83 h1 (by omega) (by omega) (h3 _ (by omega)).1 ?_
  refine gz_bast (n := (n + 1)) dJ6_getChars_ba4f3_84 hb hb2 (by omega) (by omega) (nar_byte (by omega)).1 ?_
  refine gz_iload_n dJ6_getChars_ba4f3_85 rfl ?_
  refine zz_bipush (x := -9) dJ6_getChars_ba4f3_86 rfl ?_
  refine zz_icmp_ge (tgt := 104) dJ6_getChars_ba4f3_88 rfl (by omega) (fun b88 => ?_) (fun b88 => ?_)
  · exact absurd b88 (by omega)
  refine gz_aload_n dJ6_getChars_ba4f3_91 rfl ?_
  refine zz_iinc (L2 := [some (.int (iZ (-(x : Int)))), some (.int (iZ (((n + 2 : Nat) : Int)))), some (.ref b), none, none, some (.int (iZ (((n + 2 : Nat) : Int) + -1 + -1))), some (.int (iZ (0)))]) dJ6_getChars_ba4f3_92 rfl rfl ?_
  refine gz_iload dJ6_getChars_ba4f3_95 rfl ?_
  refine gz_gets (v := .ref 50) dJ6_getChars_ba4f3_97 (by decide) wf_Integer_87 (by show _ < _; decide) ?_
  refine gz_iload_n dJ6_getChars_ba4f3_100 rfl ?_
  refine zz_ineg dJ6_getChars_ba4f3_101 ?_
  refine gz_bald (n := x) (v := .int (iZ (48 + ((x : Nat) : Int) / 10))) dJ6_getChars_ba4f3_102 h2 (by omega) (by omega) ((congrFun (zk_up_ne (by omega)) _).trans (h3 _ (by omega)).2) ?_
  refine gz_bast (n := n) dJ6_getChars_ba4f3_103 hb hb2 (by omega) (by omega) (nar_byte (by omega)).1 ?_
  refine gz_iload dJ6_getChars_ba4f3_104 rfl ?_
  refine zz_if_eq (tgt := 118) dJ6_getChars_ba4f3_106 rfl (by omega) (fun b106 => ?_) (fun b106 => ?_)
  rotate_left
  · exact absurd rfl b106
  refine gz_iload dJ6_getChars_ba4f3_118 rfl ?_
  refine gz_ireturn dJ6_getChars_ba4f3_120 rfl rfl ?_
  refine hq _ _ ⟨⟨_, rfl⟩, rfl, rfl, fun c hc => ?_, fun j => ?_⟩
  · show zk_up (zk_up M.2.2 b _ _) b _ _ c = _
    rw [zk_up_ne hc, zk_up_ne hc]
  · show zk_up (zk_up M.2.2 b _ _) b _ _ b j = _
    rw [el, ed]
    by_cases q0 : j = n + 0
    · rw [q0, if_pos ⟨by omega, by omega⟩, show n + 0 - n = 0 by omega]
      refine ((zk_up_j (by omega)).trans ?_)
      show Value.int (iZ _) = Value.int (iZ _)
      exact congrArg (fun z => Value.int (iZ z)) (by show 48 + (x : Int) / 10 = 48 + (x : Int) / 10; rfl)
    ·
      by_cases q1 : j = n + 1
      · rw [q1, if_pos ⟨by omega, by omega⟩, show n + 1 - n = 1 by omega]
        refine (zk_up_n2 (Or.inr (by omega))).trans (((zk_up_j (by omega)).trans ?_))
        show Value.int (iZ _) = Value.int (iZ _)
        exact congrArg (fun z => Value.int (iZ z)) (by show 48 + (x : Int) % 10 = 48 + (x : Int) % 10; rfl)
      ·
        rw [if_neg (by omega)]
        exact (zk_up_n2 (Or.inr (by omega))).trans ((zk_up_n2 (Or.inr (by omega))))
theorem ji_chars3 {x n : Nat} (hg : zDig M) (hx : 100 ≤ x ∧ x < 1000) (hb : M.1 b = (103, cap)) (hb2 : 320 ≤ b) (hc : cap < 100000) (hn : n + (zDec x).length ≤ cap) : zDo l Γ mJ6_getChars_ba4f3 d 0 0 [.int (iZ (x : Int)), .int (iZ ((n + (zDec x).length : Nat) : Int)), .ref b] M F (fun v M' => (∃ z, v = some (.int z)) ∧ M'.1 = M.1 ∧ M'.2.1 = M.2.1 ∧ (∀ c, c ≠ b → M'.2.2 c = M.2.2 c) ∧ ∀ j, M'.2.2 b j = if n ≤ j ∧ j < n + (zDec x).length then .int (iZ ((zDec x).getD (j - n) 0)) else M.2.2 b j) := by
  intro Q hq
  have el : (zDec x).length = 3 := by rw [zDec_len]; (repeat' split) <;> omega
  have ed : zDec x = [48 + (x : Int) / 100, 48 + (x : Int) / 10 % 10, 48 + (x : Int) % 10] := by unfold zDec; (repeat' split) <;> first | rfl | omega
  obtain ⟨h1, h2, h3⟩ := hg
  rw [el] at hn ⊢
  refine gz_iload_n dJ6_getChars_ba4f3_0 rfl ?_
  refine gz_istore (L2 := [some (.int (iZ ((x : Int)))), some (.int (iZ (((n + 3 : Nat) : Int)))), some (.ref b), none, none, some (.int (iZ (((n + 3 : Nat) : Int)))), none]) dJ6_getChars_ba4f3_1 (Nat.le_of_ble_eq_true rfl) rfl ?_
  refine gz_iload_n dJ6_getChars_ba4f3_3 rfl ?_
  refine zz_if_ge (tgt := 11) dJ6_getChars_ba4f3_4 rfl (by omega) (fun b4 => ?_) (fun b4 => ?_)
  rotate_left
  · exact absurd b4 (by omega)
  refine zz_iconst dJ6_getChars_ba4f3_11 ?_
  refine gz_istore (L2 := [some (.int (iZ ((x : Int)))), some (.int (iZ (((n + 3 : Nat) : Int)))), some (.ref b), none, none, some (.int (iZ (((n + 3 : Nat) : Int)))), some (.int (iZ (0)))]) dJ6_getChars_ba4f3_12 (Nat.le_of_ble_eq_true rfl) rfl ?_
  refine gz_iload dJ6_getChars_ba4f3_14 rfl ?_
  refine zz_if_ne (tgt := 22) dJ6_getChars_ba4f3_16 rfl (by omega) (fun b16 => ?_) (fun b16 => ?_)
  · exact absurd rfl b16
  refine gz_iload_n dJ6_getChars_ba4f3_19 rfl ?_
  refine zz_ineg dJ6_getChars_ba4f3_20 ?_
  refine gz_istore_n (L2 := [some (.int (iZ (-(x : Int)))), some (.int (iZ (((n + 3 : Nat) : Int)))), some (.ref b), none, none, some (.int (iZ (((n + 3 : Nat) : Int)))), some (.int (iZ (0)))]) dJ6_getChars_ba4f3_21 (Nat.le_of_ble_eq_true rfl) rfl ?_
  refine gz_iload_n dJ6_getChars_ba4f3_22 rfl ?_
  refine zz_bipush (x := -100) dJ6_getChars_ba4f3_23 rfl ?_
  refine zz_icmp_gt (tgt := 72) dJ6_getChars_ba4f3_25 rfl (by omega) (fun b25 => ?_) (fun b25 => ?_)
  · exact absurd b25 (by omega)
  refine gz_iload_n dJ6_getChars_ba4f3_28 rfl ?_
  refine zz_bipush (x := 100) dJ6_getChars_ba4f3_29 rfl ?_
  have e31 := iZ_div100 ⟨x, by omega⟩
  dsimp only at e31
  refine gz_idiv dJ6_getChars_ba4f3_31 (by decide) ?_
  rw [e31]
  refine gz_istore_n (L2 := [some (.int (iZ (-(x : Int)))), some (.int (iZ (((n + 3 : Nat) : Int)))), some (.ref b), some (.int (iZ (-((x / 100 : Nat) : Int)))), none, some (.int (iZ (((n + 3 : Nat) : Int)))), some (.int (iZ (0)))]) dJ6_getChars_ba4f3_32 (Nat.le_of_ble_eq_true rfl) rfl ?_
  refine gz_iload_n dJ6_getChars_ba4f3_33 rfl ?_
  refine zz_bipush (x := 100) dJ6_getChars_ba4f3_34 rfl ?_
  refine zz_imul dJ6_getChars_ba4f3_36 ?_
  refine gz_iload_n dJ6_getChars_ba4f3_37 rfl ?_
  refine zz_isub dJ6_getChars_ba4f3_38 ?_
  refine gz_istore (L2 := [some (.int (iZ (-(x : Int)))), some (.int (iZ (((n + 3 : Nat) : Int)))), some (.ref b), some (.int (iZ (-((x / 100 : Nat) : Int)))), some (.int (iZ (-((x / 100 : Nat) : Int) * 100 - -(x : Int)))), some (.int (iZ (((n + 3 : Nat) : Int)))), some (.int (iZ (0)))]) dJ6_getChars_ba4f3_39 (Nat.le_of_ble_eq_true rfl) rfl ?_
  refine gz_iload_n dJ6_getChars_ba4f3_41 rfl ?_
  refine gz_istore_n (L2 := [some (.int (iZ (-((x / 100 : Nat) : Int)))), some (.int (iZ (((n + 3 : Nat) : Int)))), some (.ref b), some (.int (iZ (-((x / 100 : Nat) : Int)))), some (.int (iZ (-((x / 100 : Nat) : Int) * 100 - -(x : Int)))), some (.int (iZ (((n + 3 : Nat) : Int)))), some (.int (iZ (0)))]) dJ6_getChars_ba4f3_42 (Nat.le_of_ble_eq_true rfl) rfl ?_
  refine gz_aload_n dJ6_getChars_ba4f3_43 rfl ?_
  refine zz_iinc (L2 := [some (.int (iZ (-((x / 100 : Nat) : Int)))), some (.int (iZ (((n + 3 : Nat) : Int)))), some (.ref b), some (.int (iZ (-((x / 100 : Nat) : Int)))), some (.int (iZ (-((x / 100 : Nat) : Int) * 100 - -(x : Int)))), some (.int (iZ (((n + 3 : Nat) : Int) + -1))), some (.int (iZ (0)))]) dJ6_getChars_ba4f3_44 rfl rfl ?_
  refine gz_iload dJ6_getChars_ba4f3_47 rfl ?_
  refine gz_gets (v := .ref 49) dJ6_getChars_ba4f3_49 (by decide) wf_Integer_83 (by show _ < _; decide) ?_
  refine gz_iload dJ6_getChars_ba4f3_52 rfl ?_
  refine gz_bald (n := x % 100) (v := .int (iZ (48 + ((x % 100 : Nat) : Int) % 10))) dJ6_getChars_ba4f3_54 h1 (by omega) (by omega) (h3 _ (by omega)).1 ?_
  refine gz_bast (n := (n + 2)) dJ6_getChars_ba4f3_55 hb hb2 (by omega) (by omega) (nar_byte (by omega)).1 ?_
  refine gz_aload_n dJ6_getChars_ba4f3_56 rfl ?_
  refine zz_iinc (L2 := [some (.int (iZ (-((x / 100 : Nat) : Int)))), some (.int (iZ (((n + 3 : Nat) : Int)))), some (.ref b), some (.int (iZ (-((x / 100 : Nat) : Int)))), some (.int (iZ (-((x / 100 : Nat) : Int) * 100 - -(x : Int)))), some (.int (iZ (((n + 3 : Nat) : Int) + -1 + -1))), some (.int (iZ (0)))]) dJ6_getChars_ba4f3_57 rfl rfl ?_
  refine gz_iload dJ6_getChars_ba4f3_60 rfl ?_
  refine gz_gets (v := .ref 50) dJ6_getChars_ba4f3_62 (by decide) wf_Integer_87 (by show _ < _; decide) ?_
  refine gz_iload dJ6_getChars_ba4f3_65 rfl ?_
  refine gz_bald (n := x % 100) (v := .int (iZ (48 + ((x % 100 : Nat) : Int) / 10))) dJ6_getChars_ba4f3_67 h2 (by omega) (by omega) ((congrFun (zk_up_ne (by omega)) _).trans (h3 _ (by omega)).2) ?_
  refine gz_bast (n := (n + 1)) dJ6_getChars_ba4f3_68 hb hb2 (by omega) (by omega) (nar_byte (by omega)).1 ?_
  refine gz_goto (tgt := 22) dJ6_getChars_ba4f3_69 rfl ?_
  refine gz_iload_n dJ6_getChars_ba4f3_22 rfl ?_
  refine zz_bipush (x := -100) dJ6_getChars_ba4f3_23 rfl ?_
  refine zz_icmp_gt (tgt := 72) dJ6_getChars_ba4f3_25 rfl (by omega) (fun b25 => ?_) (fun b25 => ?_)
  rotate_left
  · exact absurd b25 (by omega)
  refine gz_aload_n dJ6_getChars_ba4f3_72 rfl ?_
  refine zz_iinc (L2 := [some (.int (iZ (-((x / 100 : Nat) : Int)))), some (.int (iZ (((n + 3 : Nat) : Int)))), some (.ref b), some (.int (iZ (-((x / 100 : Nat) : Int)))), some (.int (iZ (-((x / 100 : Nat) : Int) * 100 - -(x : Int)))), some (.int (iZ (((n + 3 : Nat) : Int) + -1 + -1 + -1))), some (.int (iZ (0)))]) dJ6_getChars_ba4f3_73 rfl rfl ?_
  refine gz_iload dJ6_getChars_ba4f3_76 rfl ?_
  refine gz_gets (v := .ref 49) dJ6_getChars_ba4f3_78 (by decide) wf_Integer_83 (by show _ < _; decide) ?_
  refine gz_iload_n dJ6_getChars_ba4f3_81 rfl ?_
  refine zz_ineg dJ6_getChars_ba4f3_82 ?_
  refine gz_bald (n := x / 100) (v := .int (iZ (48 + ((x / 100 : Nat) : Int) % 10))) dJ6_getChars_ba4f3_83 h1 (by omega) (by omega) ((congrFun (zk_up_ne (by omega)) _).trans ((congrFun (zk_up_ne (by omega)) _).trans (h3 _ (by omega)).1)) ?_
  refine gz_bast (n := n) dJ6_getChars_ba4f3_84 hb hb2 (by omega) (by omega) (nar_byte (by omega)).1 ?_
  refine gz_iload_n dJ6_getChars_ba4f3_85 rfl ?_
  refine zz_bipush (x := -9) dJ6_getChars_ba4f3_86 rfl ?_
  refine zz_icmp_ge (tgt := 104) dJ6_getChars_ba4f3_88 rfl (by omega) (fun b88 => ?_) (fun b88 => ?_)
  rotate_left
  · exact absurd b88 (by omega)
  refine gz_iload dJ6_getChars_ba4f3_104 rfl ?_
  refine zz_if_eq (tgt := 118) dJ6_getChars_ba4f3_106 rfl (by omega) (fun b106 => ?_) (fun b106 => ?_)
  rotate_left
  · exact absurd rfl b106
  refine gz_iload dJ6_getChars_ba4f3_118 rfl ?_
  refine gz_ireturn dJ6_getChars_ba4f3_120 rfl rfl ?_
  refine hq _ _ ⟨⟨_, rfl⟩, rfl, rfl, fun c hc => ?_, fun j => ?_⟩
  · show zk_up (zk_up (zk_up M.2.2 b _ _) b _ _) b _ _ c = _
    rw [zk_up_ne hc, zk_up_ne hc, zk_up_ne hc]
  · show zk_up (zk_up (zk_up M.2.2 b _ _) b _ _) b _ _ b j = _
    rw [el, ed]
    by_cases q0 : j = n + 0
    · rw [q0, if_pos ⟨by omega, by omega⟩, show n + 0 - n = 0 by omega]
      refine ((zk_up_j (by omega)).trans ?_)
      show Value.int (iZ _) = Value.int (iZ _)
      exact congrArg (fun z => Value.int (iZ z)) (by show 48 + ((x / 100 : Nat) : Int) % 10 = 48 + (x : Int) / 100; omega)
    ·
      by_cases q1 : j = n + 1
      · rw [q1, if_pos ⟨by omega, by omega⟩, show n + 1 - n = 1 by omega]
        refine (zk_up_n2 (Or.inr (by omega))).trans (((zk_up_j (by omega)).trans ?_))
        show Value.int (iZ _) = Value.int (iZ _)
        exact congrArg (fun z => Value.int (iZ z)) (by show 48 + ((x % 100 : Nat) : Int) / 10 = 48 + (x : Int) / 10 % 10; omega)
      ·
        by_cases q2 : j = n + 2
        · rw [q2, if_pos ⟨by omega, by omega⟩, show n + 2 - n = 2 by omega]
          refine (zk_up_n2 (Or.inr (by omega))).trans ((zk_up_n2 (Or.inr (by omega))).trans (((zk_up_j (by omega)).trans ?_)))
          show Value.int (iZ _) = Value.int (iZ _)
          exact congrArg (fun z => Value.int (iZ z)) (by show 48 + ((x % 100 : Nat) : Int) % 10 = 48 + (x : Int) % 10; omega)
        ·
          rw [if_neg (by omega)]
          exact (zk_up_n2 (Or.inr (by omega))).trans ((zk_up_n2 (Or.inr (by omega))).trans ((zk_up_n2 (Or.inr (by omega)))))
theorem ji_chars {x n : Nat} (hg : zDig M) (hx : x < 1000) (hb : M.1 b = (103, cap)) (hb2 : 320 ≤ b) (hc : cap < 100000) (hn : n + (zDec x).length ≤ cap) : zDo l Γ mJ6_getChars_ba4f3 d 0 0 [.int (iZ (x : Int)), .int (iZ ((n + (zDec x).length : Nat) : Int)), .ref b] M F (fun v M' => (∃ z, v = some (.int z)) ∧ M'.1 = M.1 ∧ M'.2.1 = M.2.1 ∧ (∀ c, c ≠ b → M'.2.2 c = M.2.2 c) ∧ ∀ j, M'.2.2 b j = if n ≤ j ∧ j < n + (zDec x).length then .int (iZ ((zDec x).getD (j - n) 0)) else M.2.2 b j) := by
  by_cases h1 : x < 10
  · exact ji_chars1 hg h1 hb hb2 hc hn
  · by_cases h2 : x < 100
    · exact ji_chars2 hg ⟨by omega, h2⟩ hb hb2 hc hn
    · exact ji_chars3 hg ⟨by omega, hx⟩ hb hb2 hc hn
theorem jb_appInt {x : Nat} (h : zSB M a b cap t) (hg : zDig M) (hn : 320 ≤ M.2.1) (hx : x < 1000) (hb9 : (t ++ zDec x).length < 40000 ∧ cap < 40000) (hd : 4 ≤ d) : zDo l Γ mJ5_append_c97b9 d 1 (zCap (t ++ zDec x).length cap) [.ref a, .int (iZ (x : Int))] M F (fun v M' => v = some (.ref a) ∧ ∃ b', zSB M' a b' (zCap (t ++ zDec x).length cap) (t ++ zDec x) ∧ zKp M M' a b b') := by
  intro Q hq
  have h9 := h
  have hla := List.length_append (as := t) (bs := zDec x)
  obtain ⟨⟨s1, s2, s3⟩, ⟨b1, b2, b3⟩, ⟨f0, f1, f3⟩, c1, c2, c3, c4, c5⟩ := h
  refine gz_aload_n dJ5_append_c97b9_0 rfl ?_
  refine gz_getf 3 dJ5_append_c97b9_1 s1 rfl wf_AbstractStringBuilder_79 (by omega) f3 ?_
  refine gz_istore_n dJ5_append_c97b9_4 (Nat.le_of_ble_eq_true rfl) rfl ?_
  refine gz_iload_n dJ5_append_c97b9_5 rfl ?_
  refine gz_iload_n dJ5_append_c97b9_6 rfl ?_
  refine gs_1 (J := mJ6_stringSize_0f7a4) (d1 := d - 1) dJ5_append_c97b9_7 wm_AbstractStringBuilder_245 jzJ6_stringSize_0f7a4 (Nat.le_of_ble_eq_true rfl) (Nat.le_of_ble_eq_true rfl) (by omega) ⟨Nat.zero_le _, Nat.zero_le _⟩ (ji_size hx) ?_
  refine zz_iadd dJ5_append_c97b9_10 ?_
  rw [show (t.length : Int) + ((zDec x).length : Int) = ((t.length + (zDec x).length : Nat) : Int) by omega]
  refine gz_istore_n dJ5_append_c97b9_11 (Nat.le_of_ble_eq_true rfl) rfl ?_
  refine gz_aload_n dJ5_append_c97b9_12 rfl ?_
  refine gz_iload_n dJ5_append_c97b9_13 rfl ?_
  refine gb_up (J := mJ5_ensureCapacityInternal_d00df) (d1 := d - 1) [.int (iZ ((t.length + (zDec x).length : Nat) : Int))] _ dJ5_append_c97b9_14 rfl s1 wm_AbstractStringBuilder_100 jbJ5_ensureCapacityInternal_d00df jtJ5_ensureCapacityInternal_d00df rfl (Nat.le_of_ble_eq_true rfl) (Nat.le_of_ble_eq_true rfl) (by omega) ⟨Nat.le_refl _, by rw [hla]; exact Nat.le_refl _⟩ (jb_ensure h9 (by omega) hb9.2 (by omega)) (fun v M1 hh => ?_)
  obtain ⟨rfl, b', h1, hk⟩ := hh
  have h19 := h1
  have hg1 := zDig_keep hg hn s2 b2 hk
  obtain ⟨⟨s1', s2', s3'⟩, ⟨b1', b2', b3'⟩, ⟨f0', f1', f3'⟩, c1', c2', c3', c4', c5'⟩ := h1
  obtain ⟨k1, k2, k3, k4⟩ := hk
  have hcap : t.length + (zDec x).length ≤ zCap (t.length + (zDec x).length) cap := by unfold zCap; (repeat' split) <;> omega
  have nab' : a ≠ b' := fun e => by rw [e, b1'] at s1'; cases s1'
  refine gz_aload_n dJ5_append_c97b9_17 rfl ?_
  refine gb_up (J := mJ5_isLatin1_aae02) (d1 := d - 1) [] _ dJ5_append_c97b9_18 rfl s1' wm_AbstractStringBuilder_83 jbJ5_isLatin1_aae02 jtJ5_isLatin1_aae02 rfl (Nat.le_of_ble_eq_true rfl) (Nat.le_of_ble_eq_true rfl) (by omega) ⟨Nat.zero_le _, Nat.zero_le _⟩ (zDo_of (jb_latin h19)) (fun v M2 hh => ?_)
  obtain ⟨rfl, hM2⟩ := hh
  rw [hM2]
  clear hM2
  refine zz_if_eq (x := 1) (tgt := 37) dJ5_append_c97b9_21 rfl (by omega) (fun b21 => ?_) (fun b21 => ?_)
  · exact absurd b21 (by omega)
  refine gz_iload_n dJ5_append_c97b9_24 rfl ?_
  refine gz_iload_n dJ5_append_c97b9_25 rfl ?_
  refine gz_aload_n dJ5_append_c97b9_26 rfl ?_
  refine gz_getf 0 dJ5_append_c97b9_27 s1' rfl wf_AbstractStringBuilder_15 (by omega) f0' ?_
  refine gb_s (J := mJ6_getChars_ba4f3) (d1 := d - 1) [.int (iZ (x : Int)), .int (iZ ((t.length + (zDec x).length : Nat) : Int)), .ref b'] _ dJ5_append_c97b9_30 rfl wm_AbstractStringBuilder_248 jzJ6_getChars_ba4f3 rfl (Nat.le_of_ble_eq_true rfl) (Nat.le_of_ble_eq_true rfl) (by omega) ⟨Nat.zero_le _, Nat.zero_le _⟩ (ji_chars hg1 hx b1' b2' c2' hcap) (fun v M2 hh => ?_)
  obtain ⟨⟨z, rfl⟩, m1, m2, m3, m4⟩ := hh
  refine gz_pop dJ5_append_c97b9_33 rfl ?_
  refine gz_goto (tgt := 48) dJ5_append_c97b9_34 rfl ?_
  refine gz_aload_n dJ5_append_c97b9_48 rfl ?_
  refine gz_iload_n dJ5_append_c97b9_49 rfl ?_
  refine gz_putf (T := TJ4) (N := 4) 3 dJ5_append_c97b9_50 ((congrFun m1 a).trans s1') rfl wf_AbstractStringBuilder_79 (by omega) s2 jo_StringBuilder ju_StringBuilder rfl tyJ4 tyJ4_ok nmJ4 rfl (fun _ => ⟨rfl, rfl⟩) ?_
  refine gz_aload_n dJ5_append_c97b9_53 rfl ?_
  refine gz_areturn dJ5_append_c97b9_54 rfl (Or.inl ⟨_, rfl⟩) ?_
  have kb : b' ≠ b → M.2.1 ≤ b' := fun q => k4.resolve_left q
  rw [m1, m2]
  rw [hla] at hq
  refine hq _ _ ⟨rfl, b', zSB_more (M1 := M1) h19 (zDec_bd hx) (by rw [hla]; exact hcap) (fun j hj => ?_) (zk_up_a2.trans (by rw [hla])) (fun j => ?_), k1, k2, fun c hc q1 q2 => ?_, k4⟩
  · rw [zk_up_n2 (Or.inr hj), m3 a nab']
  · rw [zk_up_ne (Ne.symm nab')]
    exact m4 j
  · show zk_up _ a 3 _ c = _
    rw [zk_up_ne q1, m3 c (fun e => by
      by_cases w : b' = b
      · exact q2 (e.trans w)
      · have := kb w
        omega)]
    exact k3 c hc q1 q2
theorem js_appendI {x : Nat} (h : zSB M a b cap t) (hg : zDig M) (hn : 320 ≤ M.2.1) (hx : x < 1000) (hb9 : (t ++ zDec x).length < 40000 ∧ cap < 40000) (hd : 5 ≤ d) : zDo l Γ mJ4_append_bf812 d 1 (zCap (t ++ zDec x).length cap) [.ref a, .int (iZ (x : Int))] M F (fun v M' => v = some (.ref a) ∧ ∃ b', zSB M' a b' (zCap (t ++ zDec x).length cap) (t ++ zDec x) ∧ zKp M M' a b b') := by
  intro Q hq
  refine gz_aload_n dJ4_append_bf812_0 rfl ?_
  refine gz_iload_n dJ4_append_bf812_1 rfl ?_
  refine gb_super (J := mJ5_append_c97b9) (d1 := d - 1) [.int (iZ (x : Int))] _ dJ4_append_bf812_2 rfl h.1.1 wm_StringBuilder_53 wz_super (by decide) jbJ5_append_c97b9 rfl (Nat.le_of_ble_eq_true rfl) (Nat.le_of_ble_eq_true rfl) (by omega) ⟨Nat.le_refl _, Nat.le_refl _⟩ (jb_appInt h hg hn hx hb9 (by omega)) (fun v M1 hh => ?_)
  obtain ⟨rfl, hh⟩ := hh
  refine gz_pop dJ4_append_bf812_5 rfl ?_
  refine gz_aload_n dJ4_append_bf812_6 rfl ?_
  refine gz_areturn dJ4_append_bf812_7 rfl (Or.inl ⟨_, rfl⟩) ?_
  exact hq _ _ ⟨rfl, hh⟩
end
end

/-! THE WHOLE TEXT, TOKEN BY TOKEN -/
section
variable {l : Launch} {Γ : zk_G} {d : Nat} {F : Heap → Prop}
theorem LX_hold {x0 n k p w m : Nat} (hk : k < 8) (hb : x0 < 10 ∧ n < 1000 ∧ p < 10 ∧ w < 10 ∧ m < 10) {r : List Int} {ts : List (Nat × Int)} (h : LX r ts) : LX ((tS123 ++ zDec x0 ++ tS124 ++ tTest n k p w m ++ tS93) ++ r) ((17, 0) :: (44, 508 + (x0 : Int)) :: (18, 0) :: (tTok n k p w m ++ (33, 0) :: ts)) := by
  have q : LX (tTest n k p w m ++ 59 :: r) (tTok n k p w m ++ (33, 0) :: ts) := LX_test hk hb.2 (LX_sy 59 33 (by decide) (by decide) (Or.inl (by decide)) (by decide +kernel) (by decide) h)
  have e : ∀ (A : List Int), (A ++ tTest n k p w m ++ tS93) ++ r = A ++ (tTest n k p w m ++ 59 :: r) := fun A => by
    simp only [List.append_assoc, List.cons_append, List.nil_append, tS93]
  rw [e]
  simp only [List.append_assoc, List.cons_append, List.nil_append, tS123, tS124]
  refine LX_kw [104, 111, 108, 100] 17 (by decide) (by decide +kernel) (by decide) rfl ?_
  refine LX_bl (by decide) ?_
  refine LX_nm 109 (x := x0) (by omega) (by decide) rfl ?_
  refine LX_bl (by decide) ?_
  refine LX_kw [119, 104, 101, 110] 18 (by decide) (by decide +kernel) (by decide) rfl ?_
  refine LX_bl (by decide) ?_
  exact q
theorem LX_rows0 (C : Nat → Int32) (Z : zV) {r : List Int} {ts : List (Nat × Int)} (h : LX r ts) : ∀ m j, j + m ≤ 10 → LX (lS C 0 j m ++ r) (pkT (lD C Z) j m ++ ts)
  | 0, _, _ => h
  | m + 1, j, hj => by
    have b := dP_bd (C := C) j
    have qb := q_bd C
    have ih := LX_rows0 C Z h m (j + 1) (by omega)
    show LX ((aL C 0 j [] ++ lS C 0 (j + 1) m) ++ r) _
    rw [List.append_assoc]
    have q := LX_peak (j := j) (x0 := ((dP C j).getD 0 0).toNat) (x1 := ((dP C j).getD 1 0).toNat) (x2 := ((dP C j).getD 2 0).toNat) (by omega) ih
    rw [Int.toNat_of_nonneg (show 0 ≤ (dP C j).getD 0 0 by omega), Int.toNat_of_nonneg (show 0 ≤ (dP C j).getD 1 0 by omega), Int.toNat_of_nonneg (show 0 ≤ (dP C j).getD 2 0 by omega)] at q
    exact q
theorem LX_rows1 (C : Nat → Int32) (Z : zV) {r : List Int} {ts : List (Nat × Int)} (h : LX r ts) : ∀ m j, j + m ≤ 10 → LX (lS C 1 j m ++ r) (paT (lD C Z) j m ++ ts)
  | 0, _, _ => h
  | m + 1, j, hj => by
    have b := dW_bd (C := C) j
    have qb := q_bd C
    have ih := LX_rows1 C Z h m (j + 1) (by omega)
    show LX ((aL C 1 j [] ++ lS C 1 (j + 1) m) ++ r) _
    rw [List.append_assoc]
    by_cases e : j % 2 = 0
    · have q := LX_pass0 (j := j) (x0 := ((dW C j).getD 0 0).toNat) (x1 := ((dW C j).getD 1 0).toNat) (x2 := ((dW C j).getD 2 0).toNat) (by omega) ih
      rw [Int.toNat_of_nonneg (show 0 ≤ (dW C j).getD 2 0 by omega)] at q
      rw [show aL C 1 j [] = _ from if_pos e]
      exact q
    · have q := LX_pass1 (j := j) (x0 := ((dW C j).getD 0 0).toNat) (x1 := ((dW C j).getD 1 0).toNat) (x2 := ((dW C j).getD 2 0).toNat) (by omega) ih
      rw [Int.toNat_of_nonneg (show 0 ≤ (dW C j).getD 2 0 by omega)] at q
      rw [show aL C 1 j [] = _ from if_neg e]
      exact q
theorem LX_rows2 (C : Nat → Int32) (Z : zV) {r : List Int} {ts : List (Nat × Int)} (h : LX r ts) : ∀ m j, j + m ≤ 10 → LX (lS C 2 j m ++ r) (clT (lD C Z) j m ++ ts)
  | 0, _, _ => h
  | m + 1, j, hj => by
    have b := dC_bd (C := C) j
    have qb := q_bd C
    have ih := LX_rows2 C Z h m (j + 1) (by omega)
    show LX ((aL C 2 j [] ++ lS C 2 (j + 1) m) ++ r) _
    rw [List.append_assoc]
    have q := LX_cloud (x0 := ((dC C j).getD 0 0).toNat) (x1 := ((dC C j).getD 1 0).toNat) (x2 := ((dC C j).getD 2 0).toNat) (x3 := ((dC C j).getD 3 0).toNat) (by omega) ih
    rw [Int.toNat_of_nonneg (show 0 ≤ (dC C j).getD 1 0 by omega), Int.toNat_of_nonneg (show 0 ≤ (dC C j).getD 2 0 by omega), Int.toNat_of_nonneg (show 0 ≤ (dC C j).getD 3 0 by omega)] at q
    exact q
theorem LX_rows3 (C : Nat → Int32) (Z : zV) {r : List Int} {ts : List (Nat × Int)} (h : LX r ts) : ∀ m j, j + m ≤ 10 → LX (lS C 3 j m ++ r) (meT (lD C Z) j m ++ ts)
  | 0, _, _ => h
  | m + 1, j, hj => by
    have b := dM_bd (C := C) j
    have qb := q_bd C
    have ih := LX_rows3 C Z h m (j + 1) (by omega)
    show LX ((aL C 3 j [] ++ lS C 3 (j + 1) m) ++ r) _
    rw [List.append_assoc]
    have q := LX_message (j := j) (x0 := ((dM C j).getD 0 0).toNat) (x1 := ((dM C j).getD 1 0).toNat) (x2 := ((dM C j).getD 2 0).toNat) (x3 := ((dM C j).getD 3 0).toNat) (by omega) ih
    rw [Int.toNat_of_nonneg (show 0 ≤ (dM C j).getD 0 0 by omega), Int.toNat_of_nonneg (show 0 ≤ (dM C j).getD 3 0 by omega)] at q
    exact q
theorem LX_rows4 (C : Nat → Int32) {r : List Int} (h : LX r []) : ∀ m j, LX (lS C 4 j m ++ r) (hoT (hsC C j m))
  | 0, _ => h
  | m + 1, j => by
    have b := dH_bd (C := C) j
    have qb := q_bd C
    have ih := LX_rows4 C h m (j + 1)
    show LX ((aL C 4 j [] ++ lS C 4 (j + 1) m) ++ r) _
    rw [List.append_assoc]
    exact LX_hold (x0 := ((dH C j).getD 0 0).toNat) (n := ((dH C j).getD 2 0).toNat) (k := ((dH C j).getD 1 0).toNat) (p := ((dH C j).getD 3 0).toNat) (w := ((dH C j).getD 4 0).toNat) (m := ((dH C j).getD 5 0).toNat) (by omega) (by omega) ih
theorem LX_all (C : Nat → Int32) (Z : zV) : LX (aTx C) (pkT (lD C Z) 0 (qP C) ++ (paT (lD C Z) 0 (qW C) ++ (clT (lD C Z) 0 (qC C) ++ (meT (lD C Z) 0 (qM C) ++ hoT (hsC C 0 (qH C)))))) := by
  have qb := q_bd C
  unfold aTx aT4 aT3 aT2 aT1
  rw [aLs_app C (by decide : (4 : Nat) < 5), aLs_app C (by decide : (3 : Nat) < 5), aLs_app C (by decide : (2 : Nat) < 5), aLs_app C (by decide : (1 : Nat) < 5), aLs_app C (by decide : (0 : Nat) < 5)]
  simp only [List.append_assoc, List.nil_append]
  have h4 : LX (lS C 4 0 (qH C)) (hoT (hsC C 0 (qH C))) := by
    have q := LX_rows4 C LX_nil (qH C) 0
    rw [List.append_nil] at q
    exact q
  exact LX_rows0 C Z (LX_rows1 C Z (LX_rows2 C Z (LX_rows3 C Z h4 (qM C) 0 (by omega)) (qC C) 0 (by omega)) (qW C) 0 (by omega)) (qP C) 0 (by omega)
theorem pkT_len (D : zV) : ∀ m k, (pkT D k m).length = 10 * m
  | 0, _ => rfl
  | m + 1, k => by show (pkT D (k + 1) m).length + 10 = _; rw [pkT_len D m (k + 1)]; omega
theorem paT_len (D : zV) : ∀ m k, (paT D k m).length = 9 * m
  | 0, _ => rfl
  | m + 1, k => by show (paT D (k + 1) m).length + 9 = _; rw [paT_len D m (k + 1)]; omega
theorem clT_len (D : zV) : ∀ m k, (clT D k m).length = 10 * m
  | 0, _ => rfl
  | m + 1, k => by show (clT D (k + 1) m).length + 10 = _; rw [clT_len D m (k + 1)]; omega
theorem meT_len (D : zV) : ∀ m k, (meT D k m).length = 11 * m
  | 0, _ => rfl
  | m + 1, k => by show (meT D (k + 1) m).length + 11 = _; rw [meT_len D m (k + 1)]; omega
theorem hoT_len (C : Nat → Int32) : ∀ m j, (hoT (hsC C j m)).length ≤ 26 * m
  | 0, _ => Nat.le_refl _
  | m + 1, j => by
    have h := hoT_len C m (j + 1)
    have g := tTok_len ((dH C j).getD 2 0).toNat ((dH C j).getD 1 0).toNat ((dH C j).getD 3 0).toNat ((dH C j).getD 4 0).toNat ((dH C j).getD 5 0).toNat
    show ((tTok _ _ _ _ _ ++ (33, 0) :: hoT (hsC C (j + 1) m)).length + 1 + 1 + 1) ≤ _
    rw [List.length_append]
    show (tTok _ _ _ _ _).length + ((hoT (hsC C (j + 1) m)).length + 1) + 1 + 1 + 1 ≤ _
    omega
theorem pkT_kd (D : zV) : ∀ m k, ∀ x, x ∈ pkT D k m → x.1 < 48
  | 0, _, _, h => absurd h List.not_mem_nil
  | m + 1, k, x, h => by
    simp only [pkT, List.mem_cons] at h
    rcases h with rfl | rfl | rfl | rfl | rfl | rfl | rfl | rfl | rfl | rfl | h
    all_goals first | exact Nat.le_of_ble_eq_true rfl | exact pkT_kd D m (k + 1) x h
theorem paT_kd (D : zV) : ∀ m k, ∀ x, x ∈ paT D k m → x.1 < 48
  | 0, _, _, h => absurd h List.not_mem_nil
  | m + 1, k, x, h => by
    simp only [paT, List.mem_cons] at h
    rcases h with rfl | rfl | rfl | rfl | rfl | rfl | rfl | rfl | rfl | h
    all_goals first | exact Nat.le_of_ble_eq_true rfl | exact paT_kd D m (k + 1) x h
theorem clT_kd (D : zV) : ∀ m k, ∀ x, x ∈ clT D k m → x.1 < 48
  | 0, _, _, h => absurd h List.not_mem_nil
  | m + 1, k, x, h => by
    simp only [clT, List.mem_cons] at h
    rcases h with rfl | rfl | rfl | rfl | rfl | rfl | rfl | rfl | rfl | rfl | h
    all_goals first | exact Nat.le_of_ble_eq_true rfl | exact clT_kd D m (k + 1) x h
theorem meT_kd (D : zV) : ∀ m k, ∀ x, x ∈ meT D k m → x.1 < 48
  | 0, _, _, h => absurd h List.not_mem_nil
  | m + 1, k, x, h => by
    simp only [meT, List.mem_cons] at h
    rcases h with rfl | rfl | rfl | rfl | rfl | rfl | rfl | rfl | rfl | rfl | rfl | h
    all_goals first | exact Nat.le_of_ble_eq_true rfl | exact meT_kd D m (k + 1) x h
theorem tTok_kd (n k p w m : Nat) : ∀ x, x ∈ tTok n k p w m → x.1 < 48 := by
  unfold tTok
  intro x hx
  (repeat' split at hx) <;> simp only [List.mem_cons, List.mem_nil_iff, or_false] at hx <;> (repeat' rcases hx with rfl | hx) <;> first | exact Nat.le_of_ble_eq_true rfl | (subst hx; exact Nat.le_of_ble_eq_true rfl)
theorem hoT_kd (C : Nat → Int32) : ∀ m j, ∀ x, x ∈ hoT (hsC C j m) → x.1 < 48
  | 0, _, _, h => absurd h List.not_mem_nil
  | m + 1, j, x, h => by
    simp only [hsC, hoT, List.mem_cons, List.mem_append] at h
    rcases h with rfl | rfl | rfl | h | rfl | h
    all_goals first | exact Nat.le_of_ble_eq_true rfl | exact tTok_kd _ _ _ _ _ x h | exact hoT_kd C m (j + 1) x h
/-- the text is read as the list -/
theorem LX_read (C : Nat → Int32) (Z : zV) : ∃ xs tb, lxB xs tb = aTx C ∧ lxOk xs tb ∧ xs.length < 400 ∧ lxT xs ++ [(46, 0)] = alT (lD C Z) (qP C) (qW C) (qC C) (qM C) (hsC C 0 (qH C)) ∧ ∀ x, x ∈ alT (lD C Z) (qP C) (qW C) (qC C) (qM C) (hsC C 0 (qH C)) → x.1 < 48 := by
  obtain ⟨xs, tb, h1, h2, h3⟩ := LX_all C Z
  have qb := q_bd C
  have e : lxT xs ++ [(46, 0)] = alT (lD C Z) (qP C) (qW C) (qC C) (qM C) (hsC C 0 (qH C)) := by
    rw [h3]
    unfold alT
    simp only [List.append_assoc]
  have hl : (lxT xs).length = xs.length := List.length_map _
  refine ⟨xs, tb, h1, h2, ?_, e, fun x hx => ?_⟩
  · rw [← hl, h3]
    simp only [List.length_append, pkT_len, paT_len, clT_len, meT_len]
    have := hoT_len C (qH C) 0
    omega
  · unfold alT at hx
    simp only [List.mem_append, List.mem_singleton] at hx
    rcases hx with h | h | h | h | h | h
    · exact pkT_kd _ _ _ x h
    · exact paT_kd _ _ _ x h
    · exact clT_kd _ _ _ x h
    · exact meT_kd _ _ _ x h
    · exact hoT_kd _ _ _ x h
    · rw [h]; exact Nat.le_of_ble_eq_true rfl
end

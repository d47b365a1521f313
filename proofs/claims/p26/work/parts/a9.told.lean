/-! WHAT THE LIST TELLS -/
section
variable {l : Launch} {Γ : zk_G} {d : Nat} {F : Heap → Prop}
/-- operations reckoned, of a chain alone -/
def jF (k l r : Int) : Int := if k = 9 then bI (decide (l = 1 ∧ r = 1)) else if k = 10 then bI (decide (l = 1 ∨ r = 1)) else if k = 11 then bI (decide (l < r)) else if k = 12 then bI (decide (r < l)) else if k = 13 then bI (decide (l = r)) else if k = 15 then bI (decide (r ≤ l)) else if k = 18 then l * r else l / r
def stF (nm : Nat) (σ : zV) (k x : Int) (s : List Int) : List Int :=
  if k = 0 then x :: s else if k = 1 then σ 0 1 % 120 :: s else if k = 2 then sNum (sAt σ x 0) 0 nm :: s else if k = 3 then σ 5 x.toNat :: s else if k = 4 then σ 8 x.toNat :: s else if k = 5 then bI (decide (σ 11 x.toNat ≠ 0)) :: s else if k = 6 then bI (decide (σ 4 x.toNat = 1)) :: s
  else if k = 8 then (match s with | a :: s2 => (1 - a) :: s2 | [] => []) else (match s with | r :: a :: s2 => jF k a r :: s2 | _ => [])
def evF (nm : Nat) (σ : zV) : List (Int × Int) → List Int → List Int
  | [], s => s
  | e :: es, s => evF nm σ es (stF nm σ e.1 e.2 s)
def fT (nm : Nat) (x : Nat × List (Int × Int)) (σ : zV) : Int := (evF nm σ x.2 []).headD 0
theorem evF_tEs {nm n k p w m : Nat} {σ : zV} (hk : k < 8) : evF nm σ (tEs n k p w m) [] = [tF nm n k p w m σ] := by
  rcases (show k = 0 ∨ k = 1 ∨ k = 2 ∨ k = 3 ∨ k = 4 ∨ k = 5 ∨ k = 6 ∨ k = 7 by omega) with rfl | rfl | rfl | rfl | rfl | rfl | rfl | rfl <;> rfl
theorem fT_tEs {nm n k p w m y : Nat} (hk : k < 8) : fT nm (y, tEs n k p w m) = tF nm n k p w m := by
  funext σ
  unfold fT
  rw [evF_tEs hk]
  rfl
theorem sm_test {nm n k p w m y : Nat} (hk : k < 8) (hb : n < 1000 ∧ p < 8 ∧ w < 12 ∧ m < nm) : smO nm (tEs n k p w m) (fT nm (y, tEs n k p w m)) := by
  rw [fT_tEs hk]
  rcases (show k = 0 ∨ k = 1 ∨ k = 2 ∨ k = 3 ∨ k = 4 ∨ k = 5 ∨ k = 6 ∨ k = 7 by omega) with rfl | rfl | rfl | rfl | rfl | rfl | rfl | rfl
  · exact sm_test0 hb
  · exact sm_test1 hb
  · exact sm_test2 hb
  · exact sm_test3 hb
  · exact sm_test4 hb
  · exact sm_test5 hb
  · exact sm_test6 hb
  · exact sm_test7 hb
/-- what a test comes to is what the chain by hand says -/
theorem tF_iff {π σ : zV} {nm nw n k p w m : Nat} (hk : k < 8) (h3 : π 0 3 = (nm : Int)) (hwb : w < nw) (hτ : ∀ w : Nat, w < nw → (σ 11 w ≠ 0 ↔ sPass π σ w (σ 0 1) = true)) : tF nm n k p w m σ ≠ 0 ↔ sHv π σ (n : Int) (k : Int) (p : Int) (w : Int) (m : Int) = true := by
  have e3 : (π 0 3).toNat = nm := by omega
  have hl := hτ w hwb
  rcases (show k = 0 ∨ k = 1 ∨ k = 2 ∨ k = 3 ∨ k = 4 ∨ k = 5 ∨ k = 6 ∨ k = 7 by omega) with rfl | rfl | rfl | rfl | rfl | rfl | rfl | rfl
  · show bI (decide (σ 0 1 % 120 < (n : Int))) ≠ 0 ↔ decide (σ 0 1 % 120 < (n : Int)) = true
    exact bJ_ne
  · show bI (decide (1 < sNum (sAt σ (p : Int) 0) 0 nm)) ≠ 0 ↔ decide (1 < sNum (sAt σ (p : Int) 0) 0 (π 0 3).toNat) = true
    rw [e3]
    exact bJ_ne
  · show bI (decide (σ 11 w ≠ 0)) ≠ 0 ↔ sPass π σ w (σ 0 1) = true
    rw [bJ_ne, decide_eq_true_eq]
    exact hl
  · show bI (decide (1 - bI (decide (σ 11 w ≠ 0)) = 1 ∨ bI (decide (σ 4 m = 1)) = 1)) ≠ 0 ↔ (!sPass π σ w (σ 0 1) || decide (σ 4 m = 1)) = true
    rw [bJ_ne, decide_eq_true_eq, Bool.or_eq_true, bJ_1, decide_eq_true_eq]
    have q : 1 - bI (decide (σ 11 w ≠ 0)) = 1 ↔ (!sPass π σ w (σ 0 1)) = true := by
      cases hs : sPass π σ w (σ 0 1) with
      | true =>
        have := hl.mpr hs
        rw [decide_eq_true this]
        decide
      | false =>
        have : ¬ σ 11 w ≠ 0 := fun q => by rw [hl.mp q] at hs; cases hs
        rw [decide_eq_false this]
        decide
    rw [q]
  · show bI (decide ((n : Int) ≤ σ 5 m * 2)) ≠ 0 ↔ decide ((n : Int) ≤ σ 5 m * 2) = true
    exact bJ_ne
  · show bI (decide (bI (decide (bI (decide (σ 8 m < (n : Int) / 30)) = 1 ∧ bI (decide ((n : Int) / 2 < σ 0 1 % 120)) = 1)) = 1 ∨ bI (decide (σ 0 1 % 120 / 2 * 2 = σ 0 1 % 120)) = 1)) ≠ 0 ↔ ((decide (σ 8 m < (n : Int) / 30) && decide ((n : Int) / 2 < σ 0 1 % 120)) || decide (σ 0 1 % 2 = 0)) = true
    simp only [bJ_ne, bJ_1, decide_eq_true_eq, Bool.or_eq_true, Bool.and_eq_true]
    refine or_congr Iff.rfl ?_
    constructor <;> intro q <;> omega
  · show bI (decide (σ 4 m = 1)) ≠ 0 ↔ decide (σ 4 m = 1) = true
    exact bJ_ne
  · show bI (decide ((n : Int) / 2 * 2 = (n : Int))) ≠ 0 ↔ decide ((n : Int) % 2 = 0) = true
    rw [bJ_ne, decide_eq_true_eq, decide_eq_true_eq]
    constructor <;> intro q <;> omega
/-- the holds as the reader has them -/
def hsC (C : Nat → Int32) : Nat → Nat → zHT
  | _, 0 => []
  | j, m + 1 => (((dH C j).getD 0 0).toNat, tTok ((dH C j).getD 2 0).toNat ((dH C j).getD 1 0).toNat ((dH C j).getD 3 0).toNat ((dH C j).getD 4 0).toNat ((dH C j).getD 5 0).toNat, tEs ((dH C j).getD 2 0).toNat ((dH C j).getD 1 0).toNat ((dH C j).getD 3 0).toNat ((dH C j).getD 4 0).toNat ((dH C j).getD 5 0).toNat) :: hsC C (j + 1) m
theorem hsC_len (C : Nat → Int32) : ∀ m j, (hsC C j m).length = m
  | 0, _ => rfl
  | m + 1, j => by show (hsC C (j + 1) m).length + 1 = m + 1; rw [hsC_len C m (j + 1)]
theorem tEs_len (n k p w m : Nat) : (tEs n k p w m).length ≤ 19 := by unfold tEs; (repeat' split) <;> exact Nat.le_of_ble_eq_true rfl
theorem tTok_len (n k p w m : Nat) : (tTok n k p w m).length ≤ 22 := by unfold tTok; (repeat' split) <;> exact Nat.le_of_ble_eq_true rfl
theorem hsC_hs (C : Nat → Int32) : ∀ m j, hsLen (hoH (hsC C j m)) ≤ 19 * m
  | 0, _ => Nat.le_refl _
  | m + 1, j => by
    have h := hsC_hs C m (j + 1)
    have g := tEs_len ((dH C j).getD 2 0).toNat ((dH C j).getD 1 0).toNat ((dH C j).getD 3 0).toNat ((dH C j).getD 4 0).toNat ((dH C j).getD 5 0).toNat
    show (tEs _ _ _ _ _).length + hsLen (hoH (hsC C (j + 1) m)) ≤ _
    omega
theorem hsC_mem {C : Nat → Int32} {x : Nat × List (Nat × Int) × List (Int × Int)} : ∀ m j, x ∈ hsC C j m → ∃ n k p w m2, x.2.1 = tTok n k p w m2 ∧ x.2.2 = tEs n k p w m2 ∧ x.1 < qM C ∧ k < 8 ∧ n < 1000 ∧ p < qP C ∧ w < qW C ∧ m2 < qM C
  | 0, _, h => absurd h List.not_mem_nil
  | m + 1, j, h => by
    rcases List.mem_cons.mp h with q | q
    · have b := dH_bd (C := C) j
      rw [q]
      exact ⟨_, _, _, _, _, rfl, rfl, by show ((dH C j).getD 0 0).toNat < _; omega, by omega, by omega, by omega, by omega, by omega⟩
    · exact hsC_mem m (j + 1) q
theorem hoH_mem {x : Nat × List (Int × Int)} : ∀ {hs : zHT}, x ∈ hoH hs → ∃ y ∈ hs, x = (y.1, y.2.2)
  | [], h => absurd h List.not_mem_nil
  | z :: hs, h => by
    rcases List.mem_cons.mp h with q | q
    · exact ⟨z, List.mem_cons_self, q⟩
    · obtain ⟨y, hy, e⟩ := hoH_mem q
      exact ⟨y, List.mem_cons_of_mem _ hy, e⟩
theorem hsH_rows {C : Nat → Int32} {π σ : zV} (h3 : π 0 3 = (qM C : Int)) (hτ : ∀ w : Nat, w < qW C → (σ 11 w ≠ 0 ↔ sPass π σ w (σ 0 1) = true)) (k : Nat) : ∀ m j, (hoH (hsC C j m)).any (fun x => decide ((x.1 : Int) = (k : Int) ∧ fT (qM C) x σ ≠ 0)) = (List.range' j m).any (fun i => decide ((dH C i).getD 0 0 = (k : Int)) && sHv π σ ((dH C i).getD 2 0) ((dH C i).getD 1 0) ((dH C i).getD 3 0) ((dH C i).getD 4 0) ((dH C i).getD 5 0))
  | 0, _ => rfl
  | m + 1, j => by
    have ih := hsH_rows h3 hτ k m (j + 1)
    have b := dH_bd (C := C) j
    obtain ⟨x0, g0⟩ : ∃ z : Nat, (dH C j).getD 0 0 = (z : Int) := ⟨((dH C j).getD 0 0).toNat, by omega⟩
    obtain ⟨x1, g1⟩ : ∃ z : Nat, (dH C j).getD 1 0 = (z : Int) := ⟨((dH C j).getD 1 0).toNat, by omega⟩
    obtain ⟨x2, g2⟩ : ∃ z : Nat, (dH C j).getD 2 0 = (z : Int) := ⟨((dH C j).getD 2 0).toNat, by omega⟩
    obtain ⟨x3, g3⟩ : ∃ z : Nat, (dH C j).getD 3 0 = (z : Int) := ⟨((dH C j).getD 3 0).toNat, by omega⟩
    obtain ⟨x4, g4⟩ : ∃ z : Nat, (dH C j).getD 4 0 = (z : Int) := ⟨((dH C j).getD 4 0).toNat, by omega⟩
    obtain ⟨x5, g5⟩ : ∃ z : Nat, (dH C j).getD 5 0 = (z : Int) := ⟨((dH C j).getD 5 0).toNat, by omega⟩
    rw [g0, g1, g2, g3, g4, g5] at b
    rw [List.range'_succ, List.any_cons, ← ih]
    show (decide ((((dH C j).getD 0 0).toNat : Int) = (k : Int) ∧ fT (qM C) (((dH C j).getD 0 0).toNat, tEs ((dH C j).getD 2 0).toNat ((dH C j).getD 1 0).toNat ((dH C j).getD 3 0).toNat ((dH C j).getD 4 0).toNat ((dH C j).getD 5 0).toNat) σ ≠ 0) || (hoH (hsC C (j + 1) m)).any _) = _
    rw [g0, g1, g2, g3, g4, g5]
    simp only [Int.toNat_natCast]
    congr 1
    have q : fT (qM C) (x0, tEs x2 x1 x3 x4 x5) σ ≠ 0 ↔ sHv π σ (x2 : Int) (x1 : Int) (x3 : Int) (x4 : Int) (x5 : Int) = true := by
      rw [congrFun (fT_tEs (nm := qM C) (n := x2) (k := x1) (p := x3) (w := x4) (m := x5) (y := x0) (show x1 < 8 by omega)) σ]
      exact tF_iff (n := x2) (p := x3) (m := x5) (show x1 < 8 by omega) h3 (show x4 < qW C by omega) hτ
    by_cases e : (x0 : Int) = (k : Int)
    · rw [decide_eq_true e, Bool.true_and]
      by_cases t : fT (qM C) (x0, tEs x2 x1 x3 x4 x5) σ ≠ 0
      · rw [decide_eq_true ⟨e, t⟩, q.mp t]
      · rw [decide_eq_false (fun w => t w.2)]
        exact (Bool.eq_false_iff.mpr (fun w => t (q.mpr w))).symm
    · rw [decide_eq_false (fun w => e w.1), decide_eq_false e, Bool.false_and]
/-- the plan that the list tells; rows from 1000 on: what else is asked -/
def lD (C : Nat → Int32) (Z : zV) : zV := fun r x => if 1000 ≤ r then Z (r - 1000) x else match r with
  | 1 => (dP C x).getD 0 0
  | 2 => (dP C x).getD 1 0
  | 3 => (dP C x).getD 2 0
  | 4 => (dW C x).getD 0 0
  | 5 => (dW C x).getD 1 0
  | 6 => (dW C x).getD 2 0
  | 7 => (dM C x).getD 0 0
  | 8 => (dM C x).getD 1 0
  | 9 => (dM C x).getD 2 0
  | 10 => (dM C x).getD 3 0
  | 11 => (dC C x).getD 0 0
  | 12 => (dC C x).getD 1 0
  | 13 => (dC C x).getD 2 0
  | _ => (dC C x).getD 3 0
theorem lD_wD (C : Nat → Int32) (Z : zV) : wD (lD C Z) (qP C) (qW C) (qC C) (qM C) := by
  have q := q_bd C
  refine ⟨by omega, fun x _ hx => ?_, fun x _ hx => ?_, fun x _ hx => ?_, fun x _ hx => ?_⟩
  · have b := dP_bd (C := C) x
    show x < 8 ∧ (0 ≤ (dP C x).getD 0 0 ∧ (dP C x).getD 0 0 ≤ 120) ∧ (0 ≤ (dP C x).getD 1 0 ∧ (dP C x).getD 1 0 ≤ 120) ∧ (0 ≤ (dP C x).getD 2 0 ∧ (dP C x).getD 2 0 ≤ 4)
    omega
  · have b := dW_bd (C := C) x
    show x < 12 ∧ 0 ≤ (dW C x).getD 0 0 ∧ 0 ≤ (dW C x).getD 1 0 ∧ ((dW C x).getD 0 0).toNat < qP C ∧ ((dW C x).getD 1 0).toNat < qP C ∧ ((dW C x).getD 1 0).toNat ≠ ((dW C x).getD 0 0).toNat ∧ (1 ≤ (dW C x).getD 2 0 ∧ (dW C x).getD 2 0 ≤ 20)
    omega
  · have b := dC_bd (C := C) x
    show x < 8 ∧ 0 ≤ (dC C x).getD 0 0 ∧ ((dC C x).getD 0 0).toNat < qW C ∧ (2 ≤ (dC C x).getD 1 0 ∧ (dC C x).getD 1 0 ≤ 60) ∧ (1 ≤ (dC C x).getD 2 0 ∧ (dC C x).getD 2 0 ≤ (dC C x).getD 1 0 - 1) ∧ (0 ≤ (dC C x).getD 3 0 ∧ (dC C x).getD 3 0 ≤ 59)
    omega
  · have b := dM_bd (C := C) x
    show x < 8 ∧ (1 ≤ (dM C x).getD 0 0 ∧ (dM C x).getD 0 0 ≤ 40) ∧ 0 ≤ (dM C x).getD 1 0 ∧ 0 ≤ (dM C x).getD 2 0 ∧ ((dM C x).getD 1 0).toNat < qP C ∧ ((dM C x).getD 2 0).toNat < qP C ∧ ((dM C x).getD 2 0).toNat ≠ ((dM C x).getD 1 0).toNat ∧ (0 ≤ (dM C x).getD 3 0 ∧ (dM C x).getD 3 0 ≤ 999)
    omega
/-- a row's line alone -/
theorem aL_app (C : Nat → Int32) {k : Nat} (hk : k < 5) (j : Nat) (T : List Int) : aL C k j T = T ++ aL C k j [] := by
  rcases (show k = 0 ∨ k = 1 ∨ k = 2 ∨ k = 3 ∨ k = 4 by omega) with rfl | rfl | rfl | rfl | rfl <;> simp only [aL, List.append_assoc, List.nil_append] <;> split <;> rfl
def lS (C : Nat → Int32) (k : Nat) : Nat → Nat → List Int
  | _, 0 => []
  | j, m + 1 => aL C k j [] ++ lS C k (j + 1) m
theorem aLs_app (C : Nat → Int32) {k : Nat} (hk : k < 5) : ∀ (m j : Nat) (T : List Int), aLs C k T j m = T ++ lS C k j m
  | 0, _, T => (List.append_nil T).symm
  | m + 1, j, T => by
    show aLs C k (aL C k j T) (j + 1) m = T ++ (aL C k j [] ++ lS C k (j + 1) m)
    rw [aLs_app C hk m (j + 1), aL_app C hk j T, List.append_assoc]
theorem LX_peak {j x0 x1 x2 : Nat} (hb : j < 10 ∧ x0 < 1000 ∧ x1 < 1000 ∧ x2 < 1000) {r : List Int} {ts : List (Nat × Int)} (h : LX r ts) : LX ((tS105 ++ zDec j ++ tS106 ++ zDec x0 ++ tS107 ++ zDec x1 ++ tS108 ++ zDec x2 ++ tS93) ++ r) ((0, 0) :: (44, 619 + (j : Int)) :: (1, 0) :: (2, 0) :: (45, (x0 : Int)) :: (3, 0) :: (45, (x1 : Int)) :: (4, 0) :: (45, (x2 : Int)) :: (33, 0) :: ts) := by
  simp only [List.append_assoc, List.cons_append, List.nil_append, tS105, tS106, tS107, tS108, tS93]
  refine LX_kw [112, 101, 97, 107] 0 (by decide) (by decide +kernel) (by decide) rfl ?_
  refine LX_bl (by decide) ?_
  refine LX_nm 112 (x := j) (by omega) (by decide) rfl ?_
  refine LX_bl (by decide) ?_
  refine LX_kw [115, 117, 110] 1 (by decide) (by decide +kernel) (by decide) rfl ?_
  refine LX_bl (by decide) ?_
  refine LX_kw [102, 114, 111, 109] 2 (by decide) (by decide +kernel) (by decide) rfl ?_
  refine LX_bl (by decide) ?_
  refine LX_num (x := x0) (by omega) rfl ?_
  refine LX_bl (by decide) ?_
  refine LX_kw [116, 111] 3 (by decide) (by decide +kernel) (by decide) rfl ?_
  refine LX_bl (by decide) ?_
  refine LX_num (x := x1) (by omega) rfl ?_
  refine LX_bl (by decide) ?_
  refine LX_kw [109, 105, 114, 114, 111, 114, 115] 4 (by decide) (by decide +kernel) (by decide) rfl ?_
  refine LX_bl (by decide) ?_
  refine LX_num (x := x2) (by omega) rfl ?_
  refine LX_sy 59 33 (by decide) (by decide) (Or.inl (by decide)) (by decide +kernel) (by decide) ?_
  exact h
theorem LX_pass0 {j x0 x1 x2 : Nat} (hb : j < 10 ∧ x0 < 10 ∧ x1 < 10 ∧ x2 < 1000) {r : List Int} {ts : List (Nat × Int)} (h : LX r ts) : LX ((tS109 ++ zDec j ++ tS110 ++ zDec x0 ++ tS111 ++ zDec x1 ++ tS112 ++ zDec x2 ++ tS93) ++ r) ((5, 0) :: (44, 878 + (j : Int)) :: (6, 0) :: (44, 619 + (x0 : Int)) :: (7, 0) :: (44, 619 + (x1 : Int)) :: (8, 0) :: (45, (x2 : Int)) :: (33, 0) :: ts) := by
  simp only [List.append_assoc, List.cons_append, List.nil_append, tS109, tS110, tS111, tS112, tS93]
  refine LX_kw [112, 97, 115, 115] 5 (by decide) (by decide +kernel) (by decide) rfl ?_
  refine LX_bl (by decide) ?_
  refine LX_nm 119 (x := j) (by omega) (by decide) rfl ?_
  refine LX_bl (by decide) ?_
  refine LX_kw [98, 101, 116, 119, 101, 101, 110] 6 (by decide) (by decide +kernel) (by decide) rfl ?_
  refine LX_bl (by decide) ?_
  refine LX_nm 112 (x := x0) (by omega) (by decide) rfl ?_
  refine LX_bl (by decide) ?_
  refine LX_kw [97, 110, 100] 7 (by decide) (by decide +kernel) (by decide) rfl ?_
  refine LX_bl (by decide) ?_
  refine LX_nm 112 (x := x1) (by omega) (by decide) rfl ?_
  refine LX_bl (by decide) ?_
  refine LX_kw [102, 97, 114] 8 (by decide) (by decide +kernel) (by decide) rfl ?_
  refine LX_bl (by decide) ?_
  refine LX_num (x := x2) (by omega) rfl ?_
  refine LX_sy 59 33 (by decide) (by decide) (Or.inl (by decide)) (by decide +kernel) (by decide) ?_
  exact h
theorem LX_pass1 {j x0 x1 x2 : Nat} (hb : j < 10 ∧ x0 < 10 ∧ x1 < 10 ∧ x2 < 1000) {r : List Int} {ts : List (Nat × Int)} (h : LX r ts) : LX ((tS109 ++ zDec j ++ tS110 ++ zDec x0 ++ tS111 ++ zDec x1 ++ tS112 ++ zDec x2 ++ tS113) ++ r) ((5, 0) :: (44, 878 + (j : Int)) :: (6, 0) :: (44, 619 + (x0 : Int)) :: (7, 0) :: (44, 619 + (x1 : Int)) :: (8, 0) :: (45, (x2 : Int)) :: (33, 0) :: ts) := by
  simp only [List.append_assoc, List.cons_append, List.nil_append, tS109, tS110, tS111, tS112, tS113]
  refine LX_kw [112, 97, 115, 115] 5 (by decide) (by decide +kernel) (by decide) rfl ?_
  refine LX_bl (by decide) ?_
  refine LX_nm 119 (x := j) (by omega) (by decide) rfl ?_
  refine LX_bl (by decide) ?_
  refine LX_kw [98, 101, 116, 119, 101, 101, 110] 6 (by decide) (by decide +kernel) (by decide) rfl ?_
  refine LX_bl (by decide) ?_
  refine LX_nm 112 (x := x0) (by omega) (by decide) rfl ?_
  refine LX_bl (by decide) ?_
  refine LX_kw [97, 110, 100] 7 (by decide) (by decide +kernel) (by decide) rfl ?_
  refine LX_bl (by decide) ?_
  refine LX_nm 112 (x := x1) (by omega) (by decide) rfl ?_
  refine LX_bl (by decide) ?_
  refine LX_kw [102, 97, 114] 8 (by decide) (by decide +kernel) (by decide) rfl ?_
  refine LX_bl (by decide) ?_
  refine LX_num (x := x2) (by omega) rfl ?_
  refine LX_bl (by decide) ?_
  refine LX_sy 59 33 (by decide) (by decide) (Or.inl (by decide)) (by decide +kernel) (by decide) ?_
  refine LX_bl (by decide) ?_
  exact h
theorem LX_cloud {x0 x1 x2 x3 : Nat} (hb : x0 < 10 ∧ x1 < 1000 ∧ x2 < 1000 ∧ x3 < 1000) {r : List Int} {ts : List (Nat × Int)} (h : LX r ts) : LX ((tS114 ++ zDec x0 ++ tS115 ++ zDec x1 ++ tS116 ++ zDec x2 ++ tS117 ++ zDec x3 ++ tS93) ++ r) ((9, 0) :: (10, 0) :: (44, 878 + (x0 : Int)) :: (11, 0) :: (45, (x1 : Int)) :: (12, 0) :: (45, (x2 : Int)) :: (2, 0) :: (45, (x3 : Int)) :: (33, 0) :: ts) := by
  simp only [List.append_assoc, List.cons_append, List.nil_append, tS114, tS115, tS116, tS117, tS93]
  refine LX_kw [99, 108, 111, 117, 100] 9 (by decide) (by decide +kernel) (by decide) rfl ?_
  refine LX_bl (by decide) ?_
  refine LX_kw [111, 118, 101, 114] 10 (by decide) (by decide +kernel) (by decide) rfl ?_
  refine LX_bl (by decide) ?_
  refine LX_nm 119 (x := x0) (by omega) (by decide) rfl ?_
  refine LX_bl (by decide) ?_
  refine LX_kw [101, 118, 101, 114, 121] 11 (by decide) (by decide +kernel) (by decide) rfl ?_
  refine LX_bl (by decide) ?_
  refine LX_num (x := x1) (by omega) rfl ?_
  refine LX_bl (by decide) ?_
  refine LX_kw [102, 111, 114] 12 (by decide) (by decide +kernel) (by decide) rfl ?_
  refine LX_bl (by decide) ?_
  refine LX_num (x := x2) (by omega) rfl ?_
  refine LX_bl (by decide) ?_
  refine LX_kw [102, 114, 111, 109] 2 (by decide) (by decide +kernel) (by decide) rfl ?_
  refine LX_bl (by decide) ?_
  refine LX_num (x := x3) (by omega) rfl ?_
  refine LX_sy 59 33 (by decide) (by decide) (Or.inl (by decide)) (by decide +kernel) (by decide) ?_
  exact h
theorem LX_message {j x0 x1 x2 x3 : Nat} (hb : j < 10 ∧ x0 < 1000 ∧ x1 < 10 ∧ x2 < 10 ∧ x3 < 1000) {r : List Int} {ts : List (Nat × Int)} (h : LX r ts) : LX ((tS118 ++ zDec j ++ tS119 ++ zDec x0 ++ tS120 ++ zDec x1 ++ tS121 ++ zDec x2 ++ tS122 ++ zDec x3 ++ tS93) ++ r) ((13, 0) :: (44, 508 + (j : Int)) :: (14, 0) :: (45, (x0 : Int)) :: (15, 0) :: (44, 619 + (x1 : Int)) :: (3, 0) :: (44, 619 + (x2 : Int)) :: (16, 0) :: (45, (x3 : Int)) :: (33, 0) :: ts) := by
  simp only [List.append_assoc, List.cons_append, List.nil_append, tS118, tS119, tS120, tS121, tS122, tS93]
  refine LX_kw [109, 101, 115, 115, 97, 103, 101] 13 (by decide) (by decide +kernel) (by decide) rfl ?_
  refine LX_bl (by decide) ?_
  refine LX_nm 109 (x := j) (by omega) (by decide) rfl ?_
  refine LX_bl (by decide) ?_
  refine LX_kw [119, 111, 114, 100, 115] 14 (by decide) (by decide +kernel) (by decide) rfl ?_
  refine LX_bl (by decide) ?_
  refine LX_num (x := x0) (by omega) rfl ?_
  refine LX_bl (by decide) ?_
  refine LX_kw [97, 116] 15 (by decide) (by decide +kernel) (by decide) rfl ?_
  refine LX_bl (by decide) ?_
  refine LX_nm 112 (x := x1) (by omega) (by decide) rfl ?_
  refine LX_bl (by decide) ?_
  refine LX_kw [116, 111] 3 (by decide) (by decide +kernel) (by decide) rfl ?_
  refine LX_bl (by decide) ?_
  refine LX_nm 112 (x := x2) (by omega) (by decide) rfl ?_
  refine LX_bl (by decide) ?_
  refine LX_kw [100, 117, 101] 16 (by decide) (by decide +kernel) (by decide) rfl ?_
  refine LX_bl (by decide) ?_
  refine LX_num (x := x3) (by omega) rfl ?_
  refine LX_sy 59 33 (by decide) (by decide) (Or.inl (by decide)) (by decide +kernel) (by decide) ?_
  exact h
end

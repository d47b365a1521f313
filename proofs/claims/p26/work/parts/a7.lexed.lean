/-! THE TEXT OF THE LIST, TOKEN BY TOKEN -/
section
variable {l : Launch} {Γ : zk_G} {d : Nat} {F : Heap → Prop}
/-- a text and its tokens -/
def LX (T : List Int) (ts : List (Nat × Int)) : Prop := ∃ xs tb, lxB xs tb = T ∧ lxOk xs tb ∧ lxT xs = ts
theorem LX_nil : LX [] [] := ⟨[], [], rfl, (fun c hc => absurd hc List.not_mem_nil), rfl⟩
theorem LX_bl {T : List Int} {ts : List (Nat × Int)} {c : Int} (hc : c = 32 ∨ c = 10) (h : LX T ts) : LX (c :: T) ts := by
  obtain ⟨xs, tb, h1, h2, h3⟩ := h
  cases xs with
  | nil =>
    refine ⟨[], c :: tb, congrArg (c :: ·) h1, fun x hx => ?_, h3⟩
    rcases List.mem_cons.mp hx with q | q
    · rw [q]; exact hc
    · exact h2 x q
  | cons x xs =>
    refine ⟨(c :: x.1, x.2) :: xs, tb, congrArg (c :: ·) h1, ⟨fun y hy => ?_, h2.2⟩, h3⟩
    rcases List.mem_cons.mp hy with q | q
    · rw [q]; exact hc
    · exact h2.1 y q
theorem LX_tok {t T : List Int} {k : Nat} {v : Int} {ts : List (Nat × Int)} (hok : okT t k v T) (h : LX T ts) : LX (t ++ T) ((k, tv k v) :: ts) := by
  obtain ⟨xs, tb, h1, h2, h3⟩ := h
  refine ⟨([], t, k, v) :: xs, tb, ?_, ⟨fun c hc => absurd hc List.not_mem_nil, by rw [h1]; exact hok, h2⟩, ?_⟩
  · show [] ++ (t ++ lxB xs tb) = t ++ T
    rw [h1, List.nil_append]
  · show (k, tv k v) :: lxT xs = _
    rw [h3]
theorem LX_kw (w : List Int) (k : Nat) {T : List Int} {ts : List (Nat × Int)} (hw : (match w with | c :: u => isL c && u.all isW && decide (u.length ≤ 9) | [] => false) = true) (hk : wKind w = k) (hk2 : k ≠ 44 ∧ k ≠ 45) (hr : isW (sHead T) = false) (h : LX T ts) : LX (w ++ T) ((k, 0) :: ts) := by
  cases w with
  | nil => exact absurd hw (by decide)
  | cons c u =>
    simp only [Bool.and_eq_true, decide_eq_true_eq] at hw
    have q := LX_tok (t := c :: u) (k := k) (v := wVal 0 (c :: u)) (Or.inl ⟨c, u, rfl, hw.1.1, fun x hx => List.all_eq_true.mp hw.1.2 x hx, hw.2, Bool.eq_false_iff.mp hr, hk.symm, rfl⟩) h
    rw [show tv k (wVal 0 (c :: u)) = 0 from if_neg (fun q => by omega)] at q
    exact q
theorem dec1 {x : Nat} (hx : x < 10) : zDec x = [48 + (x : Int)] := by unfold zDec; rw [if_pos hx]
theorem nm_kind : ∀ x : Fin 10, wKind [112, 48 + ((x.val : Nat) : Int)] = 44 ∧ wKind [119, 48 + ((x.val : Nat) : Int)] = 44 ∧ wKind [109, 48 + ((x.val : Nat) : Int)] = 44 := by decide +kernel
theorem LX_nm (c : Int) {x : Nat} (hx : x < 10) {T : List Int} {ts : List (Nat × Int)} (hc : c = 112 ∨ c = 119 ∨ c = 109) (hr : isW (sHead T) = false) (h : LX T ts) : LX (c :: (zDec x ++ T)) ((44, (c - 96) * 37 + 27 + (x : Int)) :: ts) := by
  rw [dec1 hx]
  have hd : isW (48 + (x : Int)) = true := isW_i.mpr (Or.inr ⟨by omega, by omega⟩)
  have hl : isL c = true := isL_i.mpr (by omega)
  have hdn : isL (48 + (x : Int)) = false := Bool.eq_false_iff.mpr (fun q => by have := isL_i.mp q; omega)
  have hv : wVal 0 [c, 48 + (x : Int)] = (c - 96) * 37 + 27 + (x : Int) := by
    show (0 * 37 + wCd c) * 37 + wCd (48 + (x : Int)) = _
    unfold wCd
    rw [if_pos hl, hdn]
    simp only [Bool.false_eq_true, if_false]
    omega
  have nk := nm_kind ⟨x, hx⟩
  have hk9 : wKind [c, 48 + (x : Int)] = 44 := by
    rcases hc with rfl | rfl | rfl
    · exact nk.1
    · exact nk.2.1
    · exact nk.2.2
  have q := LX_tok (t := [c, 48 + (x : Int)]) (k := 44) (v := (c - 96) * 37 + 27 + (x : Int)) (Or.inl ⟨c, [48 + (x : Int)], rfl, hl, fun y hy => by rw [List.mem_singleton.mp hy]; exact hd, Nat.le_of_ble_eq_true rfl, Bool.eq_false_iff.mp hr, hk9.symm, hv.symm⟩) h
  rw [show tv 44 ((c - 96) * 37 + 27 + (x : Int)) = (c - 96) * 37 + 27 + (x : Int) from if_pos (Or.inl rfl)] at q
  exact q
theorem LX_num {x : Nat} (hx : x < 1000) {T : List Int} {ts : List (Nat × Int)} (hr : isD (sHead T) = false) (h : LX T ts) : LX (zDec x ++ T) ((45, (x : Int)) :: ts) := by
  have dg : ∀ y : Int, 48 ≤ y ∧ y ≤ 57 → isD y = true := fun y hy => isD_i.mpr hy
  have q := LX_tok (t := zDec x) (k := 45) (v := (x : Int)) (T := T) (ts := ts) (Or.inr (Or.inl (by
    unfold zDec
    by_cases h1 : x < 10
    · rw [if_pos h1]
      exact ⟨_, _, rfl, dg _ (by omega), fun y hy => absurd hy List.not_mem_nil, Nat.le_of_ble_eq_true rfl, Bool.eq_false_iff.mp hr, rfl, by show (x : Int) = 0 * 10 + (48 + (x : Int) - 48); omega⟩
    · rw [if_neg h1]
      by_cases h2 : x < 100
      · rw [if_pos h2]
        refine ⟨_, _, rfl, dg _ (by omega), fun y hy => ?_, Nat.le_of_ble_eq_true rfl, Bool.eq_false_iff.mp hr, rfl, by show (x : Int) = (0 * 10 + (48 + (x : Int) / 10 - 48)) * 10 + (48 + (x : Int) % 10 - 48); omega⟩
        simp only [List.mem_cons, List.mem_nil_iff, or_false] at hy
        rw [hy]
        exact dg _ (by omega)
      · rw [if_neg h2]
        refine ⟨_, _, rfl, dg _ (by omega), fun y hy => ?_, Nat.le_of_ble_eq_true rfl, Bool.eq_false_iff.mp hr, rfl, by show (x : Int) = ((0 * 10 + (48 + (x : Int) / 100 - 48)) * 10 + (48 + (x : Int) / 10 % 10 - 48)) * 10 + (48 + (x : Int) % 10 - 48); omega⟩
        simp only [List.mem_cons, List.mem_nil_iff, or_false] at hy
        rcases hy with hy | hy <;> (rw [hy]; exact dg _ (by omega))))) h
  rw [show tv 45 (x : Int) = (x : Int) from if_pos (Or.inr rfl)] at q
  exact q
theorem LX_sy (c : Int) (k : Nat) {T : List Int} {ts : List (Nat × Int)} (hw : isW c = false) (hc : c ≠ 32 ∧ c ≠ 10) (h6 : (c ≠ 60 ∧ c ≠ 62) ∨ sHead T ≠ 61) (hk : sKd [c] 0 48 = k) (hk2 : k < 44) (h : LX T ts) : LX (c :: T) ((k, 0) :: ts) := by
  have q := LX_tok (t := [c]) (k := k) (v := 0) (Or.inr (Or.inr (Or.inl ⟨c, rfl, Bool.eq_false_iff.mp hw, hc, fun w => by omega, hk.symm, hk2, rfl⟩))) h
  rw [show tv k 0 = 0 from by unfold tv; split <;> rfl] at q
  exact q
theorem LX_ge {T : List Int} {ts : List (Nat × Int)} (h : LX T ts) : LX (62 :: 61 :: T) ((43, 0) :: ts) :=
  LX_tok (t := [62, 61]) (k := 43) (v := 0) (Or.inr (Or.inr (Or.inr ⟨62, rfl, Or.inr rfl, by decide +kernel, by decide, rfl⟩))) h
theorem sh_dec {x : Nat} {T : List Int} : isW (sHead (zDec x ++ T)) = isW (sHead (zDec x ++ [])) := by
  unfold zDec
  (repeat' split) <;> rfl
/-- a test in tokens -/
def tTok (n k p w m : Nat) : List (Nat × Int) :=
  if k = 0 then [(19, 0), (39, 0), (45, (n : Int))] else if k = 1 then [(20, 0), (44, 619 + (p : Int)), (40, 0), (45, 1)] else if k = 2 then [(23, 0), (44, 878 + (w : Int))] else if k = 3 then [(25, 0), (23, 0), (44, 878 + (w : Int)), (26, 0), (24, 0), (44, 508 + (m : Int))] else if k = 4 then [(21, 0), (44, 508 + (m : Int)), (37, 0), (45, 2), (43, 0), (45, (n : Int))] else if k = 5 then [(31, 0), (22, 0), (44, 508 + (m : Int)), (39, 0), (45, (n : Int)), (38, 0), (45, 30), (7, 0), (19, 0), (40, 0), (45, (n : Int)), (38, 0), (45, 2), (32, 0), (26, 0), (19, 0), (38, 0), (45, 2), (37, 0), (45, 2), (41, 0), (19, 0)] else if k = 6 then [(24, 0), (44, 508 + (m : Int))] else [(45, (n : Int)), (38, 0), (45, 2), (37, 0), (45, 2), (41, 0), (45, (n : Int))]
theorem LX_lit {x : Nat} {u : List Int} (e : zDec x = u) {T : List Int} {ts : List (Nat × Int)} (h : LX (zDec x ++ T) ts) : LX (u ++ T) ts := by rw [← e]; exact h
theorem LX_test0 {n p w m : Nat} (hb : n < 1000 ∧ p < 10 ∧ w < 10 ∧ m < 10) {r : List Int} {ts : List (Nat × Int)} (h : LX (59 :: r) ts) : LX (tTest n 0 p w m ++ 59 :: r) (tTok n 0 p w m ++ ts) := by
  have e1 : tTest n 0 p w m = tS125 ++ zDec n := rfl
  have e2 : tTok n 0 p w m = [(19, 0), (39, 0), (45, (n : Int))] := rfl
  rw [e1, e2]
  simp only [List.append_assoc, List.cons_append, List.nil_append, tS125]
  refine LX_kw [109, 105, 110, 117, 116, 101] 19 (by decide) (by decide +kernel) (by decide) rfl ?_
  refine LX_sy 60 39 (by decide) (by decide) (Or.inr (by first | decide | (show (49 : Int) ≠ 61; decide) | (unfold zDec; (repeat' split) <;> simp only [List.cons_append, sHead] <;> omega))) (by decide +kernel) (by decide) ?_
  refine LX_num (x := n) (by omega) rfl ?_
  exact h
theorem LX_test1 {n p w m : Nat} (hb : n < 1000 ∧ p < 10 ∧ w < 10 ∧ m < 10) {r : List Int} {ts : List (Nat × Int)} (h : LX (59 :: r) ts) : LX (tTest n 1 p w m ++ 59 :: r) (tTok n 1 p w m ++ ts) := by
  have e1 : tTest n 1 p w m = tS126 ++ zDec p ++ tS127 := rfl
  have e2 : tTok n 1 p w m = [(20, 0), (44, 619 + (p : Int)), (40, 0), (45, 1)] := rfl
  rw [e1, e2]
  simp only [List.append_assoc, List.cons_append, List.nil_append, tS126, tS127]
  refine LX_kw [113, 117, 101, 117, 101] 20 (by decide) (by decide +kernel) (by decide) rfl ?_
  refine LX_bl (by decide) ?_
  refine LX_nm 112 (x := p) (by omega) (by decide) rfl ?_
  refine LX_sy 62 40 (by decide) (by decide) (Or.inr (by first | decide | (show (49 : Int) ≠ 61; decide) | (unfold zDec; (repeat' split) <;> simp only [List.cons_append, sHead] <;> omega))) (by decide +kernel) (by decide) ?_
  refine LX_lit (x := 1) (u := [49]) (by decide) ?_
  refine LX_num (x := 1) (by omega) rfl ?_
  exact h
theorem LX_test2 {n p w m : Nat} (hb : n < 1000 ∧ p < 10 ∧ w < 10 ∧ m < 10) {r : List Int} {ts : List (Nat × Int)} (h : LX (59 :: r) ts) : LX (tTest n 2 p w m ++ 59 :: r) (tTok n 2 p w m ++ ts) := by
  have e1 : tTest n 2 p w m = tS128 ++ zDec w := rfl
  have e2 : tTok n 2 p w m = [(23, 0), (44, 878 + (w : Int))] := rfl
  rw [e1, e2]
  simp only [List.append_assoc, List.cons_append, List.nil_append, tS128]
  refine LX_kw [111, 112, 101, 110] 23 (by decide) (by decide +kernel) (by decide) rfl ?_
  refine LX_bl (by decide) ?_
  refine LX_nm 119 (x := w) (by omega) (by decide) rfl ?_
  exact h
theorem LX_test3 {n p w m : Nat} (hb : n < 1000 ∧ p < 10 ∧ w < 10 ∧ m < 10) {r : List Int} {ts : List (Nat × Int)} (h : LX (59 :: r) ts) : LX (tTest n 3 p w m ++ 59 :: r) (tTok n 3 p w m ++ ts) := by
  have e1 : tTest n 3 p w m = tS129 ++ zDec w ++ tS130 ++ zDec m := rfl
  have e2 : tTok n 3 p w m = [(25, 0), (23, 0), (44, 878 + (w : Int)), (26, 0), (24, 0), (44, 508 + (m : Int))] := rfl
  rw [e1, e2]
  simp only [List.append_assoc, List.cons_append, List.nil_append, tS129, tS130]
  refine LX_kw [110, 111, 116] 25 (by decide) (by decide +kernel) (by decide) rfl ?_
  refine LX_bl (by decide) ?_
  refine LX_kw [111, 112, 101, 110] 23 (by decide) (by decide +kernel) (by decide) rfl ?_
  refine LX_bl (by decide) ?_
  refine LX_nm 119 (x := w) (by omega) (by decide) rfl ?_
  refine LX_bl (by decide) ?_
  refine LX_kw [111, 114] 26 (by decide) (by decide +kernel) (by decide) rfl ?_
  refine LX_bl (by decide) ?_
  refine LX_kw [99, 97, 114, 114, 105, 101, 100] 24 (by decide) (by decide +kernel) (by decide) rfl ?_
  refine LX_bl (by decide) ?_
  refine LX_nm 109 (x := m) (by omega) (by decide) rfl ?_
  exact h
theorem LX_test4 {n p w m : Nat} (hb : n < 1000 ∧ p < 10 ∧ w < 10 ∧ m < 10) {r : List Int} {ts : List (Nat × Int)} (h : LX (59 :: r) ts) : LX (tTest n 4 p w m ++ 59 :: r) (tTok n 4 p w m ++ ts) := by
  have e1 : tTest n 4 p w m = tS131 ++ zDec m ++ tS132 ++ zDec n := rfl
  have e2 : tTok n 4 p w m = [(21, 0), (44, 508 + (m : Int)), (37, 0), (45, 2), (43, 0), (45, (n : Int))] := rfl
  rw [e1, e2]
  simp only [List.append_assoc, List.cons_append, List.nil_append, tS131, tS132]
  refine LX_kw [108, 101, 102, 116] 21 (by decide) (by decide +kernel) (by decide) rfl ?_
  refine LX_bl (by decide) ?_
  refine LX_nm 109 (x := m) (by omega) (by decide) rfl ?_
  refine LX_sy 42 37 (by decide) (by decide) (Or.inl (by decide)) (by decide +kernel) (by decide) ?_
  refine LX_lit (x := 2) (u := [50]) (by decide) ?_
  refine LX_num (x := 2) (by omega) rfl ?_
  refine LX_bl (by decide) ?_
  refine LX_ge ?_
  refine LX_bl (by decide) ?_
  refine LX_num (x := n) (by omega) rfl ?_
  exact h
theorem LX_test5 {n p w m : Nat} (hb : n < 1000 ∧ p < 10 ∧ w < 10 ∧ m < 10) {r : List Int} {ts : List (Nat × Int)} (h : LX (59 :: r) ts) : LX (tTest n 5 p w m ++ 59 :: r) (tTok n 5 p w m ++ ts) := by
  have e1 : tTest n 5 p w m = tS133 ++ zDec m ++ tS99 ++ zDec n ++ tS134 ++ zDec n ++ tS135 := rfl
  have e2 : tTok n 5 p w m = [(31, 0), (22, 0), (44, 508 + (m : Int)), (39, 0), (45, (n : Int)), (38, 0), (45, 30), (7, 0), (19, 0), (40, 0), (45, (n : Int)), (38, 0), (45, 2), (32, 0), (26, 0), (19, 0), (38, 0), (45, 2), (37, 0), (45, 2), (41, 0), (19, 0)] := rfl
  rw [e1, e2]
  simp only [List.append_assoc, List.cons_append, List.nil_append, tS133, tS134, tS135, tS99]
  refine LX_sy 91 31 (by decide) (by decide) (Or.inl (by decide)) (by decide +kernel) (by decide) ?_
  refine LX_kw [98, 114, 101, 97, 107, 115] 22 (by decide) (by decide +kernel) (by decide) rfl ?_
  refine LX_bl (by decide) ?_
  refine LX_nm 109 (x := m) (by omega) (by decide) rfl ?_
  refine LX_sy 60 39 (by decide) (by decide) (Or.inr (by first | decide | (show (49 : Int) ≠ 61; decide) | (unfold zDec; (repeat' split) <;> simp only [List.cons_append, sHead] <;> omega))) (by decide +kernel) (by decide) ?_
  refine LX_num (x := n) (by omega) rfl ?_
  refine LX_sy 47 38 (by decide) (by decide) (Or.inl (by decide)) (by decide +kernel) (by decide) ?_
  refine LX_lit (x := 30) (u := [51, 48]) (by decide) ?_
  refine LX_num (x := 30) (by omega) rfl ?_
  refine LX_bl (by decide) ?_
  refine LX_kw [97, 110, 100] 7 (by decide) (by decide +kernel) (by decide) rfl ?_
  refine LX_bl (by decide) ?_
  refine LX_kw [109, 105, 110, 117, 116, 101] 19 (by decide) (by decide +kernel) (by decide) rfl ?_
  refine LX_sy 62 40 (by decide) (by decide) (Or.inr (by first | decide | (show (49 : Int) ≠ 61; decide) | (unfold zDec; (repeat' split) <;> simp only [List.cons_append, sHead] <;> omega))) (by decide +kernel) (by decide) ?_
  refine LX_num (x := n) (by omega) rfl ?_
  refine LX_sy 47 38 (by decide) (by decide) (Or.inl (by decide)) (by decide +kernel) (by decide) ?_
  refine LX_lit (x := 2) (u := [50]) (by decide) ?_
  refine LX_num (x := 2) (by omega) rfl ?_
  refine LX_sy 93 32 (by decide) (by decide) (Or.inl (by decide)) (by decide +kernel) (by decide) ?_
  refine LX_kw [111, 114] 26 (by decide) (by decide +kernel) (by decide) rfl ?_
  refine LX_bl (by decide) ?_
  refine LX_kw [109, 105, 110, 117, 116, 101] 19 (by decide) (by decide +kernel) (by decide) rfl ?_
  refine LX_sy 47 38 (by decide) (by decide) (Or.inl (by decide)) (by decide +kernel) (by decide) ?_
  refine LX_lit (x := 2) (u := [50]) (by decide) ?_
  refine LX_num (x := 2) (by omega) rfl ?_
  refine LX_sy 42 37 (by decide) (by decide) (Or.inl (by decide)) (by decide +kernel) (by decide) ?_
  refine LX_lit (x := 2) (u := [50]) (by decide) ?_
  refine LX_num (x := 2) (by omega) rfl ?_
  refine LX_sy 61 41 (by decide) (by decide) (Or.inl (by decide)) (by decide +kernel) (by decide) ?_
  refine LX_kw [109, 105, 110, 117, 116, 101] 19 (by decide) (by decide +kernel) (by decide) rfl ?_
  exact h
theorem LX_test6 {n p w m : Nat} (hb : n < 1000 ∧ p < 10 ∧ w < 10 ∧ m < 10) {r : List Int} {ts : List (Nat × Int)} (h : LX (59 :: r) ts) : LX (tTest n 6 p w m ++ 59 :: r) (tTok n 6 p w m ++ ts) := by
  have e1 : tTest n 6 p w m = tS136 ++ zDec m := rfl
  have e2 : tTok n 6 p w m = [(24, 0), (44, 508 + (m : Int))] := rfl
  rw [e1, e2]
  simp only [List.append_assoc, List.cons_append, List.nil_append, tS136]
  refine LX_kw [99, 97, 114, 114, 105, 101, 100] 24 (by decide) (by decide +kernel) (by decide) rfl ?_
  refine LX_bl (by decide) ?_
  refine LX_nm 109 (x := m) (by omega) (by decide) rfl ?_
  exact h
theorem LX_test7 {n p w m : Nat} (hb : n < 1000 ∧ p < 10 ∧ w < 10 ∧ m < 10) {r : List Int} {ts : List (Nat × Int)} (h : LX (59 :: r) ts) : LX (tTest n 7 p w m ++ 59 :: r) (tTok n 7 p w m ++ ts) := by
  have e1 : tTest n 7 p w m = zDec n ++ tS137 ++ zDec n := rfl
  have e2 : tTok n 7 p w m = [(45, (n : Int)), (38, 0), (45, 2), (37, 0), (45, 2), (41, 0), (45, (n : Int))] := rfl
  rw [e1, e2]
  simp only [List.append_assoc, List.cons_append, List.nil_append, tS137]
  refine LX_num (x := n) (by omega) rfl ?_
  refine LX_sy 47 38 (by decide) (by decide) (Or.inl (by decide)) (by decide +kernel) (by decide) ?_
  refine LX_lit (x := 2) (u := [50]) (by decide) ?_
  refine LX_num (x := 2) (by omega) rfl ?_
  refine LX_sy 42 37 (by decide) (by decide) (Or.inl (by decide)) (by decide +kernel) (by decide) ?_
  refine LX_lit (x := 2) (u := [50]) (by decide) ?_
  refine LX_num (x := 2) (by omega) rfl ?_
  refine LX_sy 61 41 (by decide) (by decide) (Or.inl (by decide)) (by decide +kernel) (by decide) ?_
  refine LX_num (x := n) (by omega) rfl ?_
  exact h
theorem LX_test {n k p w m : Nat} (hk : k < 8) (hb : n < 1000 ∧ p < 10 ∧ w < 10 ∧ m < 10) {r : List Int} {ts : List (Nat × Int)} (h : LX (59 :: r) ts) : LX (tTest n k p w m ++ 59 :: r) (tTok n k p w m ++ ts) := by
  rcases (show k = 0 ∨ k = 1 ∨ k = 2 ∨ k = 3 ∨ k = 4 ∨ k = 5 ∨ k = 6 ∨ k = 7 by omega) with rfl | rfl | rfl | rfl | rfl | rfl | rfl | rfl
  · exact LX_test0 hb h
  · exact LX_test1 hb h
  · exact LX_test2 hb h
  · exact LX_test3 hb h
  · exact LX_test4 hb h
  · exact LX_test5 hb h
  · exact LX_test6 hb h
  · exact LX_test7 hb h
end

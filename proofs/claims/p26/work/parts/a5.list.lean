/-! THE LIST -/
section
variable {l : Launch} {Γ : zk_G} {d : Nat} {F : Heap → Prop}
theorem fu_fu {α : Type} {f : Nat → α} {k : Nat} {u v : α} : fu (fu f k u) k v = fu f k v := by
  funext x
  unfold fu
  by_cases q : x = k
  · rw [if_pos q, if_pos q]
  · rw [if_neg q, if_neg q, if_neg q]
theorem mod_wrap {z n : Int} (h0 : 0 ≤ z) (h1 : z < 2 * n) (hn : 0 < n) : z % n = if z < n then z else z - n := by
  by_cases q : z < n
  · rw [if_pos q]
    exact Int.emod_eq_of_lt h0 q
  · rw [if_neg q]
    have e : z = (z - n) + n * 1 := by omega
    rw [e, Int.add_mul_emod_self_left, Int.emod_eq_of_lt (by omega) (by omega)]
    omega
section
variable {C : Nat → Int32}
theorem dP_bd (p : Nat) : (0 ≤ (dP C p).getD 0 0 ∧ (dP C p).getD 0 0 ≤ 120) ∧ (0 ≤ (dP C p).getD 1 0 ∧ (dP C p).getD 1 0 ≤ 120) ∧ (0 ≤ (dP C p).getD 2 0 ∧ (dP C p).getD 2 0 ≤ 4) := by
  unfold dP
  dsimp only
  obtain ⟨x, hx⟩ : ∃ z, sh (C 1) (3 * (p : Int)) = z := ⟨_, rfl⟩
  rw [hx]
  simp only [List.getD_cons_zero, List.getD_cons_succ]
  have e1 := lB_bd x (n := 121) (by omega)
  have e2 := lB_bd x (n := 30) (by omega)
  have e3 := lB_bd (sh x 4) (n := 121) (by omega)
  have e4 := lB_bd (sh x 4) (n := 40) (by omega)
  have e5 := lB_bd x (n := 5) (by omega)
  have e6 := lB_bd (sh x 1) (n := 2) (by omega)
  refine ⟨?_, ?_, ?_⟩ <;> split <;> omega
theorem dW_bd (w : Nat) : (0 ≤ (dW C w).getD 0 0 ∧ (dW C w).getD 0 0 < qP C) ∧ (0 ≤ (dW C w).getD 1 0 ∧ (dW C w).getD 1 0 < qP C) ∧ (dW C w).getD 1 0 ≠ (dW C w).getD 0 0 ∧ (1 ≤ (dW C w).getD 2 0 ∧ (dW C w).getD 2 0 ≤ 20) ∧ (dW C w).getD 3 0 = 0 := by
  have q := (q_bd C).1
  unfold dW
  dsimp only
  obtain ⟨x, hx⟩ : ∃ z, sh (C (3 + w % 2)) (3 * ((w / 2 : Nat) : Int)) = z := ⟨_, rfl⟩
  rw [hx]
  simp only [List.getD_cons_zero, List.getD_cons_succ]
  have e1 := lB_bd x (n := qP C) (by omega)
  have e2 := lB_bd (sh x 4) (n := 2) (by omega)
  have e3 := lB_bd (sh x 4) (n := (qP C : Int) - 1) (by omega)
  have e4 := lB_bd (sh x 2) (n := 20) (by omega)
  have e5 := lB_bd (sh x 2) (n := 6) (by omega)
  have hf : 1 ≤ 1 + lB (sh x 2) (if lB (sh x 6) 2 = 0 then 20 else 6) ∧ 1 + lB (sh x 2) (if lB (sh x 6) 2 = 0 then 20 else 6) ≤ 20 := by split <;> omega
  by_cases h : w < qP C
  · simp only [if_pos h]
    rw [mod_wrap (by omega) (by omega) (by omega)]
    refine ⟨by omega, ?_, ?_, hf, trivial⟩ <;> split <;> omega
  · simp only [if_neg h]
    rw [mod_wrap (by omega) (by omega) (by omega)]
    refine ⟨by omega, ?_, ?_, hf, trivial⟩ <;> split <;> omega
theorem dC_bd (c : Nat) : (0 ≤ (dC C c).getD 0 0 ∧ (dC C c).getD 0 0 < qW C) ∧ (2 ≤ (dC C c).getD 1 0 ∧ (dC C c).getD 1 0 ≤ 60) ∧ (1 ≤ (dC C c).getD 2 0 ∧ (dC C c).getD 2 0 ≤ (dC C c).getD 1 0 - 1) ∧ (0 ≤ (dC C c).getD 3 0 ∧ (dC C c).getD 3 0 ≤ 59) := by
  have q := (q_bd C).2.1
  unfold dC
  dsimp only
  obtain ⟨x, hx⟩ : ∃ z, sh (C 6) (4 * (c : Int)) = z := ⟨_, rfl⟩
  rw [hx]
  simp only [List.getD_cons_zero, List.getD_cons_succ]
  have e1 := lB_bd x (n := 59) (by omega)
  have e2 := lB_bd x (n := 12) (by omega)
  have e3 := lB_bd (sh x 2) (n := qW C) (by omega)
  have e4 := lB_bd (sh x 4) (n := 60) (by omega)
  obtain ⟨e, he⟩ : ∃ z, 2 + lB x (if lB (sh x 5) 2 = 0 then 59 else 12) = z := ⟨_, rfl⟩
  have hb : 2 ≤ e ∧ e ≤ 60 := by rw [← he]; split <;> omega
  rw [he]
  have e5 := lB_bd (sh x 3) (n := e - 1) (by omega)
  omega
theorem dM_bd (m : Nat) : (1 ≤ (dM C m).getD 0 0 ∧ (dM C m).getD 0 0 ≤ 40) ∧ (0 ≤ (dM C m).getD 1 0 ∧ (dM C m).getD 1 0 < qP C) ∧ (0 ≤ (dM C m).getD 2 0 ∧ (dM C m).getD 2 0 < qP C) ∧ (dM C m).getD 2 0 ≠ (dM C m).getD 1 0 ∧ (0 ≤ (dM C m).getD 3 0 ∧ (dM C m).getD 3 0 < 30) := by
  have q := (q_bd C).1
  unfold dM
  dsimp only
  obtain ⟨x, hx⟩ : ∃ z, sh (C (8 + m % 2)) (4 * ((m / 2 : Nat) : Int)) = z := ⟨_, rfl⟩
  rw [hx]
  simp only [List.getD_cons_zero, List.getD_cons_succ]
  have e1 := lB_bd x (n := 40) (by omega)
  have e2 := lB_bd x (n := 9) (by omega)
  have e3 := lB_bd (sh x 2) (n := qP C) (by omega)
  have e4 := lB_bd (sh x 5) (n := (qP C : Int) - 1) (by omega)
  have e5 := lB_bd (sh x 3) (n := 30) (by omega)
  rw [mod_wrap (by omega) (by omega) (by omega)]
  refine ⟨by split <;> omega, e3, ?_, ?_, e5⟩ <;> split <;> omega
theorem dH_bd (k : Nat) : (0 ≤ (dH C k).getD 0 0 ∧ (dH C k).getD 0 0 < qM C) ∧ (0 ≤ (dH C k).getD 1 0 ∧ (dH C k).getD 1 0 < 8) ∧ (0 ≤ (dH C k).getD 2 0 ∧ (dH C k).getD 2 0 < 120) ∧ (0 ≤ (dH C k).getD 3 0 ∧ (dH C k).getD 3 0 < qP C) ∧ (0 ≤ (dH C k).getD 4 0 ∧ (dH C k).getD 4 0 < qW C) ∧ (0 ≤ (dH C k).getD 5 0 ∧ (dH C k).getD 5 0 < qM C) := by
  have q := q_bd C
  unfold dH
  dsimp only
  simp only [List.getD_cons_zero, List.getD_cons_succ]
  exact ⟨lB_bd _ (by omega), lB_bd _ (by omega), lB_bd _ (by omega), lB_bd _ (by omega), lB_bd _ (by omega), lB_bd _ (by omega)⟩
/-- the tables' rows, and how many -/
def dat (C : Nat → Int32) (k j : Nat) : List Int := match k with | 0 => dP C j | 1 => dW C j | 2 => dC C j | 3 => dM C j | _ => dH C j
def cnt (C : Nat → Int32) (k : Nat) : Nat := match k with | 0 => qP C | 1 => qW C | 2 => qC C | 3 => qM C | _ => qH C
/-- what is there of the tables: f k rows of table k -/
def zPr (C : Nat → Int32) (n : Nat → Nat) (V : Nat → Nat → Nat → Int) (f : Nat → Nat) : Prop := ∀ k, k < 5 → n k = f k ∧ ∀ j, j < f k → V k j = fun y => (dat C k j).getD y 0
theorem zPr.push {n : Nat → Nat} {V : Nat → Nat → Nat → Int} {f : Nat → Nat} {k j : Nat} (h : zPr C n V f) (hf : f k = j) : zPr C (fu n k (j + 1)) (fu V k (fu (V k) j (fun y => (dat C k j).getD y 0))) (fu f k (j + 1)) := by
  intro k' hk'
  by_cases e : k' = k
  · subst e
    rw [fu_a, fu_a, fu_a]
    refine ⟨rfl, fun i hi => ?_⟩
    by_cases ei : i = j
    · rw [ei, fu_a]
    · rw [fu_n ei]
      exact (h k' hk').2 i (by omega)
  · rw [fu_n e, fu_n e, fu_n e]
    exact h k' hk'
theorem zPr.same {n : Nat → Nat} {V : Nat → Nat → Nat → Int} {f g : Nat → Nat} (h : zPr C n V f) (e : ∀ k, k < 5 → g k = f k) : zPr C n V g := fun k hk => by
  rw [e k hk]
  exact h k hk
theorem zPr.table {n : Nat → Nat} {V : Nat → Nat → Nat → Int} {f : Nat → Nat} {k : Nat} (h : zPr C n V f) : zPr C (fu n k 0) V (fu f k 0) := by
  intro k' hk'
  by_cases e : k' = k
  · subst e
    rw [fu_a, fu_a]
    exact ⟨rfl, fun j hj => absurd hj (by omega)⟩
  · rw [fu_n e, fu_n e]
    exact h k' hk'
end
/-- a row's line, behind what is written -/
def aL (C : Nat → Int32) (k j : Nat) (T : List Int) : List Int := match k with
  | 0 => T ++ tS105 ++ zDec j ++ tS106 ++ zDec ((dP C j).getD 0 0).toNat ++ tS107 ++ zDec ((dP C j).getD 1 0).toNat ++ tS108 ++ zDec ((dP C j).getD 2 0).toNat ++ tS93
  | 1 => if j % 2 = 0 then T ++ tS109 ++ zDec j ++ tS110 ++ zDec ((dW C j).getD 0 0).toNat ++ tS111 ++ zDec ((dW C j).getD 1 0).toNat ++ tS112 ++ zDec ((dW C j).getD 2 0).toNat ++ tS93 else T ++ tS109 ++ zDec j ++ tS110 ++ zDec ((dW C j).getD 0 0).toNat ++ tS111 ++ zDec ((dW C j).getD 1 0).toNat ++ tS112 ++ zDec ((dW C j).getD 2 0).toNat ++ tS113
  | 2 => T ++ tS114 ++ zDec ((dC C j).getD 0 0).toNat ++ tS115 ++ zDec ((dC C j).getD 1 0).toNat ++ tS116 ++ zDec ((dC C j).getD 2 0).toNat ++ tS117 ++ zDec ((dC C j).getD 3 0).toNat ++ tS93
  | 3 => T ++ tS118 ++ zDec j ++ tS119 ++ zDec ((dM C j).getD 0 0).toNat ++ tS120 ++ zDec ((dM C j).getD 1 0).toNat ++ tS121 ++ zDec ((dM C j).getD 2 0).toNat ++ tS122 ++ zDec ((dM C j).getD 3 0).toNat ++ tS93
  | _ => T ++ tS123 ++ zDec ((dH C j).getD 0 0).toNat ++ tS124 ++ tTest ((dH C j).getD 2 0).toNat ((dH C j).getD 1 0).toNat ((dH C j).getD 3 0).toNat ((dH C j).getD 4 0).toNat ((dH C j).getD 5 0).toNat ++ tS93
def aLs (C : Nat → Int32) (k : Nat) (T : List Int) : Nat → Nat → List Int
  | _, 0 => T
  | j, m + 1 => aLs C k (aL C k j T) (j + 1) m
theorem tTest_le (n k p w m : Nat) : (tTest n k p w m).length ≤ 60 := by
  have dn := zDec_le n
  have dp := zDec_le p
  have dw := zDec_le w
  have dm := zDec_le m
  unfold tTest
  (repeat' split) <;> simp only [List.length_append] <;> simp (decide := true) only [List.length_cons, List.length_nil, tS125, tS126, tS127, tS128, tS129, tS130, tS131, tS132, tS133, tS99, tS134, tS135, tS136, tS137] <;> omega
theorem aL_len (C : Nat → Int32) (k j : Nat) (T : List Int) : (aL C k j T).length ≤ T.length + 80 := by
  have z := fun x => zDec_le x
  have t := tTest_le ((dH C j).getD 2 0).toNat ((dH C j).getD 1 0).toNat ((dH C j).getD 3 0).toNat ((dH C j).getD 4 0).toNat ((dH C j).getD 5 0).toNat
  have zj := z j
  have zp0 := z ((dP C j).getD 0 0).toNat
  have zp1 := z ((dP C j).getD 1 0).toNat
  have zp2 := z ((dP C j).getD 2 0).toNat
  have zw0 := z ((dW C j).getD 0 0).toNat
  have zw1 := z ((dW C j).getD 1 0).toNat
  have zw2 := z ((dW C j).getD 2 0).toNat
  have zc0 := z ((dC C j).getD 0 0).toNat
  have zc1 := z ((dC C j).getD 1 0).toNat
  have zc2 := z ((dC C j).getD 2 0).toNat
  have zc3 := z ((dC C j).getD 3 0).toNat
  have zm0 := z ((dM C j).getD 0 0).toNat
  have zm1 := z ((dM C j).getD 1 0).toNat
  have zm2 := z ((dM C j).getD 2 0).toNat
  have zm3 := z ((dM C j).getD 3 0).toNat
  have zh0 := z ((dH C j).getD 0 0).toNat
  unfold aL
  (repeat' split) <;> simp only [List.length_append] <;> simp (decide := true) only [List.length_cons, List.length_nil, tS105, tS106, tS107, tS108, tS109, tS110, tS111, tS112, tS113, tS114, tS115, tS116, tS117, tS118, tS119, tS120, tS121, tS122, tS123, tS124, tS93] <;> omega
theorem aL_len4 (C : Nat → Int32) (k j : Nat) (T : List Int) (hk : k < 4) : (aL C k j T).length ≤ T.length + 60 := by
  have z := fun x => zDec_le x
  have zj := z j
  have zp0 := z ((dP C j).getD 0 0).toNat
  have zp1 := z ((dP C j).getD 1 0).toNat
  have zp2 := z ((dP C j).getD 2 0).toNat
  have zw0 := z ((dW C j).getD 0 0).toNat
  have zw1 := z ((dW C j).getD 1 0).toNat
  have zw2 := z ((dW C j).getD 2 0).toNat
  have zc0 := z ((dC C j).getD 0 0).toNat
  have zc1 := z ((dC C j).getD 1 0).toNat
  have zc2 := z ((dC C j).getD 2 0).toNat
  have zc3 := z ((dC C j).getD 3 0).toNat
  have zm0 := z ((dM C j).getD 0 0).toNat
  have zm1 := z ((dM C j).getD 1 0).toNat
  have zm2 := z ((dM C j).getD 2 0).toNat
  have zm3 := z ((dM C j).getD 3 0).toNat
  rcases (show k = 0 ∨ k = 1 ∨ k = 2 ∨ k = 3 by omega) with rfl | rfl | rfl | rfl <;> simp only [aL] <;> (try split) <;> simp only [List.length_append] <;> simp (decide := true) only [List.length_cons, List.length_nil, tS105, tS106, tS107, tS108, tS109, tS110, tS111, tS112, tS113, tS114, tS115, tS116, tS117, tS118, tS119, tS120, tS121, tS122, tS123, tS124, tS93] <;> omega
section
variable {len : Nat} {s : Nat → Int32} {S a : Nat} {tk c : Nat → Nat} {kc ks : Nat} {Q : Option Value → zk_M → (Heap → Prop) → Prop}
theorem zl_loop0 (hl : len < 2147483648) (hc0 : c 0 = qP (lC s len)) (hd : 9 ≤ d) : ∀ (m j : Nat) (M : zk_M) (n : Nat → Nat) (r : Nat → Nat → Nat) (V : Nat → Nat → Nat → Int) (b cap : Nat) (T : List Int) (f : Nat → Nat) (L5 L6 L7 L8 : Option Value), j + m = qP (lC s len) → zLQ len s M S tk c n r V a b cap T → zPr (lC s len) n V f → f 0 = j → T.length + 60 * m ≤ 2000 →
    (∀ (M' : zk_M) (n' : Nat → Nat) (r' : Nat → Nat → Nat) (V' : Nat → Nat → Nat → Int) (b' cap' : Nat) (L5 L6 L7 L8 : Option Value), zLQ len s M' S tk c n' r' V' a b' cap' (aLs (lC s len) 0 T j m) → zPr (lC s len) n' V' (fu f 0 (qP (lC s len))) → zk_Go l Γ mL_list d kc ks Q 236 [some (.ref 56), some (.ref a), some (.ref S), some (.int (iZ (qP (lC s len) : Int))), some (.int (iZ (qP (lC s len) : Int))), L5, L6, L7, L8] [] M' F) →
    zk_Go l Γ mL_list d (kc + 20 * m) (ks + 100000 * m) Q 31 [some (.ref 56), some (.ref a), some (.ref S), some (.int (iZ (qP (lC s len) : Int))), some (.int (iZ (j : Int))), L5, L6, L7, L8] [] M F := by
  have qb := q_bd (lC s len)
  intro m
  induction m with
  | zero =>
    intro j M n r V b cap T f L5 L6 L7 L8 hj hP hp hf hT hk
    have e : j = qP (lC s len) := by omega
    subst e
    refine gz_iload dL_list_31 rfl ?_
    refine gz_iload_n dL_list_33 rfl ?_
    refine zz_icmp_ge (tgt := 236) dL_list_34 rfl (by omega) (fun bz => ?_) (fun bz => ?_)
    rotate_left
    · exact absurd bz (by omega)
    refine (hk M n r V b cap L5 L6 L7 L8 hP (hp.same (fun k' hk' => ?_))).le (by omega) (by omega)
    by_cases q : k' = 0
    · rw [q, fu_a]; exact hf.symm
    · exact fu_n q
  | succ m ih =>
    intro j M n r V b cap T f L5 L6 L7 L8 hj hP hp hf hT hk
    have hnj : n 0 = j := ((hp 0 (by decide)).1).trans hf
    have al := aL_len4 (lC s len) 0 j T (by decide)
    have bd := dP_bd (C := lC s len) j
    obtain ⟨x0, hx0⟩ : ∃ z : Nat, (dP (lC s len) j).getD 0 0 = (z : Int) := ⟨((dP (lC s len) j).getD 0 0).toNat, by omega⟩
    obtain ⟨x1, hx1⟩ : ∃ z : Nat, (dP (lC s len) j).getD 1 0 = (z : Int) := ⟨((dP (lC s len) j).getD 1 0).toNat, by omega⟩
    obtain ⟨x2, hx2⟩ : ∃ z : Nat, (dP (lC s len) j).getD 2 0 = (z : Int) := ⟨((dP (lC s len) j).getD 2 0).toNat, by omega⟩
    rw [hx0, hx1, hx2] at bd
    refine zk_Go.le (zl_peakR (kc := kc + 20 * m + 9) (ks := ks + 100000 * m + 36900) hP hl hc0 ⟨hnj, by omega⟩ (by omega) (fun M1 q L5 L6 hP1 => ?_)) (by omega) (by omega)
    refine zl_peakT (p := j) (x0 := x0) (x1 := x1) (x2 := x2) hP1 ⟨by rw [fu_a]; omega, by omega⟩ (by rw [fu_a, fu_a]; exact hx0) (by rw [fu_a, fu_a]; exact hx1) (by rw [fu_a, fu_a]; exact hx2) ⟨by omega, by omega, by omega, by omega⟩ (by omega) (by omega) (fun M2 b2 c2 hP2 => ?_)
    have et : T ++ tS105 ++ zDec j ++ tS106 ++ zDec x0 ++ tS107 ++ zDec x1 ++ tS108 ++ zDec x2 ++ tS93 = aL (lC s len) 0 j T := by
      show _ = T ++ tS105 ++ zDec j ++ tS106 ++ zDec _ ++ tS107 ++ zDec _ ++ tS108 ++ zDec _ ++ tS93
      rw [hx0, hx1, hx2, Int.toNat_natCast, Int.toNat_natCast, Int.toNat_natCast]
    rw [et] at hP2
    exact (ih (j + 1) _ _ _ _ _ _ _ (fu f 0 (j + 1)) _ _ _ _ (by omega) hP2 (hp.push (k := 0) hf) fu_a (by omega) (fun M9 n9 r9 V9 b9 c9 L5 L6 L7 L8 hP9 hp9 => hk M9 n9 r9 V9 b9 c9 L5 L6 L7 L8 hP9 (by rw [fu_fu] at hp9; exact hp9)))
theorem zl_loop1 (hl : len < 2147483648) (hc1 : c 1 = qW (lC s len)) (hd : 9 ≤ d) : ∀ (m j : Nat) (M : zk_M) (n : Nat → Nat) (r : Nat → Nat → Nat) (V : Nat → Nat → Nat → Int) (b cap : Nat) (T : List Int) (f : Nat → Nat) (L5 L6 L7 L8 : Option Value), j + m = qW (lC s len) → zLQ len s M S tk c n r V a b cap T → zPr (lC s len) n V f → f 1 = j → T.length + 60 * m ≤ 2000 →
    (∀ (M' : zk_M) (n' : Nat → Nat) (r' : Nat → Nat → Nat) (V' : Nat → Nat → Nat → Int) (b' cap' : Nat) (L5 L6 L7 L8 : Option Value), zLQ len s M' S tk c n' r' V' a b' cap' (aLs (lC s len) 1 T j m) → zPr (lC s len) n' V' (fu f 1 (qW (lC s len))) → zk_Go l Γ mL_list d kc ks Q 462 [some (.ref 56), some (.ref a), some (.ref S), some (.int (iZ (qP (lC s len) : Int))), some (.int (iZ (qW (lC s len) : Int))), L5, L6, L7, L8] [] M' F) →
    zk_Go l Γ mL_list d (kc + 20 * m) (ks + 100000 * m) Q 258 [some (.ref 56), some (.ref a), some (.ref S), some (.int (iZ (qP (lC s len) : Int))), some (.int (iZ (j : Int))), L5, L6, L7, L8] [] M F := by
  have qb := q_bd (lC s len)
  intro m
  induction m with
  | zero =>
    intro j M n r V b cap T f L5 L6 L7 L8 hj hP hp hf hT hk
    have e : j = qW (lC s len) := by omega
    subst e
    refine gz_iload dL_list_258 rfl ?_
    refine gz_aload_n dL_list_260 rfl ?_
    refine gl_tab 1 dL_list_261 wf_HeliographsLaw_103 hP.2.1 (by decide) ?_
    refine gq_len (k := 1) dL_list_264 hP (by decide) ?_
    rw [hc1]
    refine zz_icmp_ge (tgt := 462) dL_list_265 rfl (by omega) (fun bz => ?_) (fun bz => ?_)
    rotate_left
    · exact absurd bz (by omega)
    refine (hk M n r V b cap L5 L6 L7 L8 hP (hp.same (fun k' hk' => ?_))).le (by omega) (by omega)
    by_cases q : k' = 1
    · rw [q, fu_a]; exact hf.symm
    · exact fu_n q
  | succ m ih =>
    intro j M n r V b cap T f L5 L6 L7 L8 hj hP hp hf hT hk
    have hnj : n 1 = j := ((hp 1 (by decide)).1).trans hf
    have al := aL_len4 (lC s len) 1 j T (by decide)
    have bd := dW_bd (C := lC s len) j
    obtain ⟨x0, hx0⟩ : ∃ z : Nat, (dW (lC s len) j).getD 0 0 = (z : Int) := ⟨((dW (lC s len) j).getD 0 0).toNat, by omega⟩
    obtain ⟨x1, hx1⟩ : ∃ z : Nat, (dW (lC s len) j).getD 1 0 = (z : Int) := ⟨((dW (lC s len) j).getD 1 0).toNat, by omega⟩
    obtain ⟨x2, hx2⟩ : ∃ z : Nat, (dW (lC s len) j).getD 2 0 = (z : Int) := ⟨((dW (lC s len) j).getD 2 0).toNat, by omega⟩
    rw [hx0, hx1, hx2] at bd
    refine zk_Go.le (zl_passR (kc := kc + 20 * m + 9) (ks := ks + 100000 * m + 36900) hP hl hc1 ⟨hnj, by omega⟩ (by omega) (fun M1 q L5 L8 hP1 => ?_)) (by omega) (by omega)
    rw [hx0, hx1]
    by_cases he : j % 2 = 0
    · refine zl_passT0 (w := j) (x0 := x0) (x1 := x1) (x2 := x2) hP1 ⟨by rw [fu_a]; omega, by omega⟩ (by rw [fu_a, fu_a]; exact hx2) ⟨by omega, by omega, by omega, by omega⟩ he (by omega) (by omega) (fun M2 b2 c2 hP2 => ?_)
      have et : T ++ tS109 ++ zDec j ++ tS110 ++ zDec x0 ++ tS111 ++ zDec x1 ++ tS112 ++ zDec x2 ++ tS93 = aL (lC s len) 1 j T := by
        show _ = if j % 2 = 0 then _ else _
        rw [if_pos he, hx0, hx1, hx2, Int.toNat_natCast, Int.toNat_natCast, Int.toNat_natCast]
      rw [et] at hP2
      exact (ih (j + 1) _ _ _ _ _ _ _ (fu f 1 (j + 1)) _ _ _ _ (by omega) hP2 (hp.push (k := 1) hf) fu_a (by omega) (fun M9 n9 r9 V9 b9 c9 L5 L6 L7 L8 hP9 hp9 => hk M9 n9 r9 V9 b9 c9 L5 L6 L7 L8 hP9 (by rw [fu_fu] at hp9; exact hp9)))
    · refine zl_passT1 (w := j) (x0 := x0) (x1 := x1) (x2 := x2) hP1 ⟨by rw [fu_a]; omega, by omega⟩ (by rw [fu_a, fu_a]; exact hx2) ⟨by omega, by omega, by omega, by omega⟩ (by omega) (by omega) (by omega) (fun M2 b2 c2 hP2 => ?_)
      have et : T ++ tS109 ++ zDec j ++ tS110 ++ zDec x0 ++ tS111 ++ zDec x1 ++ tS112 ++ zDec x2 ++ tS113 = aL (lC s len) 1 j T := by
        show _ = if j % 2 = 0 then _ else _
        rw [if_neg he, hx0, hx1, hx2, Int.toNat_natCast, Int.toNat_natCast, Int.toNat_natCast]
      rw [et] at hP2
      exact (ih (j + 1) _ _ _ _ _ _ _ (fu f 1 (j + 1)) _ _ _ _ (by omega) hP2 (hp.push (k := 1) hf) fu_a (by omega) (fun M9 n9 r9 V9 b9 c9 L5 L6 L7 L8 hP9 hp9 => hk M9 n9 r9 V9 b9 c9 L5 L6 L7 L8 hP9 (by rw [fu_fu] at hp9; exact hp9)))
theorem zl_loop2 (hl : len < 2147483648) (hc1 : c 1 = qW (lC s len)) (hc2 : c 2 = qC (lC s len)) (hd : 9 ≤ d) : ∀ (m j : Nat) (M : zk_M) (n : Nat → Nat) (r : Nat → Nat → Nat) (V : Nat → Nat → Nat → Int) (b cap : Nat) (T : List Int) (f : Nat → Nat) (L5 L6 L7 L8 : Option Value), j + m = qC (lC s len) → zLQ len s M S tk c n r V a b cap T → zPr (lC s len) n V f → f 2 = j → T.length + 60 * m ≤ 2000 →
    (∀ (M' : zk_M) (n' : Nat → Nat) (r' : Nat → Nat → Nat) (V' : Nat → Nat → Nat → Int) (b' cap' : Nat) (L5 L6 L7 L8 : Option Value), zLQ len s M' S tk c n' r' V' a b' cap' (aLs (lC s len) 2 T j m) → zPr (lC s len) n' V' (fu f 2 (qC (lC s len))) → zk_Go l Γ mL_list d kc ks Q 663 [some (.ref 56), some (.ref a), some (.ref S), some (.int (iZ (qP (lC s len) : Int))), some (.int (iZ (qC (lC s len) : Int))), L5, L6, L7, L8] [] M' F) →
    zk_Go l Γ mL_list d (kc + 20 * m) (ks + 100000 * m) Q 481 [some (.ref 56), some (.ref a), some (.ref S), some (.int (iZ (qP (lC s len) : Int))), some (.int (iZ (j : Int))), L5, L6, L7, L8] [] M F := by
  have qb := q_bd (lC s len)
  intro m
  induction m with
  | zero =>
    intro j M n r V b cap T f L5 L6 L7 L8 hj hP hp hf hT hk
    have e : j = qC (lC s len) := by omega
    subst e
    refine gz_iload dL_list_481 rfl ?_
    refine gz_aload_n dL_list_483 rfl ?_
    refine gl_tab 2 dL_list_484 wf_HeliographsLaw_116 hP.2.1 (by decide) ?_
    refine gq_len (k := 2) dL_list_487 hP (by decide) ?_
    rw [hc2]
    refine zz_icmp_ge (tgt := 663) dL_list_488 rfl (by omega) (fun bz => ?_) (fun bz => ?_)
    rotate_left
    · exact absurd bz (by omega)
    refine (hk M n r V b cap L5 L6 L7 L8 hP (hp.same (fun k' hk' => ?_))).le (by omega) (by omega)
    by_cases q : k' = 2
    · rw [q, fu_a]; exact hf.symm
    · exact fu_n q
  | succ m ih =>
    intro j M n r V b cap T f L5 L6 L7 L8 hj hP hp hf hT hk
    have hnj : n 2 = j := ((hp 2 (by decide)).1).trans hf
    have al := aL_len4 (lC s len) 2 j T (by decide)
    have bd := dC_bd (C := lC s len) j
    obtain ⟨x0, hx0⟩ : ∃ z : Nat, (dC (lC s len) j).getD 0 0 = (z : Int) := ⟨((dC (lC s len) j).getD 0 0).toNat, by omega⟩
    obtain ⟨x1, hx1⟩ : ∃ z : Nat, (dC (lC s len) j).getD 1 0 = (z : Int) := ⟨((dC (lC s len) j).getD 1 0).toNat, by omega⟩
    obtain ⟨x2, hx2⟩ : ∃ z : Nat, (dC (lC s len) j).getD 2 0 = (z : Int) := ⟨((dC (lC s len) j).getD 2 0).toNat, by omega⟩
    obtain ⟨x3, hx3⟩ : ∃ z : Nat, (dC (lC s len) j).getD 3 0 = (z : Int) := ⟨((dC (lC s len) j).getD 3 0).toNat, by omega⟩
    rw [hx0, hx1, hx2, hx3] at bd
    refine zk_Go.le (zl_cloudR (kc := kc + 20 * m + 9) (ks := ks + 100000 * m + 36900) hP hl hc1 hc2 ⟨hnj, by omega⟩ (by omega) (fun M1 q L5 L7 L8 hP1 => ?_)) (by omega) (by omega)
    rw [hx1]
    refine zl_cloudT (i := j) (x0 := x0) (x1 := x1) (x2 := x2) (x3 := x3) hP1 ⟨by rw [fu_a]; omega, by omega⟩ (by rw [fu_a, fu_a]; exact hx0) (by rw [fu_a, fu_a]; exact hx2) (by rw [fu_a, fu_a]; exact hx3) ⟨by omega, by omega, by omega, by omega⟩ (by omega) (by omega) (fun M2 b2 c2 hP2 => ?_)
    have et : T ++ tS114 ++ zDec x0 ++ tS115 ++ zDec x1 ++ tS116 ++ zDec x2 ++ tS117 ++ zDec x3 ++ tS93 = aL (lC s len) 2 j T := by
      show _ = T ++ tS114 ++ zDec _ ++ tS115 ++ zDec _ ++ tS116 ++ zDec _ ++ tS117 ++ zDec _ ++ tS93
      rw [hx0, hx1, hx2, hx3, Int.toNat_natCast, Int.toNat_natCast, Int.toNat_natCast, Int.toNat_natCast]
    rw [et] at hP2
    exact (ih (j + 1) _ _ _ _ _ _ _ (fu f 2 (j + 1)) _ _ _ _ (by omega) hP2 (hp.push (k := 2) hf) fu_a (by omega) (fun M9 n9 r9 V9 b9 c9 L5 L6 L7 L8 hP9 hp9 => hk M9 n9 r9 V9 b9 c9 L5 L6 L7 L8 hP9 (by rw [fu_fu] at hp9; exact hp9)))
theorem zl_loop3 (hl : len < 2147483648) (hc3 : c 3 = qM (lC s len)) (hd : 9 ≤ d) : ∀ (m j : Nat) (M : zk_M) (n : Nat → Nat) (r : Nat → Nat → Nat) (V : Nat → Nat → Nat → Int) (b cap : Nat) (T : List Int) (f : Nat → Nat) (L5 L6 L7 L8 : Option Value), j + m = qM (lC s len) → zLQ len s M S tk c n r V a b cap T → zPr (lC s len) n V f → f 3 = j → T.length + 60 * m ≤ 2000 →
    (∀ (M' : zk_M) (n' : Nat → Nat) (r' : Nat → Nat → Nat) (V' : Nat → Nat → Nat → Int) (b' cap' : Nat) (L5 L6 L7 L8 : Option Value), zLQ len s M' S tk c n' r' V' a b' cap' (aLs (lC s len) 3 T j m) → zPr (lC s len) n' V' (fu f 3 (qM (lC s len))) → zk_Go l Γ mL_list d kc ks Q 910 [some (.ref 56), some (.ref a), some (.ref S), some (.int (iZ (qP (lC s len) : Int))), some (.int (iZ (qM (lC s len) : Int))), L5, L6, L7, L8] [] M' F) →
    zk_Go l Γ mL_list d (kc + 20 * m) (ks + 100000 * m) Q 686 [some (.ref 56), some (.ref a), some (.ref S), some (.int (iZ (qP (lC s len) : Int))), some (.int (iZ (j : Int))), L5, L6, L7, L8] [] M F := by
  have qb := q_bd (lC s len)
  intro m
  induction m with
  | zero =>
    intro j M n r V b cap T f L5 L6 L7 L8 hj hP hp hf hT hk
    have e : j = qM (lC s len) := by omega
    subst e
    refine gz_iload dL_list_686 rfl ?_
    refine gz_aload_n dL_list_688 rfl ?_
    refine gl_tab 3 dL_list_689 wf_HeliographsLaw_127 hP.2.1 (by decide) ?_
    refine gq_len (k := 3) dL_list_692 hP (by decide) ?_
    rw [hc3]
    refine zz_icmp_ge (tgt := 910) dL_list_693 rfl (by omega) (fun bz => ?_) (fun bz => ?_)
    rotate_left
    · exact absurd bz (by omega)
    refine (hk M n r V b cap L5 L6 L7 L8 hP (hp.same (fun k' hk' => ?_))).le (by omega) (by omega)
    by_cases q : k' = 3
    · rw [q, fu_a]; exact hf.symm
    · exact fu_n q
  | succ m ih =>
    intro j M n r V b cap T f L5 L6 L7 L8 hj hP hp hf hT hk
    have hnj : n 3 = j := ((hp 3 (by decide)).1).trans hf
    have al := aL_len4 (lC s len) 3 j T (by decide)
    have bd := dM_bd (C := lC s len) j
    obtain ⟨x0, hx0⟩ : ∃ z : Nat, (dM (lC s len) j).getD 0 0 = (z : Int) := ⟨((dM (lC s len) j).getD 0 0).toNat, by omega⟩
    obtain ⟨x1, hx1⟩ : ∃ z : Nat, (dM (lC s len) j).getD 1 0 = (z : Int) := ⟨((dM (lC s len) j).getD 1 0).toNat, by omega⟩
    obtain ⟨x2, hx2⟩ : ∃ z : Nat, (dM (lC s len) j).getD 2 0 = (z : Int) := ⟨((dM (lC s len) j).getD 2 0).toNat, by omega⟩
    obtain ⟨x3, hx3⟩ : ∃ z : Nat, (dM (lC s len) j).getD 3 0 = (z : Int) := ⟨((dM (lC s len) j).getD 3 0).toNat, by omega⟩
    rw [hx0, hx1, hx2, hx3] at bd
    refine zk_Go.le (zl_messageR (kc := kc + 20 * m + 11) (ks := ks + 100000 * m + 45100) hP hl hc3 ⟨hnj, by omega⟩ (by omega) (fun M1 q L5 hP1 => ?_)) (by omega) (by omega)
    rw [hx0, hx1, hx2]
    refine zl_messageT (m := j) (x0 := x0) (x1 := x1) (x2 := x2) (x3 := x3) hP1 ⟨by rw [fu_a]; omega, by omega⟩ (by rw [fu_a, fu_a]; exact hx3) ⟨by omega, by omega, by omega, by omega, by omega⟩ (by omega) (by omega) (fun M2 b2 c2 hP2 => ?_)
    have et : T ++ tS118 ++ zDec j ++ tS119 ++ zDec x0 ++ tS120 ++ zDec x1 ++ tS121 ++ zDec x2 ++ tS122 ++ zDec x3 ++ tS93 = aL (lC s len) 3 j T := by
      show _ = T ++ tS118 ++ zDec j ++ tS119 ++ zDec _ ++ tS120 ++ zDec _ ++ tS121 ++ zDec _ ++ tS122 ++ zDec _ ++ tS93
      rw [hx0, hx1, hx2, hx3, Int.toNat_natCast, Int.toNat_natCast, Int.toNat_natCast, Int.toNat_natCast]
    rw [et] at hP2
    exact (ih (j + 1) _ _ _ _ _ _ _ (fu f 3 (j + 1)) _ _ _ _ (by omega) hP2 (hp.push (k := 3) hf) fu_a (by omega) (fun M9 n9 r9 V9 b9 c9 L5 L6 L7 L8 hP9 hp9 => hk M9 n9 r9 V9 b9 c9 L5 L6 L7 L8 hP9 (by rw [fu_fu] at hp9; exact hp9)))
end
end

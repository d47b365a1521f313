/-! THE ORDERS OF THE LIST: what is read of them, what they come to -/
section
variable {l : Launch} {Γ : zk_G} {d : Nat} {F : Heap → Prop}
/-- a test in operations, and what it comes to -/
def tEs (n k p w m : Nat) : List (Int × Int) :=
  if k = 0 then [(1, 0), (0, (n : Int)), (11, 0)] else if k = 1 then [(2, (p : Int)), (0, 1), (12, 0)] else if k = 2 then [(5, (w : Int))] else if k = 3 then [(5, (w : Int)), (8, 0), (6, (m : Int)), (10, 0)] else if k = 4 then [(3, (m : Int)), (0, 2), (18, 0), (0, (n : Int)), (15, 0)] else if k = 5 then [(4, (m : Int)), (0, (n : Int)), (0, 30), (19, 0), (11, 0), (1, 0), (0, (n : Int)), (0, 2), (19, 0), (12, 0), (9, 0), (1, 0), (0, 2), (19, 0), (0, 2), (18, 0), (1, 0), (13, 0), (10, 0)] else if k = 6 then [(6, (m : Int))] else [(0, (n : Int)), (0, 2), (19, 0), (0, 2), (18, 0), (0, (n : Int)), (13, 0)]
def tF (nm n k p w m : Nat) (σ : zV) : Int :=
  if k = 0 then bI (decide (σ 0 1 % 120 < (n : Int))) else if k = 1 then bI (decide (1 < sNum (sAt σ (p : Int) 0) 0 nm)) else if k = 2 then bI (decide (σ 11 w ≠ 0)) else if k = 3 then bI (decide (1 - bI (decide (σ 11 w ≠ 0)) = 1 ∨ bI (decide (σ 4 m = 1)) = 1)) else if k = 4 then bI (decide ((n : Int) ≤ σ 5 m * 2)) else if k = 5 then bI (decide (bI (decide (bI (decide (σ 8 m < (n : Int) / 30)) = 1 ∧ bI (decide ((n : Int) / 2 < σ 0 1 % 120)) = 1)) = 1 ∨ bI (decide (σ 0 1 % 120 / 2 * 2 = σ 0 1 % 120)) = 1)) else if k = 6 then bI (decide (σ 4 m = 1)) else bI (decide ((n : Int) / 2 * 2 = (n : Int)))
section
variable {p0 np nw nm dep : Nat}
theorem rS_num (v : Nat) (hv : v < 1000000) (hd : 12 ≤ d) : zRd l Γ F 400 np nw nm d mX4_readSum dep [35, 36, 37, 38] [(45, (v : Int))] [(0, (v : Int))] :=
  rd_sum (Or.inr rfl) (by omega) (rd_prod (Or.inr rfl) (by omega) [] (rd_val_num (Or.inr rfl) (by omega) (by omega)) (by decide) (fun x hx => absurd hx List.not_mem_nil))
theorem rS_lit (v : Int) (hv : 0 ≤ v ∧ v < 1000000) (hd : 12 ≤ d) : zRd l Γ F 400 np nw nm d mX4_readSum dep [35, 36, 37, 38] [(45, v)] [(0, v)] :=
  rd_sum (Or.inr rfl) (by omega) (rd_prod (Or.inr rfl) (by omega) [] (rd_val_num (Or.inr rfl) hv (by omega)) (by decide) (fun x hx => absurd hx List.not_mem_nil))
theorem rS_minute (hd : 12 ≤ d) : zRd l Γ F 400 np nw nm d mX4_readSum dep [35, 36, 37, 38] [(19, 0)] [(1, 0)] :=
  rd_sum (Or.inr rfl) (by omega) (rd_prod (Or.inr rfl) (by omega) [] (rd_val_minute (Or.inr rfl) (by omega)) (by decide) (fun x hx => absurd hx List.not_mem_nil))
theorem rS_queue {x : Nat} (hx : x < np) (hd : 12 ≤ d) : zRd l Γ F 400 np nw nm d mX4_readSum dep [35, 36, 37, 38] [(20, 0), (44, 619 + (x : Int))] [(2, (x : Int))] :=
  rd_sum (Or.inr rfl) (by omega) (rd_prod (Or.inr rfl) (by omega) [] (rd_val_queue (Or.inr rfl) hx (by omega)) (by decide) (fun x hx => absurd hx List.not_mem_nil))
theorem rS_breaks {x : Nat} (hx : x < nm) (hd : 12 ≤ d) : zRd l Γ F 400 np nw nm d mX4_readSum dep [35, 36, 37, 38] [(22, 0), (44, 508 + (x : Int))] [(4, (x : Int))] :=
  rd_sum (Or.inr rfl) (by omega) (rd_prod (Or.inr rfl) (by omega) [] (rd_val_breaks (Or.inr rfl) hx (by omega)) (by decide) (fun x hx => absurd hx List.not_mem_nil))
theorem rS_left2 {x : Nat} (hx : x < nm) (hd : 12 ≤ d) : zRd l Γ F 400 np nw nm d mX4_readSum dep [35, 36, 37, 38] [(21, 0), (44, 508 + (x : Int)), (37, 0), (45, 2)] [(3, (x : Int)), (0, 2), (18, 0)] :=
  rd_sum (Or.inr rfl) (by omega) (rd_prod (Or.inr rfl) (by omega) [(37, [(45, 2)], [(0, 2)])] (rd_val_left (Or.inr rfl) hx (by omega)) (by decide) (fun x hx => by
    rw [List.mem_singleton.mp hx]
    exact ⟨Or.inl rfl, rd_val_num (Or.inr rfl) (by omega) (by omega)⟩))
theorem rS_div (v u : Nat) (hv : v < 1000000 ∧ u < 1000000) (hd : 12 ≤ d) : zRd l Γ F 400 np nw nm d mX4_readSum dep [35, 36, 37, 38] [(45, (v : Int)), (38, 0), (45, (u : Int))] [(0, (v : Int)), (0, (u : Int)), (19, 0)] :=
  rd_sum (Or.inr rfl) (by omega) (rd_prod (Or.inr rfl) (by omega) [(38, [(45, (u : Int))], [(0, (u : Int))])] (rd_val_num (Or.inr rfl) (by omega) (by omega)) (show 1 < 100 by decide) (fun x hx => by
    rw [List.mem_singleton.mp hx]
    exact ⟨Or.inr rfl, rd_val_num (Or.inr rfl) (by omega) (by omega)⟩))
theorem rS_even {ts : List (Nat × Int)} {es : List (Int × Int)} (h : zRd l Γ F 400 np nw nm (d - 1 - 1) mX4_readValue dep [] ts es) (hd : 12 ≤ d) : zRd l Γ F 400 np nw nm d mX4_readSum dep [35, 36, 37, 38] (ts ++ [(38, 0), (45, 2), (37, 0), (45, 2)]) (es ++ [(0, 2), (19, 0), (0, 2), (18, 0)]) :=
  rd_sum (Or.inr rfl) (by omega) (rd_prod (Or.inr rfl) (by omega) [(38, [(45, 2)], [(0, 2)]), (37, [(45, 2)], [(0, 2)])] h (by decide) (fun x hx => by
    rcases List.mem_cons.mp hx with q | q
    · rw [q]
      exact ⟨Or.inr rfl, rd_val_num (Or.inr rfl) (by omega) (by omega)⟩
    · rw [List.mem_singleton.mp q]
      exact ⟨Or.inl rfl, rd_val_num (Or.inr rfl) (by omega) (by omega)⟩))
theorem rT_1 {ts : List (Nat × Int)} {es : List (Int × Int)} (h : zRd l Γ F 400 np nw nm (d - 1 - 1) mX4_readSingle dep [35, 36, 37, 38] ts es) (hd : 12 ≤ d) : zRd l Γ F 400 np nw nm d mX4_readTest dep [7, 26, 35, 36, 37, 38] ts es :=
  rd_test1 (Or.inr rfl) (by omega) (rd_both1 (Or.inr rfl) (by omega) h)
theorem rd_tests {n k p w m : Nat} (hk : k < 8) (hb : n < 1000 ∧ p < np ∧ w < nw ∧ m < nm) (hd : 25 ≤ d) : zRd l Γ F 400 np nw nm d mX4_readTest 0 [7, 26, 35, 36, 37, 38] (tTok n k p w m) (tEs n k p w m) := by
  rcases (show k = 0 ∨ k = 1 ∨ k = 2 ∨ k = 3 ∨ k = 4 ∨ k = 5 ∨ k = 6 ∨ k = 7 by omega) with rfl | rfl | rfl | rfl | rfl | rfl | rfl | rfl
  · exact rT_1 (rd_cmp (ck := 39) (Or.inr rfl) (by omega) (by omega) (rS_minute (by omega)) (rS_num n (by omega) (by omega)) (by omega)) (by omega)
  · exact rT_1 (rd_cmp (ck := 40) (Or.inr rfl) (by omega) (by omega) (rS_queue hb.2.1 (by omega)) (rS_lit 1 (by omega) (by omega)) (by omega)) (by omega)
  · exact rT_1 (rd_one_open (Or.inr rfl) hb.2.2.1 (by omega)) (by omega)
  · exact rd_test2 (Or.inr rfl) (by omega) (rd_both1 (Or.inr rfl) (by omega) (rd_not (Or.inr rfl) (by omega) (rd_one_open (Or.inr rfl) hb.2.2.1 (by omega)) (by omega))) (rd_both1 (Or.inr rfl) (by omega) (rd_one_carried (Or.inr rfl) hb.2.2.2 (by omega)))
  · exact rT_1 (rd_cmp (ck := 43) (Or.inr rfl) (by omega) (by omega) (rS_left2 hb.2.2.2 (by omega)) (rS_num n (by omega) (by omega)) (by omega)) (by omega)
  · exact rd_test2 (Or.inr rfl) (by omega) (rd_both1 (Or.inr rfl) (by omega) (rd_bracket (Or.inr rfl) (by omega) (rd_test1 (Or.inr rfl) (by omega) (rd_both2 (Or.inr rfl) (by omega)
      (rd_cmp (ck := 39) (Or.inr rfl) (by omega) (by omega) (rS_breaks hb.2.2.2 (by omega)) (rS_div n 30 (by omega) (by omega)) (by omega)) (rd_cmp (ck := 40) (Or.inr rfl) (by omega) (by omega) (rS_minute (by omega)) (rS_div n 2 (by omega) (by omega)) (by omega)))) (by omega)))
      (rd_both1 (Or.inr rfl) (by omega) (rd_cmp (ck := 41) (Or.inr rfl) (by omega) (by omega) (rS_even (rd_val_minute (Or.inr rfl) (by omega)) (by omega)) (rS_minute (by omega)) (by omega)))
  · exact rT_1 (rd_one_carried (Or.inr rfl) hb.2.2.2 (by omega)) (by omega)
  · exact rT_1 (rd_cmp (ck := 41) (Or.inr rfl) (by omega) (by omega) (rS_even (rd_val_num (v := (n : Int)) (Or.inr rfl) (by omega) (by omega)) (by omega)) (rS_num n (by omega) (by omega)) (by omega)) (by omega)
end
section
variable {π σ : zV} {s s1 s2 : List Int} {x : Int}
theorem st0 : sStep π σ 0 x s (x :: s) := Or.inl ⟨rfl, rfl⟩
theorem st1 : sStep π σ 1 x s (σ 0 1 % 120 :: s) := Or.inr (Or.inl ⟨rfl, rfl⟩)
theorem st2 (h : -2147483648 ≤ x ∧ x < 2147483648) : sStep π σ 2 x s (sNum (sAt σ x 0) 0 (π 0 3).toNat :: s) := Or.inr (Or.inr (Or.inl ⟨rfl, h, rfl⟩))
theorem st3 {m : Nat} (h : (m : Int) < π 0 3) : sStep π σ 3 (m : Int) s (σ 5 m :: s) := Or.inr (Or.inr (Or.inr (Or.inl ⟨rfl, ⟨by omega, h⟩, rfl⟩)))
theorem st4 {m : Nat} (h : (m : Int) < π 0 3) : sStep π σ 4 (m : Int) s (σ 8 m :: s) := Or.inr (Or.inr (Or.inr (Or.inr (Or.inl ⟨rfl, ⟨by omega, h⟩, rfl⟩))))
theorem st5 {m : Nat} (h : m < 12) : sStep π σ 5 (m : Int) s (bI (decide (σ 11 m ≠ 0)) :: s) := Or.inr (Or.inr (Or.inr (Or.inr (Or.inr (Or.inl ⟨rfl, ⟨by omega, by omega⟩, rfl⟩)))))
theorem st6 {m : Nat} (h : (m : Int) < π 0 3) : sStep π σ 6 (m : Int) s (bI (decide (σ 4 m = 1)) :: s) := Or.inr (Or.inr (Or.inr (Or.inr (Or.inr (Or.inr (Or.inl ⟨rfl, ⟨by omega, h⟩, rfl⟩))))))
theorem st8 {a : Int} : sStep π σ 8 x (a :: s) ((1 - a) :: s) := Or.inr (Or.inr (Or.inr (Or.inr (Or.inr (Or.inr (Or.inr (Or.inl ⟨rfl, a, s, rfl, rfl⟩)))))))
theorem stJ {k a r v : Int} (h : sJ k a r v) : sStep π σ k x (r :: a :: s) (v :: s) := Or.inr (Or.inr (Or.inr (Or.inr (Or.inr (Or.inr (Or.inr (Or.inr ⟨r, a, v, s, rfl, rfl, h⟩)))))))
theorem ev1 {k x : Int} {es : List (Int × Int)} (hs : s.length ≤ 300) (h : sStep π σ k x s s1) (g : evL π σ es s1 s2) : evL π σ ((k, x) :: es) s s2 := ⟨hs, s1, h, g⟩
theorem bJ_01 (b : Bool) : bI b = 0 ∨ bI b = 1 := by cases b <;> decide
theorem bJ_1 {b : Bool} : bI b = 1 ↔ b = true := by cases b <;> decide
theorem bJ_ne {b : Bool} : bI b ≠ 0 ↔ b = true := by cases b <;> decide
theorem bJ_bd (b : Bool) : -2147483648 ≤ bI b ∧ bI b < 2147483648 := by cases b <;> decide
end
theorem sm_test0 {nm n p w m : Nat} (hb : n < 1000 ∧ p < 8 ∧ w < 12 ∧ m < nm) : smO nm (tEs n 0 p w m) (tF nm n 0 p w m) := by
  intro π σ N h3 hw hc
  have hM := wC_m hc (k := m) (by omega)
  have h0 := wC_n hc
  have n0 := wP_n hw
  unfold wM at hM
  have e3 : (π 0 3).toNat = nm := by omega
  have nb := sNum_bd (sAt σ (p : Int) 0) nm 0
  refine ⟨?_, bJ_bd _⟩
  show evL π σ [(1, 0), (0, (n : Int)), (11, 0)] [] [bI (decide (σ 0 1 % 120 < (n : Int)))]
  exact ev1 (Nat.le_of_ble_eq_true rfl) (st1) (ev1 (Nat.le_of_ble_eq_true rfl) (st0) (ev1 (Nat.le_of_ble_eq_true rfl) (stJ (Or.inr (Or.inr (Or.inl ⟨rfl, ⟨by omega, by omega, by omega, by omega⟩, rfl⟩)))) (rfl)))
theorem sm_test1 {nm n p w m : Nat} (hb : n < 1000 ∧ p < 8 ∧ w < 12 ∧ m < nm) : smO nm (tEs n 1 p w m) (tF nm n 1 p w m) := by
  intro π σ N h3 hw hc
  have hM := wC_m hc (k := m) (by omega)
  have h0 := wC_n hc
  have n0 := wP_n hw
  unfold wM at hM
  have e3 : (π 0 3).toNat = nm := by omega
  have nb := sNum_bd (sAt σ (p : Int) 0) nm 0
  refine ⟨?_, bJ_bd _⟩
  show evL π σ [(2, (p : Int)), (0, 1), (12, 0)] [] [bI (decide (1 < sNum (sAt σ (p : Int) 0) 0 nm))]
  rw [← e3] at nb ⊢
  exact ev1 (Nat.le_of_ble_eq_true rfl) (st2 (by omega)) (ev1 (Nat.le_of_ble_eq_true rfl) (st0) (ev1 (Nat.le_of_ble_eq_true rfl) (stJ (Or.inr (Or.inr (Or.inr (Or.inl ⟨rfl, ⟨by omega, by omega, by omega, by omega⟩, rfl⟩))))) (rfl)))
theorem sm_test2 {nm n p w m : Nat} (hb : n < 1000 ∧ p < 8 ∧ w < 12 ∧ m < nm) : smO nm (tEs n 2 p w m) (tF nm n 2 p w m) := by
  intro π σ N h3 hw hc
  have hM := wC_m hc (k := m) (by omega)
  have h0 := wC_n hc
  have n0 := wP_n hw
  unfold wM at hM
  have e3 : (π 0 3).toNat = nm := by omega
  have nb := sNum_bd (sAt σ (p : Int) 0) nm 0
  refine ⟨?_, bJ_bd _⟩
  show evL π σ [(5, (w : Int))] [] [bI (decide (σ 11 w ≠ 0))]
  exact ev1 (Nat.le_of_ble_eq_true rfl) (st5 (by omega)) (rfl)
theorem sm_test3 {nm n p w m : Nat} (hb : n < 1000 ∧ p < 8 ∧ w < 12 ∧ m < nm) : smO nm (tEs n 3 p w m) (tF nm n 3 p w m) := by
  intro π σ N h3 hw hc
  have hM := wC_m hc (k := m) (by omega)
  have h0 := wC_n hc
  have n0 := wP_n hw
  unfold wM at hM
  have e3 : (π 0 3).toNat = nm := by omega
  have nb := sNum_bd (sAt σ (p : Int) 0) nm 0
  refine ⟨?_, bJ_bd _⟩
  show evL π σ [(5, (w : Int)), (8, 0), (6, (m : Int)), (10, 0)] [] [bI (decide (1 - bI (decide (σ 11 w ≠ 0)) = 1 ∨ bI (decide (σ 4 m = 1)) = 1))]
  exact ev1 (Nat.le_of_ble_eq_true rfl) (st5 (by omega)) (ev1 (Nat.le_of_ble_eq_true rfl) (st8) (ev1 (Nat.le_of_ble_eq_true rfl) (st6 (by omega)) (ev1 (Nat.le_of_ble_eq_true rfl) (stJ (Or.inr (Or.inl ⟨rfl, (by have := bJ_01 (decide (σ 11 w ≠ 0)); show 1 - bI (decide (σ 11 w ≠ 0)) = 0 ∨ 1 - bI (decide (σ 11 w ≠ 0)) = 1; omega), bJ_01 _, rfl⟩))) (rfl))))
theorem sm_test4 {nm n p w m : Nat} (hb : n < 1000 ∧ p < 8 ∧ w < 12 ∧ m < nm) : smO nm (tEs n 4 p w m) (tF nm n 4 p w m) := by
  intro π σ N h3 hw hc
  have hM := wC_m hc (k := m) (by omega)
  have h0 := wC_n hc
  have n0 := wP_n hw
  unfold wM at hM
  have e3 : (π 0 3).toNat = nm := by omega
  have nb := sNum_bd (sAt σ (p : Int) 0) nm 0
  refine ⟨?_, bJ_bd _⟩
  show evL π σ [(3, (m : Int)), (0, 2), (18, 0), (0, (n : Int)), (15, 0)] [] [bI (decide ((n : Int) ≤ σ 5 m * 2))]
  exact ev1 (Nat.le_of_ble_eq_true rfl) (st3 (by omega)) (ev1 (Nat.le_of_ble_eq_true rfl) (st0) (ev1 (Nat.le_of_ble_eq_true rfl) (stJ (Or.inr (Or.inr (Or.inr (Or.inr (Or.inr (Or.inr (Or.inl ⟨rfl, rfl⟩)))))))) (ev1 (Nat.le_of_ble_eq_true rfl) (st0) (ev1 (Nat.le_of_ble_eq_true rfl) (stJ (Or.inr (Or.inr (Or.inr (Or.inr (Or.inr (Or.inl ⟨rfl, ⟨by omega, by omega, by omega, by omega⟩, rfl⟩))))))) (rfl)))))
theorem sm_test5 {nm n p w m : Nat} (hb : n < 1000 ∧ p < 8 ∧ w < 12 ∧ m < nm) : smO nm (tEs n 5 p w m) (tF nm n 5 p w m) := by
  intro π σ N h3 hw hc
  have hM := wC_m hc (k := m) (by omega)
  have h0 := wC_n hc
  have n0 := wP_n hw
  unfold wM at hM
  have e3 : (π 0 3).toNat = nm := by omega
  have nb := sNum_bd (sAt σ (p : Int) 0) nm 0
  refine ⟨?_, bJ_bd _⟩
  show evL π σ [(4, (m : Int)), (0, (n : Int)), (0, 30), (19, 0), (11, 0), (1, 0), (0, (n : Int)), (0, 2), (19, 0), (12, 0), (9, 0), (1, 0), (0, 2), (19, 0), (0, 2), (18, 0), (1, 0), (13, 0), (10, 0)] [] [bI (decide (bI (decide (bI (decide (σ 8 m < (n : Int) / 30)) = 1 ∧ bI (decide ((n : Int) / 2 < σ 0 1 % 120)) = 1)) = 1 ∨ bI (decide (σ 0 1 % 120 / 2 * 2 = σ 0 1 % 120)) = 1))]
  exact ev1 (Nat.le_of_ble_eq_true rfl) (st4 (by omega)) (ev1 (Nat.le_of_ble_eq_true rfl) (st0) (ev1 (Nat.le_of_ble_eq_true rfl) (st0) (ev1 (Nat.le_of_ble_eq_true rfl) (stJ (Or.inr (Or.inr (Or.inr (Or.inr (Or.inr (Or.inr (Or.inr ⟨rfl, ⟨by omega, by omega, by omega, by omega⟩, rfl⟩)))))))) (ev1 (Nat.le_of_ble_eq_true rfl) (stJ (Or.inr (Or.inr (Or.inl ⟨rfl, ⟨by omega, by omega, by omega, by omega⟩, rfl⟩)))) (ev1 (Nat.le_of_ble_eq_true rfl) (st1) (ev1 (Nat.le_of_ble_eq_true rfl) (st0) (ev1 (Nat.le_of_ble_eq_true rfl) (st0) (ev1 (Nat.le_of_ble_eq_true rfl) (stJ (Or.inr (Or.inr (Or.inr (Or.inr (Or.inr (Or.inr (Or.inr ⟨rfl, ⟨by omega, by omega, by omega, by omega⟩, rfl⟩)))))))) (ev1 (Nat.le_of_ble_eq_true rfl) (stJ (Or.inr (Or.inr (Or.inr (Or.inl ⟨rfl, ⟨by omega, by omega, by omega, by omega⟩, rfl⟩))))) (ev1 (Nat.le_of_ble_eq_true rfl) (stJ (Or.inl ⟨rfl, bJ_01 _, bJ_01 _, rfl⟩)) (ev1 (Nat.le_of_ble_eq_true rfl) (st1) (ev1 (Nat.le_of_ble_eq_true rfl) (st0) (ev1 (Nat.le_of_ble_eq_true rfl) (stJ (Or.inr (Or.inr (Or.inr (Or.inr (Or.inr (Or.inr (Or.inr ⟨rfl, ⟨by omega, by omega, by omega, by omega⟩, rfl⟩)))))))) (ev1 (Nat.le_of_ble_eq_true rfl) (st0) (ev1 (Nat.le_of_ble_eq_true rfl) (stJ (Or.inr (Or.inr (Or.inr (Or.inr (Or.inr (Or.inr (Or.inl ⟨rfl, rfl⟩)))))))) (ev1 (Nat.le_of_ble_eq_true rfl) (st1) (ev1 (Nat.le_of_ble_eq_true rfl) (stJ (Or.inr (Or.inr (Or.inr (Or.inr (Or.inl ⟨rfl, ⟨by omega, by omega, by omega, by omega⟩, rfl⟩)))))) (ev1 (Nat.le_of_ble_eq_true rfl) (stJ (Or.inr (Or.inl ⟨rfl, bJ_01 _, bJ_01 _, rfl⟩))) (rfl)))))))))))))))))))
theorem sm_test6 {nm n p w m : Nat} (hb : n < 1000 ∧ p < 8 ∧ w < 12 ∧ m < nm) : smO nm (tEs n 6 p w m) (tF nm n 6 p w m) := by
  intro π σ N h3 hw hc
  have hM := wC_m hc (k := m) (by omega)
  have h0 := wC_n hc
  have n0 := wP_n hw
  unfold wM at hM
  have e3 : (π 0 3).toNat = nm := by omega
  have nb := sNum_bd (sAt σ (p : Int) 0) nm 0
  refine ⟨?_, bJ_bd _⟩
  show evL π σ [(6, (m : Int))] [] [bI (decide (σ 4 m = 1))]
  exact ev1 (Nat.le_of_ble_eq_true rfl) (st6 (by omega)) (rfl)
theorem sm_test7 {nm n p w m : Nat} (hb : n < 1000 ∧ p < 8 ∧ w < 12 ∧ m < nm) : smO nm (tEs n 7 p w m) (tF nm n 7 p w m) := by
  intro π σ N h3 hw hc
  have hM := wC_m hc (k := m) (by omega)
  have h0 := wC_n hc
  have n0 := wP_n hw
  unfold wM at hM
  have e3 : (π 0 3).toNat = nm := by omega
  have nb := sNum_bd (sAt σ (p : Int) 0) nm 0
  refine ⟨?_, bJ_bd _⟩
  show evL π σ [(0, (n : Int)), (0, 2), (19, 0), (0, 2), (18, 0), (0, (n : Int)), (13, 0)] [] [bI (decide ((n : Int) / 2 * 2 = (n : Int)))]
  exact ev1 (Nat.le_of_ble_eq_true rfl) (st0) (ev1 (Nat.le_of_ble_eq_true rfl) (st0) (ev1 (Nat.le_of_ble_eq_true rfl) (stJ (Or.inr (Or.inr (Or.inr (Or.inr (Or.inr (Or.inr (Or.inr ⟨rfl, ⟨by omega, by omega, by omega, by omega⟩, rfl⟩)))))))) (ev1 (Nat.le_of_ble_eq_true rfl) (st0) (ev1 (Nat.le_of_ble_eq_true rfl) (stJ (Or.inr (Or.inr (Or.inr (Or.inr (Or.inr (Or.inr (Or.inl ⟨rfl, rfl⟩)))))))) (ev1 (Nat.le_of_ble_eq_true rfl) (st0) (ev1 (Nat.le_of_ble_eq_true rfl) (stJ (Or.inr (Or.inr (Or.inr (Or.inr (Or.inl ⟨rfl, ⟨by omega, by omega, by omega, by omega⟩, rfl⟩)))))) (rfl)))))))
end

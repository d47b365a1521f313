/-! THE LAW HAS LOOKED AT ALL MESSAGES -/
section
variable {l : Launch} {Γ : zk_G} {d : Nat} {F : Heap → Prop}
theorem zl_msgs {E : Nat → Nat × Nat} {e : Nat} {c : Nat → Nat} {π σ : zV} {p : Nat} {H : zV → Nat → Bool} {t o N : Int} {kc ks : Nat} {Q : Option Value → zk_M → (Heap → Prop) → Prop} {tm r np : Nat} {x : Int32} {nm : Nat} (hr : 480 ≤ r) (a0 : E r = (100, 3)) (a1 : E (r + 1) = (100, np)) (a2 : E (r + 2) = (100, np)) (h56 : Γ.2.2.2.1 56 < Γ.2.1.size) (hnp : (np : Int) = π 0 0) (hnm : (nm : Int) = π 0 3) (hN : N ≤ 80000) (hd : 20 ≤ d) : ∀ (n i : Nat) (W : zV) (J0 J1 J2 J3 J4 J5 J6 J7 J8 J9 J10 J11 : Option Value), i + n = nm → lJ E e c W p H π σ t o N → tal W r np σ i →
    (∀ (W1 : zV) (J0 J1 J2 J3 J4 J5 J6 J7 J8 J9 J10 J11 : Option Value), lJ E e c W1 p H π σ t o N → tal W1 r np σ nm → (∀ a j, (a < r ∨ r + 3 ≤ a) → W1 a j = W a j) → zk_Go l Γ mL_law d kc ks Q 439 [some (.ref 56), none, some (.ref 424), some (.ref 320), some (.int (iZ (π 0 0))), some (.int (iZ (π 0 1))), some (.int (iZ (π 0 3))), some (.int (iZ ((tm : Int)))), some (.int x), some (.int (iZ (σ 0 1))), some (.ref r), some (.ref (r + 1)), some (.ref (r + 2)), some (.int (iZ (sSum (σ 8) 0 nm))), some (.int (iZ (sSum (σ 5) 0 nm))), some (.int (iZ ((nm : Int)))), J0, J1, J2, J3, J4, J5, J6, J7, J8, J9, J10, J11] [] (zG E e W1) F) → zk_Go l Γ mL_law d kc ks Q 137 [some (.ref 56), none, some (.ref 424), some (.ref 320), some (.int (iZ (π 0 0))), some (.int (iZ (π 0 1))), some (.int (iZ (π 0 3))), some (.int (iZ ((tm : Int)))), some (.int x), some (.int (iZ (σ 0 1))), some (.ref r), some (.ref (r + 1)), some (.ref (r + 2)), some (.int (iZ (sSum (σ 8) 0 i))), some (.int (iZ (sSum (σ 5) 0 i))), some (.int (iZ ((i : Int)))), J0, J1, J2, J3, J4, J5, J6, J7, J8, J9, J10, J11] [] (zG E e W) F
  | 0, i, W, J0, J1, J2, J3, J4, J5, J6, J7, J8, J9, J10, J11, hi, hJ, hT, kk => by
    have e : i = nm := by omega
    subst e
    have n0 := wP_n hJ.2.2.2.1.2.2.2.2.1
    refine gz_iload dL_law_137 rfl ?_
    refine gz_iload dL_law_139 rfl ?_
    refine zz_icmp_ge (tgt := 439) dL_law_141 rfl (by omega) (fun b141 => ?_) (fun b141 => absurd b141 (by omega))
    exact kk W J0 J1 J2 J3 J4 J5 J6 J7 J8 J9 J10 J11 hJ hT (fun a j h => rfl)
  | n + 1, i, W, J0, J1, J2, J3, J4, J5, J6, J7, J8, J9, J10, J11, hi, hJ, hT, kk => by
    have m1 := wC_m hJ.2.2.2.1.2.2.2.2.2.1 (k := i) (by omega)
    unfold wM at m1
    have nx : ∀ (W1 : zV) (J0 J1 J2 J3 J4 J5 J6 J7 J8 J9 J10 J11 : Option Value), lJ E e c W1 p H π σ t o N → tal W1 r np σ (i + 1) → (∀ a j, (a < r ∨ r + 3 ≤ a) → W1 a j = W a j) → zk_Go l Γ mL_law d kc ks Q 137 [some (.ref 56), none, some (.ref 424), some (.ref 320), some (.int (iZ (π 0 0))), some (.int (iZ (π 0 1))), some (.int (iZ (π 0 3))), some (.int (iZ ((tm : Int)))), some (.int x), some (.int (iZ (σ 0 1))), some (.ref r), some (.ref (r + 1)), some (.ref (r + 2)), some (.int (iZ (sSum (σ 8) 0 (i + 1)))), some (.int (iZ (sSum (σ 5) 0 (i + 1)))), some (.int (iZ (((i + 1 : Nat) : Int)))), J0, J1, J2, J3, J4, J5, J6, J7, J8, J9, J10, J11] [] (zG E e W1) F := fun W1 J0 J1 J2 J3 J4 J5 J6 J7 J8 J9 J10 J11 hJ1 hT1 hk1 =>
      zl_msgs hr a0 a1 a2 h56 hnp hnm hN hd n (i + 1) W1 J0 J1 J2 J3 J4 J5 J6 J7 J8 J9 J10 J11 (by omega) hJ1 hT1 (fun W2 J0 J1 J2 J3 J4 J5 J6 J7 J8 J9 J10 J11 hJ2 hT2 hk2 => kk W2 J0 J1 J2 J3 J4 J5 J6 J7 J8 J9 J10 J11 hJ2 hT2 (fun a j h => (hk2 a j h).trans (hk1 a j h)))
    rcases (show σ 4 i = 0 ∨ σ 4 i = 1 ∨ σ 4 i = 2 by omega) with q | q | q
    · exact zl_msg_0 hr a0 a1 a2 hJ h56 (by omega) hnp hT hN hd q nx
    · exact zl_msg_1 hr a0 a1 a2 hJ h56 (by omega) hnp hT hN hd q nx
    · exact zl_msg_2 hr a0 a1 a2 hJ h56 (by omega) hnp hT hN hd q nx
theorem sSum_bd {f : Nat → Int} {M : Int} : ∀ n i, (∀ j, i ≤ j → j < i + n → 0 ≤ f j ∧ f j ≤ M) → 0 ≤ sSum f i n ∧ sSum f i n ≤ M * n
  | 0, _, _ => by show (0 : Int) ≤ 0 ∧ (0 : Int) ≤ M * 0; omega
  | n + 1, i, h => by
    have a := h i (Nat.le_refl _) (by omega)
    have b := sSum_bd n (i + 1) (fun j h1 h2 => h j (by omega) (by omega))
    rw [sSum_1]
    rw [show M * ((n + 1 : Nat) : Int) = M * n + M by rw [Int.natCast_add, Int.mul_add]; omega]
    omega
theorem mean_cmp : ∀ a : Fin 321, ∀ b : Fin 8, Op.cmpValue (FP.dcmp (FP.ddiv (FP.i2d (iZ ((a.val : Nat) : Int))) (FP.i2d (iZ ((b.val + 1 : Nat) : Int)))) (FP.ddiv (FP.i2d (iZ ((a.val : Nat) : Int))) (FP.i2d (iZ ((b.val + 1 : Nat) : Int))))) .l = iZ 0 := by decide +kernel
theorem mean_eq {x y : Int} (hx : 0 ≤ x ∧ x ≤ 320) (hy : 1 ≤ y ∧ y ≤ 8) : Op.cmpValue (FP.dcmp (FP.ddiv (FP.i2d (iZ x)) (FP.i2d (iZ y))) (FP.ddiv (FP.i2d (iZ x)) (FP.i2d (iZ y)))) .l = iZ 0 := by
  have h := mean_cmp ⟨x.toNat, by omega⟩ ⟨(y - 1).toNat, by omega⟩
  rw [show (((⟨x.toNat, by omega⟩ : Fin 321).val : Nat) : Int) = x from by show ((x.toNat : Nat) : Int) = x; omega, show (((⟨(y - 1).toNat, by omega⟩ : Fin 8).val + 1 : Nat) : Int) = y from by show (((y - 1).toNat + 1 : Nat) : Int) = y; omega] at h
  exact h
theorem zl_sums {E : Nat → Nat × Nat} {e : Nat} {c : Nat → Nat} {π σ : zV} {p : Nat} {H : zV → Nat → Bool} {t o N : Int} {kc ks : Nat} {Q : Option Value → zk_M → (Heap → Prop) → Prop} {tm r np : Nat} {x : Int32} {W : zV} {J0 J1 J2 J3 J4 J5 J6 J7 J8 J9 J10 J11 : Option Value} (hr : 480 ≤ r) (a0 : E r = (100, 3)) (a1 : E (r + 1) = (100, np)) (a2 : E (r + 2) = (100, np)) (hJ : lJ E e c W p H π σ t o N) (h56 : Γ.2.2.2.1 56 < Γ.2.1.size) (hnp : (np : Int) = π 0 0) (hT : tal W r np σ (π 0 3).toNat) (hN : N ≤ 80000) (h3 : 1 ≤ π 0 3) (hd : 20 ≤ d) (kk : zk_Go l Γ mL_law d kc ks Q 506 [some (.ref 56), none, some (.ref 424), some (.ref 320), some (.int (iZ (π 0 0))), some (.int (iZ (π 0 1))), some (.int (iZ (π 0 3))), some (.int (iZ ((tm : Int)))), some (.int x), some (.int (iZ (σ 0 1))), some (.ref r), some (.ref (r + 1)), some (.ref (r + 2)), some (.int (iZ (sSum (σ 8) 0 (π 0 3).toNat))), some (.int (iZ (sSum (σ 5) 0 (π 0 3).toNat))), some (.int (iZ ((((π 0 3).toNat : Nat) : Int)))), J0, J1, J2, J3, J4, J5, J6, J7, J8, J9, J10, J11] [] (zG E e W) F) : zk_Go l Γ mL_law d kc ks Q 439 [some (.ref 56), none, some (.ref 424), some (.ref 320), some (.int (iZ (π 0 0))), some (.int (iZ (π 0 1))), some (.int (iZ (π 0 3))), some (.int (iZ ((tm : Int)))), some (.int x), some (.int (iZ (σ 0 1))), some (.ref r), some (.ref (r + 1)), some (.ref (r + 2)), some (.int (iZ (sSum (σ 8) 0 (π 0 3).toNat))), some (.int (iZ (sSum (σ 5) 0 (π 0 3).toNat))), some (.int (iZ ((((π 0 3).toNat : Nat) : Int)))), J0, J1, J2, J3, J4, J5, J6, J7, J8, J9, J10, J11] [] (zG E e W) F := by
  have hJ2 := hJ
  obtain ⟨hE, hE0, hz, hSt, hS, hh, hH, hO⟩ := hJ2
  have n1 := hS.1
  have hw : wP π := hSt.2.2.2.2.1
  have hc : wC π σ N := hSt.2.2.2.2.2.1
  have n0 := wP_n hw
  have t0 := wC_n hc
  have sb := sSum_bd (f := σ 5) (M := 40) (π 0 3).toNat 0 (fun j _ h2 => by have m := wC_m hc (k := j) (by omega); unfold wM at m; omega)
  have s8 := sSum_bd (f := σ 8) (M := 80000) (π 0 3).toNat 0 (fun j _ h2 => by have m := wC_m hc (k := j) (by omega); unfold wM at m; omega)
  have c0 := sNum_bd (sIn σ 0) (π 0 3).toNat 0
  have c1 := sNum_bd (sIn σ 1) (π 0 3).toNat 0
  have c2 := sNum_bd (sIn σ 2) (π 0 3).toNat 0
  have sb : 0 ≤ sSum (σ 5) 0 (π 0 3).toNat ∧ sSum (σ 5) 0 (π 0 3).toNat ≤ 320 := by omega
  have s8 : 0 ≤ sSum (σ 8) 0 (π 0 3).toNat ∧ sSum (σ 8) 0 (π 0 3).toNat ≤ 640000 := by omega
  refine gz_aload dL_law_439 rfl ?_
  refine zz_iconst dL_law_441 ?_
  refine gw_iald (a := r) (q := 0) (len := 3) (v := sNum (sIn σ 0) 0 (π 0 3).toNat) dL_law_442 a0 (by omega) rfl (by omega) (hT.1 0 (by omega)) ?_
  refine gz_aload_n dL_law_443 rfl ?_
  refine zz_bipush (x := 8) dL_law_444 rfl ?_
  refine gJ_count (v := sNum (sIn σ 0) 0 (π 0 3).toNat) dL_law_446 wm_HeliographsLaw_187 hJ h56 (by omega) rfl (Nat.le_of_ble_eq_true rfl) (by omega) ?_
  refine zz_icmp_ne (tgt := 504) dL_law_449 rfl (by omega) (fun b449 => ?_) (fun b449 => ?_)
  · exact absurd b449 (by omega)
  refine gz_aload dL_law_452 rfl ?_
  refine zz_iconst dL_law_454 ?_
  refine gw_iald (a := r) (q := 1) (len := 3) (v := sNum (sIn σ 1) 0 (π 0 3).toNat) dL_law_455 a0 (by omega) rfl (by omega) (hT.1 1 (by omega)) ?_
  refine gz_aload_n dL_law_456 rfl ?_
  refine zz_bipush (x := 9) dL_law_457 rfl ?_
  refine gJ_count (v := sNum (sIn σ 1) 0 (π 0 3).toNat) dL_law_459 wm_HeliographsLaw_187 hJ h56 (by omega) rfl (Nat.le_of_ble_eq_true rfl) (by omega) ?_
  refine zz_icmp_ne (tgt := 504) dL_law_462 rfl (by omega) (fun b462 => ?_) (fun b462 => ?_)
  · exact absurd b462 (by omega)
  refine gz_aload dL_law_465 rfl ?_
  refine zz_iconst dL_law_467 ?_
  refine gw_iald (a := r) (q := 2) (len := 3) (v := sNum (sIn σ 2) 0 (π 0 3).toNat) dL_law_468 a0 (by omega) rfl (by omega) (hT.1 2 (by omega)) ?_
  refine gz_aload_n dL_law_469 rfl ?_
  refine zz_bipush (x := 10) dL_law_470 rfl ?_
  refine gJ_count (v := sNum (sIn σ 2) 0 (π 0 3).toNat) dL_law_472 wm_HeliographsLaw_187 hJ h56 (by omega) rfl (Nat.le_of_ble_eq_true rfl) (by omega) ?_
  refine zz_icmp_ne (tgt := 504) dL_law_475 rfl (by omega) (fun b475 => ?_) (fun b475 => ?_)
  · exact absurd b475 (by omega)
  refine gz_iload dL_law_478 rfl ?_
  refine gz_aload_n dL_law_480 rfl ?_
  refine zz_bipush (x := 11) dL_law_481 rfl ?_
  refine gJ_count (v := sSum (σ 8) 0 (π 0 3).toNat) dL_law_483 wm_HeliographsLaw_187 hJ h56 (by omega) rfl (Nat.le_of_ble_eq_true rfl) (by omega) ?_
  refine zz_icmp_ne (tgt := 504) dL_law_486 rfl (by omega) (fun b486 => ?_) (fun b486 => ?_)
  · exact absurd b486 (by omega)
  refine gz_aload_n dL_law_489 rfl ?_
  refine gJ_mean dL_law_490 wm_HeliographsLaw_199 hJ h56 (Nat.le_of_ble_eq_true rfl) (by omega) ?_
  refine gz_iload dL_law_493 rfl ?_
  refine zz_i2d dL_law_495 ?_
  refine gz_iload dL_law_496 rfl ?_
  refine zz_i2d dL_law_498 ?_
  refine gz_ddiv dL_law_499 (mean_ok sb (by omega)) ?_
  have em : sMean π σ = FP.ddiv (FP.i2d (iZ (sSum (σ 5) 0 (π 0 3).toNat))) (FP.i2d (iZ (π 0 3))) := if_neg (by omega)
  rw [em]
  refine gz_dcmp dL_law_500 ?_
  rw [mean_eq sb (by omega)]
  refine zz_if_eq (tgt := 506) dL_law_501 rfl (by omega) (fun b501 => ?_) (fun b501 => ?_)
  rotate_left
  · exact absurd rfl b501
  exact kk
end

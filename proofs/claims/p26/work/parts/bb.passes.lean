/-! THE LAW LOOKS AT THE PASSES -/
section
variable {l : Launch} {Γ : zk_G} {d : Nat} {F : Heap → Prop}
theorem opens_ok {π σ : zV} {w : Nat} : (sOpens π σ w = 0 ↔ sPass π σ w (σ 0 1) = true) ∧ (-1 ≤ sOpens π σ w ∧ sOpens π σ w ≤ 240) ∧ (0 < sOpens π σ w → sPass π σ w (σ 0 1 + sOpens π σ w) = true ∧ sPass π σ w (σ 0 1 + sOpens π σ w - 1) = false) := by
  unfold sOpens
  have b := sFind_b2 (fun m : Nat => sPass π σ w (σ 0 1 + m)) 241 0
  have e0 : σ 0 1 + ((0 : Nat) : Int) = σ 0 1 := by omega
  refine ⟨⟨fun h => ?_, fun h => ?_⟩, by omega, fun h => ⟨?_, ?_⟩⟩
  · rcases b with b | b
    · omega
    · have k := b.2.2
      rw [h] at k
      have k2 : sPass π σ w (σ 0 1 + ((0 : Nat) : Int)) = true := k
      rw [e0] at k2
      exact k2
  · have q := sFind_ex (f := fun m : Nat => sPass π σ w (σ 0 1 + m)) 241 0 0 (Nat.le_refl _) (by omega) (by show sPass π σ w (σ 0 1 + ((0 : Nat) : Int)) = true; rw [e0]; exact h)
    omega
  · rcases b with b | b
    · omega
    · have k := b.2.2
      have k2 : sPass π σ w (σ 0 1 + (((sFind (fun m : Nat => sPass π σ w (σ 0 1 + m)) 0 241).toNat : Nat) : Int)) = true := k
      rw [Int.toNat_of_nonneg (by omega)] at k2
      exact k2
  · have k := sFind_min (f := fun m : Nat => sPass π σ w (σ 0 1 + m)) 241 0 ((sFind (fun m : Nat => sPass π σ w (σ 0 1 + m)) 0 241) - 1).toNat (Nat.zero_le _) (by omega)
    have k2 : ¬ sPass π σ w (σ 0 1 + ((((sFind (fun m : Nat => sPass π σ w (σ 0 1 + m)) 0 241) - 1).toNat : Nat) : Int)) = true := k
    rw [Int.toNat_of_nonneg (by omega), ← Int.add_sub_assoc] at k2
    exact Bool.eq_false_iff.mpr k2
/-- a pass is open, if both its peaks have sun, and clouds let it -/
theorem open_iff {π σ : zV} {w u v : Nat} (hs : σ 0 2 = -1) (hu : π 4 w = (u : Int)) (hv : π 5 w = (v : Int)) {m : Int} : (sPass π σ w m = true → sSun π u m = true ∧ sSun π v m = true) ∧ (sNum (fun i => decide (π 11 i = (w : Int))) 0 (π 0 2).toNat = 0 → sSun π u m = true → sSun π v m = true → sPass π σ w m = true) := by
  unfold sPass sOpen
  rw [hu, hv, Int.toNat_natCast, Int.toNat_natCast]
  refine ⟨fun h => ?_, fun h1 h2 h3 => ?_⟩
  · simp only [Bool.and_eq_true] at h
    exact ⟨h.2.1.1, h.2.1.2⟩
  · rw [h2, h3, no_cloud h1, decide_eq_true (by omega : (w : Int) ≠ σ 0 2)]
    rfl
theorem zl_pass_o {E : Nat → Nat × Nat} {e : Nat} {c : Nat → Nat} {π σ : zV} {p : Nat} {H : zV → Nat → Bool} {t o N : Int} {kc ks : Nat} {Q : Option Value → zk_M → (Heap → Prop) → Prop} {tm r : Nat} {x : Int32} {W : zV} {i u v : Nat} {oo : Int} {J0 J1 J2 J3 J4 J5 J6 : Option Value} (hJ : lJ E e c W p H π σ t o N) (h56 : Γ.2.2.2.1 56 < Γ.2.1.size) (hi : (i : Int) < π 0 1) (hN : N ≤ 80000) (hmin : σ 0 1 ≤ 9000) (hsh : σ 0 2 = -1) (hd : 20 ≤ d) (hu : π 4 i = (u : Int)) (hv : π 5 i = (v : Int)) (hoo : sOpens π σ i = oo) (ho : sPass π σ i (σ 0 1) = true) (kk : ∀ (J0 J1 J2 J3 J4 J5 J6 J7 J8 J9 : Option Value), zk_Go l Γ mL_law d kc ks Q 515 [some (.ref 56), none, some (.ref 424), some (.ref 320), some (.int (iZ (π 0 0))), some (.int (iZ (π 0 1))), some (.int (iZ (π 0 3))), some (.int (iZ ((tm : Int)))), some (.int x), some (.int (iZ (σ 0 1))), some (.ref r), some (.ref (r + 1)), some (.ref (r + 2)), some (.int (iZ (sSum (σ 8) 0 (π 0 3).toNat))), some (.int (iZ (sSum (σ 5) 0 (π 0 3).toNat))), some (.int (iZ (sSum (σ 10) 0 (i + 1)))), some (.int (iZ (sNum (fun w => decide (0 ≤ sFind (fun m => decide (σ 7 m = (w : Int))) 0 (π 0 3).toNat)) 0 (i + 1)))), some (.int (iZ (((i + 1 : Nat) : Int)))), J0, J1, J2, J3, J4, J5, J6, J7, J8, J9] [] (zG E e W) F) : zk_Go l Γ mL_law d kc ks Q 577 [some (.ref 56), none, some (.ref 424), some (.ref 320), some (.int (iZ (π 0 0))), some (.int (iZ (π 0 1))), some (.int (iZ (π 0 3))), some (.int (iZ ((tm : Int)))), some (.int x), some (.int (iZ (σ 0 1))), some (.ref r), some (.ref (r + 1)), some (.ref (r + 2)), some (.int (iZ (sSum (σ 8) 0 (π 0 3).toNat))), some (.int (iZ (sSum (σ 5) 0 (π 0 3).toNat))), some (.int (iZ ((sSum (σ 10) 0 i) + (σ 10 i)))), some (.int (iZ (sNum (fun w => decide (0 ≤ sFind (fun m => decide (σ 7 m = (w : Int))) 0 (π 0 3).toNat)) 0 i))), some (.int (iZ ((i : Int)))), some (.int (iZ ((u : Int)))), some (.int (iZ ((v : Int)))), some (.int (iZ (oo))), J0, J1, J2, J3, J4, J5, J6] [.int (iZ (bI (decide (0 ≤ sFind (fun m => decide (σ 7 m = (i : Int))) 0 (π 0 3).toNat)))), .int (iZ (sNum (fun w => decide (0 ≤ sFind (fun m => decide (σ 7 m = (w : Int))) 0 (π 0 3).toNat)) 0 i))] (zG E e W) F := by
  have hJ2 := hJ
  obtain ⟨hE, hE0, hz, hSt, hS, hh, hH, hO⟩ := hJ2
  have n1 := hS.1
  have hw : wP π := hSt.2.2.2.2.1
  have hc : wC π σ N := hSt.2.2.2.2.2.1
  have n0 := wP_n hw
  have t0 := wC_n hc
  have cb := sNum_bd (fun q => decide (π 11 q = (i : Int))) (π 0 2).toNat 0
  have wv := wP_w hw hi
  have wi := wC_w hc hi
  have fin : ∀ (J0 J1 J2 J3 J4 J5 J6 J7 J8 J9 : Option Value), zk_Go l Γ mL_law d kc ks Q 515 [some (.ref 56), none, some (.ref 424), some (.ref 320), some (.int (iZ (π 0 0))), some (.int (iZ (π 0 1))), some (.int (iZ (π 0 3))), some (.int (iZ ((tm : Int)))), some (.int x), some (.int (iZ (σ 0 1))), some (.ref r), some (.ref (r + 1)), some (.ref (r + 2)), some (.int (iZ (sSum (σ 8) 0 (π 0 3).toNat))), some (.int (iZ (sSum (σ 5) 0 (π 0 3).toNat))), some (.int (iZ ((sSum (σ 10) 0 i) + (σ 10 i)))), some (.int (iZ ((sNum (fun w => decide (0 ≤ sFind (fun m => decide (σ 7 m = (w : Int))) 0 (π 0 3).toNat)) 0 i) + (bI (decide (0 ≤ sFind (fun m => decide (σ 7 m = (i : Int))) 0 (π 0 3).toNat)))))), some (.int (iZ (((i + 1 : Nat) : Int)))), J0, J1, J2, J3, J4, J5, J6, J7, J8, J9] [] (zG E e W) F := fun J0 J1 J2 J3 J4 J5 J6 J7 J8 J9 => by
    have h := kk J0 J1 J2 J3 J4 J5 J6 J7 J8 J9
    rw [sSum_0s, sNum_0s] at h
    exact h
  have ob := (opens_ok (π := π) (σ := σ) (w := i)).2.1
  rw [hoo] at ob
  obtain ⟨s1, s2⟩ := (open_iff (m := σ 0 1) hsh hu hv).1 ho
  have o0 : oo = 0 := by rw [← hoo]; exact opens_ok.1.mpr ho
  refine zz_iadd dL_law_577 ?_
  refine gz_istore (L2 := [some (.ref 56), none, some (.ref 424), some (.ref 320), some (.int (iZ (π 0 0))), some (.int (iZ (π 0 1))), some (.int (iZ (π 0 3))), some (.int (iZ ((tm : Int)))), some (.int x), some (.int (iZ (σ 0 1))), some (.ref r), some (.ref (r + 1)), some (.ref (r + 2)), some (.int (iZ (sSum (σ 8) 0 (π 0 3).toNat))), some (.int (iZ (sSum (σ 5) 0 (π 0 3).toNat))), some (.int (iZ ((sSum (σ 10) 0 i) + (σ 10 i)))), some (.int (iZ ((sNum (fun w => decide (0 ≤ sFind (fun m => decide (σ 7 m = (w : Int))) 0 (π 0 3).toNat)) 0 i) + (bI (decide (0 ≤ sFind (fun m => decide (σ 7 m = (i : Int))) 0 (π 0 3).toNat)))))), some (.int (iZ ((i : Int)))), some (.int (iZ ((u : Int)))), some (.int (iZ ((v : Int)))), some (.int (iZ (oo))), J0, J1, J2, J3, J4, J5, J6]) dL_law_578 (Nat.le_of_ble_eq_true rfl) rfl ?_
  refine gz_aload_n dL_law_580 rfl ?_
  refine gz_iload dL_law_581 rfl ?_
  refine gz_iload dL_law_583 rfl ?_
  refine gJ_open (w := i) (m := σ 0 1) dL_law_585 wm_HeliographsLaw_206 hJ h56 (by omega) (by omega) (Nat.le_of_ble_eq_true rfl) (by omega) ?_
  rw [bI_t ho]
  refine zz_if_eq (tgt := 613) dL_law_588 rfl (by omega) (fun b588 => ?_) (fun b588 => ?_)
  · exact absurd b588 (by omega)
  refine gz_aload_n dL_law_591 rfl ?_
  refine gz_iload dL_law_592 rfl ?_
  refine gz_iload dL_law_594 rfl ?_
  refine gJ_sun (k := u) (m := σ 0 1) dL_law_596 wm_HeliographsLaw_210 hJ h56 (by omega) (by omega) (Nat.le_of_ble_eq_true rfl) (by omega) ?_
  rw [bI_t s1]
  refine zz_if_eq (tgt := 683) dL_law_599 rfl (by omega) (fun b599 => ?_) (fun b599 => ?_)
  · exact absurd b599 (by omega)
  refine gz_aload_n dL_law_602 rfl ?_
  refine gz_iload dL_law_603 rfl ?_
  refine gz_iload dL_law_605 rfl ?_
  refine gJ_sun (k := v) (m := σ 0 1) dL_law_607 wm_HeliographsLaw_210 hJ h56 (by omega) (by omega) (Nat.le_of_ble_eq_true rfl) (by omega) ?_
  rw [bI_t s2]
  refine zz_if_eq (tgt := 683) dL_law_610 rfl (by omega) (fun b610 => ?_) (fun b610 => ?_)
  · exact absurd b610 (by omega)
  refine gz_iload dL_law_613 rfl ?_
  refine zz_if_ne (tgt := 622) dL_law_615 rfl (by omega) (fun b615 => ?_) (fun b615 => ?_)
  · exact absurd b615 (by omega)
  refine zz_iconst dL_law_618 ?_
  refine gz_goto (tgt := 623) dL_law_619 rfl ?_
  refine gz_aload_n dL_law_623 rfl ?_
  refine gz_iload dL_law_624 rfl ?_
  refine gz_iload dL_law_626 rfl ?_
  refine gJ_open (w := i) (m := σ 0 1) dL_law_628 wm_HeliographsLaw_206 hJ h56 (by omega) (by omega) (Nat.le_of_ble_eq_true rfl) (by omega) ?_
  rw [bI_t ho]
  refine zz_icmp_ne (tgt := 683) dL_law_631 rfl (by omega) (fun b631 => ?_) (fun b631 => ?_)
  · exact absurd b631 (by omega)
  refine gz_iload dL_law_634 rfl ?_
  refine zz_if_le (tgt := 669) dL_law_636 rfl (by omega) (fun b636 => ?_) (fun b636 => ?_)
  rotate_left
  · exact absurd b636 (by omega)
  refine gz_iload dL_law_669 rfl ?_
  refine zz_iconst dL_law_671 ?_
  refine zz_icmp_lt (tgt := 683) dL_law_672 rfl (by omega) (fun b672 => ?_) (fun b672 => ?_)
  · exact absurd b672 (by omega)
  refine gz_iload dL_law_675 rfl ?_
  refine zz_sipush (x := 240) dL_law_677 rfl ?_
  refine zz_icmp_le (tgt := 685) dL_law_680 rfl (by omega) (fun b680 => ?_) (fun b680 => ?_)
  rotate_left
  · exact absurd b680 (by omega)
  refine gz_aload_n dL_law_685 rfl ?_
  refine gz_iload dL_law_686 rfl ?_
  refine zz_iconst dL_law_688 ?_
  refine gJ_pass (w := i) (v := sNum (fun q => decide (π 11 q = (i : Int))) 0 (π 0 2).toNat) dL_law_689 wm_HeliographsLaw_196 hJ h56 (by omega) (by omega) rfl (Nat.le_of_ble_eq_true rfl) (by omega) ?_
  refine zz_if_ne (tgt := 730) dL_law_692 rfl (by omega) (fun b692 => ?_) (fun b692 => ?_)
  ·
    refine zz_iinc (L2 := [some (.ref 56), none, some (.ref 424), some (.ref 320), some (.int (iZ (π 0 0))), some (.int (iZ (π 0 1))), some (.int (iZ (π 0 3))), some (.int (iZ ((tm : Int)))), some (.int x), some (.int (iZ (σ 0 1))), some (.ref r), some (.ref (r + 1)), some (.ref (r + 2)), some (.int (iZ (sSum (σ 8) 0 (π 0 3).toNat))), some (.int (iZ (sSum (σ 5) 0 (π 0 3).toNat))), some (.int (iZ ((sSum (σ 10) 0 i) + (σ 10 i)))), some (.int (iZ ((sNum (fun w => decide (0 ≤ sFind (fun m => decide (σ 7 m = (w : Int))) 0 (π 0 3).toNat)) 0 i) + (bI (decide (0 ≤ sFind (fun m => decide (σ 7 m = (i : Int))) 0 (π 0 3).toNat)))))), some (.int (iZ (((i + 1 : Nat) : Int)))), some (.int (iZ ((u : Int)))), some (.int (iZ ((v : Int)))), some (.int (iZ (oo))), J0, J1, J2, J3, J4, J5, J6]) dL_law_730 rfl (by rw [show ((i + 1 : Nat) : Int) = (i : Int) + 1 by omega]; rfl) ?_
    refine gz_goto (tgt := 515) dL_law_733 rfl ?_
    exact fin _ _ _ _ _ _ _ _ _ _
  ·
    refine gz_aload_n dL_law_695 rfl ?_
    refine gz_iload dL_law_696 rfl ?_
    refine gz_iload dL_law_698 rfl ?_
    refine gJ_sun (k := u) (m := σ 0 1) dL_law_700 wm_HeliographsLaw_210 hJ h56 (by omega) (by omega) (Nat.le_of_ble_eq_true rfl) (by omega) ?_
    rw [bI_t s1]
    refine zz_if_eq (tgt := 730) dL_law_703 rfl (by omega) (fun b703 => ?_) (fun b703 => ?_)
    · exact absurd b703 (by omega)
    refine gz_aload_n dL_law_706 rfl ?_
    refine gz_iload dL_law_707 rfl ?_
    refine gz_iload dL_law_709 rfl ?_
    refine gJ_sun (k := v) (m := σ 0 1) dL_law_711 wm_HeliographsLaw_210 hJ h56 (by omega) (by omega) (Nat.le_of_ble_eq_true rfl) (by omega) ?_
    rw [bI_t s2]
    refine zz_if_eq (tgt := 730) dL_law_714 rfl (by omega) (fun b714 => ?_) (fun b714 => ?_)
    · exact absurd b714 (by omega)
    refine gz_aload_n dL_law_717 rfl ?_
    refine gz_iload dL_law_718 rfl ?_
    refine gz_iload dL_law_720 rfl ?_
    refine gJ_open (w := i) (m := σ 0 1) dL_law_722 wm_HeliographsLaw_206 hJ h56 (by omega) (by omega) (Nat.le_of_ble_eq_true rfl) (by omega) ?_
    rw [bI_t ho]
    refine zz_if_ne (tgt := 730) dL_law_725 rfl (by omega) (fun b725 => ?_) (fun b725 => ?_)
    rotate_left
    · exact absurd b725 (by omega)
    refine zz_iinc (L2 := [some (.ref 56), none, some (.ref 424), some (.ref 320), some (.int (iZ (π 0 0))), some (.int (iZ (π 0 1))), some (.int (iZ (π 0 3))), some (.int (iZ ((tm : Int)))), some (.int x), some (.int (iZ (σ 0 1))), some (.ref r), some (.ref (r + 1)), some (.ref (r + 2)), some (.int (iZ (sSum (σ 8) 0 (π 0 3).toNat))), some (.int (iZ (sSum (σ 5) 0 (π 0 3).toNat))), some (.int (iZ ((sSum (σ 10) 0 i) + (σ 10 i)))), some (.int (iZ ((sNum (fun w => decide (0 ≤ sFind (fun m => decide (σ 7 m = (w : Int))) 0 (π 0 3).toNat)) 0 i) + (bI (decide (0 ≤ sFind (fun m => decide (σ 7 m = (i : Int))) 0 (π 0 3).toNat)))))), some (.int (iZ (((i + 1 : Nat) : Int)))), some (.int (iZ ((u : Int)))), some (.int (iZ ((v : Int)))), some (.int (iZ (oo))), J0, J1, J2, J3, J4, J5, J6]) dL_law_730 rfl (by rw [show ((i + 1 : Nat) : Int) = (i : Int) + 1 by omega]; rfl) ?_
    refine gz_goto (tgt := 515) dL_law_733 rfl ?_
    exact fin _ _ _ _ _ _ _ _ _ _
theorem zl_pass_n {E : Nat → Nat × Nat} {e : Nat} {c : Nat → Nat} {π σ : zV} {p : Nat} {H : zV → Nat → Bool} {t o N : Int} {kc ks : Nat} {Q : Option Value → zk_M → (Heap → Prop) → Prop} {tm r : Nat} {x : Int32} {W : zV} {i u v : Nat} {oo : Int} {J0 J1 J2 J3 J4 J5 J6 : Option Value} (hJ : lJ E e c W p H π σ t o N) (h56 : Γ.2.2.2.1 56 < Γ.2.1.size) (hi : (i : Int) < π 0 1) (hN : N ≤ 80000) (hmin : σ 0 1 ≤ 9000) (hsh : σ 0 2 = -1) (hd : 20 ≤ d) (hu : π 4 i = (u : Int)) (hv : π 5 i = (v : Int)) (hoo : sOpens π σ i = oo) (ho : ¬ sPass π σ i (σ 0 1) = true) (kk : ∀ (J0 J1 J2 J3 J4 J5 J6 J7 J8 J9 : Option Value), zk_Go l Γ mL_law d kc ks Q 515 [some (.ref 56), none, some (.ref 424), some (.ref 320), some (.int (iZ (π 0 0))), some (.int (iZ (π 0 1))), some (.int (iZ (π 0 3))), some (.int (iZ ((tm : Int)))), some (.int x), some (.int (iZ (σ 0 1))), some (.ref r), some (.ref (r + 1)), some (.ref (r + 2)), some (.int (iZ (sSum (σ 8) 0 (π 0 3).toNat))), some (.int (iZ (sSum (σ 5) 0 (π 0 3).toNat))), some (.int (iZ (sSum (σ 10) 0 (i + 1)))), some (.int (iZ (sNum (fun w => decide (0 ≤ sFind (fun m => decide (σ 7 m = (w : Int))) 0 (π 0 3).toNat)) 0 (i + 1)))), some (.int (iZ (((i + 1 : Nat) : Int)))), J0, J1, J2, J3, J4, J5, J6, J7, J8, J9] [] (zG E e W) F) : zk_Go l Γ mL_law d kc ks Q 577 [some (.ref 56), none, some (.ref 424), some (.ref 320), some (.int (iZ (π 0 0))), some (.int (iZ (π 0 1))), some (.int (iZ (π 0 3))), some (.int (iZ ((tm : Int)))), some (.int x), some (.int (iZ (σ 0 1))), some (.ref r), some (.ref (r + 1)), some (.ref (r + 2)), some (.int (iZ (sSum (σ 8) 0 (π 0 3).toNat))), some (.int (iZ (sSum (σ 5) 0 (π 0 3).toNat))), some (.int (iZ ((sSum (σ 10) 0 i) + (σ 10 i)))), some (.int (iZ (sNum (fun w => decide (0 ≤ sFind (fun m => decide (σ 7 m = (w : Int))) 0 (π 0 3).toNat)) 0 i))), some (.int (iZ ((i : Int)))), some (.int (iZ ((u : Int)))), some (.int (iZ ((v : Int)))), some (.int (iZ (oo))), J0, J1, J2, J3, J4, J5, J6] [.int (iZ (bI (decide (0 ≤ sFind (fun m => decide (σ 7 m = (i : Int))) 0 (π 0 3).toNat)))), .int (iZ (sNum (fun w => decide (0 ≤ sFind (fun m => decide (σ 7 m = (w : Int))) 0 (π 0 3).toNat)) 0 i))] (zG E e W) F := by
  have hJ2 := hJ
  obtain ⟨hE, hE0, hz, hSt, hS, hh, hH, hO⟩ := hJ2
  have n1 := hS.1
  have hw : wP π := hSt.2.2.2.2.1
  have hc : wC π σ N := hSt.2.2.2.2.2.1
  have n0 := wP_n hw
  have t0 := wC_n hc
  have cb := sNum_bd (fun q => decide (π 11 q = (i : Int))) (π 0 2).toNat 0
  have wv := wP_w hw hi
  have wi := wC_w hc hi
  have fin : ∀ (J0 J1 J2 J3 J4 J5 J6 J7 J8 J9 : Option Value), zk_Go l Γ mL_law d kc ks Q 515 [some (.ref 56), none, some (.ref 424), some (.ref 320), some (.int (iZ (π 0 0))), some (.int (iZ (π 0 1))), some (.int (iZ (π 0 3))), some (.int (iZ ((tm : Int)))), some (.int x), some (.int (iZ (σ 0 1))), some (.ref r), some (.ref (r + 1)), some (.ref (r + 2)), some (.int (iZ (sSum (σ 8) 0 (π 0 3).toNat))), some (.int (iZ (sSum (σ 5) 0 (π 0 3).toNat))), some (.int (iZ ((sSum (σ 10) 0 i) + (σ 10 i)))), some (.int (iZ ((sNum (fun w => decide (0 ≤ sFind (fun m => decide (σ 7 m = (w : Int))) 0 (π 0 3).toNat)) 0 i) + (bI (decide (0 ≤ sFind (fun m => decide (σ 7 m = (i : Int))) 0 (π 0 3).toNat)))))), some (.int (iZ (((i + 1 : Nat) : Int)))), J0, J1, J2, J3, J4, J5, J6, J7, J8, J9] [] (zG E e W) F := fun J0 J1 J2 J3 J4 J5 J6 J7 J8 J9 => by
    have h := kk J0 J1 J2 J3 J4 J5 J6 J7 J8 J9
    rw [sSum_0s, sNum_0s] at h
    exact h
  have ob := (opens_ok (π := π) (σ := σ) (w := i)).2.1
  rw [hoo] at ob
  have o0 : oo ≠ 0 := fun q => ho (opens_ok.1.mp (hoo.trans q))
  have oP : 0 < oo → sPass π σ i (σ 0 1 + oo) = true ∧ sPass π σ i (σ 0 1 + oo - 1) = false := by rw [← hoo]; exact opens_ok.2.2
  refine zz_iadd dL_law_577 ?_
  refine gz_istore (L2 := [some (.ref 56), none, some (.ref 424), some (.ref 320), some (.int (iZ (π 0 0))), some (.int (iZ (π 0 1))), some (.int (iZ (π 0 3))), some (.int (iZ ((tm : Int)))), some (.int x), some (.int (iZ (σ 0 1))), some (.ref r), some (.ref (r + 1)), some (.ref (r + 2)), some (.int (iZ (sSum (σ 8) 0 (π 0 3).toNat))), some (.int (iZ (sSum (σ 5) 0 (π 0 3).toNat))), some (.int (iZ ((sSum (σ 10) 0 i) + (σ 10 i)))), some (.int (iZ ((sNum (fun w => decide (0 ≤ sFind (fun m => decide (σ 7 m = (w : Int))) 0 (π 0 3).toNat)) 0 i) + (bI (decide (0 ≤ sFind (fun m => decide (σ 7 m = (i : Int))) 0 (π 0 3).toNat)))))), some (.int (iZ ((i : Int)))), some (.int (iZ ((u : Int)))), some (.int (iZ ((v : Int)))), some (.int (iZ (oo))), J0, J1, J2, J3, J4, J5, J6]) dL_law_578 (Nat.le_of_ble_eq_true rfl) rfl ?_
  refine gz_aload_n dL_law_580 rfl ?_
  refine gz_iload dL_law_581 rfl ?_
  refine gz_iload dL_law_583 rfl ?_
  refine gJ_open (w := i) (m := σ 0 1) dL_law_585 wm_HeliographsLaw_206 hJ h56 (by omega) (by omega) (Nat.le_of_ble_eq_true rfl) (by omega) ?_
  rw [bI_f ho]
  refine zz_if_eq (tgt := 613) dL_law_588 rfl (by omega) (fun b588 => ?_) (fun b588 => ?_)
  rotate_left
  · exact absurd b588 (by omega)
  refine gz_iload dL_law_613 rfl ?_
  refine zz_if_ne (tgt := 622) dL_law_615 rfl (by omega) (fun b615 => ?_) (fun b615 => ?_)
  rotate_left
  · exact absurd b615 (by omega)
  refine zz_iconst dL_law_622 ?_
  refine gz_aload_n dL_law_623 rfl ?_
  refine gz_iload dL_law_624 rfl ?_
  refine gz_iload dL_law_626 rfl ?_
  refine gJ_open (w := i) (m := σ 0 1) dL_law_628 wm_HeliographsLaw_206 hJ h56 (by omega) (by omega) (Nat.le_of_ble_eq_true rfl) (by omega) ?_
  rw [bI_f ho]
  refine zz_icmp_ne (tgt := 683) dL_law_631 rfl (by omega) (fun b631 => ?_) (fun b631 => ?_)
  · exact absurd b631 (by omega)
  refine gz_iload dL_law_634 rfl ?_
  refine zz_if_le (tgt := 669) dL_law_636 rfl (by omega) (fun b636 => ?_) (fun b636 => ?_)
  ·
    refine gz_iload dL_law_669 rfl ?_
    refine zz_iconst dL_law_671 ?_
    refine zz_icmp_lt (tgt := 683) dL_law_672 rfl (by omega) (fun b672 => ?_) (fun b672 => ?_)
    · exact absurd b672 (by omega)
    refine gz_iload dL_law_675 rfl ?_
    refine zz_sipush (x := 240) dL_law_677 rfl ?_
    refine zz_icmp_le (tgt := 685) dL_law_680 rfl (by omega) (fun b680 => ?_) (fun b680 => ?_)
    rotate_left
    · exact absurd b680 (by omega)
    refine gz_aload_n dL_law_685 rfl ?_
    refine gz_iload dL_law_686 rfl ?_
    refine zz_iconst dL_law_688 ?_
    refine gJ_pass (w := i) (v := sNum (fun q => decide (π 11 q = (i : Int))) 0 (π 0 2).toNat) dL_law_689 wm_HeliographsLaw_196 hJ h56 (by omega) (by omega) rfl (Nat.le_of_ble_eq_true rfl) (by omega) ?_
    refine zz_if_ne (tgt := 730) dL_law_692 rfl (by omega) (fun b692 => ?_) (fun b692 => ?_)
    ·
      refine zz_iinc (L2 := [some (.ref 56), none, some (.ref 424), some (.ref 320), some (.int (iZ (π 0 0))), some (.int (iZ (π 0 1))), some (.int (iZ (π 0 3))), some (.int (iZ ((tm : Int)))), some (.int x), some (.int (iZ (σ 0 1))), some (.ref r), some (.ref (r + 1)), some (.ref (r + 2)), some (.int (iZ (sSum (σ 8) 0 (π 0 3).toNat))), some (.int (iZ (sSum (σ 5) 0 (π 0 3).toNat))), some (.int (iZ ((sSum (σ 10) 0 i) + (σ 10 i)))), some (.int (iZ ((sNum (fun w => decide (0 ≤ sFind (fun m => decide (σ 7 m = (w : Int))) 0 (π 0 3).toNat)) 0 i) + (bI (decide (0 ≤ sFind (fun m => decide (σ 7 m = (i : Int))) 0 (π 0 3).toNat)))))), some (.int (iZ (((i + 1 : Nat) : Int)))), some (.int (iZ ((u : Int)))), some (.int (iZ ((v : Int)))), some (.int (iZ (oo))), J0, J1, J2, J3, J4, J5, J6]) dL_law_730 rfl (by rw [show ((i + 1 : Nat) : Int) = (i : Int) + 1 by omega]; rfl) ?_
      refine gz_goto (tgt := 515) dL_law_733 rfl ?_
      exact fin _ _ _ _ _ _ _ _ _ _
    ·
      refine gz_aload_n dL_law_695 rfl ?_
      refine gz_iload dL_law_696 rfl ?_
      refine gz_iload dL_law_698 rfl ?_
      refine gJ_sun (k := u) (m := σ 0 1) dL_law_700 wm_HeliographsLaw_210 hJ h56 (by omega) (by omega) (Nat.le_of_ble_eq_true rfl) (by omega) ?_
      refine zz_if_eqB (tgt := 730) dL_law_703 rfl (fun b703 => ?_) (fun b703 => ?_)
      ·
        refine zz_iinc (L2 := [some (.ref 56), none, some (.ref 424), some (.ref 320), some (.int (iZ (π 0 0))), some (.int (iZ (π 0 1))), some (.int (iZ (π 0 3))), some (.int (iZ ((tm : Int)))), some (.int x), some (.int (iZ (σ 0 1))), some (.ref r), some (.ref (r + 1)), some (.ref (r + 2)), some (.int (iZ (sSum (σ 8) 0 (π 0 3).toNat))), some (.int (iZ (sSum (σ 5) 0 (π 0 3).toNat))), some (.int (iZ ((sSum (σ 10) 0 i) + (σ 10 i)))), some (.int (iZ ((sNum (fun w => decide (0 ≤ sFind (fun m => decide (σ 7 m = (w : Int))) 0 (π 0 3).toNat)) 0 i) + (bI (decide (0 ≤ sFind (fun m => decide (σ 7 m = (i : Int))) 0 (π 0 3).toNat)))))), some (.int (iZ (((i + 1 : Nat) : Int)))), some (.int (iZ ((u : Int)))), some (.int (iZ ((v : Int)))), some (.int (iZ (oo))), J0, J1, J2, J3, J4, J5, J6]) dL_law_730 rfl (by rw [show ((i + 1 : Nat) : Int) = (i : Int) + 1 by omega]; rfl) ?_
        refine gz_goto (tgt := 515) dL_law_733 rfl ?_
        exact fin _ _ _ _ _ _ _ _ _ _
      ·
        refine gz_aload_n dL_law_706 rfl ?_
        refine gz_iload dL_law_707 rfl ?_
        refine gz_iload dL_law_709 rfl ?_
        refine gJ_sun (k := v) (m := σ 0 1) dL_law_711 wm_HeliographsLaw_210 hJ h56 (by omega) (by omega) (Nat.le_of_ble_eq_true rfl) (by omega) ?_
        refine zz_if_eqB (tgt := 730) dL_law_714 rfl (fun b714 => ?_) (fun b714 => ?_)
        ·
          refine zz_iinc (L2 := [some (.ref 56), none, some (.ref 424), some (.ref 320), some (.int (iZ (π 0 0))), some (.int (iZ (π 0 1))), some (.int (iZ (π 0 3))), some (.int (iZ ((tm : Int)))), some (.int x), some (.int (iZ (σ 0 1))), some (.ref r), some (.ref (r + 1)), some (.ref (r + 2)), some (.int (iZ (sSum (σ 8) 0 (π 0 3).toNat))), some (.int (iZ (sSum (σ 5) 0 (π 0 3).toNat))), some (.int (iZ ((sSum (σ 10) 0 i) + (σ 10 i)))), some (.int (iZ ((sNum (fun w => decide (0 ≤ sFind (fun m => decide (σ 7 m = (w : Int))) 0 (π 0 3).toNat)) 0 i) + (bI (decide (0 ≤ sFind (fun m => decide (σ 7 m = (i : Int))) 0 (π 0 3).toNat)))))), some (.int (iZ (((i + 1 : Nat) : Int)))), some (.int (iZ ((u : Int)))), some (.int (iZ ((v : Int)))), some (.int (iZ (oo))), J0, J1, J2, J3, J4, J5, J6]) dL_law_730 rfl (by rw [show ((i + 1 : Nat) : Int) = (i : Int) + 1 by omega]; rfl) ?_
          refine gz_goto (tgt := 515) dL_law_733 rfl ?_
          exact fin _ _ _ _ _ _ _ _ _ _
        ·
          exact absurd ((open_iff hsh hu hv).2 b692 b703 b714) ho
  ·
    refine gz_aload_n dL_law_639 rfl ?_
    refine gz_iload dL_law_640 rfl ?_
    refine gz_iload dL_law_642 rfl ?_
    refine gz_iload dL_law_644 rfl ?_
    refine zz_iadd dL_law_646 ?_
    refine gJ_open (w := i) (m := (σ 0 1) + (oo)) dL_law_647 wm_HeliographsLaw_206 hJ h56 (by omega) (by omega) (Nat.le_of_ble_eq_true rfl) (by omega) ?_
    rw [bI_t (oP (by omega)).1]
    refine zz_if_eq (tgt := 683) dL_law_650 rfl (by omega) (fun b650 => ?_) (fun b650 => ?_)
    · exact absurd b650 (by omega)
    refine gz_aload_n dL_law_653 rfl ?_
    refine gz_iload dL_law_654 rfl ?_
    refine gz_iload dL_law_656 rfl ?_
    refine gz_iload dL_law_658 rfl ?_
    refine zz_iadd dL_law_660 ?_
    refine zz_iconst dL_law_661 ?_
    refine zz_isub dL_law_662 ?_
    refine gJ_open (w := i) (m := ((σ 0 1) + (oo)) - (1)) dL_law_663 wm_HeliographsLaw_206 hJ h56 (by omega) (by omega) (Nat.le_of_ble_eq_true rfl) (by omega) ?_
    rw [bI_f (Bool.eq_false_iff.mp (oP (by omega)).2)]
    refine zz_if_ne (tgt := 683) dL_law_666 rfl (by omega) (fun b666 => ?_) (fun b666 => ?_)
    · exact absurd b666 (by omega)
    refine gz_iload dL_law_669 rfl ?_
    refine zz_iconst dL_law_671 ?_
    refine zz_icmp_lt (tgt := 683) dL_law_672 rfl (by omega) (fun b672 => ?_) (fun b672 => ?_)
    · exact absurd b672 (by omega)
    refine gz_iload dL_law_675 rfl ?_
    refine zz_sipush (x := 240) dL_law_677 rfl ?_
    refine zz_icmp_le (tgt := 685) dL_law_680 rfl (by omega) (fun b680 => ?_) (fun b680 => ?_)
    rotate_left
    · exact absurd b680 (by omega)
    refine gz_aload_n dL_law_685 rfl ?_
    refine gz_iload dL_law_686 rfl ?_
    refine zz_iconst dL_law_688 ?_
    refine gJ_pass (w := i) (v := sNum (fun q => decide (π 11 q = (i : Int))) 0 (π 0 2).toNat) dL_law_689 wm_HeliographsLaw_196 hJ h56 (by omega) (by omega) rfl (Nat.le_of_ble_eq_true rfl) (by omega) ?_
    refine zz_if_ne (tgt := 730) dL_law_692 rfl (by omega) (fun b692 => ?_) (fun b692 => ?_)
    ·
      refine zz_iinc (L2 := [some (.ref 56), none, some (.ref 424), some (.ref 320), some (.int (iZ (π 0 0))), some (.int (iZ (π 0 1))), some (.int (iZ (π 0 3))), some (.int (iZ ((tm : Int)))), some (.int x), some (.int (iZ (σ 0 1))), some (.ref r), some (.ref (r + 1)), some (.ref (r + 2)), some (.int (iZ (sSum (σ 8) 0 (π 0 3).toNat))), some (.int (iZ (sSum (σ 5) 0 (π 0 3).toNat))), some (.int (iZ ((sSum (σ 10) 0 i) + (σ 10 i)))), some (.int (iZ ((sNum (fun w => decide (0 ≤ sFind (fun m => decide (σ 7 m = (w : Int))) 0 (π 0 3).toNat)) 0 i) + (bI (decide (0 ≤ sFind (fun m => decide (σ 7 m = (i : Int))) 0 (π 0 3).toNat)))))), some (.int (iZ (((i + 1 : Nat) : Int)))), some (.int (iZ ((u : Int)))), some (.int (iZ ((v : Int)))), some (.int (iZ (oo))), J0, J1, J2, J3, J4, J5, J6]) dL_law_730 rfl (by rw [show ((i + 1 : Nat) : Int) = (i : Int) + 1 by omega]; rfl) ?_
      refine gz_goto (tgt := 515) dL_law_733 rfl ?_
      exact fin _ _ _ _ _ _ _ _ _ _
    ·
      refine gz_aload_n dL_law_695 rfl ?_
      refine gz_iload dL_law_696 rfl ?_
      refine gz_iload dL_law_698 rfl ?_
      refine gJ_sun (k := u) (m := σ 0 1) dL_law_700 wm_HeliographsLaw_210 hJ h56 (by omega) (by omega) (Nat.le_of_ble_eq_true rfl) (by omega) ?_
      refine zz_if_eqB (tgt := 730) dL_law_703 rfl (fun b703 => ?_) (fun b703 => ?_)
      ·
        refine zz_iinc (L2 := [some (.ref 56), none, some (.ref 424), some (.ref 320), some (.int (iZ (π 0 0))), some (.int (iZ (π 0 1))), some (.int (iZ (π 0 3))), some (.int (iZ ((tm : Int)))), some (.int x), some (.int (iZ (σ 0 1))), some (.ref r), some (.ref (r + 1)), some (.ref (r + 2)), some (.int (iZ (sSum (σ 8) 0 (π 0 3).toNat))), some (.int (iZ (sSum (σ 5) 0 (π 0 3).toNat))), some (.int (iZ ((sSum (σ 10) 0 i) + (σ 10 i)))), some (.int (iZ ((sNum (fun w => decide (0 ≤ sFind (fun m => decide (σ 7 m = (w : Int))) 0 (π 0 3).toNat)) 0 i) + (bI (decide (0 ≤ sFind (fun m => decide (σ 7 m = (i : Int))) 0 (π 0 3).toNat)))))), some (.int (iZ (((i + 1 : Nat) : Int)))), some (.int (iZ ((u : Int)))), some (.int (iZ ((v : Int)))), some (.int (iZ (oo))), J0, J1, J2, J3, J4, J5, J6]) dL_law_730 rfl (by rw [show ((i + 1 : Nat) : Int) = (i : Int) + 1 by omega]; rfl) ?_
        refine gz_goto (tgt := 515) dL_law_733 rfl ?_
        exact fin _ _ _ _ _ _ _ _ _ _
      ·
        refine gz_aload_n dL_law_706 rfl ?_
        refine gz_iload dL_law_707 rfl ?_
        refine gz_iload dL_law_709 rfl ?_
        refine gJ_sun (k := v) (m := σ 0 1) dL_law_711 wm_HeliographsLaw_210 hJ h56 (by omega) (by omega) (Nat.le_of_ble_eq_true rfl) (by omega) ?_
        refine zz_if_eqB (tgt := 730) dL_law_714 rfl (fun b714 => ?_) (fun b714 => ?_)
        ·
          refine zz_iinc (L2 := [some (.ref 56), none, some (.ref 424), some (.ref 320), some (.int (iZ (π 0 0))), some (.int (iZ (π 0 1))), some (.int (iZ (π 0 3))), some (.int (iZ ((tm : Int)))), some (.int x), some (.int (iZ (σ 0 1))), some (.ref r), some (.ref (r + 1)), some (.ref (r + 2)), some (.int (iZ (sSum (σ 8) 0 (π 0 3).toNat))), some (.int (iZ (sSum (σ 5) 0 (π 0 3).toNat))), some (.int (iZ ((sSum (σ 10) 0 i) + (σ 10 i)))), some (.int (iZ ((sNum (fun w => decide (0 ≤ sFind (fun m => decide (σ 7 m = (w : Int))) 0 (π 0 3).toNat)) 0 i) + (bI (decide (0 ≤ sFind (fun m => decide (σ 7 m = (i : Int))) 0 (π 0 3).toNat)))))), some (.int (iZ (((i + 1 : Nat) : Int)))), some (.int (iZ ((u : Int)))), some (.int (iZ ((v : Int)))), some (.int (iZ (oo))), J0, J1, J2, J3, J4, J5, J6]) dL_law_730 rfl (by rw [show ((i + 1 : Nat) : Int) = (i : Int) + 1 by omega]; rfl) ?_
          refine gz_goto (tgt := 515) dL_law_733 rfl ?_
          exact fin _ _ _ _ _ _ _ _ _ _
        ·
          exact absurd ((open_iff hsh hu hv).2 b692 b703 b714) ho
theorem zl_pass_1 {E : Nat → Nat × Nat} {e : Nat} {c : Nat → Nat} {π σ : zV} {p : Nat} {H : zV → Nat → Bool} {t o N : Int} {kc ks : Nat} {Q : Option Value → zk_M → (Heap → Prop) → Prop} {tm r : Nat} {x : Int32} {W : zV} {i : Nat} {J0 J1 J2 J3 J4 J5 J6 J7 J8 J9 : Option Value} (hJ : lJ E e c W p H π σ t o N) (h56 : Γ.2.2.2.1 56 < Γ.2.1.size) (hi : (i : Int) < π 0 1) (hN : N ≤ 80000) (hmin : σ 0 1 ≤ 9000) (hsh : σ 0 2 = -1) (hd : 20 ≤ d) (kk : ∀ (J0 J1 J2 J3 J4 J5 J6 J7 J8 J9 : Option Value), zk_Go l Γ mL_law d kc ks Q 515 [some (.ref 56), none, some (.ref 424), some (.ref 320), some (.int (iZ (π 0 0))), some (.int (iZ (π 0 1))), some (.int (iZ (π 0 3))), some (.int (iZ ((tm : Int)))), some (.int x), some (.int (iZ (σ 0 1))), some (.ref r), some (.ref (r + 1)), some (.ref (r + 2)), some (.int (iZ (sSum (σ 8) 0 (π 0 3).toNat))), some (.int (iZ (sSum (σ 5) 0 (π 0 3).toNat))), some (.int (iZ (sSum (σ 10) 0 (i + 1)))), some (.int (iZ (sNum (fun w => decide (0 ≤ sFind (fun m => decide (σ 7 m = (w : Int))) 0 (π 0 3).toNat)) 0 (i + 1)))), some (.int (iZ (((i + 1 : Nat) : Int)))), J0, J1, J2, J3, J4, J5, J6, J7, J8, J9] [] (zG E e W) F) : zk_Go l Γ mL_law d kc ks Q 515 [some (.ref 56), none, some (.ref 424), some (.ref 320), some (.int (iZ (π 0 0))), some (.int (iZ (π 0 1))), some (.int (iZ (π 0 3))), some (.int (iZ ((tm : Int)))), some (.int x), some (.int (iZ (σ 0 1))), some (.ref r), some (.ref (r + 1)), some (.ref (r + 2)), some (.int (iZ (sSum (σ 8) 0 (π 0 3).toNat))), some (.int (iZ (sSum (σ 5) 0 (π 0 3).toNat))), some (.int (iZ (sSum (σ 10) 0 i))), some (.int (iZ (sNum (fun w => decide (0 ≤ sFind (fun m => decide (σ 7 m = (w : Int))) 0 (π 0 3).toNat)) 0 i))), some (.int (iZ ((i : Int)))), J0, J1, J2, J3, J4, J5, J6, J7, J8, J9] [] (zG E e W) F := by
  have hJ2 := hJ
  obtain ⟨hE, hE0, hz, hSt, hS, hh, hH, hO⟩ := hJ2
  have n1 := hS.1
  have hw : wP π := hSt.2.2.2.2.1
  have hc : wC π σ N := hSt.2.2.2.2.2.1
  have n0 := wP_n hw
  have t0 := wC_n hc
  have cb := sNum_bd (fun q => decide (π 11 q = (i : Int))) (π 0 2).toNat 0
  have wv := wP_w hw hi
  have wi := wC_w hc hi
  obtain ⟨u, hu⟩ : ∃ u : Nat, π 4 i = (u : Int) := ⟨(π 4 i).toNat, by omega⟩
  obtain ⟨v, hv⟩ : ∃ v : Nat, π 5 i = (v : Int) := ⟨(π 5 i).toNat, by omega⟩
  obtain ⟨oo, hoo⟩ : ∃ z, sOpens π σ i = z := ⟨_, rfl⟩
  have fin : zk_Go l Γ mL_law d kc ks Q 577 [some (.ref 56), none, some (.ref 424), some (.ref 320), some (.int (iZ (π 0 0))), some (.int (iZ (π 0 1))), some (.int (iZ (π 0 3))), some (.int (iZ ((tm : Int)))), some (.int x), some (.int (iZ (σ 0 1))), some (.ref r), some (.ref (r + 1)), some (.ref (r + 2)), some (.int (iZ (sSum (σ 8) 0 (π 0 3).toNat))), some (.int (iZ (sSum (σ 5) 0 (π 0 3).toNat))), some (.int (iZ ((sSum (σ 10) 0 i) + (σ 10 i)))), some (.int (iZ (sNum (fun w => decide (0 ≤ sFind (fun m => decide (σ 7 m = (w : Int))) 0 (π 0 3).toNat)) 0 i))), some (.int (iZ ((i : Int)))), some (.int (iZ ((u : Int)))), some (.int (iZ ((v : Int)))), some (.int (iZ (oo))), J3, J4, J5, J6, J7, J8, J9] [.int (iZ (bI (decide (0 ≤ sFind (fun m => decide (σ 7 m = (i : Int))) 0 (π 0 3).toNat)))), .int (iZ (sNum (fun w => decide (0 ≤ sFind (fun m => decide (σ 7 m = (w : Int))) 0 (π 0 3).toNat)) 0 i))] (zG E e W) F := by
    by_cases ho : sPass π σ i (σ 0 1) = true
    · exact zl_pass_o hJ h56 hi hN hmin hsh hd hu hv hoo ho kk
    · exact zl_pass_n hJ h56 hi hN hmin hsh hd hu hv hoo ho kk
  have fb := sFind_b2 (fun m => decide (σ 7 m = (i : Int))) (π 0 3).toNat 0
  refine gz_iload dL_law_515 rfl ?_
  refine gz_iload dL_law_517 rfl ?_
  refine zz_icmp_ge (tgt := 736) dL_law_519 rfl (by omega) (fun b519 => ?_) (fun b519 => ?_)
  · exact absurd b519 (by omega)
  refine gz_aload_n dL_law_522 rfl ?_
  refine gz_iload dL_law_523 rfl ?_
  refine zz_iconst dL_law_525 ?_
  refine gJ_pass (w := i) (v := π 4 i) dL_law_526 wm_HeliographsLaw_196 hJ h56 (by omega) (by omega) rfl (Nat.le_of_ble_eq_true rfl) (by omega) ?_
  rw [hu]
  refine gz_istore (L2 := [some (.ref 56), none, some (.ref 424), some (.ref 320), some (.int (iZ (π 0 0))), some (.int (iZ (π 0 1))), some (.int (iZ (π 0 3))), some (.int (iZ ((tm : Int)))), some (.int x), some (.int (iZ (σ 0 1))), some (.ref r), some (.ref (r + 1)), some (.ref (r + 2)), some (.int (iZ (sSum (σ 8) 0 (π 0 3).toNat))), some (.int (iZ (sSum (σ 5) 0 (π 0 3).toNat))), some (.int (iZ (sSum (σ 10) 0 i))), some (.int (iZ (sNum (fun w => decide (0 ≤ sFind (fun m => decide (σ 7 m = (w : Int))) 0 (π 0 3).toNat)) 0 i))), some (.int (iZ ((i : Int)))), some (.int (iZ ((u : Int)))), J1, J2, J3, J4, J5, J6, J7, J8, J9]) dL_law_529 (Nat.le_of_ble_eq_true rfl) rfl ?_
  refine gz_aload_n dL_law_531 rfl ?_
  refine gz_iload dL_law_532 rfl ?_
  refine zz_iconst dL_law_534 ?_
  refine gJ_pass (w := i) (v := π 5 i) dL_law_535 wm_HeliographsLaw_196 hJ h56 (by omega) (by omega) rfl (Nat.le_of_ble_eq_true rfl) (by omega) ?_
  rw [hv]
  refine gz_istore (L2 := [some (.ref 56), none, some (.ref 424), some (.ref 320), some (.int (iZ (π 0 0))), some (.int (iZ (π 0 1))), some (.int (iZ (π 0 3))), some (.int (iZ ((tm : Int)))), some (.int x), some (.int (iZ (σ 0 1))), some (.ref r), some (.ref (r + 1)), some (.ref (r + 2)), some (.int (iZ (sSum (σ 8) 0 (π 0 3).toNat))), some (.int (iZ (sSum (σ 5) 0 (π 0 3).toNat))), some (.int (iZ (sSum (σ 10) 0 i))), some (.int (iZ (sNum (fun w => decide (0 ≤ sFind (fun m => decide (σ 7 m = (w : Int))) 0 (π 0 3).toNat)) 0 i))), some (.int (iZ ((i : Int)))), some (.int (iZ ((u : Int)))), some (.int (iZ ((v : Int)))), J2, J3, J4, J5, J6, J7, J8, J9]) dL_law_538 (Nat.le_of_ble_eq_true rfl) rfl ?_
  refine gz_aload_n dL_law_540 rfl ?_
  refine gz_iload dL_law_541 rfl ?_
  refine gJ_opens (w := i) dL_law_543 wm_HeliographsLaw_203 hJ h56 (by omega) (Nat.le_of_ble_eq_true rfl) (by omega) ?_
  rw [hoo]
  refine gz_istore (L2 := [some (.ref 56), none, some (.ref 424), some (.ref 320), some (.int (iZ (π 0 0))), some (.int (iZ (π 0 1))), some (.int (iZ (π 0 3))), some (.int (iZ ((tm : Int)))), some (.int x), some (.int (iZ (σ 0 1))), some (.ref r), some (.ref (r + 1)), some (.ref (r + 2)), some (.int (iZ (sSum (σ 8) 0 (π 0 3).toNat))), some (.int (iZ (sSum (σ 5) 0 (π 0 3).toNat))), some (.int (iZ (sSum (σ 10) 0 i))), some (.int (iZ (sNum (fun w => decide (0 ≤ sFind (fun m => decide (σ 7 m = (w : Int))) 0 (π 0 3).toNat)) 0 i))), some (.int (iZ ((i : Int)))), some (.int (iZ ((u : Int)))), some (.int (iZ ((v : Int)))), some (.int (iZ (oo))), J3, J4, J5, J6, J7, J8, J9]) dL_law_546 (Nat.le_of_ble_eq_true rfl) rfl ?_
  refine gz_iload dL_law_548 rfl ?_
  refine gz_aload_n dL_law_550 rfl ?_
  refine gz_iload dL_law_551 rfl ?_
  refine zz_iconst dL_law_553 ?_
  refine gJ_pass (w := i) (v := σ 10 i) dL_law_554 wm_HeliographsLaw_196 hJ h56 (by omega) (by omega) rfl (Nat.le_of_ble_eq_true rfl) (by omega) ?_
  refine zz_iadd dL_law_557 ?_
  refine gz_istore (L2 := [some (.ref 56), none, some (.ref 424), some (.ref 320), some (.int (iZ (π 0 0))), some (.int (iZ (π 0 1))), some (.int (iZ (π 0 3))), some (.int (iZ ((tm : Int)))), some (.int x), some (.int (iZ (σ 0 1))), some (.ref r), some (.ref (r + 1)), some (.ref (r + 2)), some (.int (iZ (sSum (σ 8) 0 (π 0 3).toNat))), some (.int (iZ (sSum (σ 5) 0 (π 0 3).toNat))), some (.int (iZ ((sSum (σ 10) 0 i) + (σ 10 i)))), some (.int (iZ (sNum (fun w => decide (0 ≤ sFind (fun m => decide (σ 7 m = (w : Int))) 0 (π 0 3).toNat)) 0 i))), some (.int (iZ ((i : Int)))), some (.int (iZ ((u : Int)))), some (.int (iZ ((v : Int)))), some (.int (iZ (oo))), J3, J4, J5, J6, J7, J8, J9]) dL_law_558 (Nat.le_of_ble_eq_true rfl) rfl ?_
  refine gz_iload dL_law_560 rfl ?_
  refine gz_aload_n dL_law_562 rfl ?_
  refine gz_iload dL_law_563 rfl ?_
  refine zz_iconst dL_law_565 ?_
  refine gJ_pass (w := i) (v := sFind (fun q => decide (σ 7 q = (i : Int))) 0 (π 0 3).toNat) dL_law_566 wm_HeliographsLaw_196 hJ h56 (by omega) (by omega) rfl (Nat.le_of_ble_eq_true rfl) (by omega) ?_
  refine zz_if_lt (tgt := 576) dL_law_569 rfl (by omega) (fun b569 => ?_) (fun b569 => ?_)
  ·
    refine zz_iconst dL_law_576 ?_
    (first | (rw [show bI (decide (0 ≤ sFind (fun m => decide (σ 7 m = (i : Int))) 0 (π 0 3).toNat)) = 1 from bI_t (decide_eq_true (by omega))] at fin; exact fin) | (rw [show bI (decide (0 ≤ sFind (fun m => decide (σ 7 m = (i : Int))) 0 (π 0 3).toNat)) = 0 from bI_f (by rw [decide_eq_true_eq]; omega)] at fin; exact fin))
  ·
    refine zz_iconst dL_law_572 ?_
    refine gz_goto (tgt := 577) dL_law_573 rfl ?_
    (first | (rw [show bI (decide (0 ≤ sFind (fun m => decide (σ 7 m = (i : Int))) 0 (π 0 3).toNat)) = 1 from bI_t (decide_eq_true (by omega))] at fin; exact fin) | (rw [show bI (decide (0 ≤ sFind (fun m => decide (σ 7 m = (i : Int))) 0 (π 0 3).toNat)) = 0 from bI_f (by rw [decide_eq_true_eq]; omega)] at fin; exact fin))
theorem zl_passes {E : Nat → Nat × Nat} {e : Nat} {c : Nat → Nat} {π σ : zV} {p : Nat} {H : zV → Nat → Bool} {t o N : Int} {kc ks : Nat} {Q : Option Value → zk_M → (Heap → Prop) → Prop} {tm r : Nat} {x : Int32} {W : zV} {nw : Nat} (hJ : lJ E e c W p H π σ t o N) (h56 : Γ.2.2.2.1 56 < Γ.2.1.size) (hnw : (nw : Int) = π 0 1) (hN : N ≤ 80000) (hmin : σ 0 1 ≤ 9000) (hsh : σ 0 2 = -1) (hd : 20 ≤ d) (kk : ∀ (J0 J1 J2 J3 J4 J5 J6 J7 J8 J9 : Option Value), zk_Go l Γ mL_law d kc ks Q 736 [some (.ref 56), none, some (.ref 424), some (.ref 320), some (.int (iZ (π 0 0))), some (.int (iZ (π 0 1))), some (.int (iZ (π 0 3))), some (.int (iZ ((tm : Int)))), some (.int x), some (.int (iZ (σ 0 1))), some (.ref r), some (.ref (r + 1)), some (.ref (r + 2)), some (.int (iZ (sSum (σ 8) 0 (π 0 3).toNat))), some (.int (iZ (sSum (σ 5) 0 (π 0 3).toNat))), some (.int (iZ (sSum (σ 10) 0 nw))), some (.int (iZ (sNum (fun w => decide (0 ≤ sFind (fun m => decide (σ 7 m = (w : Int))) 0 (π 0 3).toNat)) 0 nw))), some (.int (iZ ((nw : Int)))), J0, J1, J2, J3, J4, J5, J6, J7, J8, J9] [] (zG E e W) F) : ∀ (n i : Nat) (J0 J1 J2 J3 J4 J5 J6 J7 J8 J9 : Option Value), i + n = nw → zk_Go l Γ mL_law d kc ks Q 515 [some (.ref 56), none, some (.ref 424), some (.ref 320), some (.int (iZ (π 0 0))), some (.int (iZ (π 0 1))), some (.int (iZ (π 0 3))), some (.int (iZ ((tm : Int)))), some (.int x), some (.int (iZ (σ 0 1))), some (.ref r), some (.ref (r + 1)), some (.ref (r + 2)), some (.int (iZ (sSum (σ 8) 0 (π 0 3).toNat))), some (.int (iZ (sSum (σ 5) 0 (π 0 3).toNat))), some (.int (iZ (sSum (σ 10) 0 i))), some (.int (iZ (sNum (fun w => decide (0 ≤ sFind (fun m => decide (σ 7 m = (w : Int))) 0 (π 0 3).toNat)) 0 i))), some (.int (iZ ((i : Int)))), J0, J1, J2, J3, J4, J5, J6, J7, J8, J9] [] (zG E e W) F
  | 0, i, J0, J1, J2, J3, J4, J5, J6, J7, J8, J9, hi => by
    have e : i = nw := by omega
    subst e
    have n0 := wP_n hJ.2.2.2.1.2.2.2.2.1
    refine gz_iload dL_law_515 rfl ?_
    refine gz_iload dL_law_517 rfl ?_
    refine zz_icmp_ge (tgt := 736) dL_law_519 rfl (by omega) (fun b => ?_) (fun b => absurd b (by omega))
    exact kk J0 J1 J2 J3 J4 J5 J6 J7 J8 J9
  | n + 1, i, J0, J1, J2, J3, J4, J5, J6, J7, J8, J9, hi => zl_pass_1 hJ h56 (by omega) hN hmin hsh hd (fun J0 J1 J2 J3 J4 J5 J6 J7 J8 J9 => zl_passes hJ h56 hnw hN hmin hsh hd kk n (i + 1) J0 J1 J2 J3 J4 J5 J6 J7 J8 J9 (by omega))
end

/-! WHETHER THE TWO ARE ALIKE: passes, messages -/
section
variable {l : Launch} {Γ : zk_G} {d : Nat} {F : Heap → Prop}
theorem sLast_ok (f : Nat → Bool) : ∀ n i a, sLast f i n a = a ∨ ((i : Int) ≤ sLast f i n a ∧ sLast f i n a < i + n ∧ f (sLast f i n a).toNat = true)
  | 0, _, _ => Or.inl rfl
  | n + 1, i, a => by
    have e : sLast f i (n + 1) a = sLast f (i + 1) n (if f i = true then (i : Int) else a) := rfl
    rw [e]
    rcases sLast_ok f n (i + 1) (if f i = true then (i : Int) else a) with h | h
    · by_cases q : f i = true
      · rw [if_pos q] at h ⊢
        rw [h]
        exact Or.inr ⟨Int.le_refl _, by omega, by rw [Int.toNat_natCast]; exact q⟩
      · rw [if_neg q] at h ⊢
        exact Or.inl h
    · exact Or.inr ⟨by omega, by omega, h.2.2⟩
theorem sLast_one {f : Nat → Bool} {n : Nat} (hu : ∀ j k, j < n → k < n → f j = true → f k = true → j = k) : sLast f 0 n (-1) = sFind f 0 n := by
  have li := sLast_iff f n 0 (-1)
  have b := sFind_b2 f n 0
  rcases sLast_ok f n 0 (-1) with h | h
  · have : sFind f 0 n < 0 := (li.mp (by omega)).2
    omega
  · rcases b with b | b
    · have := li.mpr ⟨by decide, by omega⟩
      omega
    · have := hu _ _ (by omega) (by omega) h.2.2 b.2.2
      omega
theorem sPs_bd {π σ : zV} {N : Int} (hw : wP π) (hc : wC π σ N) (hN : N ≤ 80000) {k : Nat} (hk : (k : Int) < π 0 1) {y : Int} : -1 ≤ sPs π σ (k : Int) y ∧ sPs π σ (k : Int) y ≤ 80000 := by
  have n0 := wP_n hw
  have wv := wP_w hw hk
  have wc := wC_w hc hk
  have cb := sNum_bd (fun q => decide (π 11 q = (k : Int))) (π 0 2).toNat 0
  have fb := sFind_b2 (fun q => decide (σ 7 q = (k : Int))) (π 0 3).toNat 0
  unfold sPs
  rw [Int.toNat_natCast]
  (repeat' split) <;> omega
theorem sMs_bd {π σ : zV} {N : Int} (hw : wP π) (hc : wC π σ N) (hN : N ≤ 80000) {k : Nat} (hk : (k : Int) < π 0 3) {y : Int} : -1 ≤ sMs π σ (k : Int) y ∧ sMs π σ (k : Int) y ≤ 80000 := by
  have n0 := wP_n hw
  have m7 := wP_m hw hk
  have m1 := wC_m hc hk
  unfold wM at m1
  unfold sMs
  rw [Int.toNat_natCast]
  (repeat' split) <;> omega
theorem zi_passw {E : Nat → Nat × Nat} {e : Nat} {c : Nat → Nat} {W π σ : zV} {p : Nat} {H : zV → Nat → Bool} {t o N : Int} {kc ks : Nat} {Q : Option Value → zk_M → (Heap → Prop) → Prop} (hJ : lJ E e c W p H π σ t o N) (h56 : Γ.2.2.2.1 56 < Γ.2.1.size) (hN : N ≤ 80000) (hd : 20 ≤ d) {r s q : Nat} {k : Nat} {v5 : Int} {L8 L9 : Option Value} (hk : (k : Int) < π 0 1) (hs : 480 ≤ s) (ar : E s = (100, 6)) (hT : ∀ y : Nat, y < 6 → W s y = sPs π σ (k : Int) (y : Int)) (kk : zk_Go l Γ mX8_isSame d kc ks Q 496 [some (.ref 424), some (.ref 320), some (.ref (q)), some (.ref (r)), some (.int (iZ ((k : Int)))), some (.int (iZ (v5))), some (.ref (s)), some (.int (iZ (((6 : Nat) : Int)))), L8, L9] [] (zG E e W) F) : ∀ n i : Nat, i + n = 6 → zk_Go l Γ mX8_isSame d kc ks Q 465 [some (.ref 424), some (.ref 320), some (.ref (q)), some (.ref (r)), some (.int (iZ ((k : Int)))), some (.int (iZ (v5))), some (.ref (s)), some (.int (iZ ((i : Int)))), L8, L9] [] (zG E e W) F
  | 0, i, hi => by
    have e9 : i = 6 := by omega
    rw [e9]
    refine gz_iload dX8_isSame_465 rfl ?_
    refine zz_bipush (x := 6) dX8_isSame_467 rfl ?_
    refine zz_icmp_ge (tgt := 496) dX8_isSame_469 rfl (by omega) (fun b => ?_) (fun b => absurd b (by omega))
    exact kk
  | n + 1, i, hi => by
    have hJ2 := hJ
    obtain ⟨hE, hE0, hz, hSt, hS, hh, hH, hO⟩ := hJ2
    have n1 := hS.1
    have hw : wP π := hSt.2.2.2.2.1
    have hc : wC π σ N := hSt.2.2.2.2.2.1
    have n0 := wP_n hw
    have t0 := wC_n hc
    have hb := hE.2.2.2.2
    have h48 := hE.2.2.2.1
    have vb := sPs_bd (y := (i : Int)) hw hc hN hk
    refine gz_iload dX8_isSame_465 rfl ?_
    refine zz_bipush (x := 6) dX8_isSame_467 rfl ?_
    refine zz_icmp_ge (tgt := 496) dX8_isSame_469 rfl (by omega) (fun b => absurd b (by omega)) (fun b => ?_)
    refine gz_aload_n dX8_isSame_472 rfl ?_
    refine gz_iload dX8_isSame_473 rfl ?_
    refine gz_iload dX8_isSame_475 rfl ?_
    refine gJ_pass (w := k) (v := sPs π σ (k : Int) (i : Int)) dX8_isSame_477 wm_HeliographsLaw_Sim_114 hJ h56 (by omega) (by omega) rfl (Nat.le_of_ble_eq_true rfl) (by omega) ?_
    refine gz_aload dX8_isSame_480 rfl ?_
    refine gz_iload dX8_isSame_482 rfl ?_
    refine gw_iald (a := s) (q := i) (len := 6) (v := sPs π σ (k : Int) (i : Int)) dX8_isSame_484 ar hs rfl (by omega) (hT i (by omega)) ?_
    refine zz_icmp_eq (tgt := 490) dX8_isSame_485 rfl (by omega) (fun b => ?_) (fun b => absurd rfl b)
    refine zz_iinc (L2 := [some (.ref 424), some (.ref 320), some (.ref (q)), some (.ref (r)), some (.int (iZ ((k : Int)))), some (.int (iZ (v5))), some (.ref (s)), some (.int (iZ (((i + 1 : Nat) : Int)))), L8, L9]) dX8_isSame_490 rfl (by rw [show ((i + 1 : Nat) : Int) = (i : Int) + 1 by omega]; rfl) ?_
    refine gz_goto (tgt := 465) dX8_isSame_493 rfl ?_
    exact zi_passw hJ h56 hN hd hk hs ar hT kk n (i + 1) (by omega)
theorem zi_msgw {E : Nat → Nat × Nat} {e : Nat} {c : Nat → Nat} {W π σ : zV} {p : Nat} {H : zV → Nat → Bool} {t o N : Int} {kc ks : Nat} {Q : Option Value → zk_M → (Heap → Prop) → Prop} (hJ : lJ E e c W p H π σ t o N) (h56 : Γ.2.2.2.1 56 < Γ.2.1.size) (hN : N ≤ 80000) (hd : 20 ≤ d) {r s q : Nat} {k : Nat} {v4 : Int} {L9 : Option Value} (hk : (k : Int) < π 0 3) (hs : 480 ≤ s) (ar : E s = (100, 9)) (hT : ∀ y : Nat, y < 9 → W s y = sMs π σ (k : Int) (y : Int)) (kk : zk_Go l Γ mX8_isSame d kc ks Q 670 [some (.ref 424), some (.ref 320), some (.ref (q)), some (.ref (r)), some (.int (iZ (v4))), some (.int (iZ ((k : Int)))), some (.ref (460 + k)), some (.ref (s)), some (.int (iZ (((9 : Nat) : Int)))), L9] [] (zG E e W) F) : ∀ n i : Nat, i + n = 9 → zk_Go l Γ mX8_isSame d kc ks Q 639 [some (.ref 424), some (.ref 320), some (.ref (q)), some (.ref (r)), some (.int (iZ (v4))), some (.int (iZ ((k : Int)))), some (.ref (460 + k)), some (.ref (s)), some (.int (iZ ((i : Int)))), L9] [] (zG E e W) F
  | 0, i, hi => by
    have e9 : i = 9 := by omega
    rw [e9]
    refine gz_iload dX8_isSame_639 rfl ?_
    refine zz_bipush (x := 9) dX8_isSame_641 rfl ?_
    refine zz_icmp_ge (tgt := 670) dX8_isSame_643 rfl (by omega) (fun b => ?_) (fun b => absurd b (by omega))
    exact kk
  | n + 1, i, hi => by
    have hJ2 := hJ
    obtain ⟨hE, hE0, hz, hSt, hS, hh, hH, hO⟩ := hJ2
    have n1 := hS.1
    have hw : wP π := hSt.2.2.2.2.1
    have hc : wC π σ N := hSt.2.2.2.2.2.1
    have n0 := wP_n hw
    have t0 := wC_n hc
    have hb := hE.2.2.2.2
    have h48 := hE.2.2.2.1
    have vb := sMs_bd (y := (i : Int)) hw hc hN hk
    refine gz_iload dX8_isSame_639 rfl ?_
    refine zz_bipush (x := 9) dX8_isSame_641 rfl ?_
    refine zz_icmp_ge (tgt := 670) dX8_isSame_643 rfl (by omega) (fun b => absurd b (by omega)) (fun b => ?_)
    refine gz_aload_n dX8_isSame_646 rfl ?_
    refine gz_iload dX8_isSame_647 rfl ?_
    refine gz_iload dX8_isSame_649 rfl ?_
    refine gJ_msg (m := k) (v := sMs π σ (k : Int) (i : Int)) dX8_isSame_651 wm_HeliographsLaw_Sim_117 hJ h56 (by omega) (by omega) rfl (Nat.le_of_ble_eq_true rfl) (by omega) ?_
    refine gz_aload dX8_isSame_654 rfl ?_
    refine gz_iload dX8_isSame_656 rfl ?_
    refine gw_iald (a := s) (q := i) (len := 9) (v := sMs π σ (k : Int) (i : Int)) dX8_isSame_658 ar hs rfl (by omega) (hT i (by omega)) ?_
    refine zz_icmp_eq (tgt := 664) dX8_isSame_659 rfl (by omega) (fun b => ?_) (fun b => absurd rfl b)
    refine zz_iinc (L2 := [some (.ref 424), some (.ref 320), some (.ref (q)), some (.ref (r)), some (.int (iZ (v4))), some (.int (iZ ((k : Int)))), some (.ref (460 + k)), some (.ref (s)), some (.int (iZ (((i + 1 : Nat) : Int)))), L9]) dX8_isSame_664 rfl (by rw [show ((i + 1 : Nat) : Int) = (i : Int) + 1 by omega]; rfl) ?_
    refine gz_goto (tgt := 639) dX8_isSame_667 rfl ?_
    exact zi_msgw hJ h56 hN hd hk hs ar hT kk n (i + 1) (by omega)
theorem zi_clouds {E : Nat → Nat × Nat} {e : Nat} {c : Nat → Nat} {W π σ : zV} {p : Nat} {H : zV → Nat → Bool} {t o N : Int} {kc ks : Nat} {Q : Option Value → zk_M → (Heap → Prop) → Prop} (hJ : lJ E e c W p H π σ t o N) (h56 : Γ.2.2.2.1 56 < Γ.2.1.size) (hN : N ≤ 80000) (hd : 20 ≤ d) {q r k : Nat} (hk : (k : Int) < π 0 1) (kk : ∀ L9 : Option Value, zk_Go l Γ mX8_isSame d kc ks Q 394 [some (.ref 424), some (.ref 320), some (.ref (q)), some (.ref (r)), some (.int (iZ ((k : Int)))), some (.int (iZ (sNum (fun q => decide (π 11 q = (k : Int))) 0 (c 2)))), some (.ref 427), some (.int (iZ ((c 2 : Int)))), some (.int (iZ ((c 2 : Int)))), L9] [] (zG E e W) F) : ∀ (n i : Nat) (L9 : Option Value), i + n = c 2 → zk_Go l Γ mX8_isSame d kc ks Q 355 [some (.ref 424), some (.ref 320), some (.ref (q)), some (.ref (r)), some (.int (iZ ((k : Int)))), some (.int (iZ (sNum (fun q => decide (π 11 q = (k : Int))) 0 i))), some (.ref 427), some (.int (iZ ((c 2 : Int)))), some (.int (iZ ((i : Int)))), L9] [] (zG E e W) F
  | 0, i, L9, hi => by
    have e9 : i = c 2 := by omega
    rw [e9]
    have hb := hJ.1.2.2.2.2
    refine gz_iload dX8_isSame_355 rfl ?_
    refine gz_iload dX8_isSame_357 rfl ?_
    refine zz_icmp_ge (tgt := 394) dX8_isSame_359 rfl (by omega) (fun b => ?_) (fun b => absurd b (by omega))
    exact kk L9
  | n + 1, i, L9, hi => by
    have hJ2 := hJ
    obtain ⟨hE, hE0, hz, hSt, hS, hh, hH, hO⟩ := hJ2
    have n1 := hS.1
    have hw : wP π := hSt.2.2.2.2.1
    have hc : wC π σ N := hSt.2.2.2.2.2.1
    have n0 := wP_n hw
    have t0 := wC_n hc
    have hb := hE.2.2.2.2
    have h48 := hE.2.2.2.1
    have wc := wP_c hw (i := i) (by omega)
    have s5 := (hS.2.2.2.2.1 i (by omega)).1
    have ih := zi_clouds (q := q) (r := r) hJ h56 hN hd hk kk n (i + 1) (some (.ref (452 + i))) (by omega)
    rw [sNum_0s] at ih
    have fin : zk_Go l Γ mX8_isSame d kc ks Q 385 [some (.ref 424), some (.ref 320), some (.ref (q)), some (.ref (r)), some (.int (iZ ((k : Int)))), some (.int (iZ (sNum (fun q => decide (π 11 q = (k : Int))) 0 i))), some (.ref 427), some (.int (iZ ((c 2 : Int)))), some (.int (iZ ((i : Int)))), some (.ref (452 + i))] [.int (iZ (bI (decide (π 11 i = (k : Int))))), .int (iZ (sNum (fun q => decide (π 11 q = (k : Int))) 0 i))] (zG E e W) F := by
      refine zz_iadd dX8_isSame_385 ?_
      refine gz_istore (L2 := [some (.ref 424), some (.ref 320), some (.ref (q)), some (.ref (r)), some (.int (iZ ((k : Int)))), some (.int (iZ ((sNum (fun q => decide (π 11 q = (k : Int))) 0 i) + bI (decide (π 11 i = (k : Int)))))), some (.ref 427), some (.int (iZ ((c 2 : Int)))), some (.int (iZ ((i : Int)))), some (.ref (452 + i))]) dX8_isSame_386 (Nat.le_of_ble_eq_true rfl) rfl ?_
      refine zz_iinc (L2 := [some (.ref 424), some (.ref 320), some (.ref (q)), some (.ref (r)), some (.int (iZ ((k : Int)))), some (.int (iZ ((sNum (fun q => decide (π 11 q = (k : Int))) 0 i) + bI (decide (π 11 i = (k : Int)))))), some (.ref 427), some (.int (iZ ((c 2 : Int)))), some (.int (iZ (((i + 1 : Nat) : Int)))), some (.ref (452 + i))]) dX8_isSame_388 rfl (by rw [show ((i + 1 : Nat) : Int) = (i : Int) + 1 by omega]; rfl) ?_
      refine gz_goto (tgt := 355) dX8_isSame_391 rfl ?_
      exact ih
    refine gz_iload dX8_isSame_355 rfl ?_
    refine gz_iload dX8_isSame_357 rfl ?_
    refine zz_icmp_ge (tgt := 394) dX8_isSame_359 rfl (by omega) (fun b => absurd b (by omega)) (fun b => ?_)
    refine gz_aload dX8_isSame_362 rfl ?_
    refine gz_iload dX8_isSame_364 rfl ?_
    refine gg_aald hE 2 (j := i) dX8_isSame_366 (by decide) rfl rfl (by omega) ?_
    refine gz_astore (L2 := [some (.ref 424), some (.ref 320), some (.ref (q)), some (.ref (r)), some (.int (iZ ((k : Int)))), some (.int (iZ (sNum (fun q => decide (π 11 q = (k : Int))) 0 i))), some (.ref 427), some (.int (iZ ((c 2 : Int)))), some (.int (iZ ((i : Int)))), some (.ref (452 + i))]) dX8_isSame_367 (Nat.le_of_ble_eq_true rfl) rfl ?_
    refine gz_iload dX8_isSame_369 rfl ?_
    refine gz_aload dX8_isSame_371 rfl ?_
    refine zz_iconst dX8_isSame_373 ?_
    refine gg_iald hE 2 0 (j := i) (b := 452) (v := π 11 i) dX8_isSame_374 (by decide) rfl (by omega) rfl (by decide) s5 ?_
    refine gz_iload dX8_isSame_375 rfl ?_
    refine zz_icmp_ne (tgt := 384) dX8_isSame_377 rfl (by omega) (fun b => ?_) (fun b => ?_)
    · refine zz_iconst dX8_isSame_384 ?_
      rw [bI_f (by rw [decide_eq_true_eq]; exact b)] at fin
      exact fin
    · refine zz_iconst dX8_isSame_380 ?_
      refine gz_goto (tgt := 385) dX8_isSame_381 rfl ?_
      rw [bI_t (decide_eq_true (by omega))] at fin
      exact fin
theorem zi_passes {c : Nat → Nat} {π σ : zV} {p : Nat} {H : zV → Nat → Bool} {t o N : Int} {kc ks : Nat} {Q : Option Value → zk_M → (Heap → Prop) → Prop} (h56 : Γ.2.2.2.1 56 < Γ.2.1.size) (hN : N ≤ 80000) (hd : 20 ≤ d) (hsh : σ 0 2 = -1) {q r : Nat} (kk : ∀ (E : Nat → Nat × Nat) (e : Nat) (W : zV) (L5 L6 L7 L8 L9 : Option Value), lJ E e c W p H π σ t o N → zk_Go l Γ mX8_isSame d kc ks Q 535 [some (.ref 424), some (.ref 320), some (.ref (q)), some (.ref (r)), some (.int (iZ ((c 1 : Int)))), L5, L6, L7, L8, L9] [] (zG E e W) F) : ∀ (n k : Nat) (E : Nat → Nat × Nat) (e : Nat) (W : zV) (L5 L6 L7 L8 L9 : Option Value), k + n = c 1 → lJ E e c W p H π σ t o N → zk_Go l Γ mX8_isSame d (kc + n) (ks + 6 * n) Q 328 [some (.ref 424), some (.ref 320), some (.ref (q)), some (.ref (r)), some (.int (iZ ((k : Int)))), L5, L6, L7, L8, L9] [] (zG E e W) F
  | 0, k, E, e, W, L5, L6, L7, L8, L9, hi, hJ => by
    have e9 : k = c 1 := by omega
    rw [e9]
    have hE := hJ.1
    have hb := hE.2.2.2.2
    refine gz_iload dX8_isSame_328 rfl ?_
    refine gz_aload_n dX8_isSame_330 rfl ?_
    refine gz_getf (M := zG E e W) 4 dX8_isSame_331 hE.1 rfl wf_HeliographsLaw_Sim_19 (by decide) rfl ?_
    refine gg_alen hE 1 dX8_isSame_334 (by decide) ?_
    refine zz_icmp_ge (tgt := 535) dX8_isSame_335 rfl (by omega) (fun b => ?_) (fun b => absurd b (by omega))
    exact kk E e W L5 L6 L7 L8 L9 hJ
  | n + 1, k, E, e, W, L5, L6, L7, L8, L9, hi, hJ => by
    have hJ2 := hJ
    obtain ⟨hE, hE0, hz, hSt, hS, hh, hH, hO⟩ := hJ2
    have n1 := hS.1
    have hw : wP π := hSt.2.2.2.2.1
    have hc : wC π σ N := hSt.2.2.2.2.2.1
    have n0 := wP_n hw
    have t0 := wC_n hc
    have hb := hE.2.2.2.2
    have h48 := hE.2.2.2.1
    have hk : (k : Int) < π 0 1 := by omega
    have s9 := hS.2.2.2.1 k (by omega)
    have wv := wP_w hw hk
    have e2c : (π 0 2).toNat = c 2 := by omega
    have e3c : (π 0 3).toNat = c 3 := by omega
    refine gz_iload dX8_isSame_328 rfl ?_
    refine gz_aload_n dX8_isSame_330 rfl ?_
    refine gz_getf (M := zG E e W) 4 dX8_isSame_331 hE.1 rfl wf_HeliographsLaw_Sim_19 (by decide) rfl ?_
    refine gg_alen hE 1 dX8_isSame_334 (by decide) ?_
    refine zz_icmp_ge (tgt := 535) dX8_isSame_335 rfl (by omega) (fun b => absurd b (by omega)) (fun b => ?_)
    refine zz_iconst dX8_isSame_338 ?_
    refine gz_istore (L2 := [some (.ref 424), some (.ref 320), some (.ref (q)), some (.ref (r)), some (.int (iZ ((k : Int)))), some (.int (iZ (sNum (fun q => decide (π 11 q = (k : Int))) 0 0))), L6, L7, L8, L9]) dX8_isSame_339 (Nat.le_of_ble_eq_true rfl) rfl ?_
    refine gz_aload_n dX8_isSame_341 rfl ?_
    refine gz_getf (M := zG E e W) 5 dX8_isSame_342 hE.1 rfl wf_HeliographsLaw_Sim_22 (by decide) rfl ?_
    refine gz_astore (L2 := [some (.ref 424), some (.ref 320), some (.ref (q)), some (.ref (r)), some (.int (iZ ((k : Int)))), some (.int (iZ (sNum (fun q => decide (π 11 q = (k : Int))) 0 0))), some (.ref 427), L7, L8, L9]) dX8_isSame_345 (Nat.le_of_ble_eq_true rfl) rfl ?_
    refine gz_aload dX8_isSame_347 rfl ?_
    refine gg_alen hE 2 dX8_isSame_349 (by decide) ?_
    refine gz_istore (L2 := [some (.ref 424), some (.ref 320), some (.ref (q)), some (.ref (r)), some (.int (iZ ((k : Int)))), some (.int (iZ (sNum (fun q => decide (π 11 q = (k : Int))) 0 0))), some (.ref 427), some (.int (iZ ((c 2 : Int)))), L8, L9]) dX8_isSame_350 (Nat.le_of_ble_eq_true rfl) rfl ?_
    refine zz_iconst dX8_isSame_352 ?_
    refine gz_istore (L2 := [some (.ref 424), some (.ref 320), some (.ref (q)), some (.ref (r)), some (.int (iZ ((k : Int)))), some (.int (iZ (sNum (fun q => decide (π 11 q = (k : Int))) 0 0))), some (.ref 427), some (.int (iZ ((c 2 : Int)))), some (.int (iZ (((0 : Nat) : Int)))), L9]) dX8_isSame_353 (Nat.le_of_ble_eq_true rfl) rfl ?_
    refine zi_clouds hJ h56 hN hd hk (fun K9 => ?_) (c 2) 0 L9 (by omega)
    refine zz_bipush (x := 6) dX8_isSame_394 rfl ?_
    refine gg_newa h48 (len := 6) dX8_isSame_396 rfl (by omega) ⟨by omega, by omega⟩ ?_
    have hE1 : zE (zG_N E e 6) (e + 1) c := zE_N hE
    have ar : zG_N E e 6 e = (100, 6) := by unfold zG_N; rw [if_neg (by omega)]
    have oE : ∀ a, a < e → zG_N E e 6 a = E a := fun a h => if_pos h
    obtain ⟨E1, hE9⟩ : ∃ X, X = zG_N E e 6 := ⟨_, rfl⟩
    rw [← hE9] at hE1 ar oE
    rw [← hE9]
    have hSW : ∀ W1, (∀ a j, a < e → W1 a j = W a j) → sm c W1 π σ := fun W1 h => sm_kept hS ⟨by omega, by omega, by omega, by omega⟩ (fun a j q1 q2 => h a j (by omega))
    refine gz_dup dX8_isSame_398 rfl ?_
    refine zz_iconst dX8_isSame_399 ?_
    refine gz_aload_n dX8_isSame_400 rfl ?_
    refine gz_getf (M := zG E1 (e + 1) (zG_W e W)) 4 dX8_isSame_401 hE1.1 rfl wf_HeliographsLaw_Sim_19 (by decide) rfl ?_
    refine gz_iload dX8_isSame_404 rfl ?_
    refine gg_aald hE1 1 (j := k) dX8_isSame_406 (by decide) rfl rfl (by omega) ?_
    refine zz_iconst dX8_isSame_407 ?_
    refine gg_iald hE1 1 0 (j := k) (b := 440) (v := π 4 k) dX8_isSame_408 (by decide) rfl (by omega) rfl (by decide) (((show ∀ a j, a < e → (zG_W e W) a j = W a j from fun a j h => (if_pos h)) _ _ (by omega)).trans s9.1) ?_
    refine gw_iast (a := e) (q := 0) (len := 6) dX8_isSame_409 ar h48 rfl (by omega) ?_
    refine gz_dup dX8_isSame_410 rfl ?_
    refine zz_iconst dX8_isSame_411 ?_
    refine gz_aload_n dX8_isSame_412 rfl ?_
    refine gz_getf (M := zG E1 (e + 1) (zb_u (zG_W e W) e 0 (π 4 k))) 4 dX8_isSame_413 hE1.1 rfl wf_HeliographsLaw_Sim_19 (by decide) rfl ?_
    refine gz_iload dX8_isSame_416 rfl ?_
    refine gg_aald hE1 1 (j := k) dX8_isSame_418 (by decide) rfl rfl (by omega) ?_
    refine zz_iconst dX8_isSame_419 ?_
    refine gg_iald hE1 1 1 (j := k) (b := 440) (v := π 5 k) dX8_isSame_420 (by decide) rfl (by omega) rfl (by decide) (((show ∀ a j, a < e → (zb_u (zG_W e W) e 0 (π 4 k)) a j = W a j from fun a j h => ((zb_u_no _ _ (by omega)).trans (if_pos h))) _ _ (by omega)).trans s9.2.1) ?_
    refine gw_iast (a := e) (q := 1) (len := 6) dX8_isSame_421 ar h48 rfl (by omega) ?_
    refine gz_dup dX8_isSame_422 rfl ?_
    refine zz_iconst dX8_isSame_423 ?_
    refine gz_aload_n dX8_isSame_424 rfl ?_
    refine gz_getf (M := zG E1 (e + 1) (zb_u (zb_u (zG_W e W) e 0 (π 4 k)) e 1 (π 5 k))) 4 dX8_isSame_425 hE1.1 rfl wf_HeliographsLaw_Sim_19 (by decide) rfl ?_
    refine gz_iload dX8_isSame_428 rfl ?_
    refine gg_aald hE1 1 (j := k) dX8_isSame_430 (by decide) rfl rfl (by omega) ?_
    refine zz_iconst dX8_isSame_431 ?_
    refine gg_iald hE1 1 2 (j := k) (b := 440) (v := π 6 k) dX8_isSame_432 (by decide) rfl (by omega) rfl (by decide) (((show ∀ a j, a < e → (zb_u (zb_u (zG_W e W) e 0 (π 4 k)) e 1 (π 5 k)) a j = W a j from fun a j h => ((zb_u_no _ _ (by omega)).trans ((zb_u_no _ _ (by omega)).trans (if_pos h)))) _ _ (by omega)).trans s9.2.2.1) ?_
    refine gw_iast (a := e) (q := 2) (len := 6) dX8_isSame_433 ar h48 rfl (by omega) ?_
    refine gz_dup dX8_isSame_434 rfl ?_
    refine zz_iconst dX8_isSame_435 ?_
    refine gz_iload dX8_isSame_436 rfl ?_
    refine gw_iast (a := e) (q := 3) (len := 6) dX8_isSame_438 ar h48 rfl (by omega) ?_
    refine gz_dup dX8_isSame_439 rfl ?_
    refine zz_iconst dX8_isSame_440 ?_
    refine gz_aload_n dX8_isSame_441 rfl ?_
    refine gz_iload dX8_isSame_442 rfl ?_
    refine gb_v (J := mX8_over) (d1 := d - 1) (kc1 := 0) (ks1 := 0) [.int (iZ (k : Int))] _ dX8_isSame_444 rfl hE1.1 wm_HeliographsLaw_Sim_79 jzX8_over rfl (Nat.le_of_ble_eq_true rfl) (Nat.le_of_ble_eq_true rfl) (by omega) ⟨by omega, by omega⟩ (zDo_of (zS_over hE1 (hSW (zb_u (zb_u (zb_u (zb_u (zG_W e W) e 0 (π 4 k)) e 1 (π 5 k)) e 2 (π 6 k)) e 3 (sNum (fun q => decide (π 11 q = (k : Int))) 0 (c 2))) (show ∀ a j, a < e → (zb_u (zb_u (zb_u (zb_u (zG_W e W) e 0 (π 4 k)) e 1 (π 5 k)) e 2 (π 6 k)) e 3 (sNum (fun q => decide (π 11 q = (k : Int))) 0 (c 2))) a j = W a j from fun a j h => ((zb_u_no _ _ (by omega)).trans ((zb_u_no _ _ (by omega)).trans ((zb_u_no _ _ (by omega)).trans ((zb_u_no _ _ (by omega)).trans (if_pos h))))))) hw hc (by omega))) (fun v M9 hy => ?_)
    obtain ⟨e1, e2⟩ := hy
    rw [e1, e2]
    clear e1 e2
    rw [sLast_one (f := fun m => decide (σ 7 m = (k : Int))) (fun j j2 h1 h2 h3 h4 => hO.2.1 j j2 (by omega) (by omega) (by have := of_decide_eq_true h3; omega) (by rw [of_decide_eq_true h3, of_decide_eq_true h4]))]
    refine gw_iast (a := e) (q := 4) (len := 6) dX8_isSame_447 ar h48 rfl (by omega) ?_
    refine gz_dup dX8_isSame_448 rfl ?_
    refine zz_iconst dX8_isSame_449 ?_
    refine gz_aload_n dX8_isSame_450 rfl ?_
    refine gz_getf (M := zG E1 (e + 1) (zb_u (zb_u (zb_u (zb_u (zb_u (zG_W e W) e 0 (π 4 k)) e 1 (π 5 k)) e 2 (π 6 k)) e 3 (sNum (fun q => decide (π 11 q = (k : Int))) 0 (c 2))) e 4 (sFind (fun m => decide (σ 7 m = (k : Int))) 0 (c 3)))) 4 dX8_isSame_451 hE1.1 rfl wf_HeliographsLaw_Sim_19 (by decide) rfl ?_
    refine gz_iload dX8_isSame_454 rfl ?_
    refine gg_aald hE1 1 (j := k) dX8_isSame_456 (by decide) rfl rfl (by omega) ?_
    refine zz_iconst dX8_isSame_457 ?_
    refine gg_iald hE1 1 3 (j := k) (b := 440) (v := σ 10 k) dX8_isSame_458 (by decide) rfl (by omega) rfl (by decide) (((show ∀ a j, a < e → (zb_u (zb_u (zb_u (zb_u (zb_u (zG_W e W) e 0 (π 4 k)) e 1 (π 5 k)) e 2 (π 6 k)) e 3 (sNum (fun q => decide (π 11 q = (k : Int))) 0 (c 2))) e 4 (sFind (fun m => decide (σ 7 m = (k : Int))) 0 (c 3))) a j = W a j from fun a j h => ((zb_u_no _ _ (by omega)).trans ((zb_u_no _ _ (by omega)).trans ((zb_u_no _ _ (by omega)).trans ((zb_u_no _ _ (by omega)).trans ((zb_u_no _ _ (by omega)).trans (if_pos h))))))) _ _ (by omega)).trans s9.2.2.2) ?_
    refine gw_iast (a := e) (q := 5) (len := 6) dX8_isSame_459 ar h48 rfl (by omega) ?_
    refine gz_astore (L2 := [some (.ref 424), some (.ref 320), some (.ref (q)), some (.ref (r)), some (.int (iZ ((k : Int)))), some (.int (iZ (sNum (fun q => decide (π 11 q = (k : Int))) 0 (c 2)))), some (.ref (e)), some (.int (iZ ((c 2 : Int)))), some (.int (iZ ((c 2 : Int)))), K9]) dX8_isSame_460 (Nat.le_of_ble_eq_true rfl) rfl ?_
    have hF : ∀ a j, a < e → (zb_u (zb_u (zb_u (zb_u (zb_u (zb_u (zG_W e W) e 0 (π 4 k)) e 1 (π 5 k)) e 2 (π 6 k)) e 3 (sNum (fun q => decide (π 11 q = (k : Int))) 0 (c 2))) e 4 (sFind (fun m => decide (σ 7 m = (k : Int))) 0 (c 3))) e 5 (σ 10 k)) a j = W a j := (show ∀ a j, a < e → (zb_u (zb_u (zb_u (zb_u (zb_u (zb_u (zG_W e W) e 0 (π 4 k)) e 1 (π 5 k)) e 2 (π 6 k)) e 3 (sNum (fun q => decide (π 11 q = (k : Int))) 0 (c 2))) e 4 (sFind (fun m => decide (σ 7 m = (k : Int))) 0 (c 3))) e 5 (σ 10 k)) a j = W a j from fun a j h => ((zb_u_no _ _ (by omega)).trans ((zb_u_no _ _ (by omega)).trans ((zb_u_no _ _ (by omega)).trans ((zb_u_no _ _ (by omega)).trans ((zb_u_no _ _ (by omega)).trans ((zb_u_no _ _ (by omega)).trans (if_pos h))))))))
    have hT : ∀ y : Nat, y < 6 → (zb_u (zb_u (zb_u (zb_u (zb_u (zb_u (zG_W e W) e 0 (π 4 k)) e 1 (π 5 k)) e 2 (π 6 k)) e 3 (sNum (fun q => decide (π 11 q = (k : Int))) 0 (c 2))) e 4 (sFind (fun m => decide (σ 7 m = (k : Int))) 0 (c 3))) e 5 (σ 10 k)) e y = sPs π σ (k : Int) (y : Int) := fun y hy => by
      have f3 : sPs π σ (k : Int) ((3 : Nat) : Int) = sNum (fun q => decide (π 11 q = (k : Int))) 0 (π 0 2).toNat := rfl
      have f4 : sPs π σ (k : Int) ((4 : Nat) : Int) = sFind (fun m => decide (σ 7 m = (k : Int))) 0 (π 0 3).toNat := rfl
      rw [e2c] at f3
      rw [e3c] at f4
      rcases (show y = 0 ∨ y = 1 ∨ y = 2 ∨ y = 3 ∨ y = 4 ∨ y = 5 by omega) with rfl | rfl | rfl | rfl | rfl | rfl <;> simp (decide := true) only [zb_u, and_false, and_true, and_self, if_true, if_false, ↓reduceIte]
      · rfl
      · rfl
      · rfl
      · exact f3.symm
      · exact f4.symm
      · rfl
    obtain ⟨W1, hW1⟩ : ∃ X, X = (zb_u (zb_u (zb_u (zb_u (zb_u (zb_u (zG_W e W) e 0 (π 4 k)) e 1 (π 5 k)) e 2 (π 6 k)) e 3 (sNum (fun q => decide (π 11 q = (k : Int))) 0 (c 2))) e 4 (sFind (fun m => decide (σ 7 m = (k : Int))) 0 (c 3))) e 5 (σ 10 k)) := ⟨_, rfl⟩
    rw [← hW1] at hF hT
    rw [← hW1]
    have hJ1 : lJ E1 (e + 1) c W1 p H π σ t o N := lJ_grow hJ hE1 oE hF
    have hS1 := hSW W1 hF
    refine zk_Go.le (kc := kc + n) (ks := ks + 6 * n) ?_ (by omega) (by omega)
    refine zz_iconst dX8_isSame_462 ?_
    refine gz_istore (L2 := [some (.ref 424), some (.ref 320), some (.ref (q)), some (.ref (r)), some (.int (iZ ((k : Int)))), some (.int (iZ (sNum (fun q => decide (π 11 q = (k : Int))) 0 (c 2)))), some (.ref (e)), some (.int (iZ (((0 : Nat) : Int)))), some (.int (iZ ((c 2 : Int)))), K9]) dX8_isSame_463 (Nat.le_of_ble_eq_true rfl) rfl ?_
    refine zi_passw hJ1 h56 hN hd hk h48 ar hT ?_ 6 0 rfl
    have so : sPass π σ k (σ 0 1 % 9999) = sOpen π k (σ 0 1 % 9999) := by unfold sPass; rw [decide_eq_true (by omega : (k : Int) ≠ σ 0 2), Bool.true_and]
    refine gz_aload_n dX8_isSame_496 rfl ?_
    refine gz_iload dX8_isSame_497 rfl ?_
    refine gz_aload_n dX8_isSame_499 rfl ?_
    refine gz_getf (M := zG E1 (e + 1) W1) (v := .int (iZ (σ 0 1))) 0 dX8_isSame_500 hE1.1 rfl wf_HeliographsLaw_Sim_35 (by decide) (congrArg (fun z => Value.int (iZ z)) hS1.2.1.1) ?_
    refine zz_sipush (x := 9999) dX8_isSame_503 rfl ?_
    refine zz_irem dX8_isSame_506 (by omega) ?_
    refine gJ_open (w := k) (m := σ 0 1 % 9999) dX8_isSame_507 wm_HeliographsLaw_Sim_116 hJ1 h56 hk (by omega) (Nat.le_of_ble_eq_true rfl) (by omega) ?_
    refine gz_aload_n dX8_isSame_510 rfl ?_
    refine gz_iload dX8_isSame_511 rfl ?_
    refine gz_aload_n dX8_isSame_513 rfl ?_
    refine gz_getf (M := zG E1 (e + 1) W1) (v := .int (iZ (σ 0 1))) 0 dX8_isSame_514 hE1.1 rfl wf_HeliographsLaw_Sim_35 (by decide) (congrArg (fun z => Value.int (iZ z)) hS1.2.1.1) ?_
    refine zz_sipush (x := 9999) dX8_isSame_517 rfl ?_
    refine zz_irem dX8_isSame_520 (by omega) ?_
    refine gb_v (J := mX8_isOpen) (d1 := d - 1) (kc1 := 0) (ks1 := 0) [.int (iZ (k : Int)), .int (iZ (σ 0 1 % 9999))] _ dX8_isSame_521 rfl hE1.1 wm_HeliographsLaw_Sim_38 jzX8_isOpen rfl (Nat.le_of_ble_eq_true rfl) (Nat.le_of_ble_eq_true rfl) (by omega) ⟨by omega, by omega⟩ (zDo_of (zS_isOpen hE1 hS1 hw (by omega) (by omega) (by omega))) (fun v M9 hy => ?_)
    obtain ⟨e1, e2⟩ := hy
    rw [e1, e2, so]
    have bb : 0 ≤ bI (sOpen π k (σ 0 1 % 9999)) ∧ bI (sOpen π k (σ 0 1 % 9999)) ≤ 1 := by unfold bI; split <;> omega
    refine zz_icmp_eq (tgt := 529) dX8_isSame_524 rfl (by omega) (fun b => ?_) (fun b => absurd rfl b)
    refine zz_iinc (L2 := [some (.ref 424), some (.ref 320), some (.ref (q)), some (.ref (r)), some (.int (iZ (((k + 1 : Nat) : Int)))), some (.int (iZ (sNum (fun q => decide (π 11 q = (k : Int))) 0 (c 2)))), some (.ref (e)), some (.int (iZ (((6 : Nat) : Int)))), some (.int (iZ ((c 2 : Int)))), K9]) dX8_isSame_529 rfl (by rw [show ((k + 1 : Nat) : Int) = (k : Int) + 1 by omega]; rfl) ?_
    refine gz_goto (tgt := 328) dX8_isSame_532 rfl ?_
    exact zi_passes h56 hN hd hsh kk n (k + 1) E1 (e + 1) W1 _ _ _ _ _ (by omega) hJ1
theorem zi_msgs {c : Nat → Nat} {π σ : zV} {p : Nat} {H : zV → Nat → Bool} {t o N : Int} {kc ks : Nat} {Q : Option Value → zk_M → (Heap → Prop) → Prop} (h56 : Γ.2.2.2.1 56 < Γ.2.1.size) (hN : N ≤ 80000) (hd : 20 ≤ d) {q r : Nat} (kk : ∀ (E : Nat → Nat × Nat) (e : Nat) (W : zV) (L6 L7 L8 L9 : Option Value), lJ E e c W p H π σ t o N → zk_Go l Γ mX8_isSame d kc ks Q 686 [some (.ref 424), some (.ref 320), some (.ref (q)), some (.ref (r)), some (.int (iZ (sSum (σ 5) 0 (c 3)))), some (.int (iZ ((c 3 : Int)))), L6, L7, L8, L9] [] (zG E e W) F) : ∀ (n k : Nat) (E : Nat → Nat × Nat) (e : Nat) (W : zV) (L6 L7 L8 L9 : Option Value), k + n = c 3 → lJ E e c W p H π σ t o N → zk_Go l Γ mX8_isSame d (kc + n) (ks + 9 * n) Q 541 [some (.ref 424), some (.ref 320), some (.ref (q)), some (.ref (r)), some (.int (iZ (sSum (σ 5) 0 k))), some (.int (iZ ((k : Int)))), L6, L7, L8, L9] [] (zG E e W) F
  | 0, k, E, e, W, L6, L7, L8, L9, hi, hJ => by
    have e9 : k = c 3 := by omega
    rw [e9]
    have hE := hJ.1
    have hb := hE.2.2.2.2
    refine gz_iload dX8_isSame_541 rfl ?_
    refine gz_aload_n dX8_isSame_543 rfl ?_
    refine gz_getf (M := zG E e W) 6 dX8_isSame_544 hE.1 rfl wf_HeliographsLaw_Sim_25 (by decide) rfl ?_
    refine gg_alen hE 3 dX8_isSame_547 (by decide) ?_
    refine zz_icmp_ge (tgt := 686) dX8_isSame_548 rfl (by omega) (fun b => ?_) (fun b => absurd b (by omega))
    exact kk E e W L6 L7 L8 L9 hJ
  | n + 1, k, E, e, W, L6, L7, L8, L9, hi, hJ => by
    have hJ2 := hJ
    obtain ⟨hE, hE0, hz, hSt, hS, hh, hH, hO⟩ := hJ2
    have n1 := hS.1
    have hw : wP π := hSt.2.2.2.2.1
    have hc : wC π σ N := hSt.2.2.2.2.2.1
    have n0 := wP_n hw
    have t0 := wC_n hc
    have hb := hE.2.2.2.2
    have h48 := hE.2.2.2.1
    have hk : (k : Int) < π 0 3 := by omega
    have s9 := hS.2.2.2.2.2 k (by omega)
    refine gz_iload dX8_isSame_541 rfl ?_
    refine gz_aload_n dX8_isSame_543 rfl ?_
    refine gz_getf (M := zG E e W) 6 dX8_isSame_544 hE.1 rfl wf_HeliographsLaw_Sim_25 (by decide) rfl ?_
    refine gg_alen hE 3 dX8_isSame_547 (by decide) ?_
    refine zz_icmp_ge (tgt := 686) dX8_isSame_548 rfl (by omega) (fun b => absurd b (by omega)) (fun b => ?_)
    refine gz_aload_n dX8_isSame_551 rfl ?_
    refine gz_getf (M := zG E e W) 6 dX8_isSame_552 hE.1 rfl wf_HeliographsLaw_Sim_25 (by decide) rfl ?_
    refine gz_iload dX8_isSame_555 rfl ?_
    refine gg_aald hE 3 (j := k) dX8_isSame_557 (by decide) rfl rfl (by omega) ?_
    refine gz_astore (L2 := [some (.ref 424), some (.ref 320), some (.ref (q)), some (.ref (r)), some (.int (iZ (sSum (σ 5) 0 k))), some (.int (iZ ((k : Int)))), some (.ref (460 + k)), L7, L8, L9]) dX8_isSame_558 (Nat.le_of_ble_eq_true rfl) rfl ?_
    refine zz_bipush (x := 9) dX8_isSame_560 rfl ?_
    refine gg_newa h48 (len := 9) dX8_isSame_562 rfl (by omega) ⟨by omega, by omega⟩ ?_
    have hE1 : zE (zG_N E e 9) (e + 1) c := zE_N hE
    have ar : zG_N E e 9 e = (100, 9) := by unfold zG_N; rw [if_neg (by omega)]
    have oE : ∀ a, a < e → zG_N E e 9 a = E a := fun a h => if_pos h
    obtain ⟨E1, hE9⟩ : ∃ X, X = zG_N E e 9 := ⟨_, rfl⟩
    rw [← hE9] at hE1 ar oE
    rw [← hE9]
    refine gz_dup dX8_isSame_564 rfl ?_
    refine zz_iconst dX8_isSame_565 ?_
    refine gz_aload dX8_isSame_566 rfl ?_
    refine zz_iconst dX8_isSame_568 ?_
    refine gg_iald hE1 3 0 (j := k) (b := 460) (v := π 7 k) dX8_isSame_569 (by decide) rfl (by omega) rfl (by decide) (((show ∀ a j, a < e → (zG_W e W) a j = W a j from fun a j h => (if_pos h)) _ _ (by omega)).trans (s9.1)) ?_
    refine gw_iast (a := e) (q := 0) (len := 9) dX8_isSame_570 ar h48 rfl (by omega) ?_
    refine gz_dup dX8_isSame_571 rfl ?_
    refine zz_iconst dX8_isSame_572 ?_
    refine gz_aload dX8_isSame_573 rfl ?_
    refine zz_iconst dX8_isSame_575 ?_
    refine gg_iald hE1 3 1 (j := k) (b := 460) (v := σ 2 k) dX8_isSame_576 (by decide) rfl (by omega) rfl (by decide) (((show ∀ a j, a < e → (zb_u (zG_W e W) e 0 (π 7 k)) a j = W a j from fun a j h => ((zb_u_no _ _ (by omega)).trans (if_pos h))) _ _ (by omega)).trans (s9.2.1)) ?_
    refine gw_iast (a := e) (q := 1) (len := 9) dX8_isSame_577 ar h48 rfl (by omega) ?_
    refine gz_dup dX8_isSame_578 rfl ?_
    refine zz_iconst dX8_isSame_579 ?_
    refine gz_aload dX8_isSame_580 rfl ?_
    refine zz_iconst dX8_isSame_582 ?_
    refine gg_iald hE1 3 2 (j := k) (b := 460) (v := σ 3 k) dX8_isSame_583 (by decide) rfl (by omega) rfl (by decide) (((show ∀ a j, a < e → (zb_u (zb_u (zG_W e W) e 0 (π 7 k)) e 1 (σ 2 k)) a j = W a j from fun a j h => ((zb_u_no _ _ (by omega)).trans ((zb_u_no _ _ (by omega)).trans (if_pos h)))) _ _ (by omega)).trans (s9.2.2.1)) ?_
    refine gw_iast (a := e) (q := 2) (len := 9) dX8_isSame_584 ar h48 rfl (by omega) ?_
    refine gz_dup dX8_isSame_585 rfl ?_
    refine zz_iconst dX8_isSame_586 ?_
    refine gz_aload dX8_isSame_587 rfl ?_
    refine zz_iconst dX8_isSame_589 ?_
    refine gg_iald hE1 3 4 (j := k) (b := 460) (v := σ 4 k) dX8_isSame_590 (by decide) rfl (by omega) rfl (by decide) (((show ∀ a j, a < e → (zb_u (zb_u (zb_u (zG_W e W) e 0 (π 7 k)) e 1 (σ 2 k)) e 2 (σ 3 k)) a j = W a j from fun a j h => ((zb_u_no _ _ (by omega)).trans ((zb_u_no _ _ (by omega)).trans ((zb_u_no _ _ (by omega)).trans (if_pos h))))) _ _ (by omega)).trans (s9.2.2.2.2.1)) ?_
    refine gw_iast (a := e) (q := 3) (len := 9) dX8_isSame_591 ar h48 rfl (by omega) ?_
    refine gz_dup dX8_isSame_592 rfl ?_
    refine zz_iconst dX8_isSame_593 ?_
    refine gz_aload dX8_isSame_594 rfl ?_
    refine zz_iconst dX8_isSame_596 ?_
    refine gg_iald hE1 3 5 (j := k) (b := 460) (v := σ 7 k) dX8_isSame_597 (by decide) rfl (by omega) rfl (by decide) (((show ∀ a j, a < e → (zb_u (zb_u (zb_u (zb_u (zG_W e W) e 0 (π 7 k)) e 1 (σ 2 k)) e 2 (σ 3 k)) e 3 (σ 4 k)) a j = W a j from fun a j h => ((zb_u_no _ _ (by omega)).trans ((zb_u_no _ _ (by omega)).trans ((zb_u_no _ _ (by omega)).trans ((zb_u_no _ _ (by omega)).trans (if_pos h)))))) _ _ (by omega)).trans (s9.2.2.2.2.2.1)) ?_
    refine gw_iast (a := e) (q := 4) (len := 9) dX8_isSame_598 ar h48 rfl (by omega) ?_
    refine gz_dup dX8_isSame_599 rfl ?_
    refine zz_iconst dX8_isSame_600 ?_
    refine gz_aload dX8_isSame_601 rfl ?_
    refine zz_bipush (x := 6) dX8_isSame_603 rfl ?_
    refine gg_iald hE1 3 6 (j := k) (b := 460) (v := σ 5 k) dX8_isSame_605 (by decide) rfl (by omega) rfl (by decide) (((show ∀ a j, a < e → (zb_u (zb_u (zb_u (zb_u (zb_u (zG_W e W) e 0 (π 7 k)) e 1 (σ 2 k)) e 2 (σ 3 k)) e 3 (σ 4 k)) e 4 (σ 7 k)) a j = W a j from fun a j h => ((zb_u_no _ _ (by omega)).trans ((zb_u_no _ _ (by omega)).trans ((zb_u_no _ _ (by omega)).trans ((zb_u_no _ _ (by omega)).trans ((zb_u_no _ _ (by omega)).trans (if_pos h))))))) _ _ (by omega)).trans (s9.2.2.2.2.2.2.1)) ?_
    refine gw_iast (a := e) (q := 5) (len := 9) dX8_isSame_606 ar h48 rfl (by omega) ?_
    refine gz_dup dX8_isSame_607 rfl ?_
    refine zz_bipush (x := 6) dX8_isSame_608 rfl ?_
    refine gz_aload dX8_isSame_610 rfl ?_
    refine zz_bipush (x := 7) dX8_isSame_612 rfl ?_
    refine gg_iald hE1 3 7 (j := k) (b := 460) (v := σ 8 k) dX8_isSame_614 (by decide) rfl (by omega) rfl (by decide) (((show ∀ a j, a < e → (zb_u (zb_u (zb_u (zb_u (zb_u (zb_u (zG_W e W) e 0 (π 7 k)) e 1 (σ 2 k)) e 2 (σ 3 k)) e 3 (σ 4 k)) e 4 (σ 7 k)) e 5 (σ 5 k)) a j = W a j from fun a j h => ((zb_u_no _ _ (by omega)).trans ((zb_u_no _ _ (by omega)).trans ((zb_u_no _ _ (by omega)).trans ((zb_u_no _ _ (by omega)).trans ((zb_u_no _ _ (by omega)).trans ((zb_u_no _ _ (by omega)).trans (if_pos h)))))))) _ _ (by omega)).trans (s9.2.2.2.2.2.2.2.1)) ?_
    refine gw_iast (a := e) (q := 6) (len := 9) dX8_isSame_615 ar h48 rfl (by omega) ?_
    refine gz_dup dX8_isSame_616 rfl ?_
    refine zz_bipush (x := 7) dX8_isSame_617 rfl ?_
    refine gz_aload dX8_isSame_619 rfl ?_
    refine zz_bipush (x := 8) dX8_isSame_621 rfl ?_
    refine gg_iald hE1 3 8 (j := k) (b := 460) (v := σ 6 k) dX8_isSame_623 (by decide) rfl (by omega) rfl (by decide) (((show ∀ a j, a < e → (zb_u (zb_u (zb_u (zb_u (zb_u (zb_u (zb_u (zG_W e W) e 0 (π 7 k)) e 1 (σ 2 k)) e 2 (σ 3 k)) e 3 (σ 4 k)) e 4 (σ 7 k)) e 5 (σ 5 k)) e 6 (σ 8 k)) a j = W a j from fun a j h => ((zb_u_no _ _ (by omega)).trans ((zb_u_no _ _ (by omega)).trans ((zb_u_no _ _ (by omega)).trans ((zb_u_no _ _ (by omega)).trans ((zb_u_no _ _ (by omega)).trans ((zb_u_no _ _ (by omega)).trans ((zb_u_no _ _ (by omega)).trans (if_pos h))))))))) _ _ (by omega)).trans (s9.2.2.2.2.2.2.2.2.1)) ?_
    refine gw_iast (a := e) (q := 7) (len := 9) dX8_isSame_624 ar h48 rfl (by omega) ?_
    refine gz_dup dX8_isSame_625 rfl ?_
    refine zz_bipush (x := 8) dX8_isSame_626 rfl ?_
    refine gz_aload dX8_isSame_628 rfl ?_
    refine zz_bipush (x := 9) dX8_isSame_630 rfl ?_
    refine gg_iald hE1 3 9 (j := k) (b := 460) (v := σ 9 k) dX8_isSame_632 (by decide) rfl (by omega) rfl (by decide) (((show ∀ a j, a < e → (zb_u (zb_u (zb_u (zb_u (zb_u (zb_u (zb_u (zb_u (zG_W e W) e 0 (π 7 k)) e 1 (σ 2 k)) e 2 (σ 3 k)) e 3 (σ 4 k)) e 4 (σ 7 k)) e 5 (σ 5 k)) e 6 (σ 8 k)) e 7 (σ 6 k)) a j = W a j from fun a j h => ((zb_u_no _ _ (by omega)).trans ((zb_u_no _ _ (by omega)).trans ((zb_u_no _ _ (by omega)).trans ((zb_u_no _ _ (by omega)).trans ((zb_u_no _ _ (by omega)).trans ((zb_u_no _ _ (by omega)).trans ((zb_u_no _ _ (by omega)).trans ((zb_u_no _ _ (by omega)).trans (if_pos h)))))))))) _ _ (by omega)).trans (s9.2.2.2.2.2.2.2.2.2)) ?_
    refine gw_iast (a := e) (q := 8) (len := 9) dX8_isSame_633 ar h48 rfl (by omega) ?_
    refine gz_astore (L2 := [some (.ref 424), some (.ref 320), some (.ref (q)), some (.ref (r)), some (.int (iZ (sSum (σ 5) 0 k))), some (.int (iZ ((k : Int)))), some (.ref (460 + k)), some (.ref (e)), L8, L9]) dX8_isSame_634 (Nat.le_of_ble_eq_true rfl) rfl ?_
    have hF : ∀ a j, a < e → (zb_u (zb_u (zb_u (zb_u (zb_u (zb_u (zb_u (zb_u (zb_u (zG_W e W) e 0 (π 7 k)) e 1 (σ 2 k)) e 2 (σ 3 k)) e 3 (σ 4 k)) e 4 (σ 7 k)) e 5 (σ 5 k)) e 6 (σ 8 k)) e 7 (σ 6 k)) e 8 (σ 9 k)) a j = W a j := (show ∀ a j, a < e → (zb_u (zb_u (zb_u (zb_u (zb_u (zb_u (zb_u (zb_u (zb_u (zG_W e W) e 0 (π 7 k)) e 1 (σ 2 k)) e 2 (σ 3 k)) e 3 (σ 4 k)) e 4 (σ 7 k)) e 5 (σ 5 k)) e 6 (σ 8 k)) e 7 (σ 6 k)) e 8 (σ 9 k)) a j = W a j from fun a j h => ((zb_u_no _ _ (by omega)).trans ((zb_u_no _ _ (by omega)).trans ((zb_u_no _ _ (by omega)).trans ((zb_u_no _ _ (by omega)).trans ((zb_u_no _ _ (by omega)).trans ((zb_u_no _ _ (by omega)).trans ((zb_u_no _ _ (by omega)).trans ((zb_u_no _ _ (by omega)).trans ((zb_u_no _ _ (by omega)).trans (if_pos h)))))))))))
    have hT : ∀ y : Nat, y < 9 → (zb_u (zb_u (zb_u (zb_u (zb_u (zb_u (zb_u (zb_u (zb_u (zG_W e W) e 0 (π 7 k)) e 1 (σ 2 k)) e 2 (σ 3 k)) e 3 (σ 4 k)) e 4 (σ 7 k)) e 5 (σ 5 k)) e 6 (σ 8 k)) e 7 (σ 6 k)) e 8 (σ 9 k)) e y = sMs π σ (k : Int) (y : Int) := fun y hy => by
      rcases (show y = 0 ∨ y = 1 ∨ y = 2 ∨ y = 3 ∨ y = 4 ∨ y = 5 ∨ y = 6 ∨ y = 7 ∨ y = 8 by omega) with rfl | rfl | rfl | rfl | rfl | rfl | rfl | rfl | rfl <;> (simp (decide := true) only [zb_u, and_false, and_true, and_self, if_true, if_false, ↓reduceIte]; rfl)
    obtain ⟨W1, hW1⟩ : ∃ X, X = (zb_u (zb_u (zb_u (zb_u (zb_u (zb_u (zb_u (zb_u (zb_u (zG_W e W) e 0 (π 7 k)) e 1 (σ 2 k)) e 2 (σ 3 k)) e 3 (σ 4 k)) e 4 (σ 7 k)) e 5 (σ 5 k)) e 6 (σ 8 k)) e 7 (σ 6 k)) e 8 (σ 9 k)) := ⟨_, rfl⟩
    rw [← hW1] at hF hT
    rw [← hW1]
    have hJ1 : lJ E1 (e + 1) c W1 p H π σ t o N := lJ_grow hJ hE1 oE hF
    have ih := zi_msgs (q := q) (r := r) h56 hN hd kk n (k + 1) E1 (e + 1) W1 (some (.ref (460 + k))) (some (.ref e)) (some (.int (iZ ((9 : Nat) : Int)))) L9 (by omega) hJ1
    rw [sSum_0s] at ih
    refine zk_Go.le (kc := kc + n) (ks := ks + 9 * n) ?_ (by omega) (by omega)
    refine zz_iconst dX8_isSame_636 ?_
    refine gz_istore (L2 := [some (.ref 424), some (.ref 320), some (.ref (q)), some (.ref (r)), some (.int (iZ (sSum (σ 5) 0 k))), some (.int (iZ ((k : Int)))), some (.ref (460 + k)), some (.ref (e)), some (.int (iZ (((0 : Nat) : Int)))), L9]) dX8_isSame_637 (Nat.le_of_ble_eq_true rfl) rfl ?_
    refine zi_msgw hJ1 h56 hN hd hk h48 ar hT ?_ 9 0 rfl
    refine gz_iload dX8_isSame_670 rfl ?_
    refine gz_aload dX8_isSame_672 rfl ?_
    refine zz_bipush (x := 6) dX8_isSame_674 rfl ?_
    refine gg_iald hE1 3 6 (j := k) (b := 460) (v := σ 5 k) dX8_isSame_676 (by decide) rfl (by omega) rfl (by decide) ((hF _ _ (by omega)).trans (s9.2.2.2.2.2.2.1)) ?_
    refine zz_iadd dX8_isSame_677 ?_
    refine gz_istore (L2 := [some (.ref 424), some (.ref 320), some (.ref (q)), some (.ref (r)), some (.int (iZ ((sSum (σ 5) 0 k) + (σ 5 k)))), some (.int (iZ ((k : Int)))), some (.ref (460 + k)), some (.ref (e)), some (.int (iZ (((9 : Nat) : Int)))), L9]) dX8_isSame_678 (Nat.le_of_ble_eq_true rfl) rfl ?_
    refine zz_iinc (L2 := [some (.ref 424), some (.ref 320), some (.ref (q)), some (.ref (r)), some (.int (iZ ((sSum (σ 5) 0 k) + (σ 5 k)))), some (.int (iZ (((k + 1 : Nat) : Int)))), some (.ref (460 + k)), some (.ref (e)), some (.int (iZ (((9 : Nat) : Int)))), L9]) dX8_isSame_680 rfl (by rw [show ((k + 1 : Nat) : Int) = (k : Int) + 1 by omega]; rfl) ?_
    refine gz_goto (tgt := 541) dX8_isSame_683 rfl ?_
    exact ih
end

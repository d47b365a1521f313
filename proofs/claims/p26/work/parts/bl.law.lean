/-! THE LAW -/
section
variable {l : Launch} {Γ : zk_G} {d : Nat} {F : Heap → Prop}
theorem zS_isSame {E : Nat → Nat × Nat} {e : Nat} {c : Nat → Nat} {W π σ : zV} {p : Nat} {H : zV → Nat → Bool} {t o N : Int} {Q : Option Value → zk_M → (Heap → Prop) → Prop} (hJ : lJ E e c W p H π σ t o N) (h56 : Γ.2.2.2.1 56 < Γ.2.1.size) (hN : N ≤ 80000) (hd : 20 ≤ d) (hsh : σ 0 2 = -1) (ho : o = (c 4 : Int)) (ht : t = 0) (h3 : 1 ≤ π 0 3) (hq : ∀ M', Q (some (.int (iZ 1))) M' F) : zk_Go l Γ mX8_isSame d 40 300 Q 0 (zk_ent 10 [.ref 424, .ref 320]) [] (zG E e W) F := by
  have hJ2 := hJ
  obtain ⟨hE, hE0, hz, hSt, hS, hh, hH, hO⟩ := hJ2
  have n1 := hS.1
  have hw : wP π := hSt.2.2.2.2.1
  have hc : wC π σ N := hSt.2.2.2.2.2.1
  have n0 := wP_n hw
  have t0 := wC_n hc
  have hb := hE.2.2.2.2
  have h48 := hE.2.2.2.1
  have e3c : (π 0 3).toNat = c 3 := by omega
  have cc : c 0 * c 0 ≤ 64 := Nat.mul_le_mul hb.1 hb.1
  refine gz_aload_n dX8_isSame_0 rfl ?_
  refine gb_v (J := mX8_counts) (d1 := d - 1) (kc1 := 1) (ks1 := 14) (R := fun v M' => ∃ W1, v = some (.ref e) ∧ M' = zG (zG_N E e 14) (e + 1) W1 ∧ (∀ a j, a < e → W1 a j = W a j) ∧ cT W1 e π σ c (c 0) (c 1) (c 3)) [] _ dX8_isSame_1 rfl hE.1 wm_HeliographsLaw_Sim_97 jzX8_counts rfl (Nat.le_of_ble_eq_true rfl) (Nat.le_of_ble_eq_true rfl) (by omega) ⟨by omega, by omega⟩ (fun Q1 hq1 => zS_counts hE hS hw hc hN (by omega) (fun W1 q1 q2 => hq1 _ _ ⟨W1, rfl, rfl, q1, q2⟩)) (fun v M1 hy => ?_)
  obtain ⟨W1, rfl, rfl, f1, t1⟩ := hy
  have hE1 : zE (zG_N E e 14) (e + 1) c := zE_N hE
  have hJ1 := lJ_grow hJ hE1 (fun a h => if_pos h) f1
  have a1 : zG_N E e 14 e = (100, 14) := by unfold zG_N; rw [if_neg (by omega)]
  obtain ⟨E1, hE9⟩ : ∃ X, X = zG_N E e 14 := ⟨_, rfl⟩
  rw [← hE9] at hE1 hJ1 a1
  rw [← hE9]
  refine gz_astore_n (L2 := [some (.ref 424), some (.ref 320), some (.ref (e)), none, none, none, none, none, none, none]) dX8_isSame_4 (Nat.le_of_ble_eq_true rfl) rfl ?_
  refine zz_iconst dX8_isSame_5 ?_
  refine gz_istore_n (L2 := [some (.ref 424), some (.ref 320), some (.ref (e)), some (.int (iZ (((0 : Nat) : Int)))), none, none, none, none, none, none]) dX8_isSame_6 (Nat.le_of_ble_eq_true rfl) rfl ?_
  refine zi_counts hJ1 h56 hN hd h48 a1 ho ht t1 ?_ 14 0 rfl
  refine gz_aload_n dX8_isSame_32 rfl ?_
  refine gb_v (J := mX8_ways) (d1 := d - 1) (kc1 := 1 + c 0) (ks1 := c 0 + c 0 * c 0) (R := fun v M' => ∃ W2 m, v = some (.ref (e + 1)) ∧ M' = zG (zG_E E1 (e + 1) (c 0) (c 0)) (e + 1 + 1 + c 0) W2 ∧ (∀ a j, a < e + 1 → W2 a j = W1 a j) ∧ mat (e + 1) (c 0) W2 m ∧ mWay π (cut (sLook π σ)) m) [] _ dX8_isSame_33 rfl hE1.1 wm_HeliographsLaw_Sim_65 jzX8_ways rfl (Nat.le_of_ble_eq_true rfl) (Nat.le_of_ble_eq_true rfl) (by omega) ⟨by omega, by omega⟩ (fun Q1 hq1 => zS_ways (τ := (cut (sLook π σ))) hE1 hJ1.2.2.2.2.1 hw (fun w hw1 => lit_iff hw (by omega)) (by omega) (by omega) (by omega) (fun W2 m q1 q2 q3 => hq1 _ _ ⟨W2, m, rfl, rfl, q1, q2, q3⟩)) (fun v M2 hy => ?_)
  obtain ⟨W2, m, rfl, rfl, f2, m1, m2⟩ := hy
  have hE2 : zE (zG_E E1 (e + 1) (c 0) (c 0)) (e + 1 + 1 + c 0) c := zE_E hE1
  have hJ2 := lJ_grow hJ1 hE2 (fun a h => if_pos h) f2
  have hR : WR (zG_E E1 (e + 1) (c 0) (c 0)) (e + 1 + 1 + c 0) W2 (e + 1) c m := ⟨by omega, by omega, by unfold zG_E; rw [if_neg (by omega), if_pos rfl], fun x hx => by unfold zG_E; rw [if_neg (by omega), if_neg (by omega)], m1⟩
  refine gz_astore_n (L2 := [some (.ref 424), some (.ref 320), some (.ref (e)), some (.ref (e + 1)), none, none, none, none, none, none]) dX8_isSame_36 (Nat.le_of_ble_eq_true rfl) rfl ?_
  refine zz_iconst dX8_isSame_37 ?_
  refine gz_istore (L2 := [some (.ref 424), some (.ref 320), some (.ref (e)), some (.ref (e + 1)), some (.int (iZ (((0 : Nat) : Int)))), none, none, none, none, none]) dX8_isSame_38 (Nat.le_of_ble_eq_true rfl) rfl ?_
  refine zk_Go.le (kc := (c 3 + c 1) + c 0) (ks := (9 * c 3 + 6 * c 1) + 7 * c 0) ?_ (by omega) (by omega)
  refine zi_peaks h56 hN hd m2 (fun E3 e3 W3 L5 L6 L7 L8 L9 hJ3 => ?_) (c 0) 0 _ _ W2 _ _ _ _ _ (by omega) hJ2 hR
  refine zz_iconst dX8_isSame_325 ?_
  refine gz_istore (L2 := [some (.ref 424), some (.ref 320), some (.ref (e)), some (.ref (e + 1)), some (.int (iZ (((0 : Nat) : Int)))), L5, L6, L7, L8, L9]) dX8_isSame_326 (Nat.le_of_ble_eq_true rfl) rfl ?_
  refine zi_passes h56 hN hd hsh (fun E4 e4 W4 L5 L6 L7 L8 L9 hJ4 => ?_) (c 1) 0 E3 e3 W3 _ _ _ _ _ (by omega) hJ3
  refine zz_iconst dX8_isSame_535 ?_
  refine gz_istore (L2 := [some (.ref 424), some (.ref 320), some (.ref (e)), some (.ref (e + 1)), some (.int (iZ (sSum (σ 5) 0 0))), L5, L6, L7, L8, L9]) dX8_isSame_536 (Nat.le_of_ble_eq_true rfl) rfl ?_
  refine zz_iconst dX8_isSame_538 ?_
  refine gz_istore (L2 := [some (.ref 424), some (.ref 320), some (.ref (e)), some (.ref (e + 1)), some (.int (iZ (sSum (σ 5) 0 0))), some (.int (iZ (((0 : Nat) : Int)))), L6, L7, L8, L9]) dX8_isSame_539 (Nat.le_of_ble_eq_true rfl) rfl ?_
  refine zk_Go.le (kc := 0 + c 3) (ks := 0 + 9 * c 3) ?_ (by omega) (by omega)
  refine zi_msgs h56 hN hd (fun E5 e5 W5 L6 L7 L8 L9 hJ5 => ?_) (c 3) 0 E4 e4 W4 _ _ _ _ (by omega) hJ4
  have sb := sSum_bd (f := σ 5) (M := 40) (c 3) 0 (fun j _ h2 => by have m := wC_m hc (k := j) (by omega); unfold wM at m; omega)
  have sb2 : 0 ≤ sSum (σ 5) 0 (c 3) ∧ sSum (σ 5) 0 (c 3) ≤ 320 := by omega
  refine gz_aload_n dX8_isSame_686 rfl ?_
  refine gJ_mean dX8_isSame_687 wm_HeliographsLaw_Sim_120 hJ5 h56 (Nat.le_of_ble_eq_true rfl) (by omega) ?_
  refine gz_aload_n dX8_isSame_690 rfl ?_
  refine gz_getf (M := zG E5 e5 W5) 6 dX8_isSame_691 hJ5.1.1 rfl wf_HeliographsLaw_Sim_25 (by decide) rfl ?_
  refine gg_alen hJ5.1 3 dX8_isSame_694 (by decide) ?_
  refine zz_if_ne (tgt := 702) dX8_isSame_695 rfl (by omega) (fun b => ?_) (fun b => absurd b (by omega))
  refine gz_iload dX8_isSame_702 rfl ?_
  refine zz_i2d dX8_isSame_704 ?_
  refine gz_aload_n dX8_isSame_705 rfl ?_
  refine gz_getf (M := zG E5 e5 W5) 6 dX8_isSame_706 hJ5.1.1 rfl wf_HeliographsLaw_Sim_25 (by decide) rfl ?_
  refine gg_alen hJ5.1 3 dX8_isSame_709 (by decide) ?_
  refine zz_i2d dX8_isSame_710 ?_
  refine gz_ddiv dX8_isSame_711 (mean_ok sb2 (by omega)) ?_
  have em : sMean π σ = FP.ddiv (FP.i2d (iZ (sSum (σ 5) 0 (c 3)))) (FP.i2d (iZ (c 3 : Int))) := by
    unfold sMean
    rw [if_neg (show ¬ π 0 3 = 0 by omega), e3c, ← n1.2.2.2]
  rw [em]
  refine gz_dcmp dX8_isSame_712 ?_
  rw [mean_eq sb2 (by omega)]
  refine zz_if_ne (tgt := 720) dX8_isSame_713 rfl (by omega) (fun b => absurd rfl b) (fun b => ?_)
  refine zz_iconst dX8_isSame_716 ?_
  refine gz_goto (tgt := 721) dX8_isSame_717 rfl ?_
  refine gz_ireturn dX8_isSame_721 rfl rfl ?_
  exact hq _
/-- the law comes to its end with true -/
theorem lw_law {len : Nat} {s : Nat → Int32} {M : zk_M} (hO : zOl0 len s M) (hlen : len < 2147483648) (hl : l.stackTraces = false) (hd : 60 ≤ d) (h56 : Γ.2.2.2.1 56 < Γ.2.1.size) : zk_Go l Γ mL_law d 23240 3280300 (fun v _ _ => v = some (.int (iZ 1))) 0 [some (.ref 56), none, none, none, none, none, none, none, none, none, none, none, none, none, none, none, none, none, none, none, none, none, none, none, none, none, none, none] [] M F := by
  refine lw_start (kc := 22440) (ks := 180300) hO hlen (by omega) h56 (fun v M' F' h => ⟨_, h⟩) (fun v M' F' M3 F3 h => h) (fun W π σ H hJ hm hsh hs => ?_)
  have hw : wP π := hJ.2.2.2.1.2.2.2.2.1
  have n0 := wP_n hw
  have n1 := hJ.2.2.2.2.1.1
  have qb := q_bd (lC s len)
  have k0 : (1 : Int) ≤ π 0 0 := by rw [← n1.1]; show (1 : Int) ≤ (qP (lC s len) : Int); omega
  have k1 : (1 : Int) ≤ π 0 1 := by rw [← n1.2.1]; show (1 : Int) ≤ (qW (lC s len) : Int); omega
  have k3 : (1 : Int) ≤ π 0 3 := by rw [← n1.2.2.2]; show (1 : Int) ≤ (qM (lC s len) : Int); omega
  have k4 : ((cnt (lC s len) 4 : Nat) : Int) ≤ 12 := by have := hJ.1.2.2.2.2; omega
  refine gz_aload_n dL_law_35 rfl ?_
  refine zz_iconst dL_law_36 ?_
  refine gJ_count (v := π 0 0) dL_law_37 wm_HeliographsLaw_187 hJ h56 (by omega) rfl (Nat.le_of_ble_eq_true rfl) (by omega) ?_
  refine gz_istore (L2 := [some (.ref 56), none, some (.ref 424), some (.ref 320), some (.int (iZ (π 0 0))), none, none, none, none, none, none, none, none, none, none, none, none, none, none, none, none, none, none, none, none, none, none, none]) dL_law_40 (Nat.le_of_ble_eq_true rfl) rfl ?_
  refine gz_aload_n dL_law_42 rfl ?_
  refine zz_iconst dL_law_43 ?_
  refine gJ_count (v := π 0 1) dL_law_44 wm_HeliographsLaw_187 hJ h56 (by omega) rfl (Nat.le_of_ble_eq_true rfl) (by omega) ?_
  refine gz_istore (L2 := [some (.ref 56), none, some (.ref 424), some (.ref 320), some (.int (iZ (π 0 0))), some (.int (iZ (π 0 1))), none, none, none, none, none, none, none, none, none, none, none, none, none, none, none, none, none, none, none, none, none, none]) dL_law_47 (Nat.le_of_ble_eq_true rfl) rfl ?_
  refine gz_aload_n dL_law_49 rfl ?_
  refine zz_iconst dL_law_50 ?_
  refine gJ_count (v := π 0 3) dL_law_51 wm_HeliographsLaw_187 hJ h56 (by omega) rfl (Nat.le_of_ble_eq_true rfl) (by omega) ?_
  refine gz_istore (L2 := [some (.ref 56), none, some (.ref 424), some (.ref 320), some (.int (iZ (π 0 0))), some (.int (iZ (π 0 1))), some (.int (iZ (π 0 3))), none, none, none, none, none, none, none, none, none, none, none, none, none, none, none, none, none, none, none, none, none]) dL_law_54 (Nat.le_of_ble_eq_true rfl) rfl ?_
  refine zz_iconst dL_law_56 ?_
  refine gz_istore (L2 := [some (.ref 56), none, some (.ref 424), some (.ref 320), some (.int (iZ (π 0 0))), some (.int (iZ (π 0 1))), some (.int (iZ (π 0 3))), some (.int (iZ ((0 : Nat) : Int))), none, none, none, none, none, none, none, none, none, none, none, none, none, none, none, none, none, none, none, none]) dL_law_57 (Nat.le_of_ble_eq_true rfl) rfl ?_
  refine zk_Go.le (kc := 40 + 560 * 40) (ks := 300 + 4500 * 40) ?_ (by omega) (by omega)
  refine zl_loop (s := s) (len := len) hlen hl h56 (by omega) (by omega) k0 k1 k3 (by omega) (fun E e W2 σ2 N L8 L9 L10 L11 L12 L13 L14 L15 L16 L17 L18 L19 L20 L21 L22 L23 L24 L25 L26 L27 hJ2 hN2 hm2 hsh2 => ?_) 40 0 _ _ W σ 0 _ _ _ _ _ _ _ _ _ _ _ _ _ _ _ _ _ _ _ _  rfl hJ (by omega) (by omega) hsh rfl hs
  refine gz_aload_n dL_law_1393 rfl ?_
  refine gz_aload_n dL_law_1394 rfl ?_
  refine gb_v (J := mX8_isSame) (d1 := d - 1) (kc1 := 40) (ks1 := 300) (R := fun v M' => v = some (.int (iZ 1))) [.ref 320] _ dL_law_1395 rfl hJ2.1.1 wm_HeliographsLaw_240 jzX8_isSame rfl (Nat.le_of_ble_eq_true rfl) (Nat.le_of_ble_eq_true rfl) (by omega) ⟨by omega, by omega⟩ (fun Q1 hq1 => zS_isSame hJ2 h56 (by omega) (by omega) hsh2 rfl rfl k3 (fun M' => hq1 _ M' rfl)) (fun v M' hy => ?_)
  rw [hy]
  refine gz_ireturn dL_law_1398 rfl rfl ?_
  rfl
end

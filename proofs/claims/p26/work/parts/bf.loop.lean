/-! THE LAW FORTY TIMES -/
section
variable {l : Launch} {Γ : zk_G} {d : Nat} {F : Heap → Prop}
theorem tal_keep {W W' σ : zV} {r np i : Nat} (h : tal W r np σ i) (e : ∀ a j, r ≤ a → a < r + 3 → W' a j = W a j) : tal W' r np σ i := ⟨fun y hy => (e _ _ (by omega) (by omega)).trans (h.1 y hy), fun a ha => (e _ _ (by omega) (by omega)).trans (h.2.1 a ha), fun a ha => (e _ _ (by omega) (by omega)).trans (h.2.2 a ha)⟩
theorem tal_0 {W σ : zV} {r np : Nat} (h : ∀ a j, r ≤ a → W a j = 0) : tal W r np σ 0 := ⟨fun y _ => h _ _ (by omega), fun a _ => h _ _ (by omega), fun a _ => h _ _ (by omega)⟩
theorem zl_once {E : Nat → Nat × Nat} {e : Nat} {c : Nat → Nat} {W π σ : zV} {p : Nat} {H : zV → Nat → Bool} {t o N : Int} {kc ks : Nat} {Q : Option Value → zk_M → (Heap → Prop) → Prop} {tm : Nat} {x : Int32} {L9 L10 L11 L12 L13 L14 L15 L16 L17 L18 L19 L20 L21 L22 L23 L24 L25 L26 L27 : Option Value} (hJ : lJ E e c W p H π σ t o N) (h56 : Γ.2.2.2.1 56 < Γ.2.1.size) (ht : 0 ≤ t ∧ t ≤ 2000) (ho : 0 ≤ o ∧ o ≤ 12) (h1 : 1 ≤ π 0 1) (h3 : 1 ≤ π 0 3) (hN : N ≤ 70000) (hmin : σ 0 1 ≤ 9000) (hsh : σ 0 2 = -1) (hd : 30 ≤ d)
    (kk : ∀ (E1 : Nat → Nat × Nat) (e1 : Nat) (W1 : zV) (L8 L9 L10 L11 L12 L13 L14 L15 L16 L17 L18 L19 L20 L21 L22 L23 L24 L25 L26 L27 : Option Value), lJ E1 e1 c W1 p H π (zap (sRun π H 1 σ)) t o (N + 9) → e ≤ e1 → (∀ a, a < e → E1 a = E a) → (∀ a j, (a = 56 ∨ 468 ≤ a) → a < e → W1 a j = W a j) → zk_Go l Γ mL_law d kc ks Q 59 [some (.ref 56), none, some (.ref 424), some (.ref 320), some (.int (iZ (π 0 0))), some (.int (iZ (π 0 1))), some (.int (iZ (π 0 3))), some (.int (iZ (((tm + 1 : Nat) : Int)))), L8, L9, L10, L11, L12, L13, L14, L15, L16, L17, L18, L19, L20, L21, L22, L23, L24, L25, L26, L27] [] (zG E1 e1 W1) F) : zk_Go l Γ mL_law d (kc + 13) (ks + 104) Q 104 [some (.ref 56), none, some (.ref 424), some (.ref 320), some (.int (iZ (π 0 0))), some (.int (iZ (π 0 1))), some (.int (iZ (π 0 3))), some (.int (iZ ((tm : Int)))), some (.int x), L9, L10, L11, L12, L13, L14, L15, L16, L17, L18, L19, L20, L21, L22, L23, L24, L25, L26, L27] [] (zG E e W) F := by
  have hJ2 := hJ
  obtain ⟨hE, hE0, hz, hSt, hS, hh, hH, hO⟩ := hJ2
  have n1 := hS.1
  have hw : wP π := hSt.2.2.2.2.1
  have hc : wC π σ N := hSt.2.2.2.2.2.1
  have n0 := wP_n hw
  have t0 := wC_n hc
  have hb5 := hE.2.2.2.2
  have h48 := hE.2.2.2.1
  obtain ⟨np, hnp⟩ : ∃ np : Nat, (np : Int) = π 0 0 := ⟨(π 0 0).toNat, by omega⟩
  refine gz_aload_n dL_law_104 rfl ?_
  refine zz_iconst dL_law_105 ?_
  refine gJ_count (v := σ 0 1) dL_law_106 wm_HeliographsLaw_187 hJ h56 (by omega) rfl (Nat.le_of_ble_eq_true rfl) (by omega) ?_
  refine gz_istore (L2 := [some (.ref 56), none, some (.ref 424), some (.ref 320), some (.int (iZ (π 0 0))), some (.int (iZ (π 0 1))), some (.int (iZ (π 0 3))), some (.int (iZ ((tm : Int)))), some (.int x), some (.int (iZ (σ 0 1))), L10, L11, L12, L13, L14, L15, L16, L17, L18, L19, L20, L21, L22, L23, L24, L25, L26, L27]) dL_law_109 (Nat.le_of_ble_eq_true rfl) rfl ?_
  refine zz_iconst dL_law_111 ?_
  refine gg_newa h48 (len := 3) dL_law_112 rfl (by omega) ⟨by omega, by omega⟩ ?_
  refine gz_astore (L2 := [some (.ref 56), none, some (.ref 424), some (.ref 320), some (.int (iZ (π 0 0))), some (.int (iZ (π 0 1))), some (.int (iZ (π 0 3))), some (.int (iZ ((tm : Int)))), some (.int x), some (.int (iZ (σ 0 1))), some (.ref e), L11, L12, L13, L14, L15, L16, L17, L18, L19, L20, L21, L22, L23, L24, L25, L26, L27]) dL_law_114 (Nat.le_of_ble_eq_true rfl) rfl ?_
  refine gz_iload dL_law_116 rfl ?_
  refine gg_newa (by omega) (len := np) dL_law_118 hnp.symm (by omega) ⟨by omega, by omega⟩ ?_
  refine gz_astore (L2 := [some (.ref 56), none, some (.ref 424), some (.ref 320), some (.int (iZ (π 0 0))), some (.int (iZ (π 0 1))), some (.int (iZ (π 0 3))), some (.int (iZ ((tm : Int)))), some (.int x), some (.int (iZ (σ 0 1))), some (.ref e), some (.ref (e + 1)), L12, L13, L14, L15, L16, L17, L18, L19, L20, L21, L22, L23, L24, L25, L26, L27]) dL_law_120 (Nat.le_of_ble_eq_true rfl) rfl ?_
  refine gz_iload dL_law_122 rfl ?_
  refine gg_newa (by omega) (len := np) dL_law_124 hnp.symm (by omega) ⟨by omega, by omega⟩ ?_
  refine gz_astore (L2 := [some (.ref 56), none, some (.ref 424), some (.ref 320), some (.int (iZ (π 0 0))), some (.int (iZ (π 0 1))), some (.int (iZ (π 0 3))), some (.int (iZ ((tm : Int)))), some (.int x), some (.int (iZ (σ 0 1))), some (.ref e), some (.ref (e + 1)), some (.ref (e + 2)), L13, L14, L15, L16, L17, L18, L19, L20, L21, L22, L23, L24, L25, L26, L27]) dL_law_126 (Nat.le_of_ble_eq_true rfl) rfl ?_
  have hJ3 := lJ_newa (lJ_newa (lJ_newa hJ 3) np) np
  obtain ⟨E3, hE3⟩ : ∃ X, X = zG_N (zG_N (zG_N E e 3) (e + 1) np) (e + 1 + 1) np := ⟨_, rfl⟩
  obtain ⟨W3, hW3⟩ : ∃ X, X = zG_W (e + 1 + 1) (zG_W (e + 1) (zG_W e W)) := ⟨_, rfl⟩
  obtain ⟨e3, he3⟩ : ∃ X, X = e + 1 + 1 + 1 := ⟨_, rfl⟩
  rw [← hE3, ← hW3, ← he3] at hJ3
  rw [← hE3, ← hW3, ← he3]
  have a0 : E3 e = (100, 3) := by rw [hE3]; unfold zG_N; rw [if_pos (by omega), if_pos (by omega), if_neg (by omega)]
  have a1 : E3 (e + 1) = (100, np) := by rw [hE3]; unfold zG_N; rw [if_pos (by omega), if_neg (by omega)]
  have a2 : E3 (e + 2) = (100, np) := by rw [hE3]; unfold zG_N; rw [if_neg (by omega)]
  have oE : ∀ a, a < e → E3 a = E a := fun a h => by rw [hE3]; unfold zG_N; rw [if_pos (by omega), if_pos (by omega), if_pos h]
  have oW : ∀ a j, a < e → W3 a j = W a j := fun a j h => by rw [hW3]; unfold zG_W; rw [if_pos (by omega), if_pos (by omega), if_pos h]
  have zW : ∀ a j, e ≤ a → W3 a j = 0 := fun a j h => by
    rw [hW3]
    unfold zG_W
    (repeat' split) <;> first | rfl | omega
  refine zz_iconst dL_law_128 ?_
  refine gz_istore (L2 := [some (.ref 56), none, some (.ref 424), some (.ref 320), some (.int (iZ (π 0 0))), some (.int (iZ (π 0 1))), some (.int (iZ (π 0 3))), some (.int (iZ ((tm : Int)))), some (.int x), some (.int (iZ (σ 0 1))), some (.ref e), some (.ref (e + 1)), some (.ref (e + 2)), some (.int (iZ (sSum (σ 8) 0 0))), L14, L15, L16, L17, L18, L19, L20, L21, L22, L23, L24, L25, L26, L27]) dL_law_129 (Nat.le_of_ble_eq_true rfl) rfl ?_
  refine zz_iconst dL_law_131 ?_
  refine gz_istore (L2 := [some (.ref 56), none, some (.ref 424), some (.ref 320), some (.int (iZ (π 0 0))), some (.int (iZ (π 0 1))), some (.int (iZ (π 0 3))), some (.int (iZ ((tm : Int)))), some (.int x), some (.int (iZ (σ 0 1))), some (.ref e), some (.ref (e + 1)), some (.ref (e + 2)), some (.int (iZ (sSum (σ 8) 0 0))), some (.int (iZ (sSum (σ 5) 0 0))), L15, L16, L17, L18, L19, L20, L21, L22, L23, L24, L25, L26, L27]) dL_law_132 (Nat.le_of_ble_eq_true rfl) rfl ?_
  refine zz_iconst dL_law_134 ?_
  refine gz_istore (L2 := [some (.ref 56), none, some (.ref 424), some (.ref 320), some (.int (iZ (π 0 0))), some (.int (iZ (π 0 1))), some (.int (iZ (π 0 3))), some (.int (iZ ((tm : Int)))), some (.int x), some (.int (iZ (σ 0 1))), some (.ref e), some (.ref (e + 1)), some (.ref (e + 2)), some (.int (iZ (sSum (σ 8) 0 0))), some (.int (iZ (sSum (σ 5) 0 0))), some (.int (iZ (((0 : Nat) : Int)))), L16, L17, L18, L19, L20, L21, L22, L23, L24, L25, L26, L27]) dL_law_135 (Nat.le_of_ble_eq_true rfl) rfl ?_
  refine zk_Go.le (kc := kc + 9 + 1) (ks := ks + 72 + 13) ?_ (by omega) (by omega)
  refine zl_msgs (r := e) (np := np) (nm := (π 0 3).toNat) h48 a0 a1 a2 h56 hnp (by omega) (by omega) (by omega) (π 0 3).toNat 0 W3 _ _ _ _ _ _ _ _ _ _ _ _  (by omega) hJ3 (tal_0 zW) (fun W4 J0 J1 J2 J3 J4 J5 J6 J7 J8 J9 J10 J11 hJ4 hT4 hk4 => ?_)
  refine zl_sums h48 a0 a1 a2 hJ4 h56 hnp hT4 (by omega) h3 (by omega) ?_
  refine zz_iconst dL_law_506 ?_
  refine gz_istore (L2 := [some (.ref 56), none, some (.ref 424), some (.ref 320), some (.int (iZ (π 0 0))), some (.int (iZ (π 0 1))), some (.int (iZ (π 0 3))), some (.int (iZ ((tm : Int)))), some (.int x), some (.int (iZ (σ 0 1))), some (.ref e), some (.ref (e + 1)), some (.ref (e + 2)), some (.int (iZ (sSum (σ 8) 0 (π 0 3).toNat))), some (.int (iZ (sSum (σ 5) 0 (π 0 3).toNat))), some (.int (iZ (sSum (σ 10) 0 0))), J0, J1, J2, J3, J4, J5, J6, J7, J8, J9, J10, J11]) dL_law_507 (Nat.le_of_ble_eq_true rfl) rfl ?_
  refine zz_iconst dL_law_509 ?_
  refine gz_istore (L2 := [some (.ref 56), none, some (.ref 424), some (.ref 320), some (.int (iZ (π 0 0))), some (.int (iZ (π 0 1))), some (.int (iZ (π 0 3))), some (.int (iZ ((tm : Int)))), some (.int x), some (.int (iZ (σ 0 1))), some (.ref e), some (.ref (e + 1)), some (.ref (e + 2)), some (.int (iZ (sSum (σ 8) 0 (π 0 3).toNat))), some (.int (iZ (sSum (σ 5) 0 (π 0 3).toNat))), some (.int (iZ (sSum (σ 10) 0 0))), some (.int (iZ (sNum (fun w => decide (0 ≤ sFind (fun m => decide (σ 7 m = (w : Int))) 0 (π 0 3).toNat)) 0 0))), J1, J2, J3, J4, J5, J6, J7, J8, J9, J10, J11]) dL_law_510 (Nat.le_of_ble_eq_true rfl) rfl ?_
  refine zz_iconst dL_law_512 ?_
  refine gz_istore (L2 := [some (.ref 56), none, some (.ref 424), some (.ref 320), some (.int (iZ (π 0 0))), some (.int (iZ (π 0 1))), some (.int (iZ (π 0 3))), some (.int (iZ ((tm : Int)))), some (.int x), some (.int (iZ (σ 0 1))), some (.ref e), some (.ref (e + 1)), some (.ref (e + 2)), some (.int (iZ (sSum (σ 8) 0 (π 0 3).toNat))), some (.int (iZ (sSum (σ 5) 0 (π 0 3).toNat))), some (.int (iZ (sSum (σ 10) 0 0))), some (.int (iZ (sNum (fun w => decide (0 ≤ sFind (fun m => decide (σ 7 m = (w : Int))) 0 (π 0 3).toNat)) 0 0))), some (.int (iZ (((0 : Nat) : Int)))), J2, J3, J4, J5, J6, J7, J8, J9, J10, J11]) dL_law_513 (Nat.le_of_ble_eq_true rfl) rfl ?_
  refine zl_passes (nw := (π 0 1).toNat) hJ4 h56 (by omega) (by omega) hmin hsh (by omega) (fun K0 K1 K2 K3 K4 K5 K6 K7 K8 K9 => ?_) (π 0 1).toNat 0 _ _ _ _ _ _ _ _ _ _  (by omega)
  refine zl_taken h48 a0 a1 a2 hJ4 hT4 (by omega) ?_
  refine zl_peaks (W0 := W4) h48 a0 a1 a2 hT4 h56 hnp (by omega) hmin (by omega) (fun W5 K0 K1 K2 K3 K4 K5 K6 K7 K8 K9 hJ5 hF5 => ?_) np 0 W4 _ _ _ _ _ _ _ _ _ _  (by omega) hJ4 (fun _ _ _ => rfl)
  refine zl_dig hJ5 h56 ht ho (by omega) ?_
  have hJ6 := lJ_newa hJ5 13
  obtain ⟨E6, hE6⟩ : ∃ X, X = zG_N E3 e3 13 := ⟨_, rfl⟩
  obtain ⟨W6, hW6⟩ : ∃ X, X = zG_W e3 W5 := ⟨_, rfl⟩
  rw [← hE6, ← hW6] at hJ6
  rw [← hE6, ← hW6]
  have aq : E6 e3 = (100, 13) := by rw [hE6]; unfold zG_N; rw [if_neg (by omega)]
  have oE6 : ∀ a, a < e3 → E6 a = E3 a := fun a h => by rw [hE6]; exact if_pos h
  have oW6 : ∀ a j, a < e3 → W6 a j = W5 a j := fun a j h => by rw [hW6]; exact if_pos h
  refine zl_then (q := e3) (W0 := W6) h56 (by omega) aq (by omega) (by omega) (fun W7 K0 K1 K2 K3 K4 K5 K6 hJ7 hF7 hT7 => ?_) 5 8 W6 _ _ _ _ _ _ _  rfl (by omega) hJ6 (fun _ _ _ _ => rfl) (fun y h1 h2 => absurd h2 (by omega))
  have lb5 := lB_bd (sh x 5) (n := π 0 3) (by omega)
  have lb4 := lB_bd (sh x 4) (n := 20) (by omega)
  have lb6 := lB_bd (sh x 6) (n := 20) (by omega)
  obtain ⟨m, hm⟩ : ∃ m : Nat, lB (sh x 5) (π 0 3) = (m : Int) := ⟨(lB (sh x 5) (π 0 3)).toNat, by omega⟩
  obtain ⟨g1, hg1⟩ : ∃ g : Nat, (g : Int) = 1 + lB (sh x 4) 20 := ⟨(1 + lB (sh x 4) 20).toNat, by omega⟩
  obtain ⟨g2, hg2⟩ : ∃ g : Nat, (g : Int) = 1 + lB (sh x 6) 20 := ⟨(1 + lB (sh x 6) 20).toNat, by omega⟩
  obtain ⟨un, hun⟩ : ∃ u, sUnt π H m 361 0 σ = u := ⟨_, rfl⟩
  have ub := unt_0 (π := π) (σ := σ) (H := H) (x := m)
  rw [hun] at ub
  have fin : ∀ (W8 : zV) (z1 z2 : Int), lJ E6 (e3 + 1) c W8 p H π σ t o N → (∀ a j, (a = 56 ∨ 424 ≤ a) → W8 a j = W7 a j) → zk_Go l Γ mL_law d (kc + 9) (ks + 72) Q 1203 [some (.ref 56), none, some (.ref 424), some (.ref 320), some (.int (iZ (π 0 0))), some (.int (iZ (π 0 1))), some (.int (iZ (π 0 3))), some (.int (iZ ((tm : Int)))), some (.int x), some (.int (iZ (σ 0 1))), some (.ref e), some (.ref (e + 1)), some (.ref (e + 2)), some (.int (iZ (sSum (σ 8) 0 (π 0 3).toNat))), some (.int (iZ (sSum (σ 5) 0 (π 0 3).toNat))), some (.int (iZ (sSum (σ 10) 0 (π 0 1).toNat))), some (.int (iZ (sNum (fun w => decide (0 ≤ sFind (fun m => decide (σ 7 m = (w : Int))) 0 (π 0 3).toNat)) 0 (π 0 1).toNat))), some (.long (lZ (sDig π σ t o))), none, some (.ref e3), some (.int (iZ ((m : Int)))), some (.int (iZ (un))), some (.int (iZ (z1))), some (.int (iZ (z2))), K3, K4, K5, K6] [] (zG E6 (e3 + 1) W8) F := fun W8 z1 z2 hJ8 hF8 => by
    refine zl_minute hJ8 h56 (by omega) (by omega) (fun E9 e9 W9 hJ9 he9 hE9 hk9 => ?_)
    have b0 : E9 e = (100, 3) := (hE9 e (by omega)).trans ((oE6 e (by omega)).trans a0)
    have b1 : E9 (e + 1) = (100, np) := (hE9 _ (by omega)).trans ((oE6 _ (by omega)).trans a1)
    have b2 : E9 (e + 2) = (100, np) := (hE9 _ (by omega)).trans ((oE6 _ (by omega)).trans a2)
    have bq : E9 e3 = (100, 13) := (hE9 e3 (by omega)).trans aq
    have fr : ∀ a j, (a = 56 ∨ 468 ≤ a) → a < e3 → W9 a j = W4 a j := fun a j h1 h2 => (hk9 a j h1 (by omega)).trans ((hF8 a j (by omega)).trans ((hF7 a j (by omega) (by omega)).trans ((oW6 a j h2).trans (hF5 a j (by omega)))))
    have hT9 := tal_keep hT4 (fun a j h1 h2 => fr a j (Or.inr (by omega)) (by omega))
    refine zl_after (J3 := K3) (J4 := K4) h48 b0 b1 b2 hJ9 h56 (by omega) (by omega) hT9 (by omega) hun (by omega) (fun W10 hJ10 hF10 => ?_)
    have hT10 := tal_keep hT9 (fun a j h1 h2 => hF10 a j (Or.inr (by omega)))
    have hq10 : thn W10 e3 π (zap (sRun π H 1 σ)) 13 := fun y h1 h2 => (hF10 e3 y (Or.inr (by omega))).trans ((hk9 e3 y (Or.inr (by omega)) (by omega)).trans ((hF8 e3 y (Or.inr (by omega))).trans (hT7 y h1 h2)))
    refine zz_bipush (x := 8) dL_law_1275 rfl ?_
    refine gz_istore (L2 := [some (.ref 56), none, some (.ref 424), some (.ref 320), some (.int (iZ (π 0 0))), some (.int (iZ (π 0 1))), some (.int (iZ (π 0 3))), some (.int (iZ ((tm : Int)))), some (.int x), some (.int (iZ (σ 0 1))), some (.ref e), some (.ref (e + 1)), some (.ref (e + 2)), some (.int (iZ (sSum (σ 8) 0 (π 0 3).toNat))), some (.int (iZ (sSum (σ 5) 0 (π 0 3).toNat))), some (.int (iZ (sSum (σ 10) 0 (π 0 1).toNat))), some (.int (iZ (sNum (fun w => decide (0 ≤ sFind (fun m => decide (σ 7 m = (w : Int))) 0 (π 0 3).toNat)) 0 (π 0 1).toNat))), some (.long (lZ (sDig π σ t o))), none, some (.ref e3), some (.int (iZ ((m : Int)))), some (.int (iZ (un))), some (.int (iZ (z1))), some (.int (iZ (z2))), some (.int (iZ (σ 0 13))), some (.int (iZ ((sNum (sIn (zap (sRun π H 1 σ)) 2) 0 (π 0 3).toNat - sNum (sIn σ 2) 0 (π 0 3).toNat)))), some (.int (iZ (((8 : Nat) : Int)))), K6]) dL_law_1277 (Nat.le_of_ble_eq_true rfl) rfl ?_
    refine zl_same (m := m) h48 b0 b1 b2 hJ10 h56 (by omega) (by omega) (by omega) bq hq10 (fun K4 => ?_) 5 8 K6 rfl (by omega)
    refine gz_iload dL_law_1308 rfl ?_
    refine zz_ineg dL_law_1310 ?_
    refine gz_istore (L2 := [some (.ref 56), none, some (.ref 424), some (.ref 320), some (.int (iZ (π 0 0))), some (.int (iZ (π 0 1))), some (.int (iZ (π 0 3))), some (.int (iZ ((tm : Int)))), some (.int x), some (.int (iZ (σ 0 1))), some (.ref e), some (.ref (e + 1)), some (.ref (e + 2)), some (.int (iZ (sSum (σ 8) 0 (π 0 3).toNat))), some (.int (iZ (sSum (σ 5) 0 (π 0 3).toNat))), some (.int (iZ (sSum (σ 10) 0 (π 0 1).toNat))), some (.int (iZ (sNum (fun w => decide (0 ≤ sFind (fun m => decide (σ 7 m = (w : Int))) 0 (π 0 3).toNat)) 0 (π 0 1).toNat))), some (.long (lZ (sDig π σ t o))), none, some (.ref e3), some (.int (iZ ((m : Int)))), some (.int (iZ (un))), some (.int (iZ (z1))), some (.int (iZ (z2))), some (.int (iZ (σ 0 13))), some (.int (iZ ((sNum (sIn (zap (sRun π H 1 σ)) 2) 0 (π 0 3).toNat - sNum (sIn σ 2) 0 (π 0 3).toNat)))), some (.int (iZ (-(sSum (σ 10) 0 (π 0 1).toNat) + sSum ((zap (sRun π H 1 σ)) 10) 0 0))), K4]) dL_law_1311 (Nat.le_of_ble_eq_true rfl) (by rw [show -(sSum (σ 10) 0 (π 0 1).toNat) + sSum ((zap (sRun π H 1 σ)) 10) 0 0 = -(sSum (σ 10) 0 (π 0 1).toNat) by rw [sSum_0]; omega]; rfl) ?_
    refine zz_iconst dL_law_1313 ?_
    refine gz_istore (L2 := [some (.ref 56), none, some (.ref 424), some (.ref 320), some (.int (iZ (π 0 0))), some (.int (iZ (π 0 1))), some (.int (iZ (π 0 3))), some (.int (iZ ((tm : Int)))), some (.int x), some (.int (iZ (σ 0 1))), some (.ref e), some (.ref (e + 1)), some (.ref (e + 2)), some (.int (iZ (sSum (σ 8) 0 (π 0 3).toNat))), some (.int (iZ (sSum (σ 5) 0 (π 0 3).toNat))), some (.int (iZ (sSum (σ 10) 0 (π 0 1).toNat))), some (.int (iZ (sNum (fun w => decide (0 ≤ sFind (fun m => decide (σ 7 m = (w : Int))) 0 (π 0 3).toNat)) 0 (π 0 1).toNat))), some (.long (lZ (sDig π σ t o))), none, some (.ref e3), some (.int (iZ ((m : Int)))), some (.int (iZ (un))), some (.int (iZ (z1))), some (.int (iZ (z2))), some (.int (iZ (σ 0 13))), some (.int (iZ ((sNum (sIn (zap (sRun π H 1 σ)) 2) 0 (π 0 3).toNat - sNum (sIn σ 2) 0 (π 0 3).toNat)))), some (.int (iZ (-(sSum (σ 10) 0 (π 0 1).toNat) + sSum ((zap (sRun π H 1 σ)) 10) 0 0))), some (.int (iZ (((0 : Nat) : Int))))]) dL_law_1314 (Nat.le_of_ble_eq_true rfl) rfl ?_
    refine zl_more (m := m) (nw := (π 0 1).toNat) h48 b0 b1 b2 hJ10 h56 (by omega) (by omega) (by omega) ?_ (π 0 1).toNat 0 (by omega)
    refine zl_end (m := m) h48 b0 b1 b2 hJ10 h56 (by omega) (by omega) hT10 hc (by omega) ?_
    exact kk E9 e9 W10 _ _ _ _ _ _ _ _ _ _ _ _ _ _ _ _ _ _ _ _  hJ10 (by omega) (fun a h => (hE9 a (by omega)).trans ((oE6 a (by omega)).trans (oE a h))) (fun a j h1 h2 => (hF10 a j (by omega)).trans ((fr a j h1 (by omega)).trans ((hk4 a j (Or.inl h2)).trans (oW a j h2))))
  by_cases u0 : un = 0
  · exact zl_asks_t hJ7 h56 ht ho hm (by omega) hg1 hg2 hun u0 (by omega) h1 (by omega) fin
  · exact zl_asks_f hJ7 h56 ht ho hm (by omega) hg1 hg2 hun u0 (by omega) h1 (by omega) fin
end

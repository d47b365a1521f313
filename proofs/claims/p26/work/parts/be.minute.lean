/-! THE LAW LETS A MINUTE GO BY -/
section
variable {l : Launch} {Γ : zk_G} {d : Nat} {F : Heap → Prop}
theorem zl_minute {E : Nat → Nat × Nat} {e : Nat} {c : Nat → Nat} {π σ : zV} {p : Nat} {H : zV → Nat → Bool} {t o N : Int} {kc ks : Nat} {Q : Option Value → zk_M → (Heap → Prop) → Prop} {tm r q : Nat} {x : Int32} {W : zV} {m : Nat} {un z1 z2 : Int} {J3 J4 J5 J6 : Option Value} (hJ : lJ E e c W p H π σ t o N) (h56 : Γ.2.2.2.1 56 < Γ.2.1.size) (hN : N ≤ 80000) (hd : 20 ≤ d)
    (kk : ∀ (E1 : Nat → Nat × Nat) (e1 : Nat) (W1 : zV), lJ E1 e1 c W1 p H π (zap (sRun π H 1 σ)) t o (N + 9) → e ≤ e1 → (∀ a, a < e → E1 a = E a) → (∀ a j, (a = 56 ∨ 468 ≤ a) → a < e → W1 a j = W a j) → zk_Go l Γ mL_law d kc ks Q 1227 [some (.ref 56), none, some (.ref 424), some (.ref 320), some (.int (iZ (π 0 0))), some (.int (iZ (π 0 1))), some (.int (iZ (π 0 3))), some (.int (iZ ((tm : Int)))), some (.int x), some (.int (iZ (σ 0 1))), some (.ref r), some (.ref (r + 1)), some (.ref (r + 2)), some (.int (iZ (sSum (σ 8) 0 (π 0 3).toNat))), some (.int (iZ (sSum (σ 5) 0 (π 0 3).toNat))), some (.int (iZ (sSum (σ 10) 0 (π 0 1).toNat))), some (.int (iZ (sNum (fun w => decide (0 ≤ sFind (fun m => decide (σ 7 m = (w : Int))) 0 (π 0 3).toNat)) 0 (π 0 1).toNat))), some (.long (lZ (sDig π σ t o))), none, some (.ref q), some (.int (iZ ((m : Int)))), some (.int (iZ (un))), some (.int (iZ (z1))), some (.int (iZ (z2))), some (.int (iZ (σ 0 13))), some (.int (iZ ((sNum (sIn (zap (sRun π H 1 σ)) 2) 0 (π 0 3).toNat - sNum (sIn σ 2) 0 (π 0 3).toNat)))), J5, J6] [] (zG E1 e1 W1) F) : zk_Go l Γ mL_law d (kc + 9) (ks + 72) Q 1203 [some (.ref 56), none, some (.ref 424), some (.ref 320), some (.int (iZ (π 0 0))), some (.int (iZ (π 0 1))), some (.int (iZ (π 0 3))), some (.int (iZ ((tm : Int)))), some (.int x), some (.int (iZ (σ 0 1))), some (.ref r), some (.ref (r + 1)), some (.ref (r + 2)), some (.int (iZ (sSum (σ 8) 0 (π 0 3).toNat))), some (.int (iZ (sSum (σ 5) 0 (π 0 3).toNat))), some (.int (iZ (sSum (σ 10) 0 (π 0 1).toNat))), some (.int (iZ (sNum (fun w => decide (0 ≤ sFind (fun m => decide (σ 7 m = (w : Int))) 0 (π 0 3).toNat)) 0 (π 0 1).toNat))), some (.long (lZ (sDig π σ t o))), none, some (.ref q), some (.int (iZ ((m : Int)))), some (.int (iZ (un))), some (.int (iZ (z1))), some (.int (iZ (z2))), J3, J4, J5, J6] [] (zG E e W) F := by
  have hJ2 := hJ
  obtain ⟨hE, hE0, hz, hSt, hS, hh, hH, hO⟩ := hJ2
  have n1 := hS.1
  have hw : wP π := hSt.2.2.2.2.1
  have hc : wC π σ N := hSt.2.2.2.2.2.1
  have n0 := wP_n hw
  have t0 := wC_n hc
  have hb5 := hE.2.2.2.2
  have h48 := hE.2.2.2.1
  have e3 : (π 0 3).toNat = c 3 := by omega
  have nb1 := sNum_bd (sIn (zap (sRun π H 1 σ)) 2) (π 0 3).toNat 0
  have nb2 := sNum_bd (sIn σ 2) (π 0 3).toNat 0
  refine gz_aload_n dL_law_1203 rfl ?_
  refine zz_bipush (x := 12) dL_law_1204 rfl ?_
  refine gJ_count (v := σ 0 13) dL_law_1206 wm_HeliographsLaw_187 hJ h56 (by omega) rfl (Nat.le_of_ble_eq_true rfl) (by omega) ?_
  refine gz_istore (L2 := [some (.ref 56), none, some (.ref 424), some (.ref 320), some (.int (iZ (π 0 0))), some (.int (iZ (π 0 1))), some (.int (iZ (π 0 3))), some (.int (iZ ((tm : Int)))), some (.int x), some (.int (iZ (σ 0 1))), some (.ref r), some (.ref (r + 1)), some (.ref (r + 2)), some (.int (iZ (sSum (σ 8) 0 (π 0 3).toNat))), some (.int (iZ (sSum (σ 5) 0 (π 0 3).toNat))), some (.int (iZ (sSum (σ 10) 0 (π 0 1).toNat))), some (.int (iZ (sNum (fun w => decide (0 ≤ sFind (fun m => decide (σ 7 m = (w : Int))) 0 (π 0 3).toNat)) 0 (π 0 1).toNat))), some (.long (lZ (sDig π σ t o))), none, some (.ref q), some (.int (iZ ((m : Int)))), some (.int (iZ (un))), some (.int (iZ (z1))), some (.int (iZ (z2))), some (.int (iZ (σ 0 13))), J4, J5, J6]) dL_law_1209 (Nat.le_of_ble_eq_true rfl) rfl ?_
  refine gz_aload_n dL_law_1211 rfl ?_
  refine zz_iconst dL_law_1212 ?_
  refine gA_call (J := mX7_go) (d1 := d - 1) (kc1 := 0) (ks1 := 0) [.int (iZ ((1 : Nat) : Int))] _ dL_law_1213 rfl wm_HeliographsLaw_151 rfl ⟨by decide, by decide⟩ jzX7_go rfl (Nat.le_of_ble_eq_true rfl) (Nat.le_of_ble_eq_true rfl) (by omega) ⟨Nat.zero_le _, Nat.zero_le _⟩ (zK_ofR (fun Γ F => zh_go hSt (m := 1) (by omega) (by omega) (by omega))) hE0 (by omega) hz h56 (fun v hv => by rw [List.mem_singleton.mp hv]; trivial) (fun v Z1 hr w hw => by rw [hr.1] at hw; cases hw; trivial) (fun v Z1 hr hz1 => ?_)
  obtain ⟨rfl, hSt2⟩ := hr
  refine gz_istore (L2 := [some (.ref 56), none, some (.ref 424), some (.ref 320), some (.int (iZ (π 0 0))), some (.int (iZ (π 0 1))), some (.int (iZ (π 0 3))), some (.int (iZ ((tm : Int)))), some (.int x), some (.int (iZ (σ 0 1))), some (.ref r), some (.ref (r + 1)), some (.ref (r + 2)), some (.int (iZ (sSum (σ 8) 0 (π 0 3).toNat))), some (.int (iZ (sSum (σ 5) 0 (π 0 3).toNat))), some (.int (iZ (sSum (σ 10) 0 (π 0 1).toNat))), some (.int (iZ (sNum (fun w => decide (0 ≤ sFind (fun m => decide (σ 7 m = (w : Int))) 0 (π 0 3).toNat)) 0 (π 0 1).toNat))), some (.long (lZ (sDig π σ t o))), none, some (.ref q), some (.int (iZ ((m : Int)))), some (.int (iZ (un))), some (.int (iZ (z1))), some (.int (iZ (z2))), some (.int (iZ (σ 0 13))), some (.int (iZ ((sNum (sIn (zap (sRun π H 1 σ)) 2) 0 (π 0 3).toNat - sNum (sIn σ 2) 0 (π 0 3).toNat)))), J5, J6]) dL_law_1216 (Nat.le_of_ble_eq_true rfl) rfl ?_
  have hS1 : sm c (zL Z1 W) π σ := sm_kept hS ⟨by omega, by omega, by omega, by omega⟩ (fun a j q1 q2 => if_neg (by omega))
  have hh1 : hRow c (zL Z1 W) := hRow_k (fun a j q1 q2 => if_neg (by omega)) (by omega) hh
  have hH1 : ∀ (N : Int) (σ : zV), wC π σ N → N ≤ 90000 → (∀ w : Nat, w < c 1 → (σ 11 w ≠ 0 ↔ sPass π σ w (σ 0 1) = true)) → ∀ k, k < c 3 → H σ k = (List.range' 0 (c 4)).any (sHs c (zL Z1 W) π σ k) := fun N τ h1 h2 hl k h3 => by
    rw [hH N τ h1 h2 hl k h3]
    refine any_eq (fun i hi => ?_)
    have g : ∀ j, zL Z1 W (468 + i) j = W (468 + i) j := fun j => if_neg (by omega)
    unfold sHs
    rw [g 0, g 1, g 2, g 3, g 4, g 5]
  refine gz_aload_n dL_law_1218 rfl ?_
  refine gz_invv (J := mX8_pass) (d1 := d - 1) (kc1 := 9) (ks1 := 72) (Q1 := (fun v M' F' => ∃ W', (∀ a j, (a < 424 ∨ 468 ≤ a) → a < e → W' a j = zL Z1 W a j) ∧ sm c W' π (sMin π H σ) ∧ v = some (.int (iZ (sCame π H σ))) ∧ M' = zG (zG_E E e (c 0) (c 0)) (e + 1 + c 0) W' ∧ F' = F)) [] _ dL_law_1219 rfl hE.1 (by decide) rfl wm_HeliographsLaw_238 jzX8_pass.1 jzX8_pass.2.1 jzX8_pass.2.2.1 jzX8_pass.2.2.2.1 jzX8_pass.2.2.2.2.1 rfl ⟨Nat.le_of_ble_eq_true rfl, Nat.le_of_ble_eq_true rfl⟩ (Nat.le_of_ble_eq_true rfl) (by omega) ⟨by omega, by omega⟩ (by decide) (zS_pass hE hS1 hw hc (by omega) hh1 (fun τ h1 hl => hH1 _ τ h1 (by omega) hl) (by omega) (fun W2 q1 q2 => ⟨W2, q1, q2, rfl, rfl, rfl⟩)) (fun v M2 F2 hy => ?_)
  obtain ⟨W2, q4, q5, rfl, rfl, rfl⟩ := hy
  refine gz_iload dL_law_1222 rfl ?_
  refine zz_icmp_ne (tgt := 1273) dL_law_1224 rfl ⟨by show _ ≤ (sNum (sIn (zap (sRun π H 1 σ)) 2) 0 (π 0 3).toNat - sNum (sIn σ 2) 0 (π 0 3).toNat); omega, by show (sNum (sIn (zap (sRun π H 1 σ)) 2) 0 (π 0 3).toNat - sNum (sIn σ 2) 0 (π 0 3).toNat) < _; omega, by omega, by omega⟩ (fun b => absurd rfl b) (fun b => ?_)
  have q3 : ∀ a, a < e → zG_E E e (c 0) (c 0) a = E a := fun a h => if_pos h
  refine (kk _ _ W2 ⟨zE_E hE, fun a h1 h2 => (q3 a (by omega)).trans (hE0 a h1 h2), zin_424 (zin_L hz1) (fun a j h1 => q4 a j (Or.inl h1) (by omega)), St_424 hSt2 (fun a j h1 h2 => (q4 a j (Or.inl h2) (by omega)).trans (if_pos ⟨h2, by omega⟩)), q5, hRow_k (fun a j h1 h2 => q4 a j (Or.inr h1) (by omega)) (by omega) hh1, fun M τ h1 h2 hl k h3 => ?_, lOk_zap (lOk_run hw 1 σ N hc (by omega) hO)⟩ (by omega) q3 (fun a j h1 h2 => (q4 a j (by omega) h2).trans (if_neg (by omega)))).le (by omega) (by omega)
  rw [hH1 M τ h1 h2 hl k h3]
  refine any_eq (fun i hi => ?_)
  have g : ∀ j, W2 (468 + i) j = zL Z1 W (468 + i) j := fun j => q4 _ _ (by omega) (by omega)
  unfold sHs
  rw [g 0, g 1, g 2, g 3, g 4, g 5]
theorem zl_after {E : Nat → Nat × Nat} {e : Nat} {c : Nat → Nat} {π σ : zV} {p : Nat} {H : zV → Nat → Bool} {t o N : Int} {kc ks : Nat} {Q : Option Value → zk_M → (Heap → Prop) → Prop} {tm r q np : Nat} {x : Int32} {W : zV} {m : Nat} {un z1 z2 : Int} {J3 J4 J5 J6 : Option Value} (hr : 480 ≤ r) (a0 : E r = (100, 3)) (a1 : E (r + 1) = (100, np)) (a2 : E (r + 2) = (100, np)) (hJ : lJ E e c W p H π (zap (sRun π H 1 σ)) t o N) (h56 : Γ.2.2.2.1 56 < Γ.2.1.size) (hN : N ≤ 80000) (hd : 20 ≤ d) (hT : tal W r np σ (π 0 3).toNat) (hm1 : (m : Int) < π 0 3) (hun : sUnt π H m 361 0 σ = un) (hub : -1 ≤ un ∧ un ≤ 360) (kk : ∀ W1 : zV, lJ E e c W1 p H π (zap (sRun π H 1 σ)) t o N → (∀ a j, (a = 56 ∨ 424 ≤ a) → W1 a j = W a j) → zk_Go l Γ mL_law d kc ks Q 1275 [some (.ref 56), none, some (.ref 424), some (.ref 320), some (.int (iZ (π 0 0))), some (.int (iZ (π 0 1))), some (.int (iZ (π 0 3))), some (.int (iZ ((tm : Int)))), some (.int x), some (.int (iZ (σ 0 1))), some (.ref r), some (.ref (r + 1)), some (.ref (r + 2)), some (.int (iZ (sSum (σ 8) 0 (π 0 3).toNat))), some (.int (iZ (sSum (σ 5) 0 (π 0 3).toNat))), some (.int (iZ (sSum (σ 10) 0 (π 0 1).toNat))), some (.int (iZ (sNum (fun w => decide (0 ≤ sFind (fun m => decide (σ 7 m = (w : Int))) 0 (π 0 3).toNat)) 0 (π 0 1).toNat))), some (.long (lZ (sDig π σ t o))), none, some (.ref q), some (.int (iZ ((m : Int)))), some (.int (iZ (un))), some (.int (iZ (z1))), some (.int (iZ (z2))), some (.int (iZ (σ 0 13))), some (.int (iZ ((sNum (sIn (zap (sRun π H 1 σ)) 2) 0 (π 0 3).toNat - sNum (sIn σ 2) 0 (π 0 3).toNat)))), J5, J6] [] (zG E e W1) F) : zk_Go l Γ mL_law d kc ks Q 1227 [some (.ref 56), none, some (.ref 424), some (.ref 320), some (.int (iZ (π 0 0))), some (.int (iZ (π 0 1))), some (.int (iZ (π 0 3))), some (.int (iZ ((tm : Int)))), some (.int x), some (.int (iZ (σ 0 1))), some (.ref r), some (.ref (r + 1)), some (.ref (r + 2)), some (.int (iZ (sSum (σ 8) 0 (π 0 3).toNat))), some (.int (iZ (sSum (σ 5) 0 (π 0 3).toNat))), some (.int (iZ (sSum (σ 10) 0 (π 0 1).toNat))), some (.int (iZ (sNum (fun w => decide (0 ≤ sFind (fun m => decide (σ 7 m = (w : Int))) 0 (π 0 3).toNat)) 0 (π 0 1).toNat))), some (.long (lZ (sDig π σ t o))), none, some (.ref q), some (.int (iZ ((m : Int)))), some (.int (iZ (un))), some (.int (iZ (z1))), some (.int (iZ (z2))), some (.int (iZ (σ 0 13))), some (.int (iZ ((sNum (sIn (zap (sRun π H 1 σ)) 2) 0 (π 0 3).toNat - sNum (sIn σ 2) 0 (π 0 3).toNat)))), J5, J6] [] (zG E e W) F := by
  have hJ2 := hJ
  obtain ⟨hE, hE0, hz, hSt, hS, hh, hH, hO⟩ := hJ2
  have hw : wP π := hSt.2.2.2.2.1
  have hc : wC π (zap (sRun π H 1 σ)) N := hSt.2.2.2.2.2.1
  have n0 := wP_n hw
  have t1 : (zap (sRun π H 1 σ)) 0 1 = σ 0 1 + 1 := sRun_t π H 1 σ
  have nb1 := sNum_bd (sIn (zap (sRun π H 1 σ)) 2) (π 0 3).toNat 0
  have nb2 := sNum_bd (sIn σ 2) (π 0 3).toNat 0
  have t0 := wC_n hc
  refine gz_aload_n dL_law_1227 rfl ?_
  refine zz_iconst dL_law_1228 ?_
  refine gJ_count (v := (zap (sRun π H 1 σ)) 0 1) dL_law_1229 wm_HeliographsLaw_187 hJ h56 (by omega) rfl (Nat.le_of_ble_eq_true rfl) (by omega) ?_
  refine gz_iload dL_law_1232 rfl ?_
  refine zz_iconst dL_law_1234 ?_
  refine zz_iadd dL_law_1235 ?_
  refine zz_icmp_ne (tgt := 1273) dL_law_1236 rfl (by omega) (fun b1236 => ?_) (fun b1236 => ?_)
  · exact absurd b1236 (by omega)
  refine gz_aload_n dL_law_1239 rfl ?_
  refine zz_bipush (x := 10) dL_law_1240 rfl ?_
  refine gJ_count (v := sNum (sIn (zap (sRun π H 1 σ)) 2) 0 (π 0 3).toNat) dL_law_1242 wm_HeliographsLaw_187 hJ h56 (by omega) rfl (Nat.le_of_ble_eq_true rfl) (by omega) ?_
  refine gz_aload dL_law_1245 rfl ?_
  refine zz_iconst dL_law_1247 ?_
  refine gw_iald (a := r) (q := 2) (len := 3) (v := sNum (sIn σ 2) 0 (π 0 3).toNat) dL_law_1248 a0 (by omega) rfl (by omega) (hT.1 2 (by omega)) ?_
  refine gz_iload dL_law_1249 rfl ?_
  refine zz_iadd dL_law_1251 ?_
  refine zz_icmp_ne (tgt := 1273) dL_law_1252 rfl (by omega) (fun b1252 => ?_) (fun b1252 => ?_)
  · exact absurd b1252 (by omega)
  refine gz_iload dL_law_1255 rfl ?_
  refine zz_if_le (tgt := 1275) dL_law_1257 rfl (by omega) (fun b1257 => ?_) (fun b1257 => ?_)
  ·
    exact kk W hJ (fun a j h => rfl)
  ·
    refine gz_aload_n dL_law_1260 rfl ?_
    refine gz_iload dL_law_1261 rfl ?_
    refine gJ_until (m := m) dL_law_1263 wm_HeliographsLaw_229 hJ h56 (by omega) hm1 (Nat.le_of_ble_eq_true rfl) (by omega) (fun W1263 J1263 k1263 => ?_)
    rw [show sUnt π H m 361 0 (zap (sRun π H 1 σ)) = un - 1 from (unt_next (by rw [hun]; omega)).trans (by rw [hun])]
    refine gz_iload dL_law_1266 rfl ?_
    refine zz_iconst dL_law_1268 ?_
    refine zz_isub dL_law_1269 ?_
    refine zz_icmp_eq (tgt := 1275) dL_law_1270 rfl (by omega) (fun b1270 => ?_) (fun b1270 => ?_)
    rotate_left
    · exact absurd b1270 (by omega)
    exact kk _ J1263 k1263
theorem sTally_bd {π σ : zV} {N : Int} (hw : wP π) (hc : wC π σ N) (hN : N ≤ 80000) {y : Int} : -1 ≤ sTally π σ y ∧ sTally π σ y ≤ 800000 := by
  have n0 := wP_n hw
  have t0 := wC_n hc
  have c0 := sNum_bd (sIn σ 0) (π 0 3).toNat 0
  have c1 := sNum_bd (sIn σ 1) (π 0 3).toNat 0
  have c2 := sNum_bd (sIn σ 2) (π 0 3).toNat 0
  have s8 := sSum_bd (f := σ 8) (M := 80000) (π 0 3).toNat 0 (fun j _ h2 => by have m := wC_m hc (k := j) (by omega); unfold wM at m; omega)
  unfold sTally
  (repeat' split) <;> omega
theorem zl_same {E : Nat → Nat × Nat} {e : Nat} {c : Nat → Nat} {π σ : zV} {p : Nat} {H : zV → Nat → Bool} {t o N : Int} {kc ks : Nat} {Q : Option Value → zk_M → (Heap → Prop) → Prop} {tm r q np : Nat} {x : Int32} {W : zV} {m : Nat} {un z1 z2 : Int} (hr : 480 ≤ r) (a0 : E r = (100, 3)) (a1 : E (r + 1) = (100, np)) (a2 : E (r + 2) = (100, np)) (hJ : lJ E e c W p H π (zap (sRun π H 1 σ)) t o N) (h56 : Γ.2.2.2.1 56 < Γ.2.1.size) (hN : N ≤ 80000) (hd : 20 ≤ d) (hq : 480 ≤ q) (aq : E q = (100, 13)) (hT : thn W q π (zap (sRun π H 1 σ)) 13) (kk : ∀ J0 : Option Value, zk_Go l Γ mL_law d kc ks Q 1308 [some (.ref 56), none, some (.ref 424), some (.ref 320), some (.int (iZ (π 0 0))), some (.int (iZ (π 0 1))), some (.int (iZ (π 0 3))), some (.int (iZ ((tm : Int)))), some (.int x), some (.int (iZ (σ 0 1))), some (.ref r), some (.ref (r + 1)), some (.ref (r + 2)), some (.int (iZ (sSum (σ 8) 0 (π 0 3).toNat))), some (.int (iZ (sSum (σ 5) 0 (π 0 3).toNat))), some (.int (iZ (sSum (σ 10) 0 (π 0 1).toNat))), some (.int (iZ (sNum (fun w => decide (0 ≤ sFind (fun m => decide (σ 7 m = (w : Int))) 0 (π 0 3).toNat)) 0 (π 0 1).toNat))), some (.long (lZ (sDig π σ t o))), none, some (.ref q), some (.int (iZ ((m : Int)))), some (.int (iZ (un))), some (.int (iZ (z1))), some (.int (iZ (z2))), some (.int (iZ (σ 0 13))), some (.int (iZ ((sNum (sIn (zap (sRun π H 1 σ)) 2) 0 (π 0 3).toNat - sNum (sIn σ 2) 0 (π 0 3).toNat)))), some (.int (iZ (((13 : Nat) : Int)))), J0] [] (zG E e W) F) : ∀ (n i : Nat) (J0 : Option Value), i + n = 13 → 8 ≤ i → zk_Go l Γ mL_law d kc ks Q 1279 [some (.ref 56), none, some (.ref 424), some (.ref 320), some (.int (iZ (π 0 0))), some (.int (iZ (π 0 1))), some (.int (iZ (π 0 3))), some (.int (iZ ((tm : Int)))), some (.int x), some (.int (iZ (σ 0 1))), some (.ref r), some (.ref (r + 1)), some (.ref (r + 2)), some (.int (iZ (sSum (σ 8) 0 (π 0 3).toNat))), some (.int (iZ (sSum (σ 5) 0 (π 0 3).toNat))), some (.int (iZ (sSum (σ 10) 0 (π 0 1).toNat))), some (.int (iZ (sNum (fun w => decide (0 ≤ sFind (fun m => decide (σ 7 m = (w : Int))) 0 (π 0 3).toNat)) 0 (π 0 1).toNat))), some (.long (lZ (sDig π σ t o))), none, some (.ref q), some (.int (iZ ((m : Int)))), some (.int (iZ (un))), some (.int (iZ (z1))), some (.int (iZ (z2))), some (.int (iZ (σ 0 13))), some (.int (iZ ((sNum (sIn (zap (sRun π H 1 σ)) 2) 0 (π 0 3).toNat - sNum (sIn σ 2) 0 (π 0 3).toNat)))), some (.int (iZ ((i : Int)))), J0] [] (zG E e W) F
  | 0, i, J0, hi, h8 => by
    have e : i = 13 := by omega
    subst e
    refine gz_iload dL_law_1279 rfl ?_
    refine zz_bipush (x := 13) dL_law_1281 rfl ?_
    refine zz_icmp_ge (tgt := 1308) dL_law_1283 rfl (by omega) (fun b => ?_) (fun b => absurd b (by omega))
    exact kk J0
  | n + 1, i, J0, hi, h8 => by
    have hw : wP π := hJ.2.2.2.1.2.2.2.2.1
    have hc : wC π (zap (sRun π H 1 σ)) N := hJ.2.2.2.1.2.2.2.2.2.1
    have tb := sTally_bd (y := (i : Int)) hw hc hN
    refine gz_iload dL_law_1279 rfl ?_
    refine zz_bipush (x := 13) dL_law_1281 rfl ?_
    refine zz_icmp_ge (tgt := 1308) dL_law_1283 rfl (by omega) (fun b => absurd b (by omega)) (fun b => ?_)
    refine gz_aload_n dL_law_1286 rfl ?_
    refine gz_iload dL_law_1287 rfl ?_
    refine gJ_count (v := sTally π (zap (sRun π H 1 σ)) (i : Int)) dL_law_1289 wm_HeliographsLaw_187 hJ h56 (by omega) (by unfold sCount; rw [if_neg (by omega), if_neg (by omega), if_neg (by omega), if_neg (by omega), if_neg (by omega), if_neg (by omega), if_neg (by omega), if_neg (by omega), if_neg (by omega)]) (Nat.le_of_ble_eq_true rfl) (by omega) ?_
    refine gz_aload dL_law_1292 rfl ?_
    refine gz_iload dL_law_1294 rfl ?_
    refine gw_iald (a := q) (q := i) (len := 13) (v := sTally π (zap (sRun π H 1 σ)) (i : Int)) dL_law_1296 aq (by omega) rfl (by omega) (hT i h8 (by omega)) ?_
    refine zz_icmp_eq (tgt := 1302) dL_law_1297 rfl (by omega) (fun b => ?_) (fun b => absurd rfl b)
    refine zz_iinc (L2 := [some (.ref 56), none, some (.ref 424), some (.ref 320), some (.int (iZ (π 0 0))), some (.int (iZ (π 0 1))), some (.int (iZ (π 0 3))), some (.int (iZ ((tm : Int)))), some (.int x), some (.int (iZ (σ 0 1))), some (.ref r), some (.ref (r + 1)), some (.ref (r + 2)), some (.int (iZ (sSum (σ 8) 0 (π 0 3).toNat))), some (.int (iZ (sSum (σ 5) 0 (π 0 3).toNat))), some (.int (iZ (sSum (σ 10) 0 (π 0 1).toNat))), some (.int (iZ (sNum (fun w => decide (0 ≤ sFind (fun m => decide (σ 7 m = (w : Int))) 0 (π 0 3).toNat)) 0 (π 0 1).toNat))), some (.long (lZ (sDig π σ t o))), none, some (.ref q), some (.int (iZ ((m : Int)))), some (.int (iZ (un))), some (.int (iZ (z1))), some (.int (iZ (z2))), some (.int (iZ (σ 0 13))), some (.int (iZ ((sNum (sIn (zap (sRun π H 1 σ)) 2) 0 (π 0 3).toNat - sNum (sIn σ 2) 0 (π 0 3).toNat)))), some (.int (iZ (((i + 1 : Nat) : Int)))), J0]) dL_law_1302 rfl (by rw [show ((i + 1 : Nat) : Int) = (i : Int) + 1 by omega]; rfl) ?_
    refine gz_goto (tgt := 1279) dL_law_1305 rfl ?_
    exact zl_same hr a0 a1 a2 hJ h56 hN hd hq aq hT kk n (i + 1) J0 (by omega) (by omega)
theorem zl_more {E : Nat → Nat × Nat} {e : Nat} {c : Nat → Nat} {π σ : zV} {p : Nat} {H : zV → Nat → Bool} {t o N : Int} {kc ks : Nat} {Q : Option Value → zk_M → (Heap → Prop) → Prop} {tm r q np : Nat} {x : Int32} {W : zV} {m nw : Nat} {un z1 z2 : Int} (hr : 480 ≤ r) (a0 : E r = (100, 3)) (a1 : E (r + 1) = (100, np)) (a2 : E (r + 2) = (100, np)) (hJ : lJ E e c W p H π (zap (sRun π H 1 σ)) t o N) (h56 : Γ.2.2.2.1 56 < Γ.2.1.size) (hN : N ≤ 80000) (hd : 20 ≤ d) (hnw : (nw : Int) = π 0 1) (kk : zk_Go l Γ mL_law d kc ks Q 1341 [some (.ref 56), none, some (.ref 424), some (.ref 320), some (.int (iZ (π 0 0))), some (.int (iZ (π 0 1))), some (.int (iZ (π 0 3))), some (.int (iZ ((tm : Int)))), some (.int x), some (.int (iZ (σ 0 1))), some (.ref r), some (.ref (r + 1)), some (.ref (r + 2)), some (.int (iZ (sSum (σ 8) 0 (π 0 3).toNat))), some (.int (iZ (sSum (σ 5) 0 (π 0 3).toNat))), some (.int (iZ (sSum (σ 10) 0 (π 0 1).toNat))), some (.int (iZ (sNum (fun w => decide (0 ≤ sFind (fun m => decide (σ 7 m = (w : Int))) 0 (π 0 3).toNat)) 0 (π 0 1).toNat))), some (.long (lZ (sDig π σ t o))), none, some (.ref q), some (.int (iZ ((m : Int)))), some (.int (iZ (un))), some (.int (iZ (z1))), some (.int (iZ (z2))), some (.int (iZ (σ 0 13))), some (.int (iZ ((sNum (sIn (zap (sRun π H 1 σ)) 2) 0 (π 0 3).toNat - sNum (sIn σ 2) 0 (π 0 3).toNat)))), some (.int (iZ (-(sSum (σ 10) 0 (π 0 1).toNat) + sSum ((zap (sRun π H 1 σ)) 10) 0 nw))), some (.int (iZ ((nw : Int))))] [] (zG E e W) F) : ∀ (n i : Nat), i + n = nw → zk_Go l Γ mL_law d kc ks Q 1316 [some (.ref 56), none, some (.ref 424), some (.ref 320), some (.int (iZ (π 0 0))), some (.int (iZ (π 0 1))), some (.int (iZ (π 0 3))), some (.int (iZ ((tm : Int)))), some (.int x), some (.int (iZ (σ 0 1))), some (.ref r), some (.ref (r + 1)), some (.ref (r + 2)), some (.int (iZ (sSum (σ 8) 0 (π 0 3).toNat))), some (.int (iZ (sSum (σ 5) 0 (π 0 3).toNat))), some (.int (iZ (sSum (σ 10) 0 (π 0 1).toNat))), some (.int (iZ (sNum (fun w => decide (0 ≤ sFind (fun m => decide (σ 7 m = (w : Int))) 0 (π 0 3).toNat)) 0 (π 0 1).toNat))), some (.long (lZ (sDig π σ t o))), none, some (.ref q), some (.int (iZ ((m : Int)))), some (.int (iZ (un))), some (.int (iZ (z1))), some (.int (iZ (z2))), some (.int (iZ (σ 0 13))), some (.int (iZ ((sNum (sIn (zap (sRun π H 1 σ)) 2) 0 (π 0 3).toNat - sNum (sIn σ 2) 0 (π 0 3).toNat)))), some (.int (iZ (-(sSum (σ 10) 0 (π 0 1).toNat) + sSum ((zap (sRun π H 1 σ)) 10) 0 i))), some (.int (iZ ((i : Int))))] [] (zG E e W) F
  | 0, i, hi => by
    have e : i = nw := by omega
    subst e
    have n0 := wP_n hJ.2.2.2.1.2.2.2.2.1
    refine gz_iload dL_law_1316 rfl ?_
    refine gz_iload dL_law_1318 rfl ?_
    refine zz_icmp_ge (tgt := 1341) dL_law_1320 rfl (by omega) (fun b => ?_) (fun b => absurd b (by omega))
    exact kk
  | n + 1, i, hi => by
    have n0 := wP_n hJ.2.2.2.1.2.2.2.2.1
    have ih := zl_more hr a0 a1 a2 hJ h56 hN hd hnw kk n (i + 1) (by omega)
    rw [sSum_0s, ← Int.add_assoc] at ih
    refine gz_iload dL_law_1316 rfl ?_
    refine gz_iload dL_law_1318 rfl ?_
    refine zz_icmp_ge (tgt := 1341) dL_law_1320 rfl (by omega) (fun b => absurd b (by omega)) (fun b => ?_)
    refine gz_iload dL_law_1323 rfl ?_
    refine gz_aload_n dL_law_1325 rfl ?_
    refine gz_iload dL_law_1326 rfl ?_
    refine zz_iconst dL_law_1328 ?_
    refine gJ_pass (w := i) (v := (zap (sRun π H 1 σ)) 10 i) dL_law_1329 wm_HeliographsLaw_196 hJ h56 (by omega) (by omega) rfl (Nat.le_of_ble_eq_true rfl) (by omega) ?_
    refine zz_iadd dL_law_1332 ?_
    refine gz_istore (L2 := [some (.ref 56), none, some (.ref 424), some (.ref 320), some (.int (iZ (π 0 0))), some (.int (iZ (π 0 1))), some (.int (iZ (π 0 3))), some (.int (iZ ((tm : Int)))), some (.int x), some (.int (iZ (σ 0 1))), some (.ref r), some (.ref (r + 1)), some (.ref (r + 2)), some (.int (iZ (sSum (σ 8) 0 (π 0 3).toNat))), some (.int (iZ (sSum (σ 5) 0 (π 0 3).toNat))), some (.int (iZ (sSum (σ 10) 0 (π 0 1).toNat))), some (.int (iZ (sNum (fun w => decide (0 ≤ sFind (fun m => decide (σ 7 m = (w : Int))) 0 (π 0 3).toNat)) 0 (π 0 1).toNat))), some (.long (lZ (sDig π σ t o))), none, some (.ref q), some (.int (iZ ((m : Int)))), some (.int (iZ (un))), some (.int (iZ (z1))), some (.int (iZ (z2))), some (.int (iZ (σ 0 13))), some (.int (iZ ((sNum (sIn (zap (sRun π H 1 σ)) 2) 0 (π 0 3).toNat - sNum (sIn σ 2) 0 (π 0 3).toNat)))), some (.int (iZ (-(sSum (σ 10) 0 (π 0 1).toNat) + sSum ((zap (sRun π H 1 σ)) 10) 0 i + (zap (sRun π H 1 σ)) 10 i))), some (.int (iZ ((i : Int))))]) dL_law_1333 (Nat.le_of_ble_eq_true rfl) rfl ?_
    refine zz_iinc (L2 := [some (.ref 56), none, some (.ref 424), some (.ref 320), some (.int (iZ (π 0 0))), some (.int (iZ (π 0 1))), some (.int (iZ (π 0 3))), some (.int (iZ ((tm : Int)))), some (.int x), some (.int (iZ (σ 0 1))), some (.ref r), some (.ref (r + 1)), some (.ref (r + 2)), some (.int (iZ (sSum (σ 8) 0 (π 0 3).toNat))), some (.int (iZ (sSum (σ 5) 0 (π 0 3).toNat))), some (.int (iZ (sSum (σ 10) 0 (π 0 1).toNat))), some (.int (iZ (sNum (fun w => decide (0 ≤ sFind (fun m => decide (σ 7 m = (w : Int))) 0 (π 0 3).toNat)) 0 (π 0 1).toNat))), some (.long (lZ (sDig π σ t o))), none, some (.ref q), some (.int (iZ ((m : Int)))), some (.int (iZ (un))), some (.int (iZ (z1))), some (.int (iZ (z2))), some (.int (iZ (σ 0 13))), some (.int (iZ ((sNum (sIn (zap (sRun π H 1 σ)) 2) 0 (π 0 3).toNat - sNum (sIn σ 2) 0 (π 0 3).toNat)))), some (.int (iZ (-(sSum (σ 10) 0 (π 0 1).toNat) + sSum ((zap (sRun π H 1 σ)) 10) 0 i + (zap (sRun π H 1 σ)) 10 i))), some (.int (iZ (((i + 1 : Nat) : Int))))]) dL_law_1335 rfl (by rw [show ((i + 1 : Nat) : Int) = (i : Int) + 1 by omega]; rfl) ?_
    refine gz_goto (tgt := 1316) dL_law_1338 rfl ?_
    exact ih
theorem zl_end {E : Nat → Nat × Nat} {e : Nat} {c : Nat → Nat} {π σ : zV} {p : Nat} {H : zV → Nat → Bool} {t o N : Int} {kc ks : Nat} {Q : Option Value → zk_M → (Heap → Prop) → Prop} {tm r q np : Nat} {x : Int32} {W : zV} {m : Nat} {un z1 z2 : Int} {N0 : Int} (hr : 480 ≤ r) (a0 : E r = (100, 3)) (a1 : E (r + 1) = (100, np)) (a2 : E (r + 2) = (100, np)) (hJ : lJ E e c W p H π (zap (sRun π H 1 σ)) t o N) (h56 : Γ.2.2.2.1 56 < Γ.2.1.size) (hN : N ≤ 80000) (hd : 20 ≤ d) (hT : tal W r np σ (π 0 3).toNat) (hc0 : wC π σ N0) (hN0 : N0 ≤ 80000) (kk : zk_Go l Γ mL_law d kc ks Q 59 [some (.ref 56), none, some (.ref 424), some (.ref 320), some (.int (iZ (π 0 0))), some (.int (iZ (π 0 1))), some (.int (iZ (π 0 3))), some (.int (iZ (((tm + 1 : Nat) : Int)))), some (.int x), some (.int (iZ (σ 0 1))), some (.ref r), some (.ref (r + 1)), some (.ref (r + 2)), some (.int (iZ (sSum (σ 8) 0 (π 0 3).toNat))), some (.int (iZ (sSum (σ 5) 0 (π 0 3).toNat))), some (.int (iZ (sSum (σ 10) 0 (π 0 1).toNat))), some (.int (iZ (sNum (fun w => decide (0 ≤ sFind (fun m => decide (σ 7 m = (w : Int))) 0 (π 0 3).toNat)) 0 (π 0 1).toNat))), some (.long (lZ (sDig π σ t o))), none, some (.ref q), some (.int (iZ ((m : Int)))), some (.int (iZ (un))), some (.int (iZ (z1))), some (.int (iZ (z2))), some (.int (iZ (σ 0 13))), some (.int (iZ ((sNum (sIn (zap (sRun π H 1 σ)) 2) 0 (π 0 3).toNat - sNum (sIn σ 2) 0 (π 0 3).toNat)))), some (.int (iZ (-(sSum (σ 10) 0 (π 0 1).toNat) + sSum ((zap (sRun π H 1 σ)) 10) 0 (π 0 1).toNat))), some (.int (iZ ((((π 0 1).toNat : Nat) : Int))))] [] (zG E e W) F) : zk_Go l Γ mL_law d kc ks Q 1341 [some (.ref 56), none, some (.ref 424), some (.ref 320), some (.int (iZ (π 0 0))), some (.int (iZ (π 0 1))), some (.int (iZ (π 0 3))), some (.int (iZ ((tm : Int)))), some (.int x), some (.int (iZ (σ 0 1))), some (.ref r), some (.ref (r + 1)), some (.ref (r + 2)), some (.int (iZ (sSum (σ 8) 0 (π 0 3).toNat))), some (.int (iZ (sSum (σ 5) 0 (π 0 3).toNat))), some (.int (iZ (sSum (σ 10) 0 (π 0 1).toNat))), some (.int (iZ (sNum (fun w => decide (0 ≤ sFind (fun m => decide (σ 7 m = (w : Int))) 0 (π 0 3).toNat)) 0 (π 0 1).toNat))), some (.long (lZ (sDig π σ t o))), none, some (.ref q), some (.int (iZ ((m : Int)))), some (.int (iZ (un))), some (.int (iZ (z1))), some (.int (iZ (z2))), some (.int (iZ (σ 0 13))), some (.int (iZ ((sNum (sIn (zap (sRun π H 1 σ)) 2) 0 (π 0 3).toNat - sNum (sIn σ 2) 0 (π 0 3).toNat)))), some (.int (iZ (-(sSum (σ 10) 0 (π 0 1).toNat) + sSum ((zap (sRun π H 1 σ)) 10) 0 (π 0 1).toNat))), some (.int (iZ ((((π 0 1).toNat : Nat) : Int))))] [] (zG E e W) F := by
  have hJ2 := hJ
  obtain ⟨hE, hE0, hz, hSt, hS, hh, hH, hO⟩ := hJ2
  have hw : wP π := hSt.2.2.2.2.1
  have hc : wC π (zap (sRun π H 1 σ)) N := hSt.2.2.2.2.2.1
  have n0 := wP_n hw
  have t1 : (zap (sRun π H 1 σ)) 0 1 = σ 0 1 + 1 := sRun_t π H 1 σ
  have nb1 := sNum_bd (sIn (zap (sRun π H 1 σ)) 2) (π 0 3).toNat 0
  have nb2 := sNum_bd (sIn σ 2) (π 0 3).toNat 0
  have t0 := wC_n hc
  have mc := min_cnt (H := H) hc0 hw
  have t9 := wC_n hc0
  have s8 := sSum_bd (f := σ 8) (M := 80000) (π 0 3).toNat 0 (fun j _ h2 => by have m := wC_m hc0 (k := j) (by omega); unfold wM at m; omega)
  have s8' := sSum_bd (f := (zap (sRun π H 1 σ)) 8) (M := 80000) (π 0 3).toNat 0 (fun j _ h2 => by have m := wC_m hc (k := j) (by omega); unfold wM at m; omega)
  have s10 := sSum_bd (f := σ 10) (M := 80000) (π 0 1).toNat 0 (fun j _ h2 => by have m := wC_w hc0 (w := j) (by omega); omega)
  have s10' := sSum_bd (f := (zap (sRun π H 1 σ)) 10) (M := 80000) (π 0 1).toNat 0 (fun j _ h2 => by have m := wC_w hc (w := j) (by omega); omega)
  have c1 := sNum_bd (sIn σ 1) (π 0 3).toNat 0
  have d8 : sSum (σ 8) 0 (π 0 3).toNat ≤ 640000 := by omega
  have d8' : sSum ((zap (sRun π H 1 σ)) 8) 0 (π 0 3).toNat ≤ 640000 := by omega
  have d10 : sSum (σ 10) 0 (π 0 1).toNat ≤ 960000 := by omega
  have d10' : sSum ((zap (sRun π H 1 σ)) 10) 0 (π 0 1).toNat ≤ 960000 := by omega
  refine gz_iload dL_law_1341 rfl ?_
  refine gz_aload_n dL_law_1343 rfl ?_
  refine zz_bipush (x := 11) dL_law_1344 rfl ?_
  refine gJ_count (v := sSum ((zap (sRun π H 1 σ)) 8) 0 (π 0 3).toNat) dL_law_1346 wm_HeliographsLaw_187 hJ h56 (by omega) rfl (Nat.le_of_ble_eq_true rfl) (by omega) ?_
  refine zz_iadd dL_law_1349 ?_
  refine gz_iload dL_law_1350 rfl ?_
  refine zz_isub dL_law_1352 ?_
  refine gz_aload dL_law_1353 rfl ?_
  refine zz_iconst dL_law_1355 ?_
  refine gw_iald (a := r) (q := 1) (len := 3) (v := sNum (sIn σ 1) 0 (π 0 3).toNat) dL_law_1356 a0 (by omega) rfl (by omega) (hT.1 1 (by omega)) ?_
  refine zz_icmp_ne (tgt := 1385) dL_law_1357 rfl (by omega) (fun b1357 => ?_) (fun b1357 => ?_)
  · exact absurd b1357 (by omega)
  refine gz_aload_n dL_law_1360 rfl ?_
  refine zz_bipush (x := 12) dL_law_1361 rfl ?_
  refine gJ_count (v := (zap (sRun π H 1 σ)) 0 13) dL_law_1363 wm_HeliographsLaw_187 hJ h56 (by omega) rfl (Nat.le_of_ble_eq_true rfl) (by omega) ?_
  refine gz_iload dL_law_1366 rfl ?_
  refine zz_icmp_lt (tgt := 1385) dL_law_1368 rfl (by omega) (fun b1368 => ?_) (fun b1368 => ?_)
  · exact absurd b1368 (by omega)
  refine gz_aload_n dL_law_1371 rfl ?_
  refine zz_bipush (x := 12) dL_law_1372 rfl ?_
  refine gJ_count (v := (zap (sRun π H 1 σ)) 0 13) dL_law_1374 wm_HeliographsLaw_187 hJ h56 (by omega) rfl (Nat.le_of_ble_eq_true rfl) (by omega) ?_
  refine gz_iload dL_law_1377 rfl ?_
  refine zz_isub dL_law_1379 ?_
  refine gz_iload dL_law_1380 rfl ?_
  refine zz_icmp_le (tgt := 1387) dL_law_1382 rfl (by omega) (fun b1382 => ?_) (fun b1382 => ?_)
  rotate_left
  · exact absurd b1382 (by omega)
  refine zz_iinc (L2 := [some (.ref 56), none, some (.ref 424), some (.ref 320), some (.int (iZ (π 0 0))), some (.int (iZ (π 0 1))), some (.int (iZ (π 0 3))), some (.int (iZ (((tm + 1 : Nat) : Int)))), some (.int x), some (.int (iZ (σ 0 1))), some (.ref r), some (.ref (r + 1)), some (.ref (r + 2)), some (.int (iZ (sSum (σ 8) 0 (π 0 3).toNat))), some (.int (iZ (sSum (σ 5) 0 (π 0 3).toNat))), some (.int (iZ (sSum (σ 10) 0 (π 0 1).toNat))), some (.int (iZ (sNum (fun w => decide (0 ≤ sFind (fun m => decide (σ 7 m = (w : Int))) 0 (π 0 3).toNat)) 0 (π 0 1).toNat))), some (.long (lZ (sDig π σ t o))), none, some (.ref q), some (.int (iZ ((m : Int)))), some (.int (iZ (un))), some (.int (iZ (z1))), some (.int (iZ (z2))), some (.int (iZ (σ 0 13))), some (.int (iZ ((sNum (sIn (zap (sRun π H 1 σ)) 2) 0 (π 0 3).toNat - sNum (sIn σ 2) 0 (π 0 3).toNat)))), some (.int (iZ (-(sSum (σ 10) 0 (π 0 1).toNat) + sSum ((zap (sRun π H 1 σ)) 10) 0 (π 0 1).toNat))), some (.int (iZ ((((π 0 1).toNat : Nat) : Int))))]) dL_law_1387 rfl (by rw [show ((tm + 1 : Nat) : Int) = (tm : Int) + 1 by omega]; rfl) ?_
  refine gz_goto (tgt := 59) dL_law_1390 rfl ?_
  exact kk
end

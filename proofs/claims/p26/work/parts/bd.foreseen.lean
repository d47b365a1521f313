/-! THE LAW ASKS WHAT WOULD COME -/
section
variable {l : Launch} {Γ : zk_G} {d : Nat} {F : Heap → Prop}
theorem lg_self (x : Int64) : lg_cmp x x = iZ 0 := by
  unfold lg_cmp
  rw [if_neg (Int64.lt_irrefl), if_pos rfl]
  rfl
def thn (W : zV) (q : Nat) (π : zV) (τ : zV) (i : Nat) : Prop := ∀ y : Nat, 8 ≤ y → y < i → W q y = sTally π τ (y : Int)
theorem zl_then {E : Nat → Nat × Nat} {e : Nat} {c : Nat → Nat} {π σ : zV} {p : Nat} {H : zV → Nat → Bool} {t o N : Int} {kc ks : Nat} {Q : Option Value → zk_M → (Heap → Prop) → Prop} {tm r q : Nat} {x : Int32} {W0 : zV} (h56 : Γ.2.2.2.1 56 < Γ.2.1.size) (hq : 480 ≤ q) (aq : E q = (100, 13)) (hN : N ≤ 80000) (hd : 20 ≤ d) (kk : ∀ (W1 : zV) (J0 J1 J2 J3 J4 J5 J6 : Option Value), lJ E e c W1 p H π σ t o N → (∀ a j, (a = 56 ∨ 424 ≤ a) → a ≠ q → W1 a j = W0 a j) → thn W1 q π (zap (sRun π H 1 σ)) 13 → zk_Go l Γ mL_law d kc ks Q 1069 [some (.ref 56), none, some (.ref 424), some (.ref 320), some (.int (iZ (π 0 0))), some (.int (iZ (π 0 1))), some (.int (iZ (π 0 3))), some (.int (iZ ((tm : Int)))), some (.int x), some (.int (iZ (σ 0 1))), some (.ref r), some (.ref (r + 1)), some (.ref (r + 2)), some (.int (iZ (sSum (σ 8) 0 (π 0 3).toNat))), some (.int (iZ (sSum (σ 5) 0 (π 0 3).toNat))), some (.int (iZ (sSum (σ 10) 0 (π 0 1).toNat))), some (.int (iZ (sNum (fun w => decide (0 ≤ sFind (fun m => decide (σ 7 m = (w : Int))) 0 (π 0 3).toNat)) 0 (π 0 1).toNat))), some (.long (lZ (sDig π σ t o))), none, some (.ref q), some (.int (iZ (((13 : Nat) : Int)))), J0, J1, J2, J3, J4, J5, J6] [] (zG E e W1) F) : ∀ (n i : Nat) (W : zV) (J0 J1 J2 J3 J4 J5 J6 : Option Value), i + n = 13 → 8 ≤ i → lJ E e c W p H π σ t o N → (∀ a j, (a = 56 ∨ 424 ≤ a) → a ≠ q → W a j = W0 a j) → thn W q π (zap (sRun π H 1 σ)) i → zk_Go l Γ mL_law d kc ks Q 1044 [some (.ref 56), none, some (.ref 424), some (.ref 320), some (.int (iZ (π 0 0))), some (.int (iZ (π 0 1))), some (.int (iZ (π 0 3))), some (.int (iZ ((tm : Int)))), some (.int x), some (.int (iZ (σ 0 1))), some (.ref r), some (.ref (r + 1)), some (.ref (r + 2)), some (.int (iZ (sSum (σ 8) 0 (π 0 3).toNat))), some (.int (iZ (sSum (σ 5) 0 (π 0 3).toNat))), some (.int (iZ (sSum (σ 10) 0 (π 0 1).toNat))), some (.int (iZ (sNum (fun w => decide (0 ≤ sFind (fun m => decide (σ 7 m = (w : Int))) 0 (π 0 3).toNat)) 0 (π 0 1).toNat))), some (.long (lZ (sDig π σ t o))), none, some (.ref q), some (.int (iZ ((i : Int)))), J0, J1, J2, J3, J4, J5, J6] [] (zG E e W) F
  | 0, i, W, J0, J1, J2, J3, J4, J5, J6, hi, h8, hJ, hF, hT => by
    have e : i = 13 := by omega
    subst e
    refine gz_iload dL_law_1044 rfl ?_
    refine zz_bipush (x := 13) dL_law_1046 rfl ?_
    refine zz_icmp_ge (tgt := 1069) dL_law_1048 rfl (by omega) (fun b => ?_) (fun b => absurd b (by omega))
    exact kk W J0 J1 J2 J3 J4 J5 J6 hJ hF hT
  | n + 1, i, W, J0, J1, J2, J3, J4, J5, J6, hi, h8, hJ, hF, hT => by
    refine gz_iload dL_law_1044 rfl ?_
    refine zz_bipush (x := 13) dL_law_1046 rfl ?_
    refine zz_icmp_ge (tgt := 1069) dL_law_1048 rfl (by omega) (fun b => absurd b (by omega)) (fun b => ?_)
    refine gz_aload dL_law_1051 rfl ?_
    refine gz_iload dL_law_1053 rfl ?_
    refine gz_aload_n dL_law_1055 rfl ?_
    refine zz_iconst dL_law_1056 ?_
    refine gz_iload dL_law_1057 rfl ?_
    refine gJ_foresee (n := 1) dL_law_1059 wm_HeliographsLaw_226 hJ h56 (by omega) (by omega) (by omega) (Nat.le_of_ble_eq_true rfl) (by omega) (fun W1 hJ1 k1 => ?_)
    refine gw_iast (a := q) (q := i) (len := 13) dL_law_1062 aq (by omega) rfl (by omega) ?_
    have hJ2 := lJ_put hJ1 (a := q) (j := i) (by omega) (sTally π (zap (sRun π H 1 σ)) (i : Int))
    refine zz_iinc (L2 := [some (.ref 56), none, some (.ref 424), some (.ref 320), some (.int (iZ (π 0 0))), some (.int (iZ (π 0 1))), some (.int (iZ (π 0 3))), some (.int (iZ ((tm : Int)))), some (.int x), some (.int (iZ (σ 0 1))), some (.ref r), some (.ref (r + 1)), some (.ref (r + 2)), some (.int (iZ (sSum (σ 8) 0 (π 0 3).toNat))), some (.int (iZ (sSum (σ 5) 0 (π 0 3).toNat))), some (.int (iZ (sSum (σ 10) 0 (π 0 1).toNat))), some (.int (iZ (sNum (fun w => decide (0 ≤ sFind (fun m => decide (σ 7 m = (w : Int))) 0 (π 0 3).toNat)) 0 (π 0 1).toNat))), some (.long (lZ (sDig π σ t o))), none, some (.ref q), some (.int (iZ (((i + 1 : Nat) : Int)))), J0, J1, J2, J3, J4, J5, J6]) dL_law_1063 rfl (by rw [show ((i + 1 : Nat) : Int) = (i : Int) + 1 by omega]; rfl) ?_
    refine gz_goto (tgt := 1044) dL_law_1066 rfl ?_
    refine zl_then h56 hq aq hN hd kk n (i + 1) _ J0 J1 J2 J3 J4 J5 J6 (by omega) (by omega) hJ2 (fun a j h1 h2 => (zb_u_no _ _ (by omega)).trans ((k1 a j h1).trans (hF a j h1 h2))) (fun y h1 h2 => ?_)
    by_cases e : y = i
    · rw [e, zb_u_at]
    · rw [zb_u_no _ _ (by omega), k1 q y (Or.inr (by omega))]
      exact hT y h1 (by omega)
theorem zl_dig {E : Nat → Nat × Nat} {e : Nat} {c : Nat → Nat} {π σ : zV} {p : Nat} {H : zV → Nat → Bool} {t o N : Int} {kc ks : Nat} {Q : Option Value → zk_M → (Heap → Prop) → Prop} {tm r : Nat} {x : Int32} {W : zV} {J0 J1 J2 J3 J4 J5 J6 J7 J8 J9 J10 : Option Value} (hJ : lJ E e c W p H π σ t o N) (h56 : Γ.2.2.2.1 56 < Γ.2.1.size) (ht : 0 ≤ t ∧ t ≤ 2000) (ho : 0 ≤ o ∧ o ≤ 12) (hd : 20 ≤ d) (kk : zk_Go l Γ mL_law d kc ks Q 1044 [some (.ref 56), none, some (.ref 424), some (.ref 320), some (.int (iZ (π 0 0))), some (.int (iZ (π 0 1))), some (.int (iZ (π 0 3))), some (.int (iZ ((tm : Int)))), some (.int x), some (.int (iZ (σ 0 1))), some (.ref r), some (.ref (r + 1)), some (.ref (r + 2)), some (.int (iZ (sSum (σ 8) 0 (π 0 3).toNat))), some (.int (iZ (sSum (σ 5) 0 (π 0 3).toNat))), some (.int (iZ (sSum (σ 10) 0 (π 0 1).toNat))), some (.int (iZ (sNum (fun w => decide (0 ≤ sFind (fun m => decide (σ 7 m = (w : Int))) 0 (π 0 3).toNat)) 0 (π 0 1).toNat))), some (.long (lZ (sDig π σ t o))), none, some (.ref e), some (.int (iZ (8))), J4, J5, J6, J7, J8, J9, J10] [] (zG (zG_N E e 13) (e + 1) (zG_W e W)) F) : zk_Go l Γ mL_law d (kc + 1) (ks + 13) Q 1028 [some (.ref 56), none, some (.ref 424), some (.ref 320), some (.int (iZ (π 0 0))), some (.int (iZ (π 0 1))), some (.int (iZ (π 0 3))), some (.int (iZ ((tm : Int)))), some (.int x), some (.int (iZ (σ 0 1))), some (.ref r), some (.ref (r + 1)), some (.ref (r + 2)), some (.int (iZ (sSum (σ 8) 0 (π 0 3).toNat))), some (.int (iZ (sSum (σ 5) 0 (π 0 3).toNat))), some (.int (iZ (sSum (σ 10) 0 (π 0 1).toNat))), some (.int (iZ (sNum (fun w => decide (0 ≤ sFind (fun m => decide (σ 7 m = (w : Int))) 0 (π 0 3).toNat)) 0 (π 0 1).toNat))), J0, J1, J2, J3, J4, J5, J6, J7, J8, J9, J10] [] (zG E e W) F := by
  have h48 := hJ.1.2.2.2.1
  refine gz_aload_n dL_law_1028 rfl ?_
  refine gJ_digest dL_law_1029 wm_HeliographsLaw_222 hJ h56 ht ho (Nat.le_of_ble_eq_true rfl) (by omega) ?_
  refine gz_lstore (L2 := [some (.ref 56), none, some (.ref 424), some (.ref 320), some (.int (iZ (π 0 0))), some (.int (iZ (π 0 1))), some (.int (iZ (π 0 3))), some (.int (iZ ((tm : Int)))), some (.int x), some (.int (iZ (σ 0 1))), some (.ref r), some (.ref (r + 1)), some (.ref (r + 2)), some (.int (iZ (sSum (σ 8) 0 (π 0 3).toNat))), some (.int (iZ (sSum (σ 5) 0 (π 0 3).toNat))), some (.int (iZ (sSum (σ 10) 0 (π 0 1).toNat))), some (.int (iZ (sNum (fun w => decide (0 ≤ sFind (fun m => decide (σ 7 m = (w : Int))) 0 (π 0 3).toNat)) 0 (π 0 1).toNat))), some (.long (lZ (sDig π σ t o))), none, J2, J3, J4, J5, J6, J7, J8, J9, J10]) dL_law_1032 (Nat.le_of_ble_eq_true rfl) rfl ?_
  refine zz_bipush (x := 13) dL_law_1034 rfl ?_
  refine gg_newa h48 (len := 13) dL_law_1036 rfl (by omega) ⟨by omega, by omega⟩ ?_
  refine gz_astore (L2 := [some (.ref 56), none, some (.ref 424), some (.ref 320), some (.int (iZ (π 0 0))), some (.int (iZ (π 0 1))), some (.int (iZ (π 0 3))), some (.int (iZ ((tm : Int)))), some (.int x), some (.int (iZ (σ 0 1))), some (.ref r), some (.ref (r + 1)), some (.ref (r + 2)), some (.int (iZ (sSum (σ 8) 0 (π 0 3).toNat))), some (.int (iZ (sSum (σ 5) 0 (π 0 3).toNat))), some (.int (iZ (sSum (σ 10) 0 (π 0 1).toNat))), some (.int (iZ (sNum (fun w => decide (0 ≤ sFind (fun m => decide (σ 7 m = (w : Int))) 0 (π 0 3).toNat)) 0 (π 0 1).toNat))), some (.long (lZ (sDig π σ t o))), none, some (.ref e), J3, J4, J5, J6, J7, J8, J9, J10]) dL_law_1038 (Nat.le_of_ble_eq_true rfl) rfl ?_
  refine zz_bipush (x := 8) dL_law_1040 rfl ?_
  refine gz_istore (L2 := [some (.ref 56), none, some (.ref 424), some (.ref 320), some (.int (iZ (π 0 0))), some (.int (iZ (π 0 1))), some (.int (iZ (π 0 3))), some (.int (iZ ((tm : Int)))), some (.int x), some (.int (iZ (σ 0 1))), some (.ref r), some (.ref (r + 1)), some (.ref (r + 2)), some (.int (iZ (sSum (σ 8) 0 (π 0 3).toNat))), some (.int (iZ (sSum (σ 5) 0 (π 0 3).toNat))), some (.int (iZ (sSum (σ 10) 0 (π 0 1).toNat))), some (.int (iZ (sNum (fun w => decide (0 ≤ sFind (fun m => decide (σ 7 m = (w : Int))) 0 (π 0 3).toNat)) 0 (π 0 1).toNat))), some (.long (lZ (sDig π σ t o))), none, some (.ref e), some (.int (iZ (8))), J4, J5, J6, J7, J8, J9, J10]) dL_law_1042 (Nat.le_of_ble_eq_true rfl) rfl ?_
  exact kk.le (by omega) (by omega)
theorem zl_asks_t {E : Nat → Nat × Nat} {e : Nat} {c : Nat → Nat} {π σ : zV} {p : Nat} {H : zV → Nat → Bool} {t o N : Int} {kc ks : Nat} {Q : Option Value → zk_M → (Heap → Prop) → Prop} {tm r q : Nat} {x : Int32} {W : zV} {m g1 g2 : Nat} {un : Int} {J0 J1 J2 J3 J4 J5 J6 : Option Value} (hJ : lJ E e c W p H π σ t o N) (h56 : Γ.2.2.2.1 56 < Γ.2.1.size) (ht : 0 ≤ t ∧ t ≤ 2000) (ho : 0 ≤ o ∧ o ≤ 12) (hm : lB (sh x 5) (π 0 3) = (m : Int)) (hm1 : (m : Int) < π 0 3) (hn1 : (g1 : Int) = 1 + lB (sh x 4) 20) (hn2 : (g2 : Int) = 1 + lB (sh x 6) 20) (hun : sUnt π H m 361 0 σ = un) (u0 : un = 0) (hN : N ≤ 80000) (h1 : 1 ≤ π 0 1) (hd : 20 ≤ d)
    (kk : ∀ (W1 : zV) (z1 z2 : Int), lJ E e c W1 p H π σ t o N → (∀ a j, (a = 56 ∨ 424 ≤ a) → W1 a j = W a j) → zk_Go l Γ mL_law d kc ks Q 1203 [some (.ref 56), none, some (.ref 424), some (.ref 320), some (.int (iZ (π 0 0))), some (.int (iZ (π 0 1))), some (.int (iZ (π 0 3))), some (.int (iZ ((tm : Int)))), some (.int x), some (.int (iZ (σ 0 1))), some (.ref r), some (.ref (r + 1)), some (.ref (r + 2)), some (.int (iZ (sSum (σ 8) 0 (π 0 3).toNat))), some (.int (iZ (sSum (σ 5) 0 (π 0 3).toNat))), some (.int (iZ (sSum (σ 10) 0 (π 0 1).toNat))), some (.int (iZ (sNum (fun w => decide (0 ≤ sFind (fun m => decide (σ 7 m = (w : Int))) 0 (π 0 3).toNat)) 0 (π 0 1).toNat))), some (.long (lZ (sDig π σ t o))), none, some (.ref q), some (.int (iZ ((m : Int)))), some (.int (iZ (un))), some (.int (iZ (z1))), some (.int (iZ (z2))), J3, J4, J5, J6] [] (zG E e W1) F) : zk_Go l Γ mL_law d kc ks Q 1069 [some (.ref 56), none, some (.ref 424), some (.ref 320), some (.int (iZ (π 0 0))), some (.int (iZ (π 0 1))), some (.int (iZ (π 0 3))), some (.int (iZ ((tm : Int)))), some (.int x), some (.int (iZ (σ 0 1))), some (.ref r), some (.ref (r + 1)), some (.ref (r + 2)), some (.int (iZ (sSum (σ 8) 0 (π 0 3).toNat))), some (.int (iZ (sSum (σ 5) 0 (π 0 3).toNat))), some (.int (iZ (sSum (σ 10) 0 (π 0 1).toNat))), some (.int (iZ (sNum (fun w => decide (0 ≤ sFind (fun m => decide (σ 7 m = (w : Int))) 0 (π 0 3).toNat)) 0 (π 0 1).toNat))), some (.long (lZ (sDig π σ t o))), none, some (.ref q), some (.int (iZ (((13 : Nat) : Int)))), J0, J1, J2, J3, J4, J5, J6] [] (zG E e W) F := by
  have hJ2 := hJ
  obtain ⟨hE, hE0, hz, hSt, hS, hh, hH, hO⟩ := hJ2
  have n1 := hS.1
  have hw : wP π := hSt.2.2.2.2.1
  have hc : wC π σ N := hSt.2.2.2.2.2.1
  have n0 := wP_n hw
  have t0 := wC_n hc
  have lb4 := lB_bd (sh x 4) (n := 20) (by omega)
  have lb6 := lB_bd (sh x 6) (n := 20) (by omega)
  have ub := unt_0 (π := π) (σ := σ) (H := H) (x := m)
  rw [hun] at ub
  have m1 := wC_m hc hm1
  unfold wM at m1
  refine gz_iload dL_law_1069 rfl ?_
  refine zz_iconst dL_law_1071 ?_
  refine gz_ishr dL_law_1072 ?_
  refine gz_iload dL_law_1073 rfl ?_
  refine gw_below (v := (sh x 5)) dL_law_1075 wm_HeliographsLaw_83 (by omega) (Nat.le_of_ble_eq_true rfl) (by omega) ?_
  rw [hm]
  refine gz_istore (L2 := [some (.ref 56), none, some (.ref 424), some (.ref 320), some (.int (iZ (π 0 0))), some (.int (iZ (π 0 1))), some (.int (iZ (π 0 3))), some (.int (iZ ((tm : Int)))), some (.int x), some (.int (iZ (σ 0 1))), some (.ref r), some (.ref (r + 1)), some (.ref (r + 2)), some (.int (iZ (sSum (σ 8) 0 (π 0 3).toNat))), some (.int (iZ (sSum (σ 5) 0 (π 0 3).toNat))), some (.int (iZ (sSum (σ 10) 0 (π 0 1).toNat))), some (.int (iZ (sNum (fun w => decide (0 ≤ sFind (fun m => decide (σ 7 m = (w : Int))) 0 (π 0 3).toNat)) 0 (π 0 1).toNat))), some (.long (lZ (sDig π σ t o))), none, some (.ref q), some (.int (iZ ((m : Int)))), J0, J1, J2, J3, J4, J5, J6]) dL_law_1078 (Nat.le_of_ble_eq_true rfl) rfl ?_
  refine gz_aload_n dL_law_1080 rfl ?_
  refine gz_iload dL_law_1081 rfl ?_
  refine gJ_until (m := m) dL_law_1083 wm_HeliographsLaw_229 hJ h56 (by omega) (by omega) (Nat.le_of_ble_eq_true rfl) (by omega) (fun W1083 J1083 k1083 => ?_)
  rw [hun]
  refine gz_istore (L2 := [some (.ref 56), none, some (.ref 424), some (.ref 320), some (.int (iZ (π 0 0))), some (.int (iZ (π 0 1))), some (.int (iZ (π 0 3))), some (.int (iZ ((tm : Int)))), some (.int x), some (.int (iZ (σ 0 1))), some (.ref r), some (.ref (r + 1)), some (.ref (r + 2)), some (.int (iZ (sSum (σ 8) 0 (π 0 3).toNat))), some (.int (iZ (sSum (σ 5) 0 (π 0 3).toNat))), some (.int (iZ (sSum (σ 10) 0 (π 0 1).toNat))), some (.int (iZ (sNum (fun w => decide (0 ≤ sFind (fun m => decide (σ 7 m = (w : Int))) 0 (π 0 3).toNat)) 0 (π 0 1).toNat))), some (.long (lZ (sDig π σ t o))), none, some (.ref q), some (.int (iZ ((m : Int)))), some (.int (iZ (un))), J1, J2, J3, J4, J5, J6]) dL_law_1086 (Nat.le_of_ble_eq_true rfl) rfl ?_
  refine gz_aload_n dL_law_1088 rfl ?_
  refine zz_iconst dL_law_1089 ?_
  refine gz_iload dL_law_1090 rfl ?_
  refine zz_iconst dL_law_1092 ?_
  refine gz_ishr dL_law_1093 ?_
  refine zz_bipush (x := 20) dL_law_1094 rfl ?_
  refine gw_below (v := (sh x 4)) dL_law_1096 wm_HeliographsLaw_83 (by omega) (Nat.le_of_ble_eq_true rfl) (by omega) ?_
  refine zz_iadd dL_law_1099 ?_
  rw [← hn1]
  refine gJ_missed (n := g1) dL_law_1100 wm_HeliographsLaw_232 J1083 h56 (by omega) (by omega) (by omega) (Nat.le_of_ble_eq_true rfl) (by omega) (fun z1 W1100 hz1100 J1100 k1100 => ?_)
  refine gz_istore (L2 := [some (.ref 56), none, some (.ref 424), some (.ref 320), some (.int (iZ (π 0 0))), some (.int (iZ (π 0 1))), some (.int (iZ (π 0 3))), some (.int (iZ ((tm : Int)))), some (.int x), some (.int (iZ (σ 0 1))), some (.ref r), some (.ref (r + 1)), some (.ref (r + 2)), some (.int (iZ (sSum (σ 8) 0 (π 0 3).toNat))), some (.int (iZ (sSum (σ 5) 0 (π 0 3).toNat))), some (.int (iZ (sSum (σ 10) 0 (π 0 1).toNat))), some (.int (iZ (sNum (fun w => decide (0 ≤ sFind (fun m => decide (σ 7 m = (w : Int))) 0 (π 0 3).toNat)) 0 (π 0 1).toNat))), some (.long (lZ (sDig π σ t o))), none, some (.ref q), some (.int (iZ ((m : Int)))), some (.int (iZ (un))), some (.int (iZ (z1))), J2, J3, J4, J5, J6]) dL_law_1103 (Nat.le_of_ble_eq_true rfl) rfl ?_
  refine gz_aload_n dL_law_1105 rfl ?_
  refine zz_iconst dL_law_1106 ?_
  refine gz_iload dL_law_1107 rfl ?_
  refine zz_bipush (x := 6) dL_law_1109 rfl ?_
  refine gz_ishr dL_law_1111 ?_
  refine zz_bipush (x := 20) dL_law_1112 rfl ?_
  refine gw_below (v := (sh x 6)) dL_law_1114 wm_HeliographsLaw_83 (by omega) (Nat.le_of_ble_eq_true rfl) (by omega) ?_
  refine zz_iadd dL_law_1117 ?_
  rw [← hn2]
  refine gJ_advise (n := g2) dL_law_1118 wm_HeliographsLaw_235 J1100 h56 (by omega) (by omega) (Nat.le_of_ble_eq_true rfl) (by omega) (fun z2 W1118 hz1118 J1118 k1118 => ?_)
  refine gz_istore (L2 := [some (.ref 56), none, some (.ref 424), some (.ref 320), some (.int (iZ (π 0 0))), some (.int (iZ (π 0 1))), some (.int (iZ (π 0 3))), some (.int (iZ ((tm : Int)))), some (.int x), some (.int (iZ (σ 0 1))), some (.ref r), some (.ref (r + 1)), some (.ref (r + 2)), some (.int (iZ (sSum (σ 8) 0 (π 0 3).toNat))), some (.int (iZ (sSum (σ 5) 0 (π 0 3).toNat))), some (.int (iZ (sSum (σ 10) 0 (π 0 1).toNat))), some (.int (iZ (sNum (fun w => decide (0 ≤ sFind (fun m => decide (σ 7 m = (w : Int))) 0 (π 0 3).toNat)) 0 (π 0 1).toNat))), some (.long (lZ (sDig π σ t o))), none, some (.ref q), some (.int (iZ ((m : Int)))), some (.int (iZ (un))), some (.int (iZ (z1))), some (.int (iZ (z2))), J3, J4, J5, J6]) dL_law_1121 (Nat.le_of_ble_eq_true rfl) rfl ?_
  refine gz_aload_n dL_law_1123 rfl ?_
  refine gJ_digest dL_law_1124 wm_HeliographsLaw_222 J1118 h56 (by omega) (by omega) (Nat.le_of_ble_eq_true rfl) (by omega) ?_
  refine gz_lload dL_law_1127 rfl ?_
  refine gz_lcmp dL_law_1129 ?_
  rw [lg_self]
  refine zz_if_ne (tgt := 1201) dL_law_1130 rfl (by omega) (fun b1130 => ?_) (fun b1130 => ?_)
  · exact absurd rfl b1130
  refine gz_iload dL_law_1133 rfl ?_
  refine zz_if_ne (tgt := 1142) dL_law_1135 rfl (by omega) (fun b1135 => ?_) (fun b1135 => ?_)
  · exact absurd b1135 (by omega)
  refine zz_iconst dL_law_1138 ?_
  refine gz_goto (tgt := 1143) dL_law_1139 rfl ?_
  refine gz_aload_n dL_law_1143 rfl ?_
  refine gz_iload dL_law_1144 rfl ?_
  refine zz_iconst dL_law_1146 ?_
  refine gJ_msg (m := m) (v := σ 4 m) dL_law_1147 wm_HeliographsLaw_193 J1118 h56 (by omega) (by omega) rfl (Nat.le_of_ble_eq_true rfl) (by omega) ?_
  refine zz_iconst dL_law_1150 ?_
  refine zz_icmp_ne (tgt := 1158) dL_law_1151 rfl (by omega) (fun b1151 => ?_) (fun b1151 => ?_)
  · exact absurd b1151 (by omega)
  refine zz_iconst dL_law_1154 ?_
  refine gz_goto (tgt := 1159) dL_law_1155 rfl ?_
  refine zz_icmp_ne (tgt := 1201) dL_law_1159 rfl (by omega) (fun b1159 => ?_) (fun b1159 => ?_)
  · exact absurd b1159 (by omega)
  refine gz_iload dL_law_1162 rfl ?_
  refine zz_iconst dL_law_1164 ?_
  refine zz_icmp_lt (tgt := 1201) dL_law_1165 rfl (by omega) (fun b1165 => ?_) (fun b1165 => ?_)
  · exact absurd b1165 (by omega)
  refine gz_iload dL_law_1168 rfl ?_
  refine zz_sipush (x := 360) dL_law_1170 rfl ?_
  refine zz_icmp_gt (tgt := 1201) dL_law_1173 rfl (by omega) (fun b1173 => ?_) (fun b1173 => ?_)
  · exact absurd b1173 (by omega)
  refine gz_iload dL_law_1176 rfl ?_
  refine zz_if_lt (tgt := 1201) dL_law_1178 rfl (by omega) (fun b1178 => ?_) (fun b1178 => ?_)
  · exact absurd b1178 (by omega)
  refine gz_iload dL_law_1181 rfl ?_
  refine gz_iload dL_law_1183 rfl ?_
  refine zz_icmp_ge (tgt := 1201) dL_law_1185 rfl (by omega) (fun b1185 => ?_) (fun b1185 => ?_)
  · exact absurd b1185 (by omega)
  refine gz_iload dL_law_1188 rfl ?_
  refine zz_iconst dL_law_1190 ?_
  refine zz_icmp_lt (tgt := 1201) dL_law_1191 rfl (by omega) (fun b1191 => ?_) (fun b1191 => ?_)
  · exact absurd b1191 (by omega)
  refine gz_iload dL_law_1194 rfl ?_
  refine gz_iload dL_law_1196 rfl ?_
  refine zz_icmp_lt (tgt := 1203) dL_law_1198 rfl (by omega) (fun b1198 => ?_) (fun b1198 => ?_)
  rotate_left
  · exact absurd b1198 (by omega)
  refine kk _ z1 z2 J1118 (fun a j h1 => (k1118 a j h1).trans ((k1100 a j h1).trans (k1083 a j h1)))
theorem zl_asks_f {E : Nat → Nat × Nat} {e : Nat} {c : Nat → Nat} {π σ : zV} {p : Nat} {H : zV → Nat → Bool} {t o N : Int} {kc ks : Nat} {Q : Option Value → zk_M → (Heap → Prop) → Prop} {tm r q : Nat} {x : Int32} {W : zV} {m g1 g2 : Nat} {un : Int} {J0 J1 J2 J3 J4 J5 J6 : Option Value} (hJ : lJ E e c W p H π σ t o N) (h56 : Γ.2.2.2.1 56 < Γ.2.1.size) (ht : 0 ≤ t ∧ t ≤ 2000) (ho : 0 ≤ o ∧ o ≤ 12) (hm : lB (sh x 5) (π 0 3) = (m : Int)) (hm1 : (m : Int) < π 0 3) (hn1 : (g1 : Int) = 1 + lB (sh x 4) 20) (hn2 : (g2 : Int) = 1 + lB (sh x 6) 20) (hun : sUnt π H m 361 0 σ = un) (u0 : un ≠ 0) (hN : N ≤ 80000) (h1 : 1 ≤ π 0 1) (hd : 20 ≤ d)
    (kk : ∀ (W1 : zV) (z1 z2 : Int), lJ E e c W1 p H π σ t o N → (∀ a j, (a = 56 ∨ 424 ≤ a) → W1 a j = W a j) → zk_Go l Γ mL_law d kc ks Q 1203 [some (.ref 56), none, some (.ref 424), some (.ref 320), some (.int (iZ (π 0 0))), some (.int (iZ (π 0 1))), some (.int (iZ (π 0 3))), some (.int (iZ ((tm : Int)))), some (.int x), some (.int (iZ (σ 0 1))), some (.ref r), some (.ref (r + 1)), some (.ref (r + 2)), some (.int (iZ (sSum (σ 8) 0 (π 0 3).toNat))), some (.int (iZ (sSum (σ 5) 0 (π 0 3).toNat))), some (.int (iZ (sSum (σ 10) 0 (π 0 1).toNat))), some (.int (iZ (sNum (fun w => decide (0 ≤ sFind (fun m => decide (σ 7 m = (w : Int))) 0 (π 0 3).toNat)) 0 (π 0 1).toNat))), some (.long (lZ (sDig π σ t o))), none, some (.ref q), some (.int (iZ ((m : Int)))), some (.int (iZ (un))), some (.int (iZ (z1))), some (.int (iZ (z2))), J3, J4, J5, J6] [] (zG E e W1) F) : zk_Go l Γ mL_law d kc ks Q 1069 [some (.ref 56), none, some (.ref 424), some (.ref 320), some (.int (iZ (π 0 0))), some (.int (iZ (π 0 1))), some (.int (iZ (π 0 3))), some (.int (iZ ((tm : Int)))), some (.int x), some (.int (iZ (σ 0 1))), some (.ref r), some (.ref (r + 1)), some (.ref (r + 2)), some (.int (iZ (sSum (σ 8) 0 (π 0 3).toNat))), some (.int (iZ (sSum (σ 5) 0 (π 0 3).toNat))), some (.int (iZ (sSum (σ 10) 0 (π 0 1).toNat))), some (.int (iZ (sNum (fun w => decide (0 ≤ sFind (fun m => decide (σ 7 m = (w : Int))) 0 (π 0 3).toNat)) 0 (π 0 1).toNat))), some (.long (lZ (sDig π σ t o))), none, some (.ref q), some (.int (iZ (((13 : Nat) : Int)))), J0, J1, J2, J3, J4, J5, J6] [] (zG E e W) F := by
  have hJ2 := hJ
  obtain ⟨hE, hE0, hz, hSt, hS, hh, hH, hO⟩ := hJ2
  have n1 := hS.1
  have hw : wP π := hSt.2.2.2.2.1
  have hc : wC π σ N := hSt.2.2.2.2.2.1
  have n0 := wP_n hw
  have t0 := wC_n hc
  have lb4 := lB_bd (sh x 4) (n := 20) (by omega)
  have lb6 := lB_bd (sh x 6) (n := 20) (by omega)
  have ub := unt_0 (π := π) (σ := σ) (H := H) (x := m)
  rw [hun] at ub
  have m1 := wC_m hc hm1
  unfold wM at m1
  refine gz_iload dL_law_1069 rfl ?_
  refine zz_iconst dL_law_1071 ?_
  refine gz_ishr dL_law_1072 ?_
  refine gz_iload dL_law_1073 rfl ?_
  refine gw_below (v := (sh x 5)) dL_law_1075 wm_HeliographsLaw_83 (by omega) (Nat.le_of_ble_eq_true rfl) (by omega) ?_
  rw [hm]
  refine gz_istore (L2 := [some (.ref 56), none, some (.ref 424), some (.ref 320), some (.int (iZ (π 0 0))), some (.int (iZ (π 0 1))), some (.int (iZ (π 0 3))), some (.int (iZ ((tm : Int)))), some (.int x), some (.int (iZ (σ 0 1))), some (.ref r), some (.ref (r + 1)), some (.ref (r + 2)), some (.int (iZ (sSum (σ 8) 0 (π 0 3).toNat))), some (.int (iZ (sSum (σ 5) 0 (π 0 3).toNat))), some (.int (iZ (sSum (σ 10) 0 (π 0 1).toNat))), some (.int (iZ (sNum (fun w => decide (0 ≤ sFind (fun m => decide (σ 7 m = (w : Int))) 0 (π 0 3).toNat)) 0 (π 0 1).toNat))), some (.long (lZ (sDig π σ t o))), none, some (.ref q), some (.int (iZ ((m : Int)))), J0, J1, J2, J3, J4, J5, J6]) dL_law_1078 (Nat.le_of_ble_eq_true rfl) rfl ?_
  refine gz_aload_n dL_law_1080 rfl ?_
  refine gz_iload dL_law_1081 rfl ?_
  refine gJ_until (m := m) dL_law_1083 wm_HeliographsLaw_229 hJ h56 (by omega) (by omega) (Nat.le_of_ble_eq_true rfl) (by omega) (fun W1083 J1083 k1083 => ?_)
  rw [hun]
  refine gz_istore (L2 := [some (.ref 56), none, some (.ref 424), some (.ref 320), some (.int (iZ (π 0 0))), some (.int (iZ (π 0 1))), some (.int (iZ (π 0 3))), some (.int (iZ ((tm : Int)))), some (.int x), some (.int (iZ (σ 0 1))), some (.ref r), some (.ref (r + 1)), some (.ref (r + 2)), some (.int (iZ (sSum (σ 8) 0 (π 0 3).toNat))), some (.int (iZ (sSum (σ 5) 0 (π 0 3).toNat))), some (.int (iZ (sSum (σ 10) 0 (π 0 1).toNat))), some (.int (iZ (sNum (fun w => decide (0 ≤ sFind (fun m => decide (σ 7 m = (w : Int))) 0 (π 0 3).toNat)) 0 (π 0 1).toNat))), some (.long (lZ (sDig π σ t o))), none, some (.ref q), some (.int (iZ ((m : Int)))), some (.int (iZ (un))), J1, J2, J3, J4, J5, J6]) dL_law_1086 (Nat.le_of_ble_eq_true rfl) rfl ?_
  refine gz_aload_n dL_law_1088 rfl ?_
  refine zz_iconst dL_law_1089 ?_
  refine gz_iload dL_law_1090 rfl ?_
  refine zz_iconst dL_law_1092 ?_
  refine gz_ishr dL_law_1093 ?_
  refine zz_bipush (x := 20) dL_law_1094 rfl ?_
  refine gw_below (v := (sh x 4)) dL_law_1096 wm_HeliographsLaw_83 (by omega) (Nat.le_of_ble_eq_true rfl) (by omega) ?_
  refine zz_iadd dL_law_1099 ?_
  rw [← hn1]
  refine gJ_missed (n := g1) dL_law_1100 wm_HeliographsLaw_232 J1083 h56 (by omega) (by omega) (by omega) (Nat.le_of_ble_eq_true rfl) (by omega) (fun z1 W1100 hz1100 J1100 k1100 => ?_)
  refine gz_istore (L2 := [some (.ref 56), none, some (.ref 424), some (.ref 320), some (.int (iZ (π 0 0))), some (.int (iZ (π 0 1))), some (.int (iZ (π 0 3))), some (.int (iZ ((tm : Int)))), some (.int x), some (.int (iZ (σ 0 1))), some (.ref r), some (.ref (r + 1)), some (.ref (r + 2)), some (.int (iZ (sSum (σ 8) 0 (π 0 3).toNat))), some (.int (iZ (sSum (σ 5) 0 (π 0 3).toNat))), some (.int (iZ (sSum (σ 10) 0 (π 0 1).toNat))), some (.int (iZ (sNum (fun w => decide (0 ≤ sFind (fun m => decide (σ 7 m = (w : Int))) 0 (π 0 3).toNat)) 0 (π 0 1).toNat))), some (.long (lZ (sDig π σ t o))), none, some (.ref q), some (.int (iZ ((m : Int)))), some (.int (iZ (un))), some (.int (iZ (z1))), J2, J3, J4, J5, J6]) dL_law_1103 (Nat.le_of_ble_eq_true rfl) rfl ?_
  refine gz_aload_n dL_law_1105 rfl ?_
  refine zz_iconst dL_law_1106 ?_
  refine gz_iload dL_law_1107 rfl ?_
  refine zz_bipush (x := 6) dL_law_1109 rfl ?_
  refine gz_ishr dL_law_1111 ?_
  refine zz_bipush (x := 20) dL_law_1112 rfl ?_
  refine gw_below (v := (sh x 6)) dL_law_1114 wm_HeliographsLaw_83 (by omega) (Nat.le_of_ble_eq_true rfl) (by omega) ?_
  refine zz_iadd dL_law_1117 ?_
  rw [← hn2]
  refine gJ_advise (n := g2) dL_law_1118 wm_HeliographsLaw_235 J1100 h56 (by omega) (by omega) (Nat.le_of_ble_eq_true rfl) (by omega) (fun z2 W1118 hz1118 J1118 k1118 => ?_)
  refine gz_istore (L2 := [some (.ref 56), none, some (.ref 424), some (.ref 320), some (.int (iZ (π 0 0))), some (.int (iZ (π 0 1))), some (.int (iZ (π 0 3))), some (.int (iZ ((tm : Int)))), some (.int x), some (.int (iZ (σ 0 1))), some (.ref r), some (.ref (r + 1)), some (.ref (r + 2)), some (.int (iZ (sSum (σ 8) 0 (π 0 3).toNat))), some (.int (iZ (sSum (σ 5) 0 (π 0 3).toNat))), some (.int (iZ (sSum (σ 10) 0 (π 0 1).toNat))), some (.int (iZ (sNum (fun w => decide (0 ≤ sFind (fun m => decide (σ 7 m = (w : Int))) 0 (π 0 3).toNat)) 0 (π 0 1).toNat))), some (.long (lZ (sDig π σ t o))), none, some (.ref q), some (.int (iZ ((m : Int)))), some (.int (iZ (un))), some (.int (iZ (z1))), some (.int (iZ (z2))), J3, J4, J5, J6]) dL_law_1121 (Nat.le_of_ble_eq_true rfl) rfl ?_
  refine gz_aload_n dL_law_1123 rfl ?_
  refine gJ_digest dL_law_1124 wm_HeliographsLaw_222 J1118 h56 (by omega) (by omega) (Nat.le_of_ble_eq_true rfl) (by omega) ?_
  refine gz_lload dL_law_1127 rfl ?_
  refine gz_lcmp dL_law_1129 ?_
  rw [lg_self]
  refine zz_if_ne (tgt := 1201) dL_law_1130 rfl (by omega) (fun b1130 => ?_) (fun b1130 => ?_)
  · exact absurd rfl b1130
  refine gz_iload dL_law_1133 rfl ?_
  refine zz_if_ne (tgt := 1142) dL_law_1135 rfl (by omega) (fun b1135 => ?_) (fun b1135 => ?_)
  rotate_left
  · exact absurd b1135 (by omega)
  refine zz_iconst dL_law_1142 ?_
  refine gz_aload_n dL_law_1143 rfl ?_
  refine gz_iload dL_law_1144 rfl ?_
  refine zz_iconst dL_law_1146 ?_
  refine gJ_msg (m := m) (v := σ 4 m) dL_law_1147 wm_HeliographsLaw_193 J1118 h56 (by omega) (by omega) rfl (Nat.le_of_ble_eq_true rfl) (by omega) ?_
  refine zz_iconst dL_law_1150 ?_
  refine zz_icmp_ne (tgt := 1158) dL_law_1151 rfl (by omega) (fun b1151 => ?_) (fun b1151 => ?_)
  rotate_left
  · exact absurd b1151 (by omega)
  refine zz_iconst dL_law_1158 ?_
  refine zz_icmp_ne (tgt := 1201) dL_law_1159 rfl (by omega) (fun b1159 => ?_) (fun b1159 => ?_)
  · exact absurd b1159 (by omega)
  refine gz_iload dL_law_1162 rfl ?_
  refine zz_iconst dL_law_1164 ?_
  refine zz_icmp_lt (tgt := 1201) dL_law_1165 rfl (by omega) (fun b1165 => ?_) (fun b1165 => ?_)
  · exact absurd b1165 (by omega)
  refine gz_iload dL_law_1168 rfl ?_
  refine zz_sipush (x := 360) dL_law_1170 rfl ?_
  refine zz_icmp_gt (tgt := 1201) dL_law_1173 rfl (by omega) (fun b1173 => ?_) (fun b1173 => ?_)
  · exact absurd b1173 (by omega)
  refine gz_iload dL_law_1176 rfl ?_
  refine zz_if_lt (tgt := 1201) dL_law_1178 rfl (by omega) (fun b1178 => ?_) (fun b1178 => ?_)
  · exact absurd b1178 (by omega)
  refine gz_iload dL_law_1181 rfl ?_
  refine gz_iload dL_law_1183 rfl ?_
  refine zz_icmp_ge (tgt := 1201) dL_law_1185 rfl (by omega) (fun b1185 => ?_) (fun b1185 => ?_)
  · exact absurd b1185 (by omega)
  refine gz_iload dL_law_1188 rfl ?_
  refine zz_iconst dL_law_1190 ?_
  refine zz_icmp_lt (tgt := 1201) dL_law_1191 rfl (by omega) (fun b1191 => ?_) (fun b1191 => ?_)
  · exact absurd b1191 (by omega)
  refine gz_iload dL_law_1194 rfl ?_
  refine gz_iload dL_law_1196 rfl ?_
  refine zz_icmp_lt (tgt := 1203) dL_law_1198 rfl (by omega) (fun b1198 => ?_) (fun b1198 => ?_)
  rotate_left
  · exact absurd b1198 (by omega)
  refine kk _ z1 z2 J1118 (fun a j h1 => (k1118 a j h1).trans ((k1100 a j h1).trans (k1083 a j h1)))
end

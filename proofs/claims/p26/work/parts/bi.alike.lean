/-! WHETHER THE TWO ARE ALIKE: counts, peaks, ways -/
section
variable {l : Launch} {Γ : zk_G} {d : Nat} {F : Heap → Prop}
theorem ct_count {π σ : zV} {c : Nat → Nat} (h : (c 0 : Int) = π 0 0 ∧ (c 1 : Int) = π 0 1 ∧ (c 2 : Int) = π 0 2 ∧ (c 3 : Int) = π 0 3) {y : Nat} (hy : y < 14) : ct π σ c (c 0) (c 1) (c 3) y = sCount π σ 0 (c 4 : Int) (y : Int) := by
  have e0 : (π 0 0).toNat = c 0 := by omega
  have e1 : (π 0 1).toNat = c 1 := by omega
  have e3 : (π 0 3).toNat = c 3 := by omega
  rcases (show y = 0 ∨ y = 1 ∨ y = 2 ∨ y = 3 ∨ y = 4 ∨ y = 5 ∨ y = 6 ∨ y = 7 ∨ y = 8 ∨ y = 9 ∨ y = 10 ∨ y = 11 ∨ y = 12 ∨ y = 13 by omega) with rfl | rfl | rfl | rfl | rfl | rfl | rfl | rfl | rfl | rfl | rfl | rfl | rfl | rfl
  · rfl
  · exact h.1
  · exact h.2.1
  · exact h.2.2.1
  · exact h.2.2.2
  · rfl
  · show sNum _ 0 (c 0) = sNum (fun k => sSun π k (σ 0 1)) 0 (π 0 0).toNat
    rw [e0]
  · show sNum _ 0 (c 1) = sNum (fun w => sPass π σ w (σ 0 1)) 0 (π 0 1).toNat
    rw [e1]
  · show sNum _ 0 (c 3) = sNum (sIn σ 0) 0 (π 0 3).toNat
    rw [e3]
  · show sNum _ 0 (c 3) = sNum (sIn σ 1) 0 (π 0 3).toNat
    rw [e3]
  · show sNum _ 0 (c 3) = sNum (sIn σ 2) 0 (π 0 3).toNat
    rw [e3]
  · show sSum _ 0 (c 3) = sSum (σ 8) 0 (π 0 3).toNat
    rw [e3]
  · rfl
  · rfl
theorem sCount_bd {π σ : zV} {N : Int} (hw : wP π) (hc : wC π σ N) (hN : N ≤ 80000) {o y : Int} (ho : 0 ≤ o ∧ o ≤ 12) : -1 ≤ sCount π σ 0 o y ∧ sCount π σ 0 o y ≤ 800000 := by
  have n0 := wP_n hw
  have t0 := wC_n hc
  have tb := sTally_bd (y := y) hw hc hN
  have b6 := sNum_bd (fun k => sSun π k (σ 0 1)) (π 0 0).toNat 0
  have b7 := sNum_bd (fun w => sPass π σ w (σ 0 1)) (π 0 1).toNat 0
  unfold sCount
  (repeat' split) <;> omega
theorem zi_counts {E : Nat → Nat × Nat} {e : Nat} {c : Nat → Nat} {W π σ : zV} {p : Nat} {H : zV → Nat → Bool} {t o N : Int} {kc ks : Nat} {Q : Option Value → zk_M → (Heap → Prop) → Prop} (hJ : lJ E e c W p H π σ t o N) (h56 : Γ.2.2.2.1 56 < Γ.2.1.size) (hN : N ≤ 80000) (hd : 20 ≤ d) {r : Nat} (hr : 480 ≤ r) (ar : E r = (100, 14)) (ho : o = (c 4 : Int)) (ht : t = 0) (hT : cT W r π σ c (c 0) (c 1) (c 3)) (kk : zk_Go l Γ mX8_isSame d kc ks Q 32 [some (.ref 424), some (.ref 320), some (.ref (r)), some (.int (iZ (((14 : Nat) : Int)))), none, none, none, none, none, none] [] (zG E e W) F) : ∀ n i : Nat, i + n = 14 → zk_Go l Γ mX8_isSame d kc ks Q 7 [some (.ref 424), some (.ref 320), some (.ref (r)), some (.int (iZ ((i : Int)))), none, none, none, none, none, none] [] (zG E e W) F
  | 0, i, hi => by
    have e9 : i = 14 := by omega
    rw [e9]
    refine gz_iload_n dX8_isSame_7 rfl ?_
    refine zz_bipush (x := 14) dX8_isSame_8 rfl ?_
    refine zz_icmp_ge (tgt := 32) dX8_isSame_10 rfl (by omega) (fun b => ?_) (fun b => absurd b (by omega))
    exact kk
  | n + 1, i, hi => by
    have hJ2 := hJ
    obtain ⟨hE, hE0, hz, hSt, hS, hh, hH, hO⟩ := hJ2
    have n1 := hS.1
    have hw : wP π := hSt.2.2.2.2.1
    have hc : wC π σ N := hSt.2.2.2.2.2.1
    have n0 := wP_n hw
    have t0 := wC_n hc
    have hb := hE.2.2.2.2
    have h48 := hE.2.2.2.1
    have cb := sCount_bd (o := o) (y := (i : Int)) hw hc hN (by omega)
    rw [← ht] at cb
    refine gz_iload_n dX8_isSame_7 rfl ?_
    refine zz_bipush (x := 14) dX8_isSame_8 rfl ?_
    refine zz_icmp_ge (tgt := 32) dX8_isSame_10 rfl (by omega) (fun b => absurd b (by omega)) (fun b => ?_)
    refine gz_aload_n dX8_isSame_13 rfl ?_
    refine gz_iload_n dX8_isSame_14 rfl ?_
    refine gJ_count (v := sCount π σ t o (i : Int)) dX8_isSame_15 wm_HeliographsLaw_Sim_101 hJ h56 (by omega) rfl (Nat.le_of_ble_eq_true rfl) (by omega) ?_
    refine gz_aload_n dX8_isSame_18 rfl ?_
    refine gz_iload_n dX8_isSame_19 rfl ?_
    refine gw_iald (a := r) (q := i) (len := 14) (v := sCount π σ t o (i : Int)) dX8_isSame_20 ar hr rfl (by omega) (by rw [hT i (by omega), ct_count n1 (by omega), ht, ho]) ?_
    refine zz_icmp_eq (tgt := 26) dX8_isSame_21 rfl (by omega) (fun b => ?_) (fun b => absurd rfl b)
    refine zz_iinc (L2 := [some (.ref 424), some (.ref 320), some (.ref (r)), some (.int (iZ (((i + 1 : Nat) : Int)))), none, none, none, none, none, none]) dX8_isSame_26 rfl (by rw [show ((i + 1 : Nat) : Int) = (i : Int) + 1 by omega]; rfl) ?_
    refine gz_goto (tgt := 7) dX8_isSame_29 rfl ?_
    exact zi_counts hJ h56 hN hd hr ar ho ht hT kk n (i + 1) (by omega)
/-- the two stand side by side in a greater memory -/
theorem lJ_grow {E E' : Nat → Nat × Nat} {e e' : Nat} {c : Nat → Nat} {W W' π σ : zV} {p : Nat} {H : zV → Nat → Bool} {t o N : Int} (hJ : lJ E e c W p H π σ t o N) (hE' : zE E' e' c) (h1 : ∀ a, a < e → E' a = E a) (h2 : ∀ a j, a < e → W' a j = W a j) : lJ E' e' c W' p H π σ t o N := by
  obtain ⟨hE, hE0, hz, hSt, hS, hh, hH, hO⟩ := hJ
  have h48 := hE.2.2.2.1
  have hb := hE.2.2.2.2
  refine ⟨hE', fun a q1 q2 => (h1 a (by omega)).trans (hE0 a q1 q2), zin_424 hz (fun a j h => h2 a j (by omega)), St_424 hSt (fun a j q1 q2 => h2 a j (by omega)), sm_kept hS ⟨by omega, by omega, by omega, by omega⟩ (fun a j q1 q2 => h2 a j (by omega)), hRow_k (fun a j q1 q2 => h2 a j (by omega)) hb.2.2.2.2 hh, fun N τ q1 q2 hl k h3 => ?_, hO⟩
  rw [hH N τ q1 q2 hl k h3]
  refine any_eq (fun i hi => ?_)
  have g : ∀ j, W' (468 + i) j = W (468 + i) j := fun j => h2 _ _ (by omega)
  unfold sHs
  rw [g 0, g 1, g 2, g 3, g 4, g 5]
/-- the table of ways, at r -/
def WR (E : Nat → Nat × Nat) (e : Nat) (W : zV) (r : Nat) (c : Nat → Nat) (m : Nat → Nat → Int) : Prop := 480 ≤ r ∧ r + 1 + c 0 ≤ e ∧ E r = (105, c 0) ∧ (∀ x, x < c 0 → E (r + 1 + x) = (100, c 0)) ∧ mat r (c 0) W m
theorem WR.grow {E E' : Nat → Nat × Nat} {e e' : Nat} {W W' : zV} {r : Nat} {c : Nat → Nat} {m : Nat → Nat → Int} (h : WR E e W r c m) (he : e ≤ e') (h1 : ∀ a, a < e → E' a = E a) (h2 : ∀ a j, 424 ≤ a → a < e → W' a j = W a j) : WR E' e' W' r c m := by
  obtain ⟨a1, a2, a3, a4, a5⟩ := h
  exact ⟨a1, by omega, (h1 r (by omega)).trans a3, fun x hx => (h1 _ (by omega)).trans (a4 x hx), fun x hx y hy => (h2 _ _ (by omega) (by omega)).trans (a5 x hx y hy)⟩
theorem zi_has {E : Nat → Nat × Nat} {e : Nat} {c : Nat → Nat} {W π σ : zV} {p : Nat} {H : zV → Nat → Bool} {t o N : Int} {kc ks : Nat} {Q : Option Value → zk_M → (Heap → Prop) → Prop} (hJ : lJ E e c W p H π σ t o N) (h56 : Γ.2.2.2.1 56 < Γ.2.1.size) (hN : N ≤ 80000) (hd : 20 ≤ d) {q r k : Nat} (hk : (k : Int) < π 0 0) (kk : ∀ L8 L9 : Option Value, zk_Go l Γ mX8_isSame d kc ks Q 128 [some (.ref 424), some (.ref 320), some (.ref (q)), some (.ref (r)), some (.int (iZ ((k : Int)))), some (.int (iZ (sNum (sEnd π (k : Int)) 0 (c 1)))), some (.int (iZ (sNum (fun w => sEnd π (k : Int) w && sPass π σ w (σ 0 1)) 0 (c 1)))), some (.int (iZ ((c 1 : Int)))), L8, L9] [] (zG E e W) F) : ∀ (n i : Nat) (L8 L9 : Option Value), i + n = c 1 → zk_Go l Γ mX8_isSame d kc ks Q 59 [some (.ref 424), some (.ref 320), some (.ref (q)), some (.ref (r)), some (.int (iZ ((k : Int)))), some (.int (iZ (sNum (sEnd π (k : Int)) 0 i))), some (.int (iZ (sNum (fun w => sEnd π (k : Int) w && sPass π σ w (σ 0 1)) 0 i))), some (.int (iZ ((i : Int)))), L8, L9] [] (zG E e W) F
  | 0, i, L8, L9, hi => by
    have e9 : i = c 1 := by omega
    rw [e9]
    have hE := hJ.1
    have hb := hE.2.2.2.2
    refine gz_iload dX8_isSame_59 rfl ?_
    refine gz_aload_n dX8_isSame_61 rfl ?_
    refine gz_getf (M := zG E e W) 4 dX8_isSame_62 hE.1 rfl wf_HeliographsLaw_Sim_19 (by decide) rfl ?_
    refine gg_alen hE 1 dX8_isSame_65 (by decide) ?_
    refine zz_icmp_ge (tgt := 128) dX8_isSame_66 rfl (by omega) (fun b => ?_) (fun b => absurd b (by omega))
    exact kk L8 L9
  | n + 1, i, L8, L9, hi => by
    have hJ2 := hJ
    obtain ⟨hE, hE0, hz, hSt, hS, hh, hH, hO⟩ := hJ2
    have n1 := hS.1
    have hw : wP π := hSt.2.2.2.2.1
    have hc : wC π σ N := hSt.2.2.2.2.2.1
    have n0 := wP_n hw
    have t0 := wC_n hc
    have hb := hE.2.2.2.2
    have h48 := hE.2.2.2.1
    have r9 := hS.2.2.2.1 i (by omega)
    have wv := wP_w hw (w := i) (by omega)
    have ih := zi_has (q := q) (r := r) hJ h56 hN hd hk kk n (i + 1) L8 L9 (by omega)
    have nx : ∀ hs os : Int, sNum (sEnd π (k : Int)) 0 (i + 1) = hs → sNum (fun w => sEnd π (k : Int) w && sPass π σ w (σ 0 1)) 0 (i + 1) = os → zk_Go l Γ mX8_isSame d kc ks Q 122 [some (.ref 424), some (.ref 320), some (.ref (q)), some (.ref (r)), some (.int (iZ ((k : Int)))), some (.int (iZ (hs))), some (.int (iZ (os))), some (.int (iZ ((i : Int)))), L8, L9] [] (zG E e W) F := fun hs os e1 e2 => by
      rw [e1, e2] at ih
      refine zz_iinc (L2 := [some (.ref 424), some (.ref 320), some (.ref (q)), some (.ref (r)), some (.int (iZ ((k : Int)))), some (.int (iZ (hs))), some (.int (iZ (os))), some (.int (iZ (((i + 1 : Nat) : Int)))), L8, L9]) dX8_isSame_122 rfl (by rw [show ((i + 1 : Nat) : Int) = (i : Int) + 1 by omega]; rfl) ?_
      refine gz_goto (tgt := 59) dX8_isSame_125 rfl ?_
      exact ih
    have yes : (π 4 i = (k : Int) ∨ π 5 i = (k : Int)) → zk_Go l Γ mX8_isSame d kc ks Q 100 [some (.ref 424), some (.ref 320), some (.ref (q)), some (.ref (r)), some (.int (iZ ((k : Int)))), some (.int (iZ (sNum (sEnd π (k : Int)) 0 i))), some (.int (iZ (sNum (fun w => sEnd π (k : Int) w && sPass π σ w (σ 0 1)) 0 i))), some (.int (iZ ((i : Int)))), L8, L9] [] (zG E e W) F := fun hy => by
      have se : sEnd π (k : Int) i = true := decide_eq_true hy
      refine zz_iinc (L2 := [some (.ref 424), some (.ref 320), some (.ref (q)), some (.ref (r)), some (.int (iZ ((k : Int)))), some (.int (iZ ((sNum (sEnd π (k : Int)) 0 i) + 1))), some (.int (iZ (sNum (fun w => sEnd π (k : Int) w && sPass π σ w (σ 0 1)) 0 i))), some (.int (iZ ((i : Int)))), L8, L9]) dX8_isSame_100 rfl rfl ?_
      refine gz_iload dX8_isSame_103 rfl ?_
      refine gz_aload_n dX8_isSame_105 rfl ?_
      refine gz_iload dX8_isSame_106 rfl ?_
      refine gb_v (J := mX8_isOpen_) (d1 := d - 1) (kc1 := 0) (ks1 := 0) [.int (iZ (i : Int))] _ dX8_isSame_108 rfl hE.1 wm_HeliographsLaw_Sim_42 jzX8_isOpen_ rfl (Nat.le_of_ble_eq_true rfl) (Nat.le_of_ble_eq_true rfl) (by omega) ⟨by omega, by omega⟩ (zDo_of (zS_isOpen1 hE hS hw (by omega) (by omega) (by omega) (by omega))) (fun v M' hy => ?_)
      obtain ⟨e1, e2⟩ := hy
      rw [e1, e2]
      refine zz_if_eqB (tgt := 118) dX8_isSame_111 rfl (fun b => ?_) (fun b => ?_)
      · refine zz_iconst dX8_isSame_118 ?_
        refine zz_iadd dX8_isSame_119 ?_
        refine gz_istore (L2 := [some (.ref 424), some (.ref 320), some (.ref (q)), some (.ref (r)), some (.int (iZ ((k : Int)))), some (.int (iZ ((sNum (sEnd π (k : Int)) 0 i) + 1))), some (.int (iZ ((sNum (fun w => sEnd π (k : Int) w && sPass π σ w (σ 0 1)) 0 i) + 0))), some (.int (iZ ((i : Int)))), L8, L9]) dX8_isSame_120 (Nat.le_of_ble_eq_true rfl) rfl ?_
        refine nx _ _ (by rw [sNum_0s, bI_t se]) (by rw [sNum_0s, bI_f (by rw [se, Bool.true_and]; exact b)])
      · refine zz_iconst dX8_isSame_114 ?_
        refine gz_goto (tgt := 119) dX8_isSame_115 rfl ?_
        refine zz_iadd dX8_isSame_119 ?_
        refine gz_istore (L2 := [some (.ref 424), some (.ref 320), some (.ref (q)), some (.ref (r)), some (.int (iZ ((k : Int)))), some (.int (iZ ((sNum (sEnd π (k : Int)) 0 i) + 1))), some (.int (iZ ((sNum (fun w => sEnd π (k : Int) w && sPass π σ w (σ 0 1)) 0 i) + 1))), some (.int (iZ ((i : Int)))), L8, L9]) dX8_isSame_120 (Nat.le_of_ble_eq_true rfl) rfl ?_
        refine nx _ _ (by rw [sNum_0s, bI_t se]) (by rw [sNum_0s, bI_t (by rw [se, Bool.true_and]; exact b)])
    refine gz_iload dX8_isSame_59 rfl ?_
    refine gz_aload_n dX8_isSame_61 rfl ?_
    refine gz_getf (M := zG E e W) 4 dX8_isSame_62 hE.1 rfl wf_HeliographsLaw_Sim_19 (by decide) rfl ?_
    refine gg_alen hE 1 dX8_isSame_65 (by decide) ?_
    refine zz_icmp_ge (tgt := 128) dX8_isSame_66 rfl (by omega) (fun b => absurd b (by omega)) (fun b => ?_)
    refine gz_aload_n dX8_isSame_69 rfl ?_
    refine gz_getf (M := zG E e W) 4 dX8_isSame_70 hE.1 rfl wf_HeliographsLaw_Sim_19 (by decide) rfl ?_
    refine gz_iload dX8_isSame_73 rfl ?_
    refine gg_aald hE 1 (j := i) dX8_isSame_75 (by decide) rfl rfl (by omega) ?_
    refine zz_iconst dX8_isSame_76 ?_
    refine gg_iald hE 1 0 (j := i) (b := 440) (v := π 4 i) dX8_isSame_77 (by decide) rfl (by omega) rfl (by decide) r9.1 ?_
    refine gz_iload dX8_isSame_78 rfl ?_
    refine zz_icmp_eq (tgt := 100) dX8_isSame_80 rfl (by omega) (fun b => yes (Or.inl b)) (fun b80 => ?_)
    refine gz_aload_n dX8_isSame_83 rfl ?_
    refine gz_getf (M := zG E e W) 4 dX8_isSame_84 hE.1 rfl wf_HeliographsLaw_Sim_19 (by decide) rfl ?_
    refine gz_iload dX8_isSame_87 rfl ?_
    refine gg_aald hE 1 (j := i) dX8_isSame_89 (by decide) rfl rfl (by omega) ?_
    refine zz_iconst dX8_isSame_90 ?_
    refine gg_iald hE 1 1 (j := i) (b := 440) (v := π 5 i) dX8_isSame_91 (by decide) rfl (by omega) rfl (by decide) r9.2.1 ?_
    refine gz_iload dX8_isSame_92 rfl ?_
    refine zz_icmp_eq (tgt := 100) dX8_isSame_94 rfl (by omega) (fun b => yes (Or.inr b)) (fun b94 => ?_)
    have se : sEnd π (k : Int) i = false := decide_eq_false (by omega)
    refine gz_goto (tgt := 122) dX8_isSame_97 rfl ?_
    exact nx _ _ (by rw [sNum_0s, se, bI_f (by decide), Int.add_zero]) (by rw [sNum_0s, bI_f (by rw [se, Bool.false_and]; decide), Int.add_zero])
theorem sPk_bd {π σ : zV} {N : Int} (hw : wP π) (hc : wC π σ N) {k : Nat} (hk : (k : Int) < π 0 0) {y : Int} : -1000 ≤ sPk π σ (k : Int) y ∧ sPk π σ (k : Int) y ≤ 1000 := by
  have n0 := wP_n hw
  have wk := wP_k hw hk
  have ck := wC_k hc hk
  have b1 := sNum_bd (sAt σ (k : Int) 1) (π 0 3).toNat 0
  have b0 := sNum_bd (sAt σ (k : Int) 0) (π 0 3).toNat 0
  have b5 := sNum_bd (sEnd π (k : Int)) (π 0 1).toNat 0
  have b6 := sNum_bd (fun w => sEnd π (k : Int) w && sPass π σ w (σ 0 1)) (π 0 1).toNat 0
  unfold sPk sFree
  rw [Int.toNat_natCast]
  (repeat' split) <;> omega
theorem zi_peakw {E : Nat → Nat × Nat} {e : Nat} {c : Nat → Nat} {W π σ : zV} {p : Nat} {H : zV → Nat → Bool} {t o N : Int} {kc ks : Nat} {Q : Option Value → zk_M → (Heap → Prop) → Prop} (hJ : lJ E e c W p H π σ t o N) (h56 : Γ.2.2.2.1 56 < Γ.2.1.size) (hN : N ≤ 80000) (hd : 20 ≤ d) {r s q : Nat} {k : Nat} {v5 v6 : Int} {L9 : Option Value} (hk : (k : Int) < π 0 0) (hs : 480 ≤ s) (ar : E s = (100, 7)) (hT : ∀ y : Nat, y < 7 → W s y = sPk π σ (k : Int) (y : Int)) (kk : zk_Go l Γ mX8_isSame d kc ks Q 243 [some (.ref 424), some (.ref 320), some (.ref (q)), some (.ref (r)), some (.int (iZ ((k : Int)))), some (.int (iZ (v5))), some (.int (iZ (v6))), some (.ref (s)), some (.int (iZ (((7 : Nat) : Int)))), L9] [] (zG E e W) F) : ∀ n i : Nat, i + n = 7 → zk_Go l Γ mX8_isSame d kc ks Q 212 [some (.ref 424), some (.ref 320), some (.ref (q)), some (.ref (r)), some (.int (iZ ((k : Int)))), some (.int (iZ (v5))), some (.int (iZ (v6))), some (.ref (s)), some (.int (iZ ((i : Int)))), L9] [] (zG E e W) F
  | 0, i, hi => by
    have e9 : i = 7 := by omega
    rw [e9]
    refine gz_iload dX8_isSame_212 rfl ?_
    refine zz_bipush (x := 7) dX8_isSame_214 rfl ?_
    refine zz_icmp_ge (tgt := 243) dX8_isSame_216 rfl (by omega) (fun b => ?_) (fun b => absurd b (by omega))
    exact kk
  | n + 1, i, hi => by
    have hJ2 := hJ
    obtain ⟨hE, hE0, hz, hSt, hS, hh, hH, hO⟩ := hJ2
    have n1 := hS.1
    have hw : wP π := hSt.2.2.2.2.1
    have hc : wC π σ N := hSt.2.2.2.2.2.1
    have n0 := wP_n hw
    have t0 := wC_n hc
    have hb := hE.2.2.2.2
    have h48 := hE.2.2.2.1
    have vb := sPk_bd (y := (i : Int)) hw hc hk
    refine gz_iload dX8_isSame_212 rfl ?_
    refine zz_bipush (x := 7) dX8_isSame_214 rfl ?_
    refine zz_icmp_ge (tgt := 243) dX8_isSame_216 rfl (by omega) (fun b => absurd b (by omega)) (fun b => ?_)
    refine gz_aload_n dX8_isSame_219 rfl ?_
    refine gz_iload dX8_isSame_220 rfl ?_
    refine gz_iload dX8_isSame_222 rfl ?_
    refine gJ_peak (k := k) (v := sPk π σ (k : Int) (i : Int)) dX8_isSame_224 wm_HeliographsLaw_Sim_106 hJ h56 (by omega) (by omega) rfl (Nat.le_of_ble_eq_true rfl) (by omega) ?_
    refine gz_aload dX8_isSame_227 rfl ?_
    refine gz_iload dX8_isSame_229 rfl ?_
    refine gw_iald (a := s) (q := i) (len := 7) (v := sPk π σ (k : Int) (i : Int)) dX8_isSame_231 ar hs rfl (by omega) (hT i (by omega)) ?_
    refine zz_icmp_eq (tgt := 237) dX8_isSame_232 rfl (by omega) (fun b => ?_) (fun b => absurd rfl b)
    refine zz_iinc (L2 := [some (.ref 424), some (.ref 320), some (.ref (q)), some (.ref (r)), some (.int (iZ ((k : Int)))), some (.int (iZ (v5))), some (.int (iZ (v6))), some (.ref (s)), some (.int (iZ (((i + 1 : Nat) : Int)))), L9]) dX8_isSame_237 rfl (by rw [show ((i + 1 : Nat) : Int) = (i : Int) + 1 by omega]; rfl) ?_
    refine gz_goto (tgt := 212) dX8_isSame_240 rfl ?_
    exact zi_peakw hJ h56 hN hd hk hs ar hT kk n (i + 1) (by omega)
theorem zi_ways {E : Nat → Nat × Nat} {e : Nat} {c : Nat → Nat} {W0 π σ : zV} {p : Nat} {H : zV → Nat → Bool} {t o N : Int} {kc ks : Nat} {Q : Option Value → zk_M → (Heap → Prop) → Prop} (h56 : Γ.2.2.2.1 56 < Γ.2.1.size) (hN : N ≤ 80000) (hd : 20 ≤ d) {q r s k : Nat} {v5 v6 : Int} {L9 : Option Value} {m : Nat → Nat → Int} (hk : (k : Int) < π 0 0) (hR : WR E e W0 r c m) (hm : mWay π (cut (sLook π σ)) m) (kk : ∀ W1, lJ E e c W1 p H π σ t o N → (∀ a j, (a = 56 ∨ 424 ≤ a) → W1 a j = W0 a j) → zk_Go l Γ mX8_isSame d kc ks Q 319 [some (.ref 424), some (.ref 320), some (.ref (q)), some (.ref (r)), some (.int (iZ ((k : Int)))), some (.int (iZ (v5))), some (.int (iZ (v6))), some (.ref (s)), some (.int (iZ ((c 0 : Int)))), L9] [] (zG E e W1) F) : ∀ (n i : Nat) (W : zV), i + n = c 0 → lJ E e c W p H π σ t o N → (∀ a j, (a = 56 ∨ 424 ≤ a) → W a j = W0 a j) → zk_Go l Γ mX8_isSame d kc ks Q 246 [some (.ref 424), some (.ref 320), some (.ref (q)), some (.ref (r)), some (.int (iZ ((k : Int)))), some (.int (iZ (v5))), some (.int (iZ (v6))), some (.ref (s)), some (.int (iZ ((i : Int)))), L9] [] (zG E e W) F
  | 0, i, W, hi, hJ, hF => by
    have e9 : i = c 0 := by omega
    rw [e9]
    have hE := hJ.1
    have hb := hE.2.2.2.2
    refine gz_iload dX8_isSame_246 rfl ?_
    refine gz_aload_n dX8_isSame_248 rfl ?_
    refine gz_getf (M := zG E e W) 3 dX8_isSame_249 hE.1 rfl wf_HeliographsLaw_Sim_15 (by decide) rfl ?_
    refine gg_alen hE 0 dX8_isSame_252 (by decide) ?_
    refine zz_icmp_ge (tgt := 319) dX8_isSame_253 rfl (by omega) (fun b => ?_) (fun b => absurd b (by omega))
    exact kk W hJ hF
  | n + 1, i, W, hi, hJ, hF => by
    have hJ2 := hJ
    obtain ⟨hE, hE0, hz, hSt, hS, hh, hH, hO⟩ := hJ2
    have n1 := hS.1
    have hw : wP π := hSt.2.2.2.2.1
    have hc : wC π σ N := hSt.2.2.2.2.2.1
    have n0 := wP_n hw
    have t0 := wC_n hc
    have hb := hE.2.2.2.2
    have h48 := hE.2.2.2.1
    obtain ⟨r1, r2, r3, r4, r5⟩ := hR
    have hi0 : (i : Int) < π 0 0 := by omega
    have mw := hm k i hk hi0
    have sb := sD_bd hw (cut (sLook π σ)) i hk
    have bd := ft_bd (τ := (cut (sLook π σ))) hw hk hi0
    have ew : sWay π σ (k : Int) (i : Int) = if sD π (cut (sLook π σ)) i k < 1000000 then sD π (cut (sLook π σ)) i k else -1 := rfl
    have af : ∀ W1 : zV, lJ E e c W1 p H π σ t o N → (∀ a j, (a = 56 ∨ 424 ≤ a) → W1 a j = W0 a j) → zk_Go l Γ mX8_isSame d kc ks Q 291 [some (.ref 424), some (.ref 320), some (.ref (q)), some (.ref (r)), some (.int (iZ ((k : Int)))), some (.int (iZ (v5))), some (.int (iZ (v6))), some (.ref (s)), some (.int (iZ ((i : Int)))), L9] [] (zG E e W1) F := fun W1 hJ1 hF1 => by
      refine gz_aload_n dX8_isSame_291 rfl ?_
      refine gz_iload dX8_isSame_292 rfl ?_
      refine gz_iload dX8_isSame_294 rfl ?_
      refine gJ_first (a := k) (b := i) dX8_isSame_296 wm_HeliographsLaw_Sim_112 hJ1 h56 hk hi0 (Nat.le_of_ble_eq_true rfl) (by omega) (fun W2 hJ2 k2 => ?_)
      refine gz_aload_n dX8_isSame_299 rfl ?_
      refine gz_aload_n dX8_isSame_300 rfl ?_
      refine gz_iload dX8_isSame_301 rfl ?_
      refine gz_iload dX8_isSame_303 rfl ?_
      refine gb_v (J := mX8_first) (d1 := d - 1) (kc1 := 0) (ks1 := 0) [.ref r, .int (iZ (k : Int)), .int (iZ (i : Int))] _ dX8_isSame_305 rfl hJ2.1.1 wm_HeliographsLaw_Sim_75 jzX8_first rfl (Nat.le_of_ble_eq_true rfl) (Nat.le_of_ble_eq_true rfl) (by omega) ⟨by omega, by omega⟩ (zDo_of (zS_first (τ := (cut (sLook π σ))) hJ2.1 hJ2.2.2.2.2.1 hw r1 r3 r4 (fun x hx y hy => (k2 _ _ (Or.inr (by omega))).trans ((hF1 _ _ (Or.inr (by omega))).trans (r5 x hx y hy))) (fun w hw1 => lit_iff hw (by omega)) (by omega) (by omega) hm (by omega) (by omega) (by omega))) (fun v M' hy => ?_)
      obtain ⟨e1, e2⟩ := hy
      rw [e1, e2]
      rw [show sFst2 π σ (k : Int) (i : Int) = sFirst π (cut (sLook π σ)) (k : Int) (i : Int) from rfl]
      refine zz_icmp_eq (tgt := 313) dX8_isSame_308 rfl (by omega) (fun b => ?_) (fun b => absurd rfl b)
      refine zz_iinc (L2 := [some (.ref 424), some (.ref 320), some (.ref (q)), some (.ref (r)), some (.int (iZ ((k : Int)))), some (.int (iZ (v5))), some (.int (iZ (v6))), some (.ref (s)), some (.int (iZ (((i + 1 : Nat) : Int)))), L9]) dX8_isSame_313 rfl (by rw [show ((i + 1 : Nat) : Int) = (i : Int) + 1 by omega]; rfl) ?_
      refine gz_goto (tgt := 246) dX8_isSame_316 rfl ?_
      exact zi_ways h56 hN hd hk ⟨r1, r2, r3, r4, r5⟩ hm kk n (i + 1) W2 (by omega) hJ2 (fun a j h => (k2 a j h).trans (hF1 a j h))
    refine gz_iload dX8_isSame_246 rfl ?_
    refine gz_aload_n dX8_isSame_248 rfl ?_
    refine gz_getf (M := zG E e W) 3 dX8_isSame_249 hE.1 rfl wf_HeliographsLaw_Sim_15 (by decide) rfl ?_
    refine gg_alen hE 0 dX8_isSame_252 (by decide) ?_
    refine zz_icmp_ge (tgt := 319) dX8_isSame_253 rfl (by omega) (fun b => absurd b (by omega)) (fun b => ?_)
    refine gz_aload_n dX8_isSame_256 rfl ?_
    refine gz_iload dX8_isSame_257 rfl ?_
    refine gz_iload dX8_isSame_259 rfl ?_
    refine gJ_way (a := k) (b := i) dX8_isSame_261 wm_HeliographsLaw_Sim_109 hJ h56 hk hi0 (Nat.le_of_ble_eq_true rfl) (by omega) (fun W1 hJ1 k1 => ?_)
    have hF1 : (∀ a j, (a = 56 ∨ 424 ≤ a) → W1 a j = W0 a j) := fun a j h => (k1 a j h).trans (hF a j h)
    have rv : W1 (r + 1 + k) i = m k i := (hF1 _ _ (Or.inr (by omega))).trans (r5 k (by omega) i (by omega))
    refine gz_aload_n dX8_isSame_264 rfl ?_
    refine gz_iload dX8_isSame_265 rfl ?_
    refine gw_aald (a := r) (j := k) (len := c 0) dX8_isSame_267 r3 r1 rfl (by omega) rfl ?_
    refine gz_iload dX8_isSame_268 rfl ?_
    refine gw_iald (a := r + 1 + k) (q := i) (len := c 0) (v := m k i) dX8_isSame_270 (r4 k (by omega)) (by omega) rfl (by omega) rv ?_
    refine zz_sipush (x := 9000) dX8_isSame_271 rfl ?_
    by_cases far : sD π (cut (sLook π σ)) i k < 1000000
    · have mk := mw.1 far
      rw [ew, if_pos far]
      refine zz_icmp_le (tgt := 281) dX8_isSame_274 rfl (by omega) (fun b => ?_) (fun b => absurd b (by omega))
      refine gz_aload_n dX8_isSame_281 rfl ?_
      refine gz_iload dX8_isSame_282 rfl ?_
      refine gw_aald (a := r) (j := k) (len := c 0) dX8_isSame_284 r3 r1 rfl (by omega) rfl ?_
      refine gz_iload dX8_isSame_285 rfl ?_
      refine gw_iald (a := r + 1 + k) (q := i) (len := c 0) (v := m k i) dX8_isSame_287 (r4 k (by omega)) (by omega) rfl (by omega) rv ?_
      refine zz_icmp_ne (tgt := 311) dX8_isSame_288 rfl (by omega) (fun b => absurd b (by omega)) (fun b => ?_)
      exact af W1 hJ1 hF1
    · have mk := mw.2 far
      rw [ew, if_neg far]
      refine zz_icmp_le (tgt := 281) dX8_isSame_274 rfl (by omega) (fun b => absurd b (by omega)) (fun b => ?_)
      refine zz_iconst dX8_isSame_277 ?_
      refine gz_goto (tgt := 288) dX8_isSame_278 rfl ?_
      refine zz_icmp_ne (tgt := 311) dX8_isSame_288 rfl (by omega) (fun b => absurd rfl b) (fun b => ?_)
      exact af W1 hJ1 hF1
end

/-! THE LAW LOOKS AT THE PEAKS AND THE WAYS -/
section
variable {l : Launch} {Γ : zk_G} {d : Nat} {F : Heap → Prop}
theorem taken_eq {π σ : zV} {N : Int} (hw : wP π) (hc : wC π σ N) (hO : lOk π σ) : sNum (fun w => decide (0 ≤ sFind (fun m => decide (σ 7 m = (w : Int))) 0 (π 0 3).toNat)) 0 (π 0 1).toNat = sNum (sIn σ 1) 0 (π 0 3).toNat := by
  have n0 := wP_n hw
  rw [taken (f := fun m => σ 7 m) (nw := (π 0 1).toNat) (π 0 3).toNat (fun j k h1 h2 h3 h4 => hO.2.1 j k (by omega) (by omega) h3 h4) (fun j h => by have m := wC_m hc (k := j) (by omega); unfold wM at m; show σ 7 j < _; omega)]
  refine sNum_eq _ _ (fun j _ h2 => ?_)
  have m := wC_m hc (k := j) (by omega)
  unfold wM at m
  unfold sIn
  by_cases q : σ 4 j = 1
  · rw [decide_eq_true q, decide_eq_true (by omega : 0 ≤ σ 7 j)]
  · rw [decide_eq_false q, decide_eq_false (by omega : ¬ 0 ≤ σ 7 j)]
/-- what is lit is open -/
theorem lit_iff {π σ : zV} (hw : wP π) {w : Nat} (h : (w : Int) < π 0 1) : cut (sLook π σ) 11 w ≠ 0 ↔ sPass π σ w (σ 0 1) = true := by
  have n0 := wP_n hw
  have e : cut (sLook π σ) 11 w = bI (decide ((w : Int) < π 0 1) && sPass π σ w (σ 0 1)) := if_pos (show w < 12 by omega)
  rw [e, decide_eq_true h, Bool.true_and]
  cases sPass π σ w (σ 0 1) with
  | true => exact ⟨fun _ => rfl, fun _ => by decide⟩
  | false => exact ⟨fun q => absurd rfl q, fun q => by cases q⟩
theorem zl_way_0 {E : Nat → Nat × Nat} {e : Nat} {c : Nat → Nat} {π σ : zV} {p : Nat} {H : zV → Nat → Bool} {t o N : Int} {kc ks : Nat} {Q : Option Value → zk_M → (Heap → Prop) → Prop} {tm r : Nat} {x : Int32} {W W0 : zV} {a b : Nat} {y f : Int} {J0 J1 J2 J3 J4 J5 J6 J7 J8 : Option Value} (hJ : lJ E e c W p H π σ t o N) (hF : (∀ a j, (a = 56 ∨ 424 ≤ a) → W a j = W0 a j)) (h56 : Γ.2.2.2.1 56 < Γ.2.1.size) (ha : (a : Int) < π 0 0) (hb : (b : Int) < π 0 0) (hN : N ≤ 80000) (hmin : σ 0 1 ≤ 9000) (hd : 20 ≤ d) (hy : sWay π σ (a : Int) (b : Int) = y) (hf : sFst2 π σ (a : Int) (b : Int) = f) (q : y = 0) (kk : ∀ (W1 : zV) (J0 J1 J2 J3 J4 J5 J6 J7 J8 : Option Value), lJ E e c W1 p H π σ t o N → (∀ a j, (a = 56 ∨ 424 ≤ a) → W1 a j = W0 a j) → zk_Go l Γ mL_law d kc ks Q 828 [some (.ref 56), none, some (.ref 424), some (.ref 320), some (.int (iZ (π 0 0))), some (.int (iZ (π 0 1))), some (.int (iZ (π 0 3))), some (.int (iZ ((tm : Int)))), some (.int x), some (.int (iZ (σ 0 1))), some (.ref r), some (.ref (r + 1)), some (.ref (r + 2)), some (.int (iZ (sSum (σ 8) 0 (π 0 3).toNat))), some (.int (iZ (sSum (σ 5) 0 (π 0 3).toNat))), some (.int (iZ (sSum (σ 10) 0 (π 0 1).toNat))), some (.int (iZ (sNum (fun w => decide (0 ≤ sFind (fun m => decide (σ 7 m = (w : Int))) 0 (π 0 3).toNat)) 0 (π 0 1).toNat))), some (.int (iZ ((a : Int)))), some (.int (iZ (((b + 1 : Nat) : Int)))), J0, J1, J2, J3, J4, J5, J6, J7, J8] [] (zG E e W1) F) : zk_Go l Γ mL_law d kc ks Q 828 [some (.ref 56), none, some (.ref 424), some (.ref 320), some (.int (iZ (π 0 0))), some (.int (iZ (π 0 1))), some (.int (iZ (π 0 3))), some (.int (iZ ((tm : Int)))), some (.int x), some (.int (iZ (σ 0 1))), some (.ref r), some (.ref (r + 1)), some (.ref (r + 2)), some (.int (iZ (sSum (σ 8) 0 (π 0 3).toNat))), some (.int (iZ (sSum (σ 5) 0 (π 0 3).toNat))), some (.int (iZ (sSum (σ 10) 0 (π 0 1).toNat))), some (.int (iZ (sNum (fun w => decide (0 ≤ sFind (fun m => decide (σ 7 m = (w : Int))) 0 (π 0 3).toNat)) 0 (π 0 1).toNat))), some (.int (iZ ((a : Int)))), some (.int (iZ ((b : Int)))), J0, J1, J2, J3, J4, J5, J6, J7, J8] [] (zG E e W) F := by
  have hJ2 := hJ
  obtain ⟨hE, hE0, hz, hSt, hS, hh, hH, hO⟩ := hJ2
  have n1 := hS.1
  have hw : wP π := hSt.2.2.2.2.1
  have hc : wC π σ N := hSt.2.2.2.2.2.1
  have n0 := wP_n hw
  have t0 := wC_n hc
  have bd := ft_bd (τ := cut (sLook π σ)) hw ha hb
  have ff := far_first (τ := cut (sLook π σ)) hw ha hb
  rw [show sFar π (cut (sLook π σ)) (a : Int) (b : Int) = y from hy, show sFirst π (cut (sLook π σ)) (a : Int) (b : Int) = f from hf] at bd ff
  
  refine gz_iload dL_law_828 rfl ?_
  refine gz_iload dL_law_830 rfl ?_
  refine zz_icmp_ge (tgt := 1022) dL_law_832 rfl (by omega) (fun b832 => ?_) (fun b832 => ?_)
  · exact absurd b832 (by omega)
  refine gz_aload_n dL_law_835 rfl ?_
  refine gz_iload dL_law_836 rfl ?_
  refine gz_iload dL_law_838 rfl ?_
  refine gJ_way (a := a) (b := b) dL_law_840 wm_HeliographsLaw_216 hJ h56 (by omega) (by omega) (Nat.le_of_ble_eq_true rfl) (by omega) (fun W840 J840 k840 => ?_)
  rw [hy]
  refine gz_istore (L2 := [some (.ref 56), none, some (.ref 424), some (.ref 320), some (.int (iZ (π 0 0))), some (.int (iZ (π 0 1))), some (.int (iZ (π 0 3))), some (.int (iZ ((tm : Int)))), some (.int x), some (.int (iZ (σ 0 1))), some (.ref r), some (.ref (r + 1)), some (.ref (r + 2)), some (.int (iZ (sSum (σ 8) 0 (π 0 3).toNat))), some (.int (iZ (sSum (σ 5) 0 (π 0 3).toNat))), some (.int (iZ (sSum (σ 10) 0 (π 0 1).toNat))), some (.int (iZ (sNum (fun w => decide (0 ≤ sFind (fun m => decide (σ 7 m = (w : Int))) 0 (π 0 3).toNat)) 0 (π 0 1).toNat))), some (.int (iZ ((a : Int)))), some (.int (iZ ((b : Int)))), some (.int (iZ (y))), J1, J2, J3, J4, J5, J6, J7, J8]) dL_law_843 (Nat.le_of_ble_eq_true rfl) rfl ?_
  refine gz_aload_n dL_law_845 rfl ?_
  refine gz_iload dL_law_846 rfl ?_
  refine gz_iload dL_law_848 rfl ?_
  refine gJ_first (a := a) (b := b) dL_law_850 wm_HeliographsLaw_219 J840 h56 (by omega) (by omega) (Nat.le_of_ble_eq_true rfl) (by omega) (fun W850 J850 k850 => ?_)
  rw [hf]
  refine gz_istore (L2 := [some (.ref 56), none, some (.ref 424), some (.ref 320), some (.int (iZ (π 0 0))), some (.int (iZ (π 0 1))), some (.int (iZ (π 0 3))), some (.int (iZ ((tm : Int)))), some (.int x), some (.int (iZ (σ 0 1))), some (.ref r), some (.ref (r + 1)), some (.ref (r + 2)), some (.int (iZ (sSum (σ 8) 0 (π 0 3).toNat))), some (.int (iZ (sSum (σ 5) 0 (π 0 3).toNat))), some (.int (iZ (sSum (σ 10) 0 (π 0 1).toNat))), some (.int (iZ (sNum (fun w => decide (0 ≤ sFind (fun m => decide (σ 7 m = (w : Int))) 0 (π 0 3).toNat)) 0 (π 0 1).toNat))), some (.int (iZ ((a : Int)))), some (.int (iZ ((b : Int)))), some (.int (iZ (y))), some (.int (iZ (f))), J2, J3, J4, J5, J6, J7, J8]) dL_law_853 (Nat.le_of_ble_eq_true rfl) rfl ?_
  refine gz_iload dL_law_855 rfl ?_
  refine gz_aload_n dL_law_857 rfl ?_
  refine gz_iload dL_law_858 rfl ?_
  refine gz_iload dL_law_860 rfl ?_
  refine gJ_way (a := b) (b := a) dL_law_862 wm_HeliographsLaw_216 J850 h56 (by omega) (by omega) (Nat.le_of_ble_eq_true rfl) (by omega) (fun W862 J862 k862 => ?_)
  rw [show sWay π σ (b : Int) (a : Int) = y from (far_sym (τ := cut (sLook π σ)) hw hb ha).trans hy]
  refine zz_icmp_ne (tgt := 917) dL_law_865 rfl (by omega) (fun b865 => ?_) (fun b865 => ?_)
  · exact absurd b865 (by omega)
  refine gz_iload dL_law_868 rfl ?_
  refine zz_iconst dL_law_870 ?_
  refine zz_icmp_ge (tgt := 878) dL_law_871 rfl (by omega) (fun b871 => ?_) (fun b871 => ?_)
  · exact absurd b871 (by omega)
  refine zz_iconst dL_law_874 ?_
  refine gz_goto (tgt := 879) dL_law_875 rfl ?_
  refine gz_iload dL_law_879 rfl ?_
  refine zz_if_ge (tgt := 888) dL_law_881 rfl (by omega) (fun b881 => ?_) (fun b881 => ?_)
  · exact absurd b881 (by omega)
  refine zz_iconst dL_law_884 ?_
  refine gz_goto (tgt := 889) dL_law_885 rfl ?_
  refine zz_icmp_ne (tgt := 917) dL_law_889 rfl (by omega) (fun b889 => ?_) (fun b889 => ?_)
  · exact absurd b889 (by omega)
  refine gz_iload dL_law_892 rfl ?_
  refine zz_if_ne (tgt := 901) dL_law_894 rfl (by omega) (fun b894 => ?_) (fun b894 => ?_)
  · exact absurd b894 (by omega)
  refine zz_iconst dL_law_897 ?_
  refine gz_goto (tgt := 902) dL_law_898 rfl ?_
  refine gz_iload dL_law_902 rfl ?_
  refine gz_iload dL_law_904 rfl ?_
  refine zz_icmp_ne (tgt := 913) dL_law_906 rfl (by omega) (fun b906 => ?_) (fun b906 => ?_)
  · exact absurd b906 (by omega)
  refine zz_iconst dL_law_909 ?_
  refine gz_goto (tgt := 914) dL_law_910 rfl ?_
  refine zz_icmp_eq (tgt := 919) dL_law_914 rfl (by omega) (fun b914 => ?_) (fun b914 => ?_)
  rotate_left
  · exact absurd b914 (by omega)
  refine gz_iload dL_law_919 rfl ?_
  refine zz_if_ge (tgt := 927) dL_law_921 rfl (by omega) (fun b921 => ?_) (fun b921 => ?_)
  · exact absurd b921 (by omega)
  refine gz_goto (tgt := 1016) dL_law_924 rfl ?_
  refine zz_iinc (L2 := [some (.ref 56), none, some (.ref 424), some (.ref 320), some (.int (iZ (π 0 0))), some (.int (iZ (π 0 1))), some (.int (iZ (π 0 3))), some (.int (iZ ((tm : Int)))), some (.int x), some (.int (iZ (σ 0 1))), some (.ref r), some (.ref (r + 1)), some (.ref (r + 2)), some (.int (iZ (sSum (σ 8) 0 (π 0 3).toNat))), some (.int (iZ (sSum (σ 5) 0 (π 0 3).toNat))), some (.int (iZ (sSum (σ 10) 0 (π 0 1).toNat))), some (.int (iZ (sNum (fun w => decide (0 ≤ sFind (fun m => decide (σ 7 m = (w : Int))) 0 (π 0 3).toNat)) 0 (π 0 1).toNat))), some (.int (iZ ((a : Int)))), some (.int (iZ (((b + 1 : Nat) : Int)))), some (.int (iZ (y))), some (.int (iZ (f))), J2, J3, J4, J5, J6, J7, J8]) dL_law_1016 rfl (by rw [show ((b + 1 : Nat) : Int) = (b : Int) + 1 by omega]; rfl) ?_
  refine gz_goto (tgt := 828) dL_law_1019 rfl ?_
  exact kk _ _ _ _ _ _ _ _ _ _ J862 (fun a j h => ((k862 a j h).trans (((k850 a j h).trans (((k840 a j h).trans (hF a j h)))))))
theorem zl_way_1 {E : Nat → Nat × Nat} {e : Nat} {c : Nat → Nat} {π σ : zV} {p : Nat} {H : zV → Nat → Bool} {t o N : Int} {kc ks : Nat} {Q : Option Value → zk_M → (Heap → Prop) → Prop} {tm r : Nat} {x : Int32} {W W0 : zV} {a b : Nat} {y f : Int} {J0 J1 J2 J3 J4 J5 J6 J7 J8 : Option Value} (hJ : lJ E e c W p H π σ t o N) (hF : (∀ a j, (a = 56 ∨ 424 ≤ a) → W a j = W0 a j)) (h56 : Γ.2.2.2.1 56 < Γ.2.1.size) (ha : (a : Int) < π 0 0) (hb : (b : Int) < π 0 0) (hN : N ≤ 80000) (hmin : σ 0 1 ≤ 9000) (hd : 20 ≤ d) (hy : sWay π σ (a : Int) (b : Int) = y) (hf : sFst2 π σ (a : Int) (b : Int) = f) (q : y < 0) (kk : ∀ (W1 : zV) (J0 J1 J2 J3 J4 J5 J6 J7 J8 : Option Value), lJ E e c W1 p H π σ t o N → (∀ a j, (a = 56 ∨ 424 ≤ a) → W1 a j = W0 a j) → zk_Go l Γ mL_law d kc ks Q 828 [some (.ref 56), none, some (.ref 424), some (.ref 320), some (.int (iZ (π 0 0))), some (.int (iZ (π 0 1))), some (.int (iZ (π 0 3))), some (.int (iZ ((tm : Int)))), some (.int x), some (.int (iZ (σ 0 1))), some (.ref r), some (.ref (r + 1)), some (.ref (r + 2)), some (.int (iZ (sSum (σ 8) 0 (π 0 3).toNat))), some (.int (iZ (sSum (σ 5) 0 (π 0 3).toNat))), some (.int (iZ (sSum (σ 10) 0 (π 0 1).toNat))), some (.int (iZ (sNum (fun w => decide (0 ≤ sFind (fun m => decide (σ 7 m = (w : Int))) 0 (π 0 3).toNat)) 0 (π 0 1).toNat))), some (.int (iZ ((a : Int)))), some (.int (iZ (((b + 1 : Nat) : Int)))), J0, J1, J2, J3, J4, J5, J6, J7, J8] [] (zG E e W1) F) : zk_Go l Γ mL_law d kc ks Q 828 [some (.ref 56), none, some (.ref 424), some (.ref 320), some (.int (iZ (π 0 0))), some (.int (iZ (π 0 1))), some (.int (iZ (π 0 3))), some (.int (iZ ((tm : Int)))), some (.int x), some (.int (iZ (σ 0 1))), some (.ref r), some (.ref (r + 1)), some (.ref (r + 2)), some (.int (iZ (sSum (σ 8) 0 (π 0 3).toNat))), some (.int (iZ (sSum (σ 5) 0 (π 0 3).toNat))), some (.int (iZ (sSum (σ 10) 0 (π 0 1).toNat))), some (.int (iZ (sNum (fun w => decide (0 ≤ sFind (fun m => decide (σ 7 m = (w : Int))) 0 (π 0 3).toNat)) 0 (π 0 1).toNat))), some (.int (iZ ((a : Int)))), some (.int (iZ ((b : Int)))), J0, J1, J2, J3, J4, J5, J6, J7, J8] [] (zG E e W) F := by
  have hJ2 := hJ
  obtain ⟨hE, hE0, hz, hSt, hS, hh, hH, hO⟩ := hJ2
  have n1 := hS.1
  have hw : wP π := hSt.2.2.2.2.1
  have hc : wC π σ N := hSt.2.2.2.2.2.1
  have n0 := wP_n hw
  have t0 := wC_n hc
  have bd := ft_bd (τ := cut (sLook π σ)) hw ha hb
  have ff := far_first (τ := cut (sLook π σ)) hw ha hb
  rw [show sFar π (cut (sLook π σ)) (a : Int) (b : Int) = y from hy, show sFirst π (cut (sLook π σ)) (a : Int) (b : Int) = f from hf] at bd ff
  
  refine gz_iload dL_law_828 rfl ?_
  refine gz_iload dL_law_830 rfl ?_
  refine zz_icmp_ge (tgt := 1022) dL_law_832 rfl (by omega) (fun b832 => ?_) (fun b832 => ?_)
  · exact absurd b832 (by omega)
  refine gz_aload_n dL_law_835 rfl ?_
  refine gz_iload dL_law_836 rfl ?_
  refine gz_iload dL_law_838 rfl ?_
  refine gJ_way (a := a) (b := b) dL_law_840 wm_HeliographsLaw_216 hJ h56 (by omega) (by omega) (Nat.le_of_ble_eq_true rfl) (by omega) (fun W840 J840 k840 => ?_)
  rw [hy]
  refine gz_istore (L2 := [some (.ref 56), none, some (.ref 424), some (.ref 320), some (.int (iZ (π 0 0))), some (.int (iZ (π 0 1))), some (.int (iZ (π 0 3))), some (.int (iZ ((tm : Int)))), some (.int x), some (.int (iZ (σ 0 1))), some (.ref r), some (.ref (r + 1)), some (.ref (r + 2)), some (.int (iZ (sSum (σ 8) 0 (π 0 3).toNat))), some (.int (iZ (sSum (σ 5) 0 (π 0 3).toNat))), some (.int (iZ (sSum (σ 10) 0 (π 0 1).toNat))), some (.int (iZ (sNum (fun w => decide (0 ≤ sFind (fun m => decide (σ 7 m = (w : Int))) 0 (π 0 3).toNat)) 0 (π 0 1).toNat))), some (.int (iZ ((a : Int)))), some (.int (iZ ((b : Int)))), some (.int (iZ (y))), J1, J2, J3, J4, J5, J6, J7, J8]) dL_law_843 (Nat.le_of_ble_eq_true rfl) rfl ?_
  refine gz_aload_n dL_law_845 rfl ?_
  refine gz_iload dL_law_846 rfl ?_
  refine gz_iload dL_law_848 rfl ?_
  refine gJ_first (a := a) (b := b) dL_law_850 wm_HeliographsLaw_219 J840 h56 (by omega) (by omega) (Nat.le_of_ble_eq_true rfl) (by omega) (fun W850 J850 k850 => ?_)
  rw [hf]
  refine gz_istore (L2 := [some (.ref 56), none, some (.ref 424), some (.ref 320), some (.int (iZ (π 0 0))), some (.int (iZ (π 0 1))), some (.int (iZ (π 0 3))), some (.int (iZ ((tm : Int)))), some (.int x), some (.int (iZ (σ 0 1))), some (.ref r), some (.ref (r + 1)), some (.ref (r + 2)), some (.int (iZ (sSum (σ 8) 0 (π 0 3).toNat))), some (.int (iZ (sSum (σ 5) 0 (π 0 3).toNat))), some (.int (iZ (sSum (σ 10) 0 (π 0 1).toNat))), some (.int (iZ (sNum (fun w => decide (0 ≤ sFind (fun m => decide (σ 7 m = (w : Int))) 0 (π 0 3).toNat)) 0 (π 0 1).toNat))), some (.int (iZ ((a : Int)))), some (.int (iZ ((b : Int)))), some (.int (iZ (y))), some (.int (iZ (f))), J2, J3, J4, J5, J6, J7, J8]) dL_law_853 (Nat.le_of_ble_eq_true rfl) rfl ?_
  refine gz_iload dL_law_855 rfl ?_
  refine gz_aload_n dL_law_857 rfl ?_
  refine gz_iload dL_law_858 rfl ?_
  refine gz_iload dL_law_860 rfl ?_
  refine gJ_way (a := b) (b := a) dL_law_862 wm_HeliographsLaw_216 J850 h56 (by omega) (by omega) (Nat.le_of_ble_eq_true rfl) (by omega) (fun W862 J862 k862 => ?_)
  rw [show sWay π σ (b : Int) (a : Int) = y from (far_sym (τ := cut (sLook π σ)) hw hb ha).trans hy]
  refine zz_icmp_ne (tgt := 917) dL_law_865 rfl (by omega) (fun b865 => ?_) (fun b865 => ?_)
  · exact absurd b865 (by omega)
  refine gz_iload dL_law_868 rfl ?_
  refine zz_iconst dL_law_870 ?_
  refine zz_icmp_ge (tgt := 878) dL_law_871 rfl (by omega) (fun b871 => ?_) (fun b871 => ?_)
  · exact absurd b871 (by omega)
  refine zz_iconst dL_law_874 ?_
  refine gz_goto (tgt := 879) dL_law_875 rfl ?_
  refine gz_iload dL_law_879 rfl ?_
  refine zz_if_ge (tgt := 888) dL_law_881 rfl (by omega) (fun b881 => ?_) (fun b881 => ?_)
  · exact absurd b881 (by omega)
  refine zz_iconst dL_law_884 ?_
  refine gz_goto (tgt := 889) dL_law_885 rfl ?_
  refine zz_icmp_ne (tgt := 917) dL_law_889 rfl (by omega) (fun b889 => ?_) (fun b889 => ?_)
  · exact absurd b889 (by omega)
  refine gz_iload dL_law_892 rfl ?_
  refine zz_if_ne (tgt := 901) dL_law_894 rfl (by omega) (fun b894 => ?_) (fun b894 => ?_)
  rotate_left
  · exact absurd b894 (by omega)
  refine zz_iconst dL_law_901 ?_
  refine gz_iload dL_law_902 rfl ?_
  refine gz_iload dL_law_904 rfl ?_
  refine zz_icmp_ne (tgt := 913) dL_law_906 rfl (by omega) (fun b906 => ?_) (fun b906 => ?_)
  rotate_left
  · exact absurd b906 (by omega)
  refine zz_iconst dL_law_913 ?_
  refine zz_icmp_eq (tgt := 919) dL_law_914 rfl (by omega) (fun b914 => ?_) (fun b914 => ?_)
  rotate_left
  · exact absurd b914 (by omega)
  refine gz_iload dL_law_919 rfl ?_
  refine zz_if_ge (tgt := 927) dL_law_921 rfl (by omega) (fun b921 => ?_) (fun b921 => ?_)
  · exact absurd b921 (by omega)
  refine gz_goto (tgt := 1016) dL_law_924 rfl ?_
  refine zz_iinc (L2 := [some (.ref 56), none, some (.ref 424), some (.ref 320), some (.int (iZ (π 0 0))), some (.int (iZ (π 0 1))), some (.int (iZ (π 0 3))), some (.int (iZ ((tm : Int)))), some (.int x), some (.int (iZ (σ 0 1))), some (.ref r), some (.ref (r + 1)), some (.ref (r + 2)), some (.int (iZ (sSum (σ 8) 0 (π 0 3).toNat))), some (.int (iZ (sSum (σ 5) 0 (π 0 3).toNat))), some (.int (iZ (sSum (σ 10) 0 (π 0 1).toNat))), some (.int (iZ (sNum (fun w => decide (0 ≤ sFind (fun m => decide (σ 7 m = (w : Int))) 0 (π 0 3).toNat)) 0 (π 0 1).toNat))), some (.int (iZ ((a : Int)))), some (.int (iZ (((b + 1 : Nat) : Int)))), some (.int (iZ (y))), some (.int (iZ (f))), J2, J3, J4, J5, J6, J7, J8]) dL_law_1016 rfl (by rw [show ((b + 1 : Nat) : Int) = (b : Int) + 1 by omega]; rfl) ?_
  refine gz_goto (tgt := 828) dL_law_1019 rfl ?_
  exact kk _ _ _ _ _ _ _ _ _ _ J862 (fun a j h => ((k862 a j h).trans (((k850 a j h).trans (((k840 a j h).trans (hF a j h)))))))
theorem zl_way_2 {E : Nat → Nat × Nat} {e : Nat} {c : Nat → Nat} {π σ : zV} {p : Nat} {H : zV → Nat → Bool} {t o N : Int} {kc ks : Nat} {Q : Option Value → zk_M → (Heap → Prop) → Prop} {tm r : Nat} {x : Int32} {W W0 : zV} {a b : Nat} {y f : Int} {J0 J1 J2 J3 J4 J5 J6 J7 J8 : Option Value} (hJ : lJ E e c W p H π σ t o N) (hF : (∀ a j, (a = 56 ∨ 424 ≤ a) → W a j = W0 a j)) (h56 : Γ.2.2.2.1 56 < Γ.2.1.size) (ha : (a : Int) < π 0 0) (hb : (b : Int) < π 0 0) (hN : N ≤ 80000) (hmin : σ 0 1 ≤ 9000) (hd : 20 ≤ d) (hy : sWay π σ (a : Int) (b : Int) = y) (hf : sFst2 π σ (a : Int) (b : Int) = f) {w u v : Nat} (q : 0 < y) (hw9 : f = (w : Int)) (hw1 : (w : Int) < π 0 1) (hu : π 4 w = (u : Int)) (hv : π 5 w = (v : Int)) (op : sPass π σ w (σ 0 1) = true) (hq1 : u = a) (hq2 : sFar π (cut (sLook π σ)) (v : Int) (b : Int) = sFar π (cut (sLook π σ)) (a : Int) (b : Int) - π 6 w) (kk : ∀ (W1 : zV) (J0 J1 J2 J3 J4 J5 J6 J7 J8 : Option Value), lJ E e c W1 p H π σ t o N → (∀ a j, (a = 56 ∨ 424 ≤ a) → W1 a j = W0 a j) → zk_Go l Γ mL_law d kc ks Q 828 [some (.ref 56), none, some (.ref 424), some (.ref 320), some (.int (iZ (π 0 0))), some (.int (iZ (π 0 1))), some (.int (iZ (π 0 3))), some (.int (iZ ((tm : Int)))), some (.int x), some (.int (iZ (σ 0 1))), some (.ref r), some (.ref (r + 1)), some (.ref (r + 2)), some (.int (iZ (sSum (σ 8) 0 (π 0 3).toNat))), some (.int (iZ (sSum (σ 5) 0 (π 0 3).toNat))), some (.int (iZ (sSum (σ 10) 0 (π 0 1).toNat))), some (.int (iZ (sNum (fun w => decide (0 ≤ sFind (fun m => decide (σ 7 m = (w : Int))) 0 (π 0 3).toNat)) 0 (π 0 1).toNat))), some (.int (iZ ((a : Int)))), some (.int (iZ (((b + 1 : Nat) : Int)))), J0, J1, J2, J3, J4, J5, J6, J7, J8] [] (zG E e W1) F) : zk_Go l Γ mL_law d kc ks Q 828 [some (.ref 56), none, some (.ref 424), some (.ref 320), some (.int (iZ (π 0 0))), some (.int (iZ (π 0 1))), some (.int (iZ (π 0 3))), some (.int (iZ ((tm : Int)))), some (.int x), some (.int (iZ (σ 0 1))), some (.ref r), some (.ref (r + 1)), some (.ref (r + 2)), some (.int (iZ (sSum (σ 8) 0 (π 0 3).toNat))), some (.int (iZ (sSum (σ 5) 0 (π 0 3).toNat))), some (.int (iZ (sSum (σ 10) 0 (π 0 1).toNat))), some (.int (iZ (sNum (fun w => decide (0 ≤ sFind (fun m => decide (σ 7 m = (w : Int))) 0 (π 0 3).toNat)) 0 (π 0 1).toNat))), some (.int (iZ ((a : Int)))), some (.int (iZ ((b : Int)))), J0, J1, J2, J3, J4, J5, J6, J7, J8] [] (zG E e W) F := by
  have hJ2 := hJ
  obtain ⟨hE, hE0, hz, hSt, hS, hh, hH, hO⟩ := hJ2
  have n1 := hS.1
  have hw : wP π := hSt.2.2.2.2.1
  have hc : wC π σ N := hSt.2.2.2.2.2.1
  have n0 := wP_n hw
  have t0 := wC_n hc
  have bd := ft_bd (τ := cut (sLook π σ)) hw ha hb
  have ff := far_first (τ := cut (sLook π σ)) hw ha hb
  rw [show sFar π (cut (sLook π σ)) (a : Int) (b : Int) = y from hy, show sFirst π (cut (sLook π σ)) (a : Int) (b : Int) = f from hf] at bd ff
  have wv := wP_w hw hw1
  refine gz_iload dL_law_828 rfl ?_
  refine gz_iload dL_law_830 rfl ?_
  refine zz_icmp_ge (tgt := 1022) dL_law_832 rfl (by omega) (fun b832 => ?_) (fun b832 => ?_)
  · exact absurd b832 (by omega)
  refine gz_aload_n dL_law_835 rfl ?_
  refine gz_iload dL_law_836 rfl ?_
  refine gz_iload dL_law_838 rfl ?_
  refine gJ_way (a := a) (b := b) dL_law_840 wm_HeliographsLaw_216 hJ h56 (by omega) (by omega) (Nat.le_of_ble_eq_true rfl) (by omega) (fun W840 J840 k840 => ?_)
  rw [hy]
  refine gz_istore (L2 := [some (.ref 56), none, some (.ref 424), some (.ref 320), some (.int (iZ (π 0 0))), some (.int (iZ (π 0 1))), some (.int (iZ (π 0 3))), some (.int (iZ ((tm : Int)))), some (.int x), some (.int (iZ (σ 0 1))), some (.ref r), some (.ref (r + 1)), some (.ref (r + 2)), some (.int (iZ (sSum (σ 8) 0 (π 0 3).toNat))), some (.int (iZ (sSum (σ 5) 0 (π 0 3).toNat))), some (.int (iZ (sSum (σ 10) 0 (π 0 1).toNat))), some (.int (iZ (sNum (fun w => decide (0 ≤ sFind (fun m => decide (σ 7 m = (w : Int))) 0 (π 0 3).toNat)) 0 (π 0 1).toNat))), some (.int (iZ ((a : Int)))), some (.int (iZ ((b : Int)))), some (.int (iZ (y))), J1, J2, J3, J4, J5, J6, J7, J8]) dL_law_843 (Nat.le_of_ble_eq_true rfl) rfl ?_
  refine gz_aload_n dL_law_845 rfl ?_
  refine gz_iload dL_law_846 rfl ?_
  refine gz_iload dL_law_848 rfl ?_
  refine gJ_first (a := a) (b := b) dL_law_850 wm_HeliographsLaw_219 J840 h56 (by omega) (by omega) (Nat.le_of_ble_eq_true rfl) (by omega) (fun W850 J850 k850 => ?_)
  rw [hf, hw9]
  refine gz_istore (L2 := [some (.ref 56), none, some (.ref 424), some (.ref 320), some (.int (iZ (π 0 0))), some (.int (iZ (π 0 1))), some (.int (iZ (π 0 3))), some (.int (iZ ((tm : Int)))), some (.int x), some (.int (iZ (σ 0 1))), some (.ref r), some (.ref (r + 1)), some (.ref (r + 2)), some (.int (iZ (sSum (σ 8) 0 (π 0 3).toNat))), some (.int (iZ (sSum (σ 5) 0 (π 0 3).toNat))), some (.int (iZ (sSum (σ 10) 0 (π 0 1).toNat))), some (.int (iZ (sNum (fun w => decide (0 ≤ sFind (fun m => decide (σ 7 m = (w : Int))) 0 (π 0 3).toNat)) 0 (π 0 1).toNat))), some (.int (iZ ((a : Int)))), some (.int (iZ ((b : Int)))), some (.int (iZ (y))), some (.int (iZ ((w : Int)))), J2, J3, J4, J5, J6, J7, J8]) dL_law_853 (Nat.le_of_ble_eq_true rfl) rfl ?_
  refine gz_iload dL_law_855 rfl ?_
  refine gz_aload_n dL_law_857 rfl ?_
  refine gz_iload dL_law_858 rfl ?_
  refine gz_iload dL_law_860 rfl ?_
  refine gJ_way (a := b) (b := a) dL_law_862 wm_HeliographsLaw_216 J850 h56 (by omega) (by omega) (Nat.le_of_ble_eq_true rfl) (by omega) (fun W862 J862 k862 => ?_)
  rw [show sWay π σ (b : Int) (a : Int) = y from (far_sym (τ := cut (sLook π σ)) hw hb ha).trans hy]
  refine zz_icmp_ne (tgt := 917) dL_law_865 rfl (by omega) (fun b865 => ?_) (fun b865 => ?_)
  · exact absurd b865 (by omega)
  refine gz_iload dL_law_868 rfl ?_
  refine zz_iconst dL_law_870 ?_
  refine zz_icmp_ge (tgt := 878) dL_law_871 rfl (by omega) (fun b871 => ?_) (fun b871 => ?_)
  rotate_left
  · exact absurd b871 (by omega)
  refine zz_iconst dL_law_878 ?_
  refine gz_iload dL_law_879 rfl ?_
  refine zz_if_ge (tgt := 888) dL_law_881 rfl (by omega) (fun b881 => ?_) (fun b881 => ?_)
  rotate_left
  · exact absurd b881 (by omega)
  refine zz_iconst dL_law_888 ?_
  refine zz_icmp_ne (tgt := 917) dL_law_889 rfl (by omega) (fun b889 => ?_) (fun b889 => ?_)
  · exact absurd b889 (by omega)
  refine gz_iload dL_law_892 rfl ?_
  refine zz_if_ne (tgt := 901) dL_law_894 rfl (by omega) (fun b894 => ?_) (fun b894 => ?_)
  rotate_left
  · exact absurd b894 (by omega)
  refine zz_iconst dL_law_901 ?_
  refine gz_iload dL_law_902 rfl ?_
  refine gz_iload dL_law_904 rfl ?_
  refine zz_icmp_ne (tgt := 913) dL_law_906 rfl (by omega) (fun b906 => ?_) (fun b906 => ?_)
  rotate_left
  · exact absurd b906 (by omega)
  refine zz_iconst dL_law_913 ?_
  refine zz_icmp_eq (tgt := 919) dL_law_914 rfl (by omega) (fun b914 => ?_) (fun b914 => ?_)
  rotate_left
  · exact absurd b914 (by omega)
  refine gz_iload dL_law_919 rfl ?_
  refine zz_if_ge (tgt := 927) dL_law_921 rfl (by omega) (fun b921 => ?_) (fun b921 => ?_)
  rotate_left
  · exact absurd b921 (by omega)
  refine gz_aload_n dL_law_927 rfl ?_
  refine gz_iload dL_law_928 rfl ?_
  refine zz_iconst dL_law_930 ?_
  refine gJ_pass (w := w) (v := π 4 w) dL_law_931 wm_HeliographsLaw_196 J862 h56 (by omega) (by omega) rfl (Nat.le_of_ble_eq_true rfl) (by omega) ?_
  rw [hu]
  refine gz_iload dL_law_934 rfl ?_
  refine zz_icmp_ne (tgt := 949) dL_law_936 rfl (by omega) (fun b936 => ?_) (fun b936 => ?_)
  · exact absurd b936 (by omega)
  refine gz_aload_n dL_law_939 rfl ?_
  refine gz_iload dL_law_940 rfl ?_
  refine zz_iconst dL_law_942 ?_
  refine gJ_pass (w := w) (v := π 5 w) dL_law_943 wm_HeliographsLaw_196 J862 h56 (by omega) (by omega) rfl (Nat.le_of_ble_eq_true rfl) (by omega) ?_
  rw [hv]
  refine gz_goto (tgt := 956) dL_law_946 rfl ?_
  refine gz_istore (L2 := [some (.ref 56), none, some (.ref 424), some (.ref 320), some (.int (iZ (π 0 0))), some (.int (iZ (π 0 1))), some (.int (iZ (π 0 3))), some (.int (iZ ((tm : Int)))), some (.int x), some (.int (iZ (σ 0 1))), some (.ref r), some (.ref (r + 1)), some (.ref (r + 2)), some (.int (iZ (sSum (σ 8) 0 (π 0 3).toNat))), some (.int (iZ (sSum (σ 5) 0 (π 0 3).toNat))), some (.int (iZ (sSum (σ 10) 0 (π 0 1).toNat))), some (.int (iZ (sNum (fun w => decide (0 ≤ sFind (fun m => decide (σ 7 m = (w : Int))) 0 (π 0 3).toNat)) 0 (π 0 1).toNat))), some (.int (iZ ((a : Int)))), some (.int (iZ ((b : Int)))), some (.int (iZ (y))), some (.int (iZ ((w : Int)))), some (.int (iZ ((v : Int)))), J3, J4, J5, J6, J7, J8]) dL_law_956 (Nat.le_of_ble_eq_true rfl) rfl ?_
  refine gz_aload_n dL_law_958 rfl ?_
  refine gz_iload dL_law_959 rfl ?_
  refine gz_iload dL_law_961 rfl ?_
  refine gJ_open (w := w) (m := σ 0 1) dL_law_963 wm_HeliographsLaw_206 J862 h56 (by omega) (by omega) (Nat.le_of_ble_eq_true rfl) (by omega) ?_
  rw [bI_t op]
  refine zz_if_eq (tgt := 1014) dL_law_966 rfl (by omega) (fun b966 => ?_) (fun b966 => ?_)
  · exact absurd b966 (by omega)
  refine gz_aload_n dL_law_969 rfl ?_
  refine gz_iload dL_law_970 rfl ?_
  refine zz_iconst dL_law_972 ?_
  refine gJ_pass (w := w) (v := π 4 w) dL_law_973 wm_HeliographsLaw_196 J862 h56 (by omega) (by omega) rfl (Nat.le_of_ble_eq_true rfl) (by omega) ?_
  rw [hu]
  refine gz_iload dL_law_976 rfl ?_
  refine zz_icmp_eq (tgt := 993) dL_law_978 rfl (by omega) (fun b978 => ?_) (fun b978 => ?_)
  rotate_left
  · exact absurd b978 (by omega)
  refine gz_aload_n dL_law_993 rfl ?_
  refine gz_iload dL_law_994 rfl ?_
  refine gz_iload dL_law_996 rfl ?_
  refine gJ_way (a := v) (b := b) dL_law_998 wm_HeliographsLaw_216 J862 h56 (by omega) (by omega) (Nat.le_of_ble_eq_true rfl) (by omega) (fun W998 J998 k998 => ?_)
  rw [show sWay π σ (v : Int) (b : Int) = y - π 6 w from by have k := hq2; rw [show sFar π (cut (sLook π σ)) (a : Int) (b : Int) = y from hy] at k; exact k]
  refine gz_iload dL_law_1001 rfl ?_
  refine gz_aload_n dL_law_1003 rfl ?_
  refine gz_iload dL_law_1004 rfl ?_
  refine zz_iconst dL_law_1006 ?_
  refine gJ_pass (w := w) (v := π 6 w) dL_law_1007 wm_HeliographsLaw_196 J998 h56 (by omega) (by omega) rfl (Nat.le_of_ble_eq_true rfl) (by omega) ?_
  refine zz_isub dL_law_1010 ?_
  refine zz_icmp_eq (tgt := 1016) dL_law_1011 rfl (by omega) (fun b1011 => ?_) (fun b1011 => ?_)
  rotate_left
  · exact absurd b1011 (by omega)
  refine zz_iinc (L2 := [some (.ref 56), none, some (.ref 424), some (.ref 320), some (.int (iZ (π 0 0))), some (.int (iZ (π 0 1))), some (.int (iZ (π 0 3))), some (.int (iZ ((tm : Int)))), some (.int x), some (.int (iZ (σ 0 1))), some (.ref r), some (.ref (r + 1)), some (.ref (r + 2)), some (.int (iZ (sSum (σ 8) 0 (π 0 3).toNat))), some (.int (iZ (sSum (σ 5) 0 (π 0 3).toNat))), some (.int (iZ (sSum (σ 10) 0 (π 0 1).toNat))), some (.int (iZ (sNum (fun w => decide (0 ≤ sFind (fun m => decide (σ 7 m = (w : Int))) 0 (π 0 3).toNat)) 0 (π 0 1).toNat))), some (.int (iZ ((a : Int)))), some (.int (iZ (((b + 1 : Nat) : Int)))), some (.int (iZ (y))), some (.int (iZ ((w : Int)))), some (.int (iZ ((v : Int)))), J3, J4, J5, J6, J7, J8]) dL_law_1016 rfl (by rw [show ((b + 1 : Nat) : Int) = (b : Int) + 1 by omega]; rfl) ?_
  refine gz_goto (tgt := 828) dL_law_1019 rfl ?_
  exact kk _ _ _ _ _ _ _ _ _ _ J998 (fun a j h => ((k998 a j h).trans (((k862 a j h).trans (((k850 a j h).trans (((k840 a j h).trans (hF a j h)))))))))
theorem zl_way_3 {E : Nat → Nat × Nat} {e : Nat} {c : Nat → Nat} {π σ : zV} {p : Nat} {H : zV → Nat → Bool} {t o N : Int} {kc ks : Nat} {Q : Option Value → zk_M → (Heap → Prop) → Prop} {tm r : Nat} {x : Int32} {W W0 : zV} {a b : Nat} {y f : Int} {J0 J1 J2 J3 J4 J5 J6 J7 J8 : Option Value} (hJ : lJ E e c W p H π σ t o N) (hF : (∀ a j, (a = 56 ∨ 424 ≤ a) → W a j = W0 a j)) (h56 : Γ.2.2.2.1 56 < Γ.2.1.size) (ha : (a : Int) < π 0 0) (hb : (b : Int) < π 0 0) (hN : N ≤ 80000) (hmin : σ 0 1 ≤ 9000) (hd : 20 ≤ d) (hy : sWay π σ (a : Int) (b : Int) = y) (hf : sFst2 π σ (a : Int) (b : Int) = f) {w u v : Nat} (q : 0 < y) (hw9 : f = (w : Int)) (hw1 : (w : Int) < π 0 1) (hu : π 4 w = (u : Int)) (hv : π 5 w = (v : Int)) (op : sPass π σ w (σ 0 1) = true) (hq1 : v = a ∧ u ≠ a) (hq2 : sFar π (cut (sLook π σ)) (u : Int) (b : Int) = sFar π (cut (sLook π σ)) (a : Int) (b : Int) - π 6 w) (kk : ∀ (W1 : zV) (J0 J1 J2 J3 J4 J5 J6 J7 J8 : Option Value), lJ E e c W1 p H π σ t o N → (∀ a j, (a = 56 ∨ 424 ≤ a) → W1 a j = W0 a j) → zk_Go l Γ mL_law d kc ks Q 828 [some (.ref 56), none, some (.ref 424), some (.ref 320), some (.int (iZ (π 0 0))), some (.int (iZ (π 0 1))), some (.int (iZ (π 0 3))), some (.int (iZ ((tm : Int)))), some (.int x), some (.int (iZ (σ 0 1))), some (.ref r), some (.ref (r + 1)), some (.ref (r + 2)), some (.int (iZ (sSum (σ 8) 0 (π 0 3).toNat))), some (.int (iZ (sSum (σ 5) 0 (π 0 3).toNat))), some (.int (iZ (sSum (σ 10) 0 (π 0 1).toNat))), some (.int (iZ (sNum (fun w => decide (0 ≤ sFind (fun m => decide (σ 7 m = (w : Int))) 0 (π 0 3).toNat)) 0 (π 0 1).toNat))), some (.int (iZ ((a : Int)))), some (.int (iZ (((b + 1 : Nat) : Int)))), J0, J1, J2, J3, J4, J5, J6, J7, J8] [] (zG E e W1) F) : zk_Go l Γ mL_law d kc ks Q 828 [some (.ref 56), none, some (.ref 424), some (.ref 320), some (.int (iZ (π 0 0))), some (.int (iZ (π 0 1))), some (.int (iZ (π 0 3))), some (.int (iZ ((tm : Int)))), some (.int x), some (.int (iZ (σ 0 1))), some (.ref r), some (.ref (r + 1)), some (.ref (r + 2)), some (.int (iZ (sSum (σ 8) 0 (π 0 3).toNat))), some (.int (iZ (sSum (σ 5) 0 (π 0 3).toNat))), some (.int (iZ (sSum (σ 10) 0 (π 0 1).toNat))), some (.int (iZ (sNum (fun w => decide (0 ≤ sFind (fun m => decide (σ 7 m = (w : Int))) 0 (π 0 3).toNat)) 0 (π 0 1).toNat))), some (.int (iZ ((a : Int)))), some (.int (iZ ((b : Int)))), J0, J1, J2, J3, J4, J5, J6, J7, J8] [] (zG E e W) F := by
  have hJ2 := hJ
  obtain ⟨hE, hE0, hz, hSt, hS, hh, hH, hO⟩ := hJ2
  have n1 := hS.1
  have hw : wP π := hSt.2.2.2.2.1
  have hc : wC π σ N := hSt.2.2.2.2.2.1
  have n0 := wP_n hw
  have t0 := wC_n hc
  have bd := ft_bd (τ := cut (sLook π σ)) hw ha hb
  have ff := far_first (τ := cut (sLook π σ)) hw ha hb
  rw [show sFar π (cut (sLook π σ)) (a : Int) (b : Int) = y from hy, show sFirst π (cut (sLook π σ)) (a : Int) (b : Int) = f from hf] at bd ff
  have wv := wP_w hw hw1
  refine gz_iload dL_law_828 rfl ?_
  refine gz_iload dL_law_830 rfl ?_
  refine zz_icmp_ge (tgt := 1022) dL_law_832 rfl (by omega) (fun b832 => ?_) (fun b832 => ?_)
  · exact absurd b832 (by omega)
  refine gz_aload_n dL_law_835 rfl ?_
  refine gz_iload dL_law_836 rfl ?_
  refine gz_iload dL_law_838 rfl ?_
  refine gJ_way (a := a) (b := b) dL_law_840 wm_HeliographsLaw_216 hJ h56 (by omega) (by omega) (Nat.le_of_ble_eq_true rfl) (by omega) (fun W840 J840 k840 => ?_)
  rw [hy]
  refine gz_istore (L2 := [some (.ref 56), none, some (.ref 424), some (.ref 320), some (.int (iZ (π 0 0))), some (.int (iZ (π 0 1))), some (.int (iZ (π 0 3))), some (.int (iZ ((tm : Int)))), some (.int x), some (.int (iZ (σ 0 1))), some (.ref r), some (.ref (r + 1)), some (.ref (r + 2)), some (.int (iZ (sSum (σ 8) 0 (π 0 3).toNat))), some (.int (iZ (sSum (σ 5) 0 (π 0 3).toNat))), some (.int (iZ (sSum (σ 10) 0 (π 0 1).toNat))), some (.int (iZ (sNum (fun w => decide (0 ≤ sFind (fun m => decide (σ 7 m = (w : Int))) 0 (π 0 3).toNat)) 0 (π 0 1).toNat))), some (.int (iZ ((a : Int)))), some (.int (iZ ((b : Int)))), some (.int (iZ (y))), J1, J2, J3, J4, J5, J6, J7, J8]) dL_law_843 (Nat.le_of_ble_eq_true rfl) rfl ?_
  refine gz_aload_n dL_law_845 rfl ?_
  refine gz_iload dL_law_846 rfl ?_
  refine gz_iload dL_law_848 rfl ?_
  refine gJ_first (a := a) (b := b) dL_law_850 wm_HeliographsLaw_219 J840 h56 (by omega) (by omega) (Nat.le_of_ble_eq_true rfl) (by omega) (fun W850 J850 k850 => ?_)
  rw [hf, hw9]
  refine gz_istore (L2 := [some (.ref 56), none, some (.ref 424), some (.ref 320), some (.int (iZ (π 0 0))), some (.int (iZ (π 0 1))), some (.int (iZ (π 0 3))), some (.int (iZ ((tm : Int)))), some (.int x), some (.int (iZ (σ 0 1))), some (.ref r), some (.ref (r + 1)), some (.ref (r + 2)), some (.int (iZ (sSum (σ 8) 0 (π 0 3).toNat))), some (.int (iZ (sSum (σ 5) 0 (π 0 3).toNat))), some (.int (iZ (sSum (σ 10) 0 (π 0 1).toNat))), some (.int (iZ (sNum (fun w => decide (0 ≤ sFind (fun m => decide (σ 7 m = (w : Int))) 0 (π 0 3).toNat)) 0 (π 0 1).toNat))), some (.int (iZ ((a : Int)))), some (.int (iZ ((b : Int)))), some (.int (iZ (y))), some (.int (iZ ((w : Int)))), J2, J3, J4, J5, J6, J7, J8]) dL_law_853 (Nat.le_of_ble_eq_true rfl) rfl ?_
  refine gz_iload dL_law_855 rfl ?_
  refine gz_aload_n dL_law_857 rfl ?_
  refine gz_iload dL_law_858 rfl ?_
  refine gz_iload dL_law_860 rfl ?_
  refine gJ_way (a := b) (b := a) dL_law_862 wm_HeliographsLaw_216 J850 h56 (by omega) (by omega) (Nat.le_of_ble_eq_true rfl) (by omega) (fun W862 J862 k862 => ?_)
  rw [show sWay π σ (b : Int) (a : Int) = y from (far_sym (τ := cut (sLook π σ)) hw hb ha).trans hy]
  refine zz_icmp_ne (tgt := 917) dL_law_865 rfl (by omega) (fun b865 => ?_) (fun b865 => ?_)
  · exact absurd b865 (by omega)
  refine gz_iload dL_law_868 rfl ?_
  refine zz_iconst dL_law_870 ?_
  refine zz_icmp_ge (tgt := 878) dL_law_871 rfl (by omega) (fun b871 => ?_) (fun b871 => ?_)
  rotate_left
  · exact absurd b871 (by omega)
  refine zz_iconst dL_law_878 ?_
  refine gz_iload dL_law_879 rfl ?_
  refine zz_if_ge (tgt := 888) dL_law_881 rfl (by omega) (fun b881 => ?_) (fun b881 => ?_)
  rotate_left
  · exact absurd b881 (by omega)
  refine zz_iconst dL_law_888 ?_
  refine zz_icmp_ne (tgt := 917) dL_law_889 rfl (by omega) (fun b889 => ?_) (fun b889 => ?_)
  · exact absurd b889 (by omega)
  refine gz_iload dL_law_892 rfl ?_
  refine zz_if_ne (tgt := 901) dL_law_894 rfl (by omega) (fun b894 => ?_) (fun b894 => ?_)
  rotate_left
  · exact absurd b894 (by omega)
  refine zz_iconst dL_law_901 ?_
  refine gz_iload dL_law_902 rfl ?_
  refine gz_iload dL_law_904 rfl ?_
  refine zz_icmp_ne (tgt := 913) dL_law_906 rfl (by omega) (fun b906 => ?_) (fun b906 => ?_)
  rotate_left
  · exact absurd b906 (by omega)
  refine zz_iconst dL_law_913 ?_
  refine zz_icmp_eq (tgt := 919) dL_law_914 rfl (by omega) (fun b914 => ?_) (fun b914 => ?_)
  rotate_left
  · exact absurd b914 (by omega)
  refine gz_iload dL_law_919 rfl ?_
  refine zz_if_ge (tgt := 927) dL_law_921 rfl (by omega) (fun b921 => ?_) (fun b921 => ?_)
  rotate_left
  · exact absurd b921 (by omega)
  refine gz_aload_n dL_law_927 rfl ?_
  refine gz_iload dL_law_928 rfl ?_
  refine zz_iconst dL_law_930 ?_
  refine gJ_pass (w := w) (v := π 4 w) dL_law_931 wm_HeliographsLaw_196 J862 h56 (by omega) (by omega) rfl (Nat.le_of_ble_eq_true rfl) (by omega) ?_
  rw [hu]
  refine gz_iload dL_law_934 rfl ?_
  refine zz_icmp_ne (tgt := 949) dL_law_936 rfl (by omega) (fun b936 => ?_) (fun b936 => ?_)
  rotate_left
  · exact absurd b936 (by omega)
  refine gz_aload_n dL_law_949 rfl ?_
  refine gz_iload dL_law_950 rfl ?_
  refine zz_iconst dL_law_952 ?_
  refine gJ_pass (w := w) (v := π 4 w) dL_law_953 wm_HeliographsLaw_196 J862 h56 (by omega) (by omega) rfl (Nat.le_of_ble_eq_true rfl) (by omega) ?_
  rw [hu]
  refine gz_istore (L2 := [some (.ref 56), none, some (.ref 424), some (.ref 320), some (.int (iZ (π 0 0))), some (.int (iZ (π 0 1))), some (.int (iZ (π 0 3))), some (.int (iZ ((tm : Int)))), some (.int x), some (.int (iZ (σ 0 1))), some (.ref r), some (.ref (r + 1)), some (.ref (r + 2)), some (.int (iZ (sSum (σ 8) 0 (π 0 3).toNat))), some (.int (iZ (sSum (σ 5) 0 (π 0 3).toNat))), some (.int (iZ (sSum (σ 10) 0 (π 0 1).toNat))), some (.int (iZ (sNum (fun w => decide (0 ≤ sFind (fun m => decide (σ 7 m = (w : Int))) 0 (π 0 3).toNat)) 0 (π 0 1).toNat))), some (.int (iZ ((a : Int)))), some (.int (iZ ((b : Int)))), some (.int (iZ (y))), some (.int (iZ ((w : Int)))), some (.int (iZ ((u : Int)))), J3, J4, J5, J6, J7, J8]) dL_law_956 (Nat.le_of_ble_eq_true rfl) rfl ?_
  refine gz_aload_n dL_law_958 rfl ?_
  refine gz_iload dL_law_959 rfl ?_
  refine gz_iload dL_law_961 rfl ?_
  refine gJ_open (w := w) (m := σ 0 1) dL_law_963 wm_HeliographsLaw_206 J862 h56 (by omega) (by omega) (Nat.le_of_ble_eq_true rfl) (by omega) ?_
  rw [bI_t op]
  refine zz_if_eq (tgt := 1014) dL_law_966 rfl (by omega) (fun b966 => ?_) (fun b966 => ?_)
  · exact absurd b966 (by omega)
  refine gz_aload_n dL_law_969 rfl ?_
  refine gz_iload dL_law_970 rfl ?_
  refine zz_iconst dL_law_972 ?_
  refine gJ_pass (w := w) (v := π 4 w) dL_law_973 wm_HeliographsLaw_196 J862 h56 (by omega) (by omega) rfl (Nat.le_of_ble_eq_true rfl) (by omega) ?_
  rw [hu]
  refine gz_iload dL_law_976 rfl ?_
  refine zz_icmp_eq (tgt := 993) dL_law_978 rfl (by omega) (fun b978 => ?_) (fun b978 => ?_)
  · exact absurd b978 (by omega)
  refine gz_aload_n dL_law_981 rfl ?_
  refine gz_iload dL_law_982 rfl ?_
  refine zz_iconst dL_law_984 ?_
  refine gJ_pass (w := w) (v := π 5 w) dL_law_985 wm_HeliographsLaw_196 J862 h56 (by omega) (by omega) rfl (Nat.le_of_ble_eq_true rfl) (by omega) ?_
  rw [hv]
  refine gz_iload dL_law_988 rfl ?_
  refine zz_icmp_ne (tgt := 1014) dL_law_990 rfl (by omega) (fun b990 => ?_) (fun b990 => ?_)
  · exact absurd b990 (by omega)
  refine gz_aload_n dL_law_993 rfl ?_
  refine gz_iload dL_law_994 rfl ?_
  refine gz_iload dL_law_996 rfl ?_
  refine gJ_way (a := u) (b := b) dL_law_998 wm_HeliographsLaw_216 J862 h56 (by omega) (by omega) (Nat.le_of_ble_eq_true rfl) (by omega) (fun W998 J998 k998 => ?_)
  rw [show sWay π σ (u : Int) (b : Int) = y - π 6 w from by have k := hq2; rw [show sFar π (cut (sLook π σ)) (a : Int) (b : Int) = y from hy] at k; exact k]
  refine gz_iload dL_law_1001 rfl ?_
  refine gz_aload_n dL_law_1003 rfl ?_
  refine gz_iload dL_law_1004 rfl ?_
  refine zz_iconst dL_law_1006 ?_
  refine gJ_pass (w := w) (v := π 6 w) dL_law_1007 wm_HeliographsLaw_196 J998 h56 (by omega) (by omega) rfl (Nat.le_of_ble_eq_true rfl) (by omega) ?_
  refine zz_isub dL_law_1010 ?_
  refine zz_icmp_eq (tgt := 1016) dL_law_1011 rfl (by omega) (fun b1011 => ?_) (fun b1011 => ?_)
  rotate_left
  · exact absurd b1011 (by omega)
  refine zz_iinc (L2 := [some (.ref 56), none, some (.ref 424), some (.ref 320), some (.int (iZ (π 0 0))), some (.int (iZ (π 0 1))), some (.int (iZ (π 0 3))), some (.int (iZ ((tm : Int)))), some (.int x), some (.int (iZ (σ 0 1))), some (.ref r), some (.ref (r + 1)), some (.ref (r + 2)), some (.int (iZ (sSum (σ 8) 0 (π 0 3).toNat))), some (.int (iZ (sSum (σ 5) 0 (π 0 3).toNat))), some (.int (iZ (sSum (σ 10) 0 (π 0 1).toNat))), some (.int (iZ (sNum (fun w => decide (0 ≤ sFind (fun m => decide (σ 7 m = (w : Int))) 0 (π 0 3).toNat)) 0 (π 0 1).toNat))), some (.int (iZ ((a : Int)))), some (.int (iZ (((b + 1 : Nat) : Int)))), some (.int (iZ (y))), some (.int (iZ ((w : Int)))), some (.int (iZ ((u : Int)))), J3, J4, J5, J6, J7, J8]) dL_law_1016 rfl (by rw [show ((b + 1 : Nat) : Int) = (b : Int) + 1 by omega]; rfl) ?_
  refine gz_goto (tgt := 828) dL_law_1019 rfl ?_
  exact kk _ _ _ _ _ _ _ _ _ _ J998 (fun a j h => ((k998 a j h).trans (((k862 a j h).trans (((k850 a j h).trans (((k840 a j h).trans (hF a j h)))))))))
theorem zl_way {E : Nat → Nat × Nat} {e : Nat} {c : Nat → Nat} {π σ : zV} {p : Nat} {H : zV → Nat → Bool} {t o N : Int} {kc ks : Nat} {Q : Option Value → zk_M → (Heap → Prop) → Prop} {tm r : Nat} {x : Int32} {W W0 : zV} {a b : Nat} {J0 J1 J2 J3 J4 J5 J6 J7 J8 : Option Value} (hJ : lJ E e c W p H π σ t o N) (hF : (∀ a j, (a = 56 ∨ 424 ≤ a) → W a j = W0 a j)) (h56 : Γ.2.2.2.1 56 < Γ.2.1.size) (ha : (a : Int) < π 0 0) (hb : (b : Int) < π 0 0) (hN : N ≤ 80000) (hmin : σ 0 1 ≤ 9000) (hd : 20 ≤ d) (kk : ∀ (W1 : zV) (J0 J1 J2 J3 J4 J5 J6 J7 J8 : Option Value), lJ E e c W1 p H π σ t o N → (∀ a j, (a = 56 ∨ 424 ≤ a) → W1 a j = W0 a j) → zk_Go l Γ mL_law d kc ks Q 828 [some (.ref 56), none, some (.ref 424), some (.ref 320), some (.int (iZ (π 0 0))), some (.int (iZ (π 0 1))), some (.int (iZ (π 0 3))), some (.int (iZ ((tm : Int)))), some (.int x), some (.int (iZ (σ 0 1))), some (.ref r), some (.ref (r + 1)), some (.ref (r + 2)), some (.int (iZ (sSum (σ 8) 0 (π 0 3).toNat))), some (.int (iZ (sSum (σ 5) 0 (π 0 3).toNat))), some (.int (iZ (sSum (σ 10) 0 (π 0 1).toNat))), some (.int (iZ (sNum (fun w => decide (0 ≤ sFind (fun m => decide (σ 7 m = (w : Int))) 0 (π 0 3).toNat)) 0 (π 0 1).toNat))), some (.int (iZ ((a : Int)))), some (.int (iZ (((b + 1 : Nat) : Int)))), J0, J1, J2, J3, J4, J5, J6, J7, J8] [] (zG E e W1) F) : zk_Go l Γ mL_law d kc ks Q 828 [some (.ref 56), none, some (.ref 424), some (.ref 320), some (.int (iZ (π 0 0))), some (.int (iZ (π 0 1))), some (.int (iZ (π 0 3))), some (.int (iZ ((tm : Int)))), some (.int x), some (.int (iZ (σ 0 1))), some (.ref r), some (.ref (r + 1)), some (.ref (r + 2)), some (.int (iZ (sSum (σ 8) 0 (π 0 3).toNat))), some (.int (iZ (sSum (σ 5) 0 (π 0 3).toNat))), some (.int (iZ (sSum (σ 10) 0 (π 0 1).toNat))), some (.int (iZ (sNum (fun w => decide (0 ≤ sFind (fun m => decide (σ 7 m = (w : Int))) 0 (π 0 3).toNat)) 0 (π 0 1).toNat))), some (.int (iZ ((a : Int)))), some (.int (iZ ((b : Int)))), J0, J1, J2, J3, J4, J5, J6, J7, J8] [] (zG E e W) F := by
  have hJ2 := hJ
  obtain ⟨hE, hE0, hz, hSt, hS, hh, hH, hO⟩ := hJ2
  have n1 := hS.1
  have hw : wP π := hSt.2.2.2.2.1
  have hc : wC π σ N := hSt.2.2.2.2.2.1
  have n0 := wP_n hw
  have t0 := wC_n hc
  have bd := ft_bd (τ := cut (sLook π σ)) hw ha hb
  have ff := far_first (τ := cut (sLook π σ)) hw ha hb
  obtain ⟨y, hy⟩ : ∃ y, sWay π σ (a : Int) (b : Int) = y := ⟨_, rfl⟩
  obtain ⟨f, hf⟩ : ∃ f, sFst2 π σ (a : Int) (b : Int) = f := ⟨_, rfl⟩
  rw [show sFar π (cut (sLook π σ)) (a : Int) (b : Int) = y from hy, show sFirst π (cut (sLook π σ)) (a : Int) (b : Int) = f from hf] at bd ff
  rcases (show y = 0 ∨ y < 0 ∨ 0 < y by omega) with q | q | q
  · exact zl_way_0 hJ hF h56 ha hb hN hmin hd hy hf q kk
  · exact zl_way_1 hJ hF h56 ha hb hN hmin hd hy hf q kk
  · obtain ⟨w, hw9⟩ : ∃ w : Nat, f = (w : Int) := ⟨f.toNat, by omega⟩
    have hw1 : (w : Int) < π 0 1 := by omega
    have wv := wP_w hw hw1
    obtain ⟨u, hu⟩ : ∃ u : Nat, π 4 w = (u : Int) := ⟨(π 4 w).toNat, by omega⟩
    obtain ⟨v, hv⟩ : ∃ v : Nat, π 5 w = (v : Int) := ⟨(π 5 w).toNat, by omega⟩
    obtain ⟨l1, l2⟩ := first_on (τ := cut (sLook π σ)) hw ha hb (show sFirst π (cut (sLook π σ)) (a : Int) (b : Int) = (w : Int) from hf.trans hw9) hu hv (by omega) (by omega) (by omega)
    have op := (lit_iff hw hw1).mp l1
    rcases l2 with ⟨k1, k2⟩ | ⟨k1, k2, k3⟩
    · exact zl_way_2 hJ hF h56 ha hb hN hmin hd hy hf q hw9 hw1 hu hv op k1 k2 kk
    · exact zl_way_3 hJ hF h56 ha hb hN hmin hd hy hf q hw9 hw1 hu hv op ⟨k1, k2⟩ k3 kk
theorem zl_ways {E : Nat → Nat × Nat} {e : Nat} {c : Nat → Nat} {π σ : zV} {p : Nat} {H : zV → Nat → Bool} {t o N : Int} {kc ks : Nat} {Q : Option Value → zk_M → (Heap → Prop) → Prop} {tm r : Nat} {x : Int32} {W0 : zV} {a nb : Nat} (h56 : Γ.2.2.2.1 56 < Γ.2.1.size) (hnb : (nb : Int) = π 0 0) (ha : (a : Int) < π 0 0) (hN : N ≤ 80000) (hmin : σ 0 1 ≤ 9000) (hd : 20 ≤ d) (kk : ∀ (W1 : zV) (J0 J1 J2 J3 J4 J5 J6 J7 J8 : Option Value), lJ E e c W1 p H π σ t o N → (∀ a j, (a = 56 ∨ 424 ≤ a) → W1 a j = W0 a j) → zk_Go l Γ mL_law d kc ks Q 1022 [some (.ref 56), none, some (.ref 424), some (.ref 320), some (.int (iZ (π 0 0))), some (.int (iZ (π 0 1))), some (.int (iZ (π 0 3))), some (.int (iZ ((tm : Int)))), some (.int x), some (.int (iZ (σ 0 1))), some (.ref r), some (.ref (r + 1)), some (.ref (r + 2)), some (.int (iZ (sSum (σ 8) 0 (π 0 3).toNat))), some (.int (iZ (sSum (σ 5) 0 (π 0 3).toNat))), some (.int (iZ (sSum (σ 10) 0 (π 0 1).toNat))), some (.int (iZ (sNum (fun w => decide (0 ≤ sFind (fun m => decide (σ 7 m = (w : Int))) 0 (π 0 3).toNat)) 0 (π 0 1).toNat))), some (.int (iZ ((a : Int)))), some (.int (iZ ((nb : Int)))), J0, J1, J2, J3, J4, J5, J6, J7, J8] [] (zG E e W1) F) : ∀ (n b : Nat) (W : zV) (J0 J1 J2 J3 J4 J5 J6 J7 J8 : Option Value), b + n = nb → lJ E e c W p H π σ t o N → (∀ a j, (a = 56 ∨ 424 ≤ a) → W a j = W0 a j) → zk_Go l Γ mL_law d kc ks Q 828 [some (.ref 56), none, some (.ref 424), some (.ref 320), some (.int (iZ (π 0 0))), some (.int (iZ (π 0 1))), some (.int (iZ (π 0 3))), some (.int (iZ ((tm : Int)))), some (.int x), some (.int (iZ (σ 0 1))), some (.ref r), some (.ref (r + 1)), some (.ref (r + 2)), some (.int (iZ (sSum (σ 8) 0 (π 0 3).toNat))), some (.int (iZ (sSum (σ 5) 0 (π 0 3).toNat))), some (.int (iZ (sSum (σ 10) 0 (π 0 1).toNat))), some (.int (iZ (sNum (fun w => decide (0 ≤ sFind (fun m => decide (σ 7 m = (w : Int))) 0 (π 0 3).toNat)) 0 (π 0 1).toNat))), some (.int (iZ ((a : Int)))), some (.int (iZ ((b : Int)))), J0, J1, J2, J3, J4, J5, J6, J7, J8] [] (zG E e W) F
  | 0, b, W, J0, J1, J2, J3, J4, J5, J6, J7, J8, hi, hJ, hF => by
    have e : b = nb := by omega
    subst e
    have n0 := wP_n hJ.2.2.2.1.2.2.2.2.1
    refine gz_iload dL_law_828 rfl ?_
    refine gz_iload dL_law_830 rfl ?_
    refine zz_icmp_ge (tgt := 1022) dL_law_832 rfl (by omega) (fun b => ?_) (fun b => absurd b (by omega))
    exact kk W J0 J1 J2 J3 J4 J5 J6 J7 J8 hJ hF
  | n + 1, b, W, J0, J1, J2, J3, J4, J5, J6, J7, J8, hi, hJ, hF => zl_way hJ hF h56 ha (by omega) hN hmin hd (fun W1 J0 J1 J2 J3 J4 J5 J6 J7 J8 hJ1 hF1 => zl_ways h56 hnb ha hN hmin hd kk n (b + 1) W1 J0 J1 J2 J3 J4 J5 J6 J7 J8 (by omega) hJ1 hF1)
theorem zl_peak1 {E : Nat → Nat × Nat} {e : Nat} {c : Nat → Nat} {π σ : zV} {p : Nat} {H : zV → Nat → Bool} {t o N : Int} {kc ks : Nat} {Q : Option Value → zk_M → (Heap → Prop) → Prop} {tm r np : Nat} {x : Int32} {W W0 : zV} {a : Nat} {J0 J1 J2 J3 J4 J5 J6 J7 J8 J9 : Option Value} (hr : 480 ≤ r) (a0 : E r = (100, 3)) (a1 : E (r + 1) = (100, np)) (a2 : E (r + 2) = (100, np)) (hJ : lJ E e c W p H π σ t o N) (hF : (∀ a j, (a = 56 ∨ 424 ≤ a) → W a j = W0 a j)) (hT : tal W0 r np σ (π 0 3).toNat) (h56 : Γ.2.2.2.1 56 < Γ.2.1.size) (hnp : (np : Int) = π 0 0) (ha : (a : Int) < π 0 0) (hN : N ≤ 80000) (hmin : σ 0 1 ≤ 9000) (hd : 20 ≤ d) (kk : ∀ (W1 : zV) (J0 J1 J2 J3 J4 J5 J6 J7 J8 J9 : Option Value), lJ E e c W1 p H π σ t o N → (∀ a j, (a = 56 ∨ 424 ≤ a) → W1 a j = W0 a j) → zk_Go l Γ mL_law d kc ks Q 750 [some (.ref 56), none, some (.ref 424), some (.ref 320), some (.int (iZ (π 0 0))), some (.int (iZ (π 0 1))), some (.int (iZ (π 0 3))), some (.int (iZ ((tm : Int)))), some (.int x), some (.int (iZ (σ 0 1))), some (.ref r), some (.ref (r + 1)), some (.ref (r + 2)), some (.int (iZ (sSum (σ 8) 0 (π 0 3).toNat))), some (.int (iZ (sSum (σ 5) 0 (π 0 3).toNat))), some (.int (iZ (sSum (σ 10) 0 (π 0 1).toNat))), some (.int (iZ (sNum (fun w => decide (0 ≤ sFind (fun m => decide (σ 7 m = (w : Int))) 0 (π 0 3).toNat)) 0 (π 0 1).toNat))), some (.int (iZ (((a + 1 : Nat) : Int)))), J0, J1, J2, J3, J4, J5, J6, J7, J8, J9] [] (zG E e W1) F) : zk_Go l Γ mL_law d kc ks Q 750 [some (.ref 56), none, some (.ref 424), some (.ref 320), some (.int (iZ (π 0 0))), some (.int (iZ (π 0 1))), some (.int (iZ (π 0 3))), some (.int (iZ ((tm : Int)))), some (.int x), some (.int (iZ (σ 0 1))), some (.ref r), some (.ref (r + 1)), some (.ref (r + 2)), some (.int (iZ (sSum (σ 8) 0 (π 0 3).toNat))), some (.int (iZ (sSum (σ 5) 0 (π 0 3).toNat))), some (.int (iZ (sSum (σ 10) 0 (π 0 1).toNat))), some (.int (iZ (sNum (fun w => decide (0 ≤ sFind (fun m => decide (σ 7 m = (w : Int))) 0 (π 0 3).toNat)) 0 (π 0 1).toNat))), some (.int (iZ ((a : Int)))), J0, J1, J2, J3, J4, J5, J6, J7, J8, J9] [] (zG E e W) F := by
  have hJ2 := hJ
  obtain ⟨hE, hE0, hz, hSt, hS, hh, hH, hO⟩ := hJ2
  have n1 := hS.1
  have hw : wP π := hSt.2.2.2.2.1
  have hc : wC π σ N := hSt.2.2.2.2.2.1
  have n0 := wP_n hw
  have t0 := wC_n hc
  have k1 := wC_k hc ha
  have ef : sFree π σ (a : Int) = σ 1 a - sNum (sAt σ (a : Int) 1) 0 (π 0 3).toNat := rfl
  have fl := hO.2.2 a ha
  have b1 := sNum_bd (sAt σ (a : Int) 1) (π 0 3).toNat 0
  have b0 := sNum_bd (sAt σ (a : Int) 0) (π 0 3).toNat 0
  have b5 := sNum_bd (sEnd π (a : Int)) (π 0 1).toNat 0
  have b6 := sNum_bd (fun w => sEnd π (a : Int) w && sPass π σ w (σ 0 1)) (π 0 1).toNat 0
  have b56 := sNum_le (f := fun w => sEnd π (a : Int) w && sPass π σ w (σ 0 1)) (g := sEnd π (a : Int)) (π 0 1).toNat 0 (fun j _ _ h => by simp only [Bool.and_eq_true] at h; exact h.1)
  refine gz_iload dL_law_750 rfl ?_
  refine gz_iload dL_law_752 rfl ?_
  refine zz_icmp_ge (tgt := 1028) dL_law_754 rfl (by omega) (fun b754 => ?_) (fun b754 => ?_)
  · exact absurd b754 (by omega)
  refine gz_aload_n dL_law_757 rfl ?_
  refine gz_iload dL_law_758 rfl ?_
  refine zz_iconst dL_law_760 ?_
  refine gJ_peak (k := a) (v := sFree π σ (a : Int)) dL_law_761 wm_HeliographsLaw_213 hJ h56 (by omega) (by omega) rfl (Nat.le_of_ble_eq_true rfl) (by omega) ?_
  refine gz_aload_n dL_law_764 rfl ?_
  refine gz_iload dL_law_765 rfl ?_
  refine zz_iconst dL_law_767 ?_
  refine gJ_peak (k := a) (v := σ 1 a) dL_law_768 wm_HeliographsLaw_213 hJ h56 (by omega) (by omega) rfl (Nat.le_of_ble_eq_true rfl) (by omega) ?_
  refine gz_aload dL_law_771 rfl ?_
  refine gz_iload dL_law_773 rfl ?_
  refine gw_iald (a := r + 1) (q := a) (len := np) (v := sNum (sAt σ (a : Int) 1) 0 (π 0 3).toNat) dL_law_775 a1 (by omega) rfl (by omega) ((hF _ _ (Or.inr (by omega))).trans (hT.2.1 a (by omega))) ?_
  refine zz_isub dL_law_776 ?_
  refine zz_icmp_ne (tgt := 823) dL_law_777 rfl (by omega) (fun b777 => ?_) (fun b777 => ?_)
  · exact absurd b777 (by omega)
  refine gz_aload_n dL_law_780 rfl ?_
  refine gz_iload dL_law_781 rfl ?_
  refine zz_iconst dL_law_783 ?_
  refine gJ_peak (k := a) (v := sFree π σ (a : Int)) dL_law_784 wm_HeliographsLaw_213 hJ h56 (by omega) (by omega) rfl (Nat.le_of_ble_eq_true rfl) (by omega) ?_
  refine zz_if_lt (tgt := 823) dL_law_787 rfl (by omega) (fun b787 => ?_) (fun b787 => ?_)
  · exact absurd b787 (by omega)
  refine gz_aload_n dL_law_790 rfl ?_
  refine gz_iload dL_law_791 rfl ?_
  refine zz_iconst dL_law_793 ?_
  refine gJ_peak (k := a) (v := sNum (sAt σ (a : Int) 0) 0 (π 0 3).toNat) dL_law_794 wm_HeliographsLaw_213 hJ h56 (by omega) (by omega) rfl (Nat.le_of_ble_eq_true rfl) (by omega) ?_
  refine gz_aload dL_law_797 rfl ?_
  refine gz_iload dL_law_799 rfl ?_
  refine gw_iald (a := r + 2) (q := a) (len := np) (v := sNum (sAt σ (a : Int) 0) 0 (π 0 3).toNat) dL_law_801 a2 (by omega) rfl (by omega) ((hF _ _ (Or.inr (by omega))).trans (hT.2.2 a (by omega))) ?_
  refine zz_icmp_ne (tgt := 823) dL_law_802 rfl (by omega) (fun b802 => ?_) (fun b802 => ?_)
  · exact absurd b802 (by omega)
  refine gz_aload_n dL_law_805 rfl ?_
  refine gz_iload dL_law_806 rfl ?_
  refine zz_bipush (x := 6) dL_law_808 rfl ?_
  refine gJ_peak (k := a) (v := sNum (fun w => sEnd π (a : Int) w && sPass π σ w (σ 0 1)) 0 (π 0 1).toNat) dL_law_810 wm_HeliographsLaw_213 hJ h56 (by omega) (by omega) rfl (Nat.le_of_ble_eq_true rfl) (by omega) ?_
  refine gz_aload_n dL_law_813 rfl ?_
  refine gz_iload dL_law_814 rfl ?_
  refine zz_iconst dL_law_816 ?_
  refine gJ_peak (k := a) (v := sNum (sEnd π (a : Int)) 0 (π 0 1).toNat) dL_law_817 wm_HeliographsLaw_213 hJ h56 (by omega) (by omega) rfl (Nat.le_of_ble_eq_true rfl) (by omega) ?_
  refine zz_icmp_le (tgt := 825) dL_law_820 rfl (by omega) (fun b820 => ?_) (fun b820 => ?_)
  rotate_left
  · exact absurd b820 (by omega)
  refine zz_iconst dL_law_825 ?_
  refine gz_istore (L2 := [some (.ref 56), none, some (.ref 424), some (.ref 320), some (.int (iZ (π 0 0))), some (.int (iZ (π 0 1))), some (.int (iZ (π 0 3))), some (.int (iZ ((tm : Int)))), some (.int x), some (.int (iZ (σ 0 1))), some (.ref r), some (.ref (r + 1)), some (.ref (r + 2)), some (.int (iZ (sSum (σ 8) 0 (π 0 3).toNat))), some (.int (iZ (sSum (σ 5) 0 (π 0 3).toNat))), some (.int (iZ (sSum (σ 10) 0 (π 0 1).toNat))), some (.int (iZ (sNum (fun w => decide (0 ≤ sFind (fun m => decide (σ 7 m = (w : Int))) 0 (π 0 3).toNat)) 0 (π 0 1).toNat))), some (.int (iZ ((a : Int)))), some (.int (iZ (0))), J1, J2, J3, J4, J5, J6, J7, J8, J9]) dL_law_826 (Nat.le_of_ble_eq_true rfl) rfl ?_
  refine zl_ways (a := a) (nb := np) (W0 := W0) h56 hnp ha hN hmin hd (fun W1 J0 J1 J2 J3 J4 J5 J6 J7 J8 hJ1 hF1 => ?_) np 0 W _ _ _ _ _ _ _ _ _ (by omega) hJ hF
  refine zz_iinc (L2 := [some (.ref 56), none, some (.ref 424), some (.ref 320), some (.int (iZ (π 0 0))), some (.int (iZ (π 0 1))), some (.int (iZ (π 0 3))), some (.int (iZ ((tm : Int)))), some (.int x), some (.int (iZ (σ 0 1))), some (.ref r), some (.ref (r + 1)), some (.ref (r + 2)), some (.int (iZ (sSum (σ 8) 0 (π 0 3).toNat))), some (.int (iZ (sSum (σ 5) 0 (π 0 3).toNat))), some (.int (iZ (sSum (σ 10) 0 (π 0 1).toNat))), some (.int (iZ (sNum (fun w => decide (0 ≤ sFind (fun m => decide (σ 7 m = (w : Int))) 0 (π 0 3).toNat)) 0 (π 0 1).toNat))), some (.int (iZ (((a + 1 : Nat) : Int)))), some (.int (iZ ((np : Int)))), J0, J1, J2, J3, J4, J5, J6, J7, J8]) dL_law_1022 rfl (by rw [show ((a + 1 : Nat) : Int) = (a : Int) + 1 by omega]; rfl) ?_
  refine gz_goto (tgt := 750) dL_law_1025 rfl ?_
  exact kk W1 _ J0 J1 J2 J3 J4 J5 J6 J7 J8 hJ1 hF1
theorem zl_peaks {E : Nat → Nat × Nat} {e : Nat} {c : Nat → Nat} {π σ : zV} {p : Nat} {H : zV → Nat → Bool} {t o N : Int} {kc ks : Nat} {Q : Option Value → zk_M → (Heap → Prop) → Prop} {tm r np : Nat} {x : Int32} {W0 : zV} (hr : 480 ≤ r) (a0 : E r = (100, 3)) (a1 : E (r + 1) = (100, np)) (a2 : E (r + 2) = (100, np)) (hT : tal W0 r np σ (π 0 3).toNat) (h56 : Γ.2.2.2.1 56 < Γ.2.1.size) (hnp : (np : Int) = π 0 0) (hN : N ≤ 80000) (hmin : σ 0 1 ≤ 9000) (hd : 20 ≤ d) (kk : ∀ (W1 : zV) (J0 J1 J2 J3 J4 J5 J6 J7 J8 J9 : Option Value), lJ E e c W1 p H π σ t o N → (∀ a j, (a = 56 ∨ 424 ≤ a) → W1 a j = W0 a j) → zk_Go l Γ mL_law d kc ks Q 1028 [some (.ref 56), none, some (.ref 424), some (.ref 320), some (.int (iZ (π 0 0))), some (.int (iZ (π 0 1))), some (.int (iZ (π 0 3))), some (.int (iZ ((tm : Int)))), some (.int x), some (.int (iZ (σ 0 1))), some (.ref r), some (.ref (r + 1)), some (.ref (r + 2)), some (.int (iZ (sSum (σ 8) 0 (π 0 3).toNat))), some (.int (iZ (sSum (σ 5) 0 (π 0 3).toNat))), some (.int (iZ (sSum (σ 10) 0 (π 0 1).toNat))), some (.int (iZ (sNum (fun w => decide (0 ≤ sFind (fun m => decide (σ 7 m = (w : Int))) 0 (π 0 3).toNat)) 0 (π 0 1).toNat))), some (.int (iZ ((np : Int)))), J0, J1, J2, J3, J4, J5, J6, J7, J8, J9] [] (zG E e W1) F) : ∀ (n a : Nat) (W : zV) (J0 J1 J2 J3 J4 J5 J6 J7 J8 J9 : Option Value), a + n = np → lJ E e c W p H π σ t o N → (∀ a j, (a = 56 ∨ 424 ≤ a) → W a j = W0 a j) → zk_Go l Γ mL_law d kc ks Q 750 [some (.ref 56), none, some (.ref 424), some (.ref 320), some (.int (iZ (π 0 0))), some (.int (iZ (π 0 1))), some (.int (iZ (π 0 3))), some (.int (iZ ((tm : Int)))), some (.int x), some (.int (iZ (σ 0 1))), some (.ref r), some (.ref (r + 1)), some (.ref (r + 2)), some (.int (iZ (sSum (σ 8) 0 (π 0 3).toNat))), some (.int (iZ (sSum (σ 5) 0 (π 0 3).toNat))), some (.int (iZ (sSum (σ 10) 0 (π 0 1).toNat))), some (.int (iZ (sNum (fun w => decide (0 ≤ sFind (fun m => decide (σ 7 m = (w : Int))) 0 (π 0 3).toNat)) 0 (π 0 1).toNat))), some (.int (iZ ((a : Int)))), J0, J1, J2, J3, J4, J5, J6, J7, J8, J9] [] (zG E e W) F
  | 0, a, W, J0, J1, J2, J3, J4, J5, J6, J7, J8, J9, hi, hJ, hF => by
    have e : a = np := by omega
    subst e
    have n0 := wP_n hJ.2.2.2.1.2.2.2.2.1
    refine gz_iload dL_law_750 rfl ?_
    refine gz_iload dL_law_752 rfl ?_
    refine zz_icmp_ge (tgt := 1028) dL_law_754 rfl (by omega) (fun b => ?_) (fun b => absurd b (by omega))
    exact kk W J0 J1 J2 J3 J4 J5 J6 J7 J8 J9 hJ hF
  | n + 1, a, W, J0, J1, J2, J3, J4, J5, J6, J7, J8, J9, hi, hJ, hF => zl_peak1 hr a0 a1 a2 hJ hF hT h56 hnp (by omega) hN hmin hd (fun W1 J0 J1 J2 J3 J4 J5 J6 J7 J8 J9 hJ1 hF1 => zl_peaks hr a0 a1 a2 hT h56 hnp hN hmin hd kk n (a + 1) W1 J0 J1 J2 J3 J4 J5 J6 J7 J8 J9 (by omega) hJ1 hF1)
theorem zl_taken {E : Nat → Nat × Nat} {e : Nat} {c : Nat → Nat} {π σ : zV} {p : Nat} {H : zV → Nat → Bool} {t o N : Int} {kc ks : Nat} {Q : Option Value → zk_M → (Heap → Prop) → Prop} {tm r np : Nat} {x : Int32} {W : zV} {J0 J1 J2 J3 J4 J5 J6 J7 J8 J9 : Option Value} (hr : 480 ≤ r) (a0 : E r = (100, 3)) (a1 : E (r + 1) = (100, np)) (a2 : E (r + 2) = (100, np)) (hJ : lJ E e c W p H π σ t o N) (hT : tal W r np σ (π 0 3).toNat) (hd : 20 ≤ d) (kk : zk_Go l Γ mL_law d kc ks Q 750 [some (.ref 56), none, some (.ref 424), some (.ref 320), some (.int (iZ (π 0 0))), some (.int (iZ (π 0 1))), some (.int (iZ (π 0 3))), some (.int (iZ ((tm : Int)))), some (.int x), some (.int (iZ (σ 0 1))), some (.ref r), some (.ref (r + 1)), some (.ref (r + 2)), some (.int (iZ (sSum (σ 8) 0 (π 0 3).toNat))), some (.int (iZ (sSum (σ 5) 0 (π 0 3).toNat))), some (.int (iZ (sSum (σ 10) 0 (π 0 1).toNat))), some (.int (iZ (sNum (fun w => decide (0 ≤ sFind (fun m => decide (σ 7 m = (w : Int))) 0 (π 0 3).toNat)) 0 (π 0 1).toNat))), some (.int (iZ (0))), J0, J1, J2, J3, J4, J5, J6, J7, J8, J9] [] (zG E e W) F) : zk_Go l Γ mL_law d kc ks Q 736 [some (.ref 56), none, some (.ref 424), some (.ref 320), some (.int (iZ (π 0 0))), some (.int (iZ (π 0 1))), some (.int (iZ (π 0 3))), some (.int (iZ ((tm : Int)))), some (.int x), some (.int (iZ (σ 0 1))), some (.ref r), some (.ref (r + 1)), some (.ref (r + 2)), some (.int (iZ (sSum (σ 8) 0 (π 0 3).toNat))), some (.int (iZ (sSum (σ 5) 0 (π 0 3).toNat))), some (.int (iZ (sSum (σ 10) 0 (π 0 1).toNat))), some (.int (iZ (sNum (fun w => decide (0 ≤ sFind (fun m => decide (σ 7 m = (w : Int))) 0 (π 0 3).toNat)) 0 (π 0 1).toNat))), some (.int (iZ ((((π 0 1).toNat : Nat) : Int)))), J0, J1, J2, J3, J4, J5, J6, J7, J8, J9] [] (zG E e W) F := by
  have hJ2 := hJ
  obtain ⟨hE, hE0, hz, hSt, hS, hh, hH, hO⟩ := hJ2
  have n1 := hS.1
  have hw : wP π := hSt.2.2.2.2.1
  have hc : wC π σ N := hSt.2.2.2.2.2.1
  have n0 := wP_n hw
  have t0 := wC_n hc
  have te := taken_eq hw hc hO
  have b1 := sNum_bd (sIn σ 1) (π 0 3).toNat 0
  refine gz_iload dL_law_736 rfl ?_
  refine gz_aload dL_law_738 rfl ?_
  refine zz_iconst dL_law_740 ?_
  refine gw_iald (a := r) (q := 1) (len := 3) (v := sNum (sIn σ 1) 0 (π 0 3).toNat) dL_law_741 a0 (by omega) rfl (by omega) (hT.1 1 (by omega)) ?_
  refine zz_icmp_eq (tgt := 747) dL_law_742 rfl (by omega) (fun b742 => ?_) (fun b742 => ?_)
  rotate_left
  · exact absurd b742 (by omega)
  refine zz_iconst dL_law_747 ?_
  refine gz_istore (L2 := [some (.ref 56), none, some (.ref 424), some (.ref 320), some (.int (iZ (π 0 0))), some (.int (iZ (π 0 1))), some (.int (iZ (π 0 3))), some (.int (iZ ((tm : Int)))), some (.int x), some (.int (iZ (σ 0 1))), some (.ref r), some (.ref (r + 1)), some (.ref (r + 2)), some (.int (iZ (sSum (σ 8) 0 (π 0 3).toNat))), some (.int (iZ (sSum (σ 5) 0 (π 0 3).toNat))), some (.int (iZ (sSum (σ 10) 0 (π 0 1).toNat))), some (.int (iZ (sNum (fun w => decide (0 ≤ sFind (fun m => decide (σ 7 m = (w : Int))) 0 (π 0 3).toNat)) 0 (π 0 1).toNat))), some (.int (iZ (0))), J0, J1, J2, J3, J4, J5, J6, J7, J8, J9]) dL_law_748 (Nat.le_of_ble_eq_true rfl) rfl ?_
  exact kk
end

/-! THE OBJECT: its digest -/
section
variable {l : Launch} {Γ : zk_G} {d : Nat} {Z : Nat → Nat → Int} {F : Heap → Prop}
theorem ranges_ct {π σ : zV} (hw : wP π) {t o N : Int} (hc : wC π σ N) (ht : 0 ≤ t ∧ t ≤ 2000) (ho : 0 ≤ o ∧ o ≤ 12) (y : Int) : -2147483648 ≤ sCount π σ t o y ∧ sCount π σ t o y < 2147483648 := by
  have h0 := wP_n hw
  have h3 := wC_n hc
  have n1 := sNum_bd (fun k => sSun π k (σ 0 1)) (π 0 0).toNat 0
  have n2 := sNum_bd (fun w => sPass π σ w (σ 0 1)) (π 0 1).toNat 0
  have n3 := sNum_bd (sIn σ 0) (π 0 3).toNat 0
  have n4 := sNum_bd (sIn σ 1) (π 0 3).toNat 0
  have n5 := sNum_bd (sIn σ 2) (π 0 3).toNat 0
  have n6 : ∀ (n i : Nat), (i : Int) + n ≤ π 0 3 → 0 ≤ sSum (σ 8) i n ∧ sSum (σ 8) i n ≤ 90000 * n := by
    intro n
    induction n with
    | zero => intro i h; rw [sSum_0]; omega
    | succ n ih =>
      intro i h
      have q := ih (i + 1) (by omega)
      have q2 := (wC_m hc (k := i) (by omega)).2.2.2.2.2.2.1
      rw [sSum_1]
      omega
  have n7 := n6 (π 0 3).toNat 0 (by omega)
  unfold sCount sTally
  repeat' split
  all_goals omega
theorem ranges_pk {π σ : zV} (hw : wP π) {N : Int} (hc : wC π σ N) {x y : Int} (hx : 0 ≤ x ∧ x < π 0 0) : -2147483648 ≤ sPk π σ x y ∧ sPk π σ x y < 2147483648 := by
  have h0 := wP_n hw
  have h1 := wP_k hw (k := x.toNat) (by omega)
  have h2 := wC_k hc (k := x.toNat) (by omega)
  have n1 := sNum_bd (sAt σ x 0) (π 0 3).toNat 0
  have n2 := sNum_bd (sAt σ x 1) (π 0 3).toNat 0
  have n3 := sNum_bd (sEnd π x) (π 0 1).toNat 0
  have n4 := sNum_bd (fun w => sEnd π x w && sPass π σ w (σ 0 1)) (π 0 1).toNat 0
  unfold sPk sFree
  repeat' split
  all_goals omega
theorem ranges_ps {π σ : zV} (hw : wP π) {N : Int} (hc : wC π σ N) {x y : Int} (hx : 0 ≤ x ∧ x < π 0 1) : -2147483648 ≤ sPs π σ x y ∧ sPs π σ x y < 2147483648 := by
  have h0 := wP_n hw
  have h3 := wC_n hc
  have h1 := wP_w hw (w := x.toNat) (by omega)
  have h2 := wC_w hc (w := x.toNat) (by omega)
  have n1 := sNum_bd (fun i => decide (π 11 i = x)) (π 0 2).toNat 0
  have n2 := sFind_bd (fun m => decide (σ 7 m = x)) (π 0 3).toNat 0
  unfold sPs
  repeat' split
  all_goals omega
theorem ranges_ms {π σ : zV} (hw : wP π) {N : Int} (hc : wC π σ N) {x y : Int} (hx : 0 ≤ x ∧ x < π 0 3) : -2147483648 ≤ sMs π σ x y ∧ sMs π σ x y < 2147483648 := by
  have h0 := wP_n hw
  have h3 := wC_n hc
  have h1 := wP_m hw (i := x.toNat) (by omega)
  have h2 := wC_m hc (k := x.toNat) (by omega)
  unfold wM at h2
  unfold sMs
  repeat' split
  all_goals omega
def sD1 (g : Nat → Int) : Nat → Nat → Int → Int
  | 0, _, a => a
  | n + 1, i, a => sD1 g n (i + 1) (a * 31 + g i)
def sD2 (f : Nat → Int → Int) : Nat → Nat → Int → Int
  | 0, _, a => a
  | n + 1, i, a => sD2 f n (i + 1) (f i a)
def dPk (π σ : zV) (i : Nat) (a : Int) : Int := sD1 (fun j => sPk π σ i j) 7 0 a
def dPs (π σ : zV) (i : Nat) (a : Int) : Int := sD1 (fun j => sPs π σ i j) 6 0 a * 31 + bI (sPass π σ i (σ 0 1))
def dMs (π σ : zV) (i : Nat) (a : Int) : Int := sD1 (fun j => sMs π σ i j) 9 0 a
def sDig (π σ : zV) (t o : Int) : Int := sD2 (dMs π σ) (π 0 3).toNat 0 (sD2 (dPs π σ) (π 0 1).toNat 0 (sD2 (dPk π σ) (π 0 0).toNat 0 (sD1 (fun y => sCount π σ t o y) 14 0 863)))
theorem zh_dig_0 {p : Nat} {H : zV → Nat → Bool} {π σ : zV} {t o N : Int} (hS : St Z p H π σ t o N) (ht2 : 0 ≤ t ∧ t ≤ 2000) (ho2 : 0 ≤ o ∧ o ≤ 12) (hd : 6 ≤ d) {L4 : Option Value} {Q : Option Value → zk_M → (Heap → Prop) → Prop} : ∀ (n i : Nat) (A : Int), i + n = 14 → zk_Go l Γ mX7_digest d 0 0 Q 31 [some (.ref 320), some (.long (lZ (sD1 (fun y => sCount π σ t o y) n i A))), none, some (.int (iZ 14)), L4] [] (zb_M Z) F → zk_Go l Γ mX7_digest d 0 0 Q 6 [some (.ref 320), some (.long (lZ (A))), none, some (.int (iZ (i : Int))), L4] [] (zb_M Z) F := by
  have hw := hS.2.2.2.2.1
  have hc0 := hS.2.2.2.2.2.1
  intro n
  induction n with
  | zero =>
    intro i A hi hq
    refine gz_iload_n dX7_digest_6 rfl ?_
    refine zz_bipush (x := 13) dX7_digest_7 rfl ?_
    refine zz_icmp_gt (tgt := 31) dX7_digest_9 rfl (by omega) (fun b9 => ?_) (fun b9 => ?_)
    rotate_left
    · exact absurd b9 (by omega)
    have ei : (i : Int) = 14 := by omega
    rw [ei]
    exact hq
  | succ n ih =>
    intro i A hi hq
    refine gz_iload_n dX7_digest_6 rfl ?_
    refine zz_bipush (x := 13) dX7_digest_7 rfl ?_
    refine zz_icmp_gt (tgt := 31) dX7_digest_9 rfl (by omega) (fun b9 => ?_) (fun b9 => ?_)
    · exact absurd b9 (by omega)
    refine gz_lload_n dX7_digest_12 rfl ?_
    refine zz_ldc2 (z := 31) dX7_digest_13 wk_Heliographs_222 rfl ?_
    refine zz_lmul dX7_digest_16 ?_
    refine gz_aload_n dX7_digest_17 rfl ?_
    refine gz_iload_n dX7_digest_18 rfl ?_
    refine gv_1 (J := mX7_countTold) (d1 := d - 1) dX7_digest_19 wm_Heliographs_94 rfl jzX7_countTold (Nat.le_of_ble_eq_true rfl) (Nat.le_of_ble_eq_true rfl) (by omega) ⟨Nat.le_refl _, Nat.le_refl _⟩ (zh_countTold hS (by omega) (by omega)) ?_
    refine zz_i2l dX7_digest_22 (ranges_ct hw hc0 ht2 ho2 _) ?_
    refine zz_ladd dX7_digest_23 ?_
    refine gz_lstore_n dX7_digest_24 (Nat.le_of_ble_eq_true rfl) rfl ?_
    refine zz_iinc dX7_digest_25 rfl rfl ?_
    refine gz_goto (tgt := 6) dX7_digest_28 rfl ?_
    exact ih (i + 1) _ (by omega) hq
theorem zh_dig_pk {p : Nat} {H : zV → Nat → Bool} {π σ : zV} {t o N : Int} (hS : St Z p H π σ t o N) {i : Nat} (hx : (i : Int) < π 0 0) (hd : 6 ≤ d) {Q : Option Value → zk_M → (Heap → Prop) → Prop} : ∀ (n j : Nat) (A : Int), j + n = 7 → zk_Go l Γ mX7_digest d 0 0 Q 81 [some (.ref 320), some (.long (lZ (sD1 (fun j => sPk π σ i j) n j A))), none, some (.int (iZ (i : Int))), some (.int (iZ 7))] [] (zb_M Z) F → zk_Go l Γ mX7_digest d 0 0 Q 50 [some (.ref 320), some (.long (lZ (A))), none, some (.int (iZ (i : Int))), some (.int (iZ (j : Int)))] [] (zb_M Z) F := by
  have hw := hS.2.2.2.2.1
  have hc0 := hS.2.2.2.2.2.1
  obtain ⟨hp, hcp, e1, e2, hw1, hc1, hH, ht, ho, hN, h4⟩ := hS
  subst e1 e2
  have hc := wC_nC hc0
  intro n
  induction n with
  | zero =>
    intro j A hi hq
    refine gz_iload dX7_digest_50 rfl ?_
    refine zz_bipush (x := 6) dX7_digest_52 rfl ?_
    refine zz_icmp_gt (tgt := 81) dX7_digest_54 rfl (by omega) (fun b54 => ?_) (fun b54 => ?_)
    rotate_left
    · exact absurd b54 (by omega)
    have ei : (j : Int) = 7 := by omega
    rw [ei]
    exact hq
  | succ n ih =>
    intro j A hi hq
    refine gz_iload dX7_digest_50 rfl ?_
    refine zz_bipush (x := 6) dX7_digest_52 rfl ?_
    refine zz_icmp_gt (tgt := 81) dX7_digest_54 rfl (by omega) (fun b54 => ?_) (fun b54 => ?_)
    · exact absurd b54 (by omega)
    refine gz_lload_n dX7_digest_57 rfl ?_
    refine zz_ldc2 (z := 31) dX7_digest_58 wk_Heliographs_222 rfl ?_
    refine zz_lmul dX7_digest_61 ?_
    refine gz_aload_n dX7_digest_62 rfl ?_
    refine gz_getf 3 dX7_digest_63 rfl rfl wf_Heliographs_39 (by decide) rfl ?_
    refine gz_iload_n dX7_digest_66 rfl ?_
    refine gz_iload dX7_digest_67 rfl ?_
    refine gv_2 (J := mX0_peakTold) (d1 := d - 1) dX7_digest_69 wm_Heliographs_104 rfl jzX0_peakTold (Nat.le_of_ble_eq_true rfl) (Nat.le_of_ble_eq_true rfl) (by omega) ⟨Nat.le_refl _, Nat.le_refl _⟩ (zs_peakTold (Or.inl rfl) hp hcp hw hc (by constructor; omega; exact hx) (by omega) (by omega)) ?_
    refine zz_i2l dX7_digest_72 (ranges_pk hw hc0 (by omega)) ?_
    refine zz_ladd dX7_digest_73 ?_
    refine gz_lstore_n dX7_digest_74 (Nat.le_of_ble_eq_true rfl) rfl ?_
    refine zz_iinc dX7_digest_75 rfl rfl ?_
    refine gz_goto (tgt := 50) dX7_digest_78 rfl ?_
    exact ih (j + 1) _ (by omega) hq
theorem zh_dig_ps {p : Nat} {H : zV → Nat → Bool} {π σ : zV} {t o N : Int} (hS : St Z p H π σ t o N) {i : Nat} (hx : (i : Int) < π 0 1) (hd : 6 ≤ d) {Q : Option Value → zk_M → (Heap → Prop) → Prop} : ∀ (n j : Nat) (A : Int), j + n = 6 → zk_Go l Γ mX7_digest d 0 0 Q 136 [some (.ref 320), some (.long (lZ (sD1 (fun j => sPs π σ i j) n j A))), none, some (.int (iZ (i : Int))), some (.int (iZ 6))] [] (zb_M Z) F → zk_Go l Γ mX7_digest d 0 0 Q 106 [some (.ref 320), some (.long (lZ (A))), none, some (.int (iZ (i : Int))), some (.int (iZ (j : Int)))] [] (zb_M Z) F := by
  have hw := hS.2.2.2.2.1
  have hc0 := hS.2.2.2.2.2.1
  obtain ⟨hp, hcp, e1, e2, hw1, hc1, hH, ht, ho, hN, h4⟩ := hS
  subst e1 e2
  have hc := wC_nC hc0
  intro n
  induction n with
  | zero =>
    intro j A hi hq
    refine gz_iload dX7_digest_106 rfl ?_
    refine zz_iconst dX7_digest_108 ?_
    refine zz_icmp_gt (tgt := 136) dX7_digest_109 rfl (by omega) (fun b109 => ?_) (fun b109 => ?_)
    rotate_left
    · exact absurd b109 (by omega)
    have ei : (j : Int) = 6 := by omega
    rw [ei]
    exact hq
  | succ n ih =>
    intro j A hi hq
    refine gz_iload dX7_digest_106 rfl ?_
    refine zz_iconst dX7_digest_108 ?_
    refine zz_icmp_gt (tgt := 136) dX7_digest_109 rfl (by omega) (fun b109 => ?_) (fun b109 => ?_)
    · exact absurd b109 (by omega)
    refine gz_lload_n dX7_digest_112 rfl ?_
    refine zz_ldc2 (z := 31) dX7_digest_113 wk_Heliographs_222 rfl ?_
    refine zz_lmul dX7_digest_116 ?_
    refine gz_aload_n dX7_digest_117 rfl ?_
    refine gz_getf 3 dX7_digest_118 rfl rfl wf_Heliographs_39 (by decide) rfl ?_
    refine gz_iload_n dX7_digest_121 rfl ?_
    refine gz_iload dX7_digest_122 rfl ?_
    refine gv_2 (J := mX0_passTold) (d1 := d - 1) dX7_digest_124 wm_Heliographs_113 rfl jzX0_passTold (Nat.le_of_ble_eq_true rfl) (Nat.le_of_ble_eq_true rfl) (by omega) ⟨Nat.le_refl _, Nat.le_refl _⟩ (zs_passTold (Or.inl rfl) hp hcp hw hc (by constructor; omega; exact hx) (by omega) (by omega)) ?_
    refine zz_i2l dX7_digest_127 (ranges_ps hw hc0 (by omega)) ?_
    refine zz_ladd dX7_digest_128 ?_
    refine gz_lstore_n dX7_digest_129 (Nat.le_of_ble_eq_true rfl) rfl ?_
    refine zz_iinc dX7_digest_130 rfl rfl ?_
    refine gz_goto (tgt := 106) dX7_digest_133 rfl ?_
    exact ih (j + 1) _ (by omega) hq
theorem zh_dig_ms {p : Nat} {H : zV → Nat → Bool} {π σ : zV} {t o N : Int} (hS : St Z p H π σ t o N) {i : Nat} (hx : (i : Int) < π 0 3) (hd : 6 ≤ d) {Q : Option Value → zk_M → (Heap → Prop) → Prop} : ∀ (n j : Nat) (A : Int), j + n = 9 → zk_Go l Γ mX7_digest d 0 0 Q 223 [some (.ref 320), some (.long (lZ (sD1 (fun j => sMs π σ i j) n j A))), none, some (.int (iZ (i : Int))), some (.int (iZ 9))] [] (zb_M Z) F → zk_Go l Γ mX7_digest d 0 0 Q 192 [some (.ref 320), some (.long (lZ (A))), none, some (.int (iZ (i : Int))), some (.int (iZ (j : Int)))] [] (zb_M Z) F := by
  have hw := hS.2.2.2.2.1
  have hc0 := hS.2.2.2.2.2.1
  obtain ⟨hp, hcp, e1, e2, hw1, hc1, hH, ht, ho, hN, h4⟩ := hS
  subst e1 e2
  have hc := wC_nC hc0
  intro n
  induction n with
  | zero =>
    intro j A hi hq
    refine gz_iload dX7_digest_192 rfl ?_
    refine zz_bipush (x := 8) dX7_digest_194 rfl ?_
    refine zz_icmp_gt (tgt := 223) dX7_digest_196 rfl (by omega) (fun b196 => ?_) (fun b196 => ?_)
    rotate_left
    · exact absurd b196 (by omega)
    have ei : (j : Int) = 9 := by omega
    rw [ei]
    exact hq
  | succ n ih =>
    intro j A hi hq
    refine gz_iload dX7_digest_192 rfl ?_
    refine zz_bipush (x := 8) dX7_digest_194 rfl ?_
    refine zz_icmp_gt (tgt := 223) dX7_digest_196 rfl (by omega) (fun b196 => ?_) (fun b196 => ?_)
    · exact absurd b196 (by omega)
    refine gz_lload_n dX7_digest_199 rfl ?_
    refine zz_ldc2 (z := 31) dX7_digest_200 wk_Heliographs_222 rfl ?_
    refine zz_lmul dX7_digest_203 ?_
    refine gz_aload_n dX7_digest_204 rfl ?_
    refine gz_getf 3 dX7_digest_205 rfl rfl wf_Heliographs_39 (by decide) rfl ?_
    refine gz_iload_n dX7_digest_208 rfl ?_
    refine gz_iload dX7_digest_209 rfl ?_
    refine gv_2 (J := mX0_messageTold) (d1 := d - 1) dX7_digest_211 wm_Heliographs_121 rfl jzX0_messageTold (Nat.le_of_ble_eq_true rfl) (Nat.le_of_ble_eq_true rfl) (by omega) ⟨Nat.le_refl _, Nat.le_refl _⟩ (zs_messageTold (Or.inl rfl) hp hcp hw hc (by constructor; omega; exact hx) (by omega) (by omega)) ?_
    refine zz_i2l dX7_digest_214 (ranges_ms hw hc0 (by omega)) ?_
    refine zz_ladd dX7_digest_215 ?_
    refine gz_lstore_n dX7_digest_216 (Nat.le_of_ble_eq_true rfl) rfl ?_
    refine zz_iinc dX7_digest_217 rfl rfl ?_
    refine gz_goto (tgt := 192) dX7_digest_220 rfl ?_
    exact ih (j + 1) _ (by omega) hq
theorem zh_dig_P {p : Nat} {H : zV → Nat → Bool} {π σ : zV} {t o N : Int} (hS : St Z p H π σ t o N) (hd : 6 ≤ d) {Q : Option Value → zk_M → (Heap → Prop) → Prop} : ∀ (n i : Nat) (A : Int) (L4 : Option Value), (i : Int) + n = π 0 0 → (∀ L4 : Option Value, zk_Go l Γ mX7_digest d 0 0 Q 87 [some (.ref 320), some (.long (lZ (sD2 (dPk π σ) n i A))), none, some (.int (iZ (π 0 0))), L4] [] (zb_M Z) F) → zk_Go l Γ mX7_digest d 0 0 Q 33 [some (.ref 320), some (.long (lZ (A))), none, some (.int (iZ (i : Int))), L4] [] (zb_M Z) F := by
  intro n
  induction n with
  | zero =>
    intro i A L4 hi hq
    obtain ⟨hp, hcp, rfl, rfl, hw, hc0, hH, ht, ho, hN, h4⟩ := hS
    have hc := wC_nC hc0
    have h0 := wP_n hw
    have h3 := wC_n hc
    simp only [vP_ap, vC_ap, Nat.reduceAdd, Nat.reduceLT, Nat.add_zero, ↓reduceIte] at h0 h3
    have hpl := congrArg Int.toNat hcp
    simp only [Int.toNat_natCast] at hpl
    have ei : vP Z p 0 0 = (i : Int) := by omega
    have hq2 := hq
    rw [ei] at hq2
    simp only [vP_ap, vC_ap, Nat.reduceAdd, Nat.reduceLT, Nat.add_zero, ↓reduceIte] at hi
    rcases hp with rfl | rfl <;> (
      refine gz_iload_n dX7_digest_33 rfl ?_
      refine gz_aload_n dX7_digest_34 rfl ?_
      refine gz_getf 3 dX7_digest_35 rfl rfl wf_Heliographs_39 (by decide) rfl ?_
      refine gz_getf 0 dX7_digest_38 rfl rfl wf_Heliographs_83 (by decide) (congrArg Value.ref hpl) ?_
      refine gz_getf 0 dX7_digest_41 rfl rfl wf_Heliographs_214 (by decide) rfl ?_
      refine zz_icmp_ge (tgt := 87) dX7_digest_44 rfl (by omega) (fun b44 => ?_) (fun b44 => ?_)
      rotate_left
      · exact absurd b44 (by omega)
      exact hq2 _
    )
  | succ n ih =>
    intro i A L4 hi hq
    have hS2 := hS
    obtain ⟨hp, hcp, rfl, rfl, hw, hc0, hH, ht, ho, hN, h4⟩ := hS
    have hc := wC_nC hc0
    have h0 := wP_n hw
    have h3 := wC_n hc
    simp only [vP_ap, vC_ap, Nat.reduceAdd, Nat.reduceLT, Nat.add_zero, ↓reduceIte] at h0 h3
    have hpl := congrArg Int.toNat hcp
    simp only [Int.toNat_natCast] at hpl
    have hx : (i : Int) < vP Z p 0 0 := by omega
    have hin : ∀ v, v = (0 : Int) → zk_Go l Γ mX7_digest d 0 0 Q 50 [some (.ref 320), some (.long (lZ (A))), none, some (.int (iZ (i : Int))), some (.int (iZ v))] [] (zb_M Z) F := by
      intro v hv
      subst hv
      refine zh_dig_pk hS2 hx hd 7 0 A rfl ?_
      refine zz_iinc dX7_digest_81 rfl rfl ?_
      refine gz_goto (tgt := 33) dX7_digest_84 rfl ?_
      exact ih (i + 1) _ _ (by omega) hq
    simp only [vP_ap, vC_ap, Nat.reduceAdd, Nat.reduceLT, Nat.add_zero, ↓reduceIte] at hi
    rcases hp with rfl | rfl <;> (
      refine gz_iload_n dX7_digest_33 rfl ?_
      refine gz_aload_n dX7_digest_34 rfl ?_
      refine gz_getf 3 dX7_digest_35 rfl rfl wf_Heliographs_39 (by decide) rfl ?_
      refine gz_getf 0 dX7_digest_38 rfl rfl wf_Heliographs_83 (by decide) (congrArg Value.ref hpl) ?_
      refine gz_getf 0 dX7_digest_41 rfl rfl wf_Heliographs_214 (by decide) rfl ?_
      refine zz_icmp_ge (tgt := 87) dX7_digest_44 rfl (by omega) (fun b44 => ?_) (fun b44 => ?_)
      · exact absurd b44 (by omega)
      refine zz_iconst dX7_digest_47 ?_
      refine gz_istore dX7_digest_48 (Nat.le_of_ble_eq_true rfl) rfl ?_
      exact hin _ rfl
    )
theorem zh_dig_M {p : Nat} {H : zV → Nat → Bool} {π σ : zV} {t o N : Int} (hS : St Z p H π σ t o N) (hd : 6 ≤ d) {Q : Option Value → zk_M → (Heap → Prop) → Prop} : ∀ (n i : Nat) (A : Int) (L4 : Option Value), (i : Int) + n = π 0 3 → (∀ L4 : Option Value, zk_Go l Γ mX7_digest d 0 0 Q 229 [some (.ref 320), some (.long (lZ (sD2 (dMs π σ) n i A))), none, some (.int (iZ (π 0 3))), L4] [] (zb_M Z) F) → zk_Go l Γ mX7_digest d 0 0 Q 175 [some (.ref 320), some (.long (lZ (A))), none, some (.int (iZ (i : Int))), L4] [] (zb_M Z) F := by
  intro n
  induction n with
  | zero =>
    intro i A L4 hi hq
    obtain ⟨hp, hcp, rfl, rfl, hw, hc0, hH, ht, ho, hN, h4⟩ := hS
    have hc := wC_nC hc0
    have h0 := wP_n hw
    have h3 := wC_n hc
    simp only [vP_ap, vC_ap, Nat.reduceAdd, Nat.reduceLT, Nat.add_zero, ↓reduceIte] at h0 h3
    have hpl := congrArg Int.toNat hcp
    simp only [Int.toNat_natCast] at hpl
    have ei : vP Z p 0 3 = (i : Int) := by omega
    have hq2 := hq
    rw [ei] at hq2
    simp only [vP_ap, vC_ap, Nat.reduceAdd, Nat.reduceLT, Nat.add_zero, ↓reduceIte] at hi
    rcases hp with rfl | rfl <;> (
      refine gz_iload_n dX7_digest_175 rfl ?_
      refine gz_aload_n dX7_digest_176 rfl ?_
      refine gz_getf 3 dX7_digest_177 rfl rfl wf_Heliographs_39 (by decide) rfl ?_
      refine gz_getf 0 dX7_digest_180 rfl rfl wf_Heliographs_83 (by decide) (congrArg Value.ref hpl) ?_
      refine gz_getf 3 dX7_digest_183 rfl rfl wf_Heliographs_217 (by decide) rfl ?_
      refine zz_icmp_ge (tgt := 229) dX7_digest_186 rfl (by omega) (fun b186 => ?_) (fun b186 => ?_)
      rotate_left
      · exact absurd b186 (by omega)
      exact hq2 _
    )
  | succ n ih =>
    intro i A L4 hi hq
    have hS2 := hS
    obtain ⟨hp, hcp, rfl, rfl, hw, hc0, hH, ht, ho, hN, h4⟩ := hS
    have hc := wC_nC hc0
    have h0 := wP_n hw
    have h3 := wC_n hc
    simp only [vP_ap, vC_ap, Nat.reduceAdd, Nat.reduceLT, Nat.add_zero, ↓reduceIte] at h0 h3
    have hpl := congrArg Int.toNat hcp
    simp only [Int.toNat_natCast] at hpl
    have hx : (i : Int) < vP Z p 0 3 := by omega
    have hin : ∀ v, v = (0 : Int) → zk_Go l Γ mX7_digest d 0 0 Q 192 [some (.ref 320), some (.long (lZ (A))), none, some (.int (iZ (i : Int))), some (.int (iZ v))] [] (zb_M Z) F := by
      intro v hv
      subst hv
      refine zh_dig_ms hS2 hx hd 9 0 A rfl ?_
      refine zz_iinc dX7_digest_223 rfl rfl ?_
      refine gz_goto (tgt := 175) dX7_digest_226 rfl ?_
      exact ih (i + 1) _ _ (by omega) hq
    simp only [vP_ap, vC_ap, Nat.reduceAdd, Nat.reduceLT, Nat.add_zero, ↓reduceIte] at hi
    rcases hp with rfl | rfl <;> (
      refine gz_iload_n dX7_digest_175 rfl ?_
      refine gz_aload_n dX7_digest_176 rfl ?_
      refine gz_getf 3 dX7_digest_177 rfl rfl wf_Heliographs_39 (by decide) rfl ?_
      refine gz_getf 0 dX7_digest_180 rfl rfl wf_Heliographs_83 (by decide) (congrArg Value.ref hpl) ?_
      refine gz_getf 3 dX7_digest_183 rfl rfl wf_Heliographs_217 (by decide) rfl ?_
      refine zz_icmp_ge (tgt := 229) dX7_digest_186 rfl (by omega) (fun b186 => ?_) (fun b186 => ?_)
      · exact absurd b186 (by omega)
      refine zz_iconst dX7_digest_189 ?_
      refine gz_istore dX7_digest_190 (Nat.le_of_ble_eq_true rfl) rfl ?_
      exact hin _ rfl
    )
theorem zh_dig_W {p : Nat} {H : zV → Nat → Bool} {π σ : zV} {t o N : Int} (hS : St Z p H π σ t o N) (hd : 6 ≤ d) {Q : Option Value → zk_M → (Heap → Prop) → Prop} : ∀ (n i : Nat) (A : Int) (L4 : Option Value), (i : Int) + n = π 0 1 → (∀ L4 : Option Value, zk_Go l Γ mX7_digest d 0 0 Q 173 [some (.ref 320), some (.long (lZ (sD2 (dPs π σ) n i A))), none, some (.int (iZ (π 0 1))), L4] [] (zb_M Z) F) → zk_Go l Γ mX7_digest d 0 0 Q 89 [some (.ref 320), some (.long (lZ (A))), none, some (.int (iZ (i : Int))), L4] [] (zb_M Z) F := by
  intro n
  induction n with
  | zero =>
    intro i A L4 hi hq
    obtain ⟨hp, hcp, rfl, rfl, hw, hc0, hH, ht, ho, hN, h4⟩ := hS
    have hc := wC_nC hc0
    have h0 := wP_n hw
    have h3 := wC_n hc
    simp only [vP_ap, vC_ap, Nat.reduceAdd, Nat.reduceLT, Nat.add_zero, ↓reduceIte] at h0 h3
    have hpl := congrArg Int.toNat hcp
    simp only [Int.toNat_natCast] at hpl
    have ei : vP Z p 0 1 = (i : Int) := by omega
    have hq2 := hq
    rw [ei] at hq2
    simp only [vP_ap, vC_ap, Nat.reduceAdd, Nat.reduceLT, Nat.add_zero, ↓reduceIte] at hi
    rcases hp with rfl | rfl <;> (
      refine gz_iload_n dX7_digest_89 rfl ?_
      refine gz_aload_n dX7_digest_90 rfl ?_
      refine gz_getf 3 dX7_digest_91 rfl rfl wf_Heliographs_39 (by decide) rfl ?_
      refine gz_getf 0 dX7_digest_94 rfl rfl wf_Heliographs_83 (by decide) (congrArg Value.ref hpl) ?_
      refine gz_getf 1 dX7_digest_97 rfl rfl wf_Heliographs_208 (by decide) rfl ?_
      refine zz_icmp_ge (tgt := 173) dX7_digest_100 rfl (by omega) (fun b100 => ?_) (fun b100 => ?_)
      rotate_left
      · exact absurd b100 (by omega)
      exact hq2 _
    )
  | succ n ih =>
    intro i A L4 hi hq
    have hS2 := hS
    obtain ⟨hp, hcp, rfl, rfl, hw, hc0, hH, ht, ho, hN, h4⟩ := hS
    have hc := wC_nC hc0
    have h0 := wP_n hw
    have h3 := wC_n hc
    simp only [vP_ap, vC_ap, Nat.reduceAdd, Nat.reduceLT, Nat.add_zero, ↓reduceIte] at h0 h3
    have hpl := congrArg Int.toNat hcp
    simp only [Int.toNat_natCast] at hpl
    have hx : (i : Int) < vP Z p 0 1 := by omega
    have htail : ∀ B : Int, zk_Go l Γ mX7_digest d 0 0 Q 89 [some (.ref 320), some (.long (lZ (B * 31 + bI (sPass (vP Z p) (nC Z) i (nC Z 0 1))))), none, some (.int (iZ ((i + 1 : Nat) : Int))), some (.int (iZ 6))] [] (zb_M Z) F → zk_Go l Γ mX7_digest d 0 0 Q 136 [some (.ref 320), some (.long (lZ (B))), none, some (.int (iZ (i : Int))), some (.int (iZ 6))] [] (zb_M Z) F := by
      intro B hB
      have hps := zs_isPassable (l := l) (Γ := Γ) (d := d - 1) (F := F) (Or.inl rfl) hp hcp hw hc (x := (i : Int)) (m := Z 336 1) (by constructor; omega; exact hx) (by omega) (by omega)
      rw [Int.toNat_natCast] at hps
      have key : ∀ b : Bool, sPass (vP Z p) (nC Z) i (nC Z 0 1) = b → zk_Go l Γ mX7_digest d 0 0 Q 89 [some (.ref 320), some (.long (lZ (B * 31 + bI b))), none, some (.int (iZ ((i + 1 : Nat) : Int))), some (.int (iZ 6))] [] (zb_M Z) F := fun b hb => by rw [← hb]; exact hB
      refine gz_lload_n dX7_digest_136 rfl ?_
      refine zz_ldc2 (z := 31) dX7_digest_137 wk_Heliographs_222 rfl ?_
      refine zz_lmul dX7_digest_140 ?_
      refine gz_aload_n dX7_digest_141 rfl ?_
      refine gz_getf 3 dX7_digest_142 rfl rfl wf_Heliographs_39 (by decide) rfl ?_
      refine gz_iload_n dX7_digest_145 rfl ?_
      refine gz_aload_n dX7_digest_146 rfl ?_
      refine gz_getf 3 dX7_digest_147 rfl rfl wf_Heliographs_39 (by decide) rfl ?_
      refine gz_getf 1 dX7_digest_150 rfl rfl wf_Heliographs_200 (by decide) rfl ?_
      refine gv_2 (J := mX0_isPassable) (d1 := d - 1) dX7_digest_153 wm_Heliographs_134 rfl jzX0_isPassable (Nat.le_of_ble_eq_true rfl) (Nat.le_of_ble_eq_true rfl) (by omega) ⟨Nat.le_refl _, Nat.le_refl _⟩ (hps) ?_
      refine zz_if_eqB (tgt := 163) dX7_digest_156 rfl (fun b156 => ?_) (fun b156 => ?_)
      ·
        refine zz_iconst dX7_digest_163 ?_
        refine zz_i2l dX7_digest_164 (by decide) ?_
        refine zz_ladd dX7_digest_165 ?_
        refine gz_lstore_n dX7_digest_166 (Nat.le_of_ble_eq_true rfl) rfl ?_
        refine zz_iinc dX7_digest_167 rfl rfl ?_
        refine gz_goto (tgt := 89) dX7_digest_170 rfl ?_
        first
          | exact key true b156
          | exact key false (Bool.eq_false_iff.mpr b156)
      ·
        refine zz_iconst dX7_digest_159 ?_
        refine gz_goto (tgt := 164) dX7_digest_160 rfl ?_
        refine zz_i2l dX7_digest_164 (by decide) ?_
        refine zz_ladd dX7_digest_165 ?_
        refine gz_lstore_n dX7_digest_166 (Nat.le_of_ble_eq_true rfl) rfl ?_
        refine zz_iinc dX7_digest_167 rfl rfl ?_
        refine gz_goto (tgt := 89) dX7_digest_170 rfl ?_
        first
          | exact key true b156
          | exact key false (Bool.eq_false_iff.mpr b156)
    have hin : ∀ v, v = (0 : Int) → zk_Go l Γ mX7_digest d 0 0 Q 106 [some (.ref 320), some (.long (lZ (A))), none, some (.int (iZ (i : Int))), some (.int (iZ v))] [] (zb_M Z) F := by
      intro v hv
      subst hv
      refine zh_dig_ps hS2 hx hd 6 0 A rfl (htail _ ?_)
      exact ih (i + 1) _ _ (by omega) hq
    simp only [vP_ap, vC_ap, Nat.reduceAdd, Nat.reduceLT, Nat.add_zero, ↓reduceIte] at hi
    rcases hp with rfl | rfl <;> (
      refine gz_iload_n dX7_digest_89 rfl ?_
      refine gz_aload_n dX7_digest_90 rfl ?_
      refine gz_getf 3 dX7_digest_91 rfl rfl wf_Heliographs_39 (by decide) rfl ?_
      refine gz_getf 0 dX7_digest_94 rfl rfl wf_Heliographs_83 (by decide) (congrArg Value.ref hpl) ?_
      refine gz_getf 1 dX7_digest_97 rfl rfl wf_Heliographs_208 (by decide) rfl ?_
      refine zz_icmp_ge (tgt := 173) dX7_digest_100 rfl (by omega) (fun b100 => ?_) (fun b100 => ?_)
      · exact absurd b100 (by omega)
      refine zz_iconst dX7_digest_103 ?_
      refine gz_istore dX7_digest_104 (Nat.le_of_ble_eq_true rfl) rfl ?_
      exact hin _ rfl
    )
theorem zh_digest {p : Nat} {H : zV → Nat → Bool} {π σ : zV} {t o N : Int} (hS : St Z p H π σ t o N) (ht2 : 0 ≤ t ∧ t ≤ 2000) (ho2 : 0 ≤ o ∧ o ≤ 12) (hd : 6 ≤ d) : zk_Does l Γ mX7_digest d 0 0 [.ref 320] (zb_M Z) F (some (.long (lZ (sDig π σ t o)))) (zb_M Z) F := by
  intro Q hq
  have hM : ∀ (B : Int) (L3 L4 : Option Value), sD2 (dMs π σ) (π 0 3).toNat 0 B = sDig π σ t o → zk_Go l Γ mX7_digest d 0 0 Q 173 [some (.ref 320), some (.long (lZ B)), none, L3, L4] [] (zb_M Z) F := by
    intro B L3 L4 hB
    refine zz_iconst dX7_digest_173 ?_
    refine gz_istore_n dX7_digest_174 (Nat.le_of_ble_eq_true rfl) rfl ?_
    refine zh_dig_M hS hd (π 0 3).toNat 0 B L4 (by have := wP_n hS.2.2.2.2.1; omega) (fun L4 => ?_)
    rw [hB]
    refine gz_lload_n dX7_digest_229 rfl ?_
    exact gz_lreturn dX7_digest_230 rfl hq
  have hW : ∀ (B : Int) (L3 L4 : Option Value), sD2 (dMs π σ) (π 0 3).toNat 0 (sD2 (dPs π σ) (π 0 1).toNat 0 B) = sDig π σ t o → zk_Go l Γ mX7_digest d 0 0 Q 87 [some (.ref 320), some (.long (lZ B)), none, L3, L4] [] (zb_M Z) F := by
    intro B L3 L4 hB
    refine zz_iconst dX7_digest_87 ?_
    refine gz_istore_n dX7_digest_88 (Nat.le_of_ble_eq_true rfl) rfl ?_
    exact zh_dig_W hS hd (π 0 1).toNat 0 B L4 (by have := wP_n hS.2.2.2.2.1; omega) (fun L4 => hM _ _ _ hB)
  have hP : ∀ (B : Int) (L3 L4 : Option Value), sD2 (dMs π σ) (π 0 3).toNat 0 (sD2 (dPs π σ) (π 0 1).toNat 0 (sD2 (dPk π σ) (π 0 0).toNat 0 B)) = sDig π σ t o → zk_Go l Γ mX7_digest d 0 0 Q 31 [some (.ref 320), some (.long (lZ B)), none, L3, L4] [] (zb_M Z) F := by
    intro B L3 L4 hB
    refine zz_iconst dX7_digest_31 ?_
    refine gz_istore_n dX7_digest_32 (Nat.le_of_ble_eq_true rfl) rfl ?_
    exact zh_dig_P hS hd (π 0 0).toNat 0 B L4 (by have := wP_n hS.2.2.2.2.1; omega) (fun L4 => hW _ _ _ hB)
  refine zz_ldc2 (z := 863) dX7_digest_0 wk_Heliographs_220 rfl ?_
  refine gz_lstore_n dX7_digest_3 (Nat.le_of_ble_eq_true rfl) rfl ?_
  refine zz_iconst dX7_digest_4 ?_
  refine gz_istore_n dX7_digest_5 (Nat.le_of_ble_eq_true rfl) rfl ?_
  exact zh_dig_0 hS ht2 ho2 hd 14 0 863 rfl (hP _ _ _ rfl)
end

/-! THE OBJECT: missed, advise -/
section
variable {l : Launch} {Γ : zk_G} {d : Nat} {Z : Nat → Nat → Int} {F : Heap → Prop}
/-- a method of whose answer and memory something is known -/
def zk_DoesE (l : Launch) (Γ : zk_G) (J : zk_MI) (d : Nat) (As : List Value) (Z : zV) (F : Heap → Prop) (R : Option Value → zV → Prop) : Prop :=
  ∀ Q : Option Value → zk_M → (Heap → Prop) → Prop, (∀ v Z', R v Z' → Q v (zb_M Z') F) → zk_Go l Γ J d 0 0 Q 0 (zk_ent J.2.2.1 As) [] (zb_M Z) F
theorem St2_u {Z : zV} {p : Nat} {H : zV → Nat → Bool} {π σ τ : zV} {t o N N2 : Int} (hS : St2 Z p H π σ t o N τ N2) {i j : Nat} (hi : i < 11) (hij : ¬ (i = 0 ∧ j = 0)) {z : Int} (hw : wC π (zb_u τ i j z) N2) : St2 (zb_u Z (352 + i) j z) p H π σ t o N (zb_u τ i j z) N2 := by
  obtain ⟨hSt, h0, h1, h2, h3⟩ := hS
  refine ⟨St_o hSt (fun a b q1 q2 q3 => zb_u_a Z z (by omega)), ?_, ?_, hw, h3⟩
  · rw [zb_u_no _ _ (by omega)]; exact h0
  · rw [← h1]
    funext x y
    unfold cC zb_u
    by_cases hx : x < 11
    · rw [if_pos hx]
      by_cases e : x = i ∧ y = j
      · rw [if_pos e, if_pos ⟨by omega, e.2⟩]
      · rw [if_neg e, if_neg (fun q => e ⟨by omega, q.2⟩)]
        exact (if_pos hx).symm
    · rw [if_neg hx, if_neg (by omega)]
      exact (if_neg hx).symm
theorem wC_shut {π σ : zV} {N : Int} (h : wC π σ N) {z : Int} (hz : -1 ≤ z ∧ z < 12) : wC π (zb_u σ 0 2 z) N := by
  have e : ∀ i j, ¬ (i = 0 ∧ j = 2) → zb_u σ 0 2 z i j = σ i j := fun i j q => zb_u_no _ _ q
  have em : ∀ k, wM π (zb_u σ 0 2 z) N k = wM π σ N k := fun k => by
    unfold wM
    rw [e 2 k (by omega), e 3 k (by omega), e 4 k (by omega), e 5 k (by omega), e 6 k (by omega), e 7 k (by omega), e 8 k (by omega), e 9 k (by omega)]
  refine ⟨?_, fun k hk => by rw [e 1 k (by omega)]; exact wC_k h hk, fun k hk => by rw [em k]; exact wC_m h hk, fun w hw => by rw [e 10 w (by omega)]; exact wC_w h hw⟩
  have hn := wC_n h
  rw [e 0 1 (by omega), e 0 13 (by omega), zb_u_at]
  exact ⟨hn.1, hz, hn.2.2⟩
theorem wC_mir {π σ : zV} {N : Int} (h : wC π σ N) {k : Nat} {z : Int} (hz : 0 ≤ z ∧ z ≤ 5) : wC π (zb_u σ 1 k z) N := by
  have e : ∀ i j, i ≠ 1 → zb_u σ 1 k z i j = σ i j := fun i j q => zb_u_a _ _ q
  have em : ∀ k2, wM π (zb_u σ 1 k z) N k2 = wM π σ N k2 := fun k2 => by
    unfold wM
    rw [e 2 k2 (by omega), e 3 k2 (by omega), e 4 k2 (by omega), e 5 k2 (by omega), e 6 k2 (by omega), e 7 k2 (by omega), e 8 k2 (by omega), e 9 k2 (by omega)]
  refine ⟨by rw [e 0 1 (by omega), e 0 2 (by omega), e 0 13 (by omega)]; exact wC_n h, fun k2 hk => ?_, fun k hk => by rw [em k]; exact wC_m h hk, fun w hw => by rw [e 10 w (by omega)]; exact wC_w h hw⟩
  by_cases q : k2 = k
  · rw [q, zb_u_at]; exact hz
  · rw [zb_u_j _ _ q]; exact wC_k h hk
theorem sIn_bd {π : zV} (hw : wP π) (σ : zV) (y : Int) : 0 ≤ sNum (sIn σ y) 0 (π 0 3).toNat ∧ sNum (sIn σ y) 0 (π 0 3).toNat ≤ 8 := by
  have h0 := wP_n hw
  have := sNum_bd (sIn σ y) (π 0 3).toNat 0
  omega
theorem zh_missed_loop {p : Nat} {H : zV → Nat → Bool} {π σ : zV} {t o N : Int} {m : Nat} (hm : N + 9 * m ≤ 90000) (hm1 : 1 ≤ m ∧ m ≤ 240) (hd : 8 ≤ d) (hp1 : 1 ≤ π 0 1) {Q : Option Value → zk_M → (Heap → Prop) → Prop} (hq : ∀ (z : Int) (Z2 : zV), 0 ≤ z ∧ z < π 0 1 → St Z2 p H π σ t o N → Q (some (.int (iZ z))) (zb_M Z2) F) : ∀ (n i : Nat) (b f : Int) (Z1 : zV) (L5 : Option Value), (i : Int) + n = π 0 1 → (i = 0 ∧ b = -1 ∧ f = 9 ∨ 0 < i ∧ (0 ≤ b ∧ b < π 0 1) ∧ (0 ≤ f ∧ f ≤ 9)) → St Z1 p H π σ t o N → zk_Go l Γ mX7_missed d 0 0 Q 30 [some (.ref 320), some (.int (iZ (m : Int))), some (.int (iZ b)), some (.int (iZ f)), some (.int (iZ (i : Int))), L5] [] (zb_M Z1) F := by
  intro n
  induction n with
  | zero =>
    intro i b f Z1 L5 hi hb hS
    have hS1 := hS
    have hw := hS.2.2.2.2.1
    have h0 := wP_n hw
    obtain ⟨hp, hcp, e1, e2, hw1, hc0, hH, ht, ho, hN, h4⟩ := hS
    have hpl := congrArg Int.toNat hcp
    simp only [Int.toNat_natCast] at hpl
    have en : Z1 p 1 = π 0 1 := by rw [← e1]; rfl
    rcases hp with rfl | rfl <;> (
      refine gz_iload dX7_missed_30 rfl ?_
      refine gz_aload_n dX7_missed_32 rfl ?_
      refine gz_getf 3 dX7_missed_33 rfl rfl wf_Heliographs_39 (by decide) rfl ?_
      refine gz_getf 0 dX7_missed_36 rfl rfl wf_Heliographs_83 (by decide) (congrArg Value.ref hpl) ?_
      refine gz_getf 1 dX7_missed_39 rfl rfl wf_Heliographs_208 (by decide) (zv_i en) ?_
      refine zz_icmp_ge (tgt := 101) dX7_missed_42 rfl (by omega) (fun b42 => ?_) (fun b42 => ?_)
      rotate_left
      · exact absurd b42 (by omega)
      refine gz_iload_n dX7_missed_101 rfl ?_
      refine gz_ireturn dX7_missed_102 rfl rfl ?_
      exact hq b Z1 (by omega) hS1
    )
  | succ n ih =>
    intro i b f Z1 L5 hi hb hS
    have hS1 := hS
    have hw := hS.2.2.2.2.1
    have h0 := wP_n hw
    obtain ⟨hp, hcp, e1, e2, hw1, hc0, hH, ht, ho, hN, h4⟩ := hS
    have hpl := congrArg Int.toNat hcp
    simp only [Int.toNat_natCast] at hpl
    have en : Z1 p 1 = π 0 1 := by rw [← e1]; rfl
    have hcp2 := St2_cp hS1
    have hsh := St2_u hcp2 (i := 0) (j := 2) (by omega) (by omega) (wC_shut hc0 (z := (i : Int)) (by omega))
    have hthr := sIn_bd hw (zap (sRun π H m (zb_u σ 0 2 (i : Int)))) 2
    rcases hp with rfl | rfl <;> (
      refine gz_iload dX7_missed_30 rfl ?_
      refine gz_aload_n dX7_missed_32 rfl ?_
      refine gz_getf 3 dX7_missed_33 rfl rfl wf_Heliographs_39 (by decide) rfl ?_
      refine gz_getf 0 dX7_missed_36 rfl rfl wf_Heliographs_83 (by decide) (congrArg Value.ref hpl) ?_
      refine gz_getf 1 dX7_missed_39 rfl rfl wf_Heliographs_208 (by decide) (zv_i en) ?_
      refine zz_icmp_ge (tgt := 101) dX7_missed_42 rfl (by omega) (fun b42 => ?_) (fun b42 => ?_)
      · exact absurd b42 (by omega)
      refine gz_aload_n dX7_missed_45 rfl ?_
      refine gz_getf 4 dX7_missed_46 rfl rfl wf_Heliographs_43 (by decide) rfl ?_
      refine gz_aload_n dX7_missed_49 rfl ?_
      refine gz_getf 3 dX7_missed_50 rfl rfl wf_Heliographs_39 (by decide) rfl ?_
      refine gv_1 (J := mX0_copy) (d1 := d - 1) dX7_missed_53 wm_Heliographs_196 rfl jzX0_copy (Nat.le_of_ble_eq_true rfl) (Nat.le_of_ble_eq_true rfl) (by omega) ⟨Nat.le_refl _, Nat.le_refl _⟩ (zs_copy (by omega)) ?_
      refine gz_aload_n dX7_missed_56 rfl ?_
      refine gz_getf 4 dX7_missed_57 rfl rfl wf_Heliographs_43 (by decide) rfl ?_
      refine gz_iload dX7_missed_60 rfl ?_
      refine zc_putf 2 dX7_missed_62 rfl rfl wf_Heliographs_211 (by decide) (by decide) jo_Heliographs_Chain ju_Heliographs_Chain rfl tyX0 tyX0_ok nmX0 rfl (fun _ => ⟨rfl, rfl⟩) rfl ?_
      refine gz_aload_n dX7_missed_65 rfl ?_
      refine gz_getf 4 dX7_missed_66 rfl rfl wf_Heliographs_43 (by decide) rfl ?_
      refine gz_iload_n dX7_missed_69 rfl ?_
      refine gq_1 (J := mX0_run) (d1 := d - 1) dX7_missed_70 wm_Heliographs_193 rfl jzX0_run (Nat.le_of_ble_eq_true rfl) (Nat.le_of_ble_eq_true rfl) (by omega) (zt_run hsh hm (by omega)) (fun Z70 hZ70 => ?_)
      refine gz_aload_n dX7_missed_73 rfl ?_
      refine gz_getf 4 dX7_missed_74 rfl rfl wf_Heliographs_43 (by decide) rfl ?_
      refine zz_iconst dX7_missed_77 ?_
      refine gv_1 (J := mX0_messagesIn) (d1 := d - 1) dX7_missed_78 wm_Heliographs_190 rfl jzX0_messagesIn (Nat.le_of_ble_eq_true rfl) (Nat.le_of_ble_eq_true rfl) (by omega) ⟨Nat.le_refl _, Nat.le_refl _⟩ (zt_in hZ70 (by omega)) ?_
      refine gz_istore dX7_missed_81 (Nat.le_of_ble_eq_true rfl) rfl ?_
      refine gz_iload dX7_missed_83 rfl ?_
      refine gz_iload_n dX7_missed_85 rfl ?_
      refine zz_icmp_ge (tgt := 95) dX7_missed_86 rfl (by omega) (fun b86 => ?_) (fun b86 => ?_)
      ·
        refine zz_iinc dX7_missed_95 rfl rfl ?_
        refine gz_goto (tgt := 30) dX7_missed_98 rfl ?_
        first
          | exact ih (i + 1) _ _ Z70 _ (by omega) (by omega) hZ70.1
          | exact ih (i + 1) b f Z70 _ (by omega) (by omega) hZ70.1
      ·
        refine gz_iload dX7_missed_89 rfl ?_
        refine gz_istore_n dX7_missed_91 (Nat.le_of_ble_eq_true rfl) rfl ?_
        refine gz_iload dX7_missed_92 rfl ?_
        refine gz_istore_n dX7_missed_94 (Nat.le_of_ble_eq_true rfl) rfl ?_
        refine zz_iinc dX7_missed_95 rfl rfl ?_
        refine gz_goto (tgt := 30) dX7_missed_98 rfl ?_
        first
          | exact ih (i + 1) _ _ Z70 _ (by omega) (by omega) hZ70.1
          | exact ih (i + 1) b f Z70 _ (by omega) (by omega) hZ70.1
    )

theorem zh_missed {p : Nat} {H : zV → Nat → Bool} {π σ : zV} {t o N : Int} (hS : St Z p H π σ t o N) {m : Nat} (hm : N + 9 * m ≤ 90000) (hm1 : 1 ≤ m ∧ m ≤ 240) (hp1 : 1 ≤ π 0 1) (hd : 8 ≤ d) : zk_DoesE l Γ mX7_missed d [.ref 320, .int (iZ (m : Int))] Z F (fun v Z2 => ∃ z, v = some (.int (iZ z)) ∧ (0 ≤ z ∧ z < π 0 1) ∧ St Z2 p H π σ t o N) := by
  intro Q hq
  have htl := fun L5 => zh_missed_loop (l := l) (Γ := Γ) (d := d) (F := F) (Q := Q) hm hm1 hd hp1 (fun z Z2 hz h2 => hq _ _ ⟨z, rfl, hz, h2⟩) (π 0 1).toNat 0 (-1) 9 Z L5 (by omega) (Or.inl ⟨rfl, rfl, rfl⟩) hS
  refine gz_iload_n dX7_missed_0 rfl ?_
  refine zz_iconst dX7_missed_1 ?_
  refine zz_icmp_lt (tgt := 12) dX7_missed_2 rfl (by omega) (fun b2 => ?_) (fun b2 => ?_)
  · exact absurd b2 (by omega)
  refine gz_iload_n dX7_missed_5 rfl ?_
  refine zz_sipush (x := 240) dX7_missed_6 rfl ?_
  refine zz_icmp_le (tgt := 22) dX7_missed_9 rfl (by omega) (fun b9 => ?_) (fun b9 => ?_)
  rotate_left
  · exact absurd b9 (by omega)
  refine zz_iconst dX7_missed_22 ?_
  refine gz_istore_n dX7_missed_23 (Nat.le_of_ble_eq_true rfl) rfl ?_
  refine zz_bipush (x := 9) dX7_missed_24 rfl ?_
  refine gz_istore_n dX7_missed_26 (Nat.le_of_ble_eq_true rfl) rfl ?_
  refine zz_iconst dX7_missed_27 ?_
  refine gz_istore dX7_missed_28 (Nat.le_of_ble_eq_true rfl) rfl ?_
  exact htl _
theorem zh_advise_loop {p : Nat} {H : zV → Nat → Bool} {π σ : zV} {t o N : Int} {m : Nat} (hm : N + 9 * m ≤ 90000) (hm1 : 1 ≤ m ∧ m ≤ 240) (hd : 8 ≤ d) {Q : Option Value → zk_M → (Heap → Prop) → Prop} (hq : ∀ (z : Int) (Z2 : zV), -1 ≤ z ∧ z < π 0 0 → St Z2 p H π σ t o N → Q (some (.int (iZ z))) (zb_M Z2) F) : ∀ (n i : Nat) (b f : Int) (Z1 : zV) (L5 : Option Value), (i : Int) + n = π 0 0 → (-1 ≤ b ∧ b < π 0 0) → (0 ≤ f ∧ f ≤ 9) → St Z1 p H π σ t o N → zk_Go l Γ mX7_advise d 0 0 Q 55 [some (.ref 320), some (.int (iZ (m : Int))), some (.int (iZ b)), some (.int (iZ f)), some (.int (iZ (i : Int))), L5] [] (zb_M Z1) F := by
  intro n
  induction n with
  | zero =>
    intro i b f Z1 L5 hi hb hf hS
    have hS1 := hS
    have hw := hS.2.2.2.2.1
    have h0 := wP_n hw
    obtain ⟨hp, hcp, e1, e2, hw1, hc0, hH, ht, ho, hN, h4⟩ := hS
    have hpl := congrArg Int.toNat hcp
    simp only [Int.toNat_natCast] at hpl
    have en : Z1 p 0 = π 0 0 := by rw [← e1]; rfl
    rcases hp with rfl | rfl <;> (
      refine gz_iload dX7_advise_55 rfl ?_
      refine gz_aload_n dX7_advise_57 rfl ?_
      refine gz_getf 3 dX7_advise_58 rfl rfl wf_Heliographs_39 (by decide) rfl ?_
      refine gz_getf 0 dX7_advise_61 rfl rfl wf_Heliographs_83 (by decide) (congrArg Value.ref hpl) ?_
      refine gz_getf 0 dX7_advise_64 rfl rfl wf_Heliographs_214 (by decide) (zv_i en) ?_
      refine zz_icmp_ge (tgt := 131) dX7_advise_67 rfl (by omega) (fun b67 => ?_) (fun b67 => ?_)
      rotate_left
      · exact absurd b67 (by omega)
      refine gz_iload_n dX7_advise_131 rfl ?_
      refine gz_ireturn dX7_advise_132 rfl rfl ?_
      exact hq b Z1 (by omega) hS1
    )
  | succ n ih =>
    intro i b f Z1 L5 hi hb hf hS
    have hS1 := hS
    have hw := hS.2.2.2.2.1
    have h0 := wP_n hw
    obtain ⟨hp, hcp, e1, e2, hw1, hc0, hH, ht, ho, hN, h4⟩ := hS
    have hpl := congrArg Int.toNat hcp
    simp only [Int.toNat_natCast] at hpl
    have en : Z1 p 0 = π 0 0 := by rw [← e1]; rfl
    have hcp2 := St2_cp hS1
    have em : zCp Z1 353 i = σ 1 i := by rw [← e2]; rfl
    have hmi := wC_k hc0 (k := i) (by omega)
    have hm4 := h4 i (by omega)
    have hsh := St2_u hcp2 (i := 1) (j := i) (by omega) (by omega) (wC_mir hc0 (k := i) (z := σ 1 i + 1) (by omega))
    have hthr := sIn_bd hw (zap (sRun π H m (zb_u σ 1 i (σ 1 i + 1)))) 2
    rcases hp with rfl | rfl <;> (
      refine gz_iload dX7_advise_55 rfl ?_
      refine gz_aload_n dX7_advise_57 rfl ?_
      refine gz_getf 3 dX7_advise_58 rfl rfl wf_Heliographs_39 (by decide) rfl ?_
      refine gz_getf 0 dX7_advise_61 rfl rfl wf_Heliographs_83 (by decide) (congrArg Value.ref hpl) ?_
      refine gz_getf 0 dX7_advise_64 rfl rfl wf_Heliographs_214 (by decide) (zv_i en) ?_
      refine zz_icmp_ge (tgt := 131) dX7_advise_67 rfl (by omega) (fun b67 => ?_) (fun b67 => ?_)
      · exact absurd b67 (by omega)
      refine gz_aload_n dX7_advise_70 rfl ?_
      refine gz_getf 4 dX7_advise_71 rfl rfl wf_Heliographs_43 (by decide) rfl ?_
      refine gz_aload_n dX7_advise_74 rfl ?_
      refine gz_getf 3 dX7_advise_75 rfl rfl wf_Heliographs_39 (by decide) rfl ?_
      refine gv_1 (J := mX0_copy) (d1 := d - 1) dX7_advise_78 wm_Heliographs_196 rfl jzX0_copy (Nat.le_of_ble_eq_true rfl) (Nat.le_of_ble_eq_true rfl) (by omega) ⟨Nat.le_refl _, Nat.le_refl _⟩ (zs_copy (by omega)) ?_
      refine gz_aload_n dX7_advise_81 rfl ?_
      refine gz_getf 4 dX7_advise_82 rfl rfl wf_Heliographs_43 (by decide) rfl ?_
      refine gz_getf 3 dX7_advise_85 rfl rfl wf_Heliographs_146 (by decide) rfl ?_
      refine gz_iload dX7_advise_88 rfl ?_
      refine gz_dup2 dX7_advise_90 rfl rfl ?_
      refine gz_iald (n := i) dX7_advise_91 rfl rfl (by omega) (zv_i em) ?_
      refine zz_iconst dX7_advise_92 ?_
      refine zz_iadd dX7_advise_93 ?_
      refine zc_iast (n := i) dX7_advise_94 rfl (by decide) rfl (by omega) rfl ?_
      refine gz_aload_n dX7_advise_95 rfl ?_
      refine gz_getf 4 dX7_advise_96 rfl rfl wf_Heliographs_43 (by decide) rfl ?_
      refine gz_iload_n dX7_advise_99 rfl ?_
      refine gq_1 (J := mX0_run) (d1 := d - 1) dX7_advise_100 wm_Heliographs_193 rfl jzX0_run (Nat.le_of_ble_eq_true rfl) (Nat.le_of_ble_eq_true rfl) (by omega) (zt_run hsh hm (by omega)) (fun Z100 hZ100 => ?_)
      refine gz_aload_n dX7_advise_103 rfl ?_
      refine gz_getf 4 dX7_advise_104 rfl rfl wf_Heliographs_43 (by decide) rfl ?_
      refine zz_iconst dX7_advise_107 ?_
      refine gv_1 (J := mX0_messagesIn) (d1 := d - 1) dX7_advise_108 wm_Heliographs_190 rfl jzX0_messagesIn (Nat.le_of_ble_eq_true rfl) (Nat.le_of_ble_eq_true rfl) (by omega) ⟨Nat.le_refl _, Nat.le_refl _⟩ (zt_in hZ100 (by omega)) ?_
      refine gz_istore dX7_advise_111 (Nat.le_of_ble_eq_true rfl) rfl ?_
      refine gz_iload dX7_advise_113 rfl ?_
      refine gz_iload_n dX7_advise_115 rfl ?_
      refine zz_icmp_le (tgt := 125) dX7_advise_116 rfl (by omega) (fun b116 => ?_) (fun b116 => ?_)
      ·
        refine zz_iinc dX7_advise_125 rfl rfl ?_
        refine gz_goto (tgt := 55) dX7_advise_128 rfl ?_
        first
          | exact ih (i + 1) _ _ Z100 _ (by omega) (by omega) (by omega) hZ100.1
          | exact ih (i + 1) b f Z100 _ (by omega) hb hf hZ100.1
      ·
        refine gz_iload dX7_advise_119 rfl ?_
        refine gz_istore_n dX7_advise_121 (Nat.le_of_ble_eq_true rfl) rfl ?_
        refine gz_iload dX7_advise_122 rfl ?_
        refine gz_istore_n dX7_advise_124 (Nat.le_of_ble_eq_true rfl) rfl ?_
        refine zz_iinc dX7_advise_125 rfl rfl ?_
        refine gz_goto (tgt := 55) dX7_advise_128 rfl ?_
        first
          | exact ih (i + 1) _ _ Z100 _ (by omega) (by omega) (by omega) hZ100.1
          | exact ih (i + 1) b f Z100 _ (by omega) hb hf hZ100.1
    )
theorem zh_advise {p : Nat} {H : zV → Nat → Bool} {π σ : zV} {t o N : Int} (hS : St Z p H π σ t o N) {m : Nat} (hm : N + 9 * m ≤ 90000) (hm1 : 1 ≤ m ∧ m ≤ 240) (hd : 8 ≤ d) : zk_DoesE l Γ mX7_advise d [.ref 320, .int (iZ (m : Int))] Z F (fun v Z2 => ∃ z, v = some (.int (iZ z)) ∧ (-1 ≤ z ∧ z < π 0 0) ∧ St Z2 p H π σ t o N) := by
  intro Q hq
  have hb0 := sIn_bd hS.2.2.2.2.1 (zap (sRun π H m σ)) 2
  have h00 := wP_n hS.2.2.2.2.1
  have htl := fun Z1 L5 f hf hS1 => zh_advise_loop (l := l) (Γ := Γ) (d := d) (F := F) (Q := Q) hm hm1 hd (fun z Z2 hz h2 => hq _ _ ⟨z, rfl, hz, h2⟩) (π 0 0).toNat 0 (-1) f Z1 L5 (by omega) (by omega) hf hS1
  refine gz_iload_n dX7_advise_0 rfl ?_
  refine zz_iconst dX7_advise_1 ?_
  refine zz_icmp_lt (tgt := 12) dX7_advise_2 rfl (by omega) (fun b2 => ?_) (fun b2 => ?_)
  · exact absurd b2 (by omega)
  refine gz_iload_n dX7_advise_5 rfl ?_
  refine zz_sipush (x := 240) dX7_advise_6 rfl ?_
  refine zz_icmp_le (tgt := 22) dX7_advise_9 rfl (by omega) (fun b9 => ?_) (fun b9 => ?_)
  rotate_left
  · exact absurd b9 (by omega)
  refine gz_aload_n dX7_advise_22 rfl ?_
  refine gz_getf 4 dX7_advise_23 rfl rfl wf_Heliographs_43 (by decide) rfl ?_
  refine gz_aload_n dX7_advise_26 rfl ?_
  refine gz_getf 3 dX7_advise_27 rfl rfl wf_Heliographs_39 (by decide) rfl ?_
  refine gv_1 (J := mX0_copy) (d1 := d - 1) dX7_advise_30 wm_Heliographs_196 rfl jzX0_copy (Nat.le_of_ble_eq_true rfl) (Nat.le_of_ble_eq_true rfl) (by omega) ⟨Nat.le_refl _, Nat.le_refl _⟩ (zs_copy (by omega)) ?_
  refine gz_aload_n dX7_advise_33 rfl ?_
  refine gz_getf 4 dX7_advise_34 rfl rfl wf_Heliographs_43 (by decide) rfl ?_
  refine gz_iload_n dX7_advise_37 rfl ?_
  refine gq_1 (J := mX0_run) (d1 := d - 1) dX7_advise_38 wm_Heliographs_193 rfl jzX0_run (Nat.le_of_ble_eq_true rfl) (Nat.le_of_ble_eq_true rfl) (by omega) (zt_run (St2_cp hS) hm (by omega)) (fun Z38 hZ38 => ?_)
  refine zz_iconst dX7_advise_41 ?_
  refine gz_istore_n dX7_advise_42 (Nat.le_of_ble_eq_true rfl) rfl ?_
  refine gz_aload_n dX7_advise_43 rfl ?_
  refine gz_getf 4 dX7_advise_44 rfl rfl wf_Heliographs_43 (by decide) rfl ?_
  refine zz_iconst dX7_advise_47 ?_
  refine gv_1 (J := mX0_messagesIn) (d1 := d - 1) dX7_advise_48 wm_Heliographs_190 rfl jzX0_messagesIn (Nat.le_of_ble_eq_true rfl) (Nat.le_of_ble_eq_true rfl) (by omega) ⟨Nat.le_refl _, Nat.le_refl _⟩ (zt_in hZ38 (by omega)) ?_
  refine gz_istore_n dX7_advise_51 (Nat.le_of_ble_eq_true rfl) rfl ?_
  refine zz_iconst dX7_advise_52 ?_
  refine gz_istore dX7_advise_53 (Nat.le_of_ble_eq_true rfl) rfl ?_
  exact htl Z38 _ _ (by omega) hZ38.1
end

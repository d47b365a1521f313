/-! SHORTEST WAYS BY THE MACHINE -/
section
variable {l : Launch} {Γ : zk_G} {d : Nat} {Z : Nat → Nat → Int} {F : Heap → Prop}
/-- cells whose contents tell nothing: reach, the orders' stacks and tops -/
def zscr (a j : Nat) : Bool := a == 348 || a == 364 || a == 388 || a == 420 || ((a == 383 || a == 415) && j == 7)
def zeq (Z Z' : zV) : Prop := ∀ a j, zscr a j = false → Z' a j = Z a j
theorem zeq.refl (Z : zV) : zeq Z Z := fun _ _ _ => rfl
theorem zeq.trans {Z Z' Z2 : zV} (h : zeq Z Z') (h2 : zeq Z' Z2) : zeq Z Z2 := fun a j q => (h2 a j q).trans (h a j q)
theorem zscr_no {a : Nat} (h : a ≠ 348 ∧ a ≠ 364 ∧ a ≠ 388 ∧ a ≠ 420 ∧ a ≠ 383 ∧ a ≠ 415) (j : Nat) : zscr a j = false := by
  unfold zscr
  simp only [Bool.or_eq_false_iff, Bool.and_eq_false_iff, beq_eq_false_iff_ne]
  exact ⟨⟨⟨⟨h.1, h.2.1⟩, h.2.2.1⟩, h.2.2.2.1⟩, Or.inl ⟨h.2.2.2.2.1, h.2.2.2.2.2⟩⟩
theorem zeq.vP {Z Z' : zV} (h : zeq Z Z') {p : Nat} (hp : p = 368 ∨ p = 400) : vP Z' p = vP Z p := by
  funext x y
  show (if x < 15 then Z' (p + x) y else 0) = (if x < 15 then Z (p + x) y else 0)
  by_cases hx : x < 15
  · rw [if_pos hx, if_pos hx, h _ _ (zscr_no (by omega) _)]
  · rw [if_neg hx, if_neg hx]
theorem zeq.vC {Z Z' : zV} (h : zeq Z Z') {c : Nat} (hc : c = 336 ∨ c = 352) : vC Z' c = vC Z c := by
  funext x y
  show (if x < 12 then Z' (c + x) y else 0) = (if x < 12 then Z (c + x) y else 0)
  by_cases hx : x < 12
  · rw [if_pos hx, if_pos hx, h _ _ (zscr_no (by omega) _)]
  · rw [if_neg hx, if_neg hx]
theorem zeq.at {Z Z' : zV} (h : zeq Z Z') {a : Nat} (ha : a ≠ 348 ∧ a ≠ 364 ∧ a ≠ 388 ∧ a ≠ 420 ∧ a ≠ 383 ∧ a ≠ 415) (j : Nat) : Z' a j = Z a j := h _ _ (zscr_no ha _)
theorem zeq.u {Z : zV} {a j : Nat} {z : Int} (h : zscr a j = true) : zeq Z (zb_u Z a j z) := by
  intro x y q
  unfold zb_u
  by_cases e : x = a ∧ y = j
  · rw [e.1, e.2, h] at q
    cases q
  · rw [if_neg e]
/-- a method that leaves what tells nothing as it likes -/
def zk_DoesR (l : Launch) (Γ : zk_G) (J : zk_MI) (d : Nat) (As : List Value) (Z : zV) (F : Heap → Prop) (v : Option Value) (R : zV → Prop) : Prop :=
  ∀ Q : Option Value → zk_M → (Heap → Prop) → Prop, (∀ Z', R Z' → Q v (zb_M Z') F) → zk_Go l Γ J d 0 0 Q 0 (zk_ent J.2.2.1 As) [] (zb_M Z) F
section CALLR
variable {I J : zk_MI} {d1 kc ks : Nat} {Q : Option Value → zk_M → (Heap → Prop) → Prop} {pc idx k len b : Nat} {L : List (Option Value)} {st : List Value} {v1 : Option Value} {R : zV → Prop}
theorem gq_0 (hd : decode I.2.1 pc = .ok (.invokevirtual idx, 3)) (hw : Cond.methodLink I.1.cls idx J.1 ∈ zk_tg) (hs : zb_s b = (k, len)) (hJ : zk_V J 0 k) (hm : (zk_es [.ref b]).length ≤ J.2.2.1) (hsum : (st.map fun v => v.category).sum ≤ 8) (hd1 : d1 + 1 ≤ d) (hgo : zk_DoesR l Γ J d1 [.ref b] Z F v1 R)
    (kk : ∀ Z', R Z' → zk_Go l Γ I d kc ks Q (pc + 3) L (v1.toList ++ st) (zb_M Z') F) : zk_Go l Γ I d kc ks Q pc L (.ref b :: st) (zb_M Z) F :=
  gz_invv (M := zb_M Z) (kc1 := 0) (ks1 := 0) [] st hd rfl hs hJ.2.2.2.2.2.2.1 hJ.2.2.2.2.2.2.2.1 hw hJ.1 hJ.2.1 hJ.2.2.1 hJ.2.2.2.1 hJ.2.2.2.2.1 rfl ⟨hJ.2.2.2.2.2.1, hm⟩ hsum hd1 ⟨Nat.zero_le _, Nat.zero_le _⟩ hJ.2.2.2.2.2.2.2.2 (hgo (fun v M' F' => v = v1 ∧ F' = F ∧ ∃ Z', R Z' ∧ M' = zb_M Z') (fun Z' h => ⟨rfl, rfl, Z', h, rfl⟩)) (fun v M' F' h => by obtain ⟨rfl, rfl, Z', h1, rfl⟩ := h; exact kk Z' h1)
theorem gq_1 {a1 : Value} (hd : decode I.2.1 pc = .ok (.invokevirtual idx, 3)) (hw : Cond.methodLink I.1.cls idx J.1 ∈ zk_tg) (hs : zb_s b = (k, len)) (hJ : zk_V J 1 k) (hm : (zk_es [.ref b, a1]).length ≤ J.2.2.1) (hsum : (st.map fun v => v.category).sum ≤ 8) (hd1 : d1 + 1 ≤ d) (hgo : zk_DoesR l Γ J d1 [.ref b, a1] Z F v1 R)
    (kk : ∀ Z', R Z' → zk_Go l Γ I d kc ks Q (pc + 3) L (v1.toList ++ st) (zb_M Z') F) : zk_Go l Γ I d kc ks Q pc L (a1 :: .ref b :: st) (zb_M Z) F :=
  gz_invv (M := zb_M Z) (kc1 := 0) (ks1 := 0) [a1] st hd rfl hs hJ.2.2.2.2.2.2.1 hJ.2.2.2.2.2.2.2.1 hw hJ.1 hJ.2.1 hJ.2.2.1 hJ.2.2.2.1 hJ.2.2.2.2.1 rfl ⟨hJ.2.2.2.2.2.1, hm⟩ hsum hd1 ⟨Nat.zero_le _, Nat.zero_le _⟩ hJ.2.2.2.2.2.2.2.2 (hgo (fun v M' F' => v = v1 ∧ F' = F ∧ ∃ Z', R Z' ∧ M' = zb_M Z') (fun Z' h => ⟨rfl, rfl, Z', h, rfl⟩)) (fun v M' F' h => by obtain ⟨rfl, rfl, Z', h1, rfl⟩ := h; exact kk Z' h1)
theorem gq_2 {a1 a2 : Value} (hd : decode I.2.1 pc = .ok (.invokevirtual idx, 3)) (hw : Cond.methodLink I.1.cls idx J.1 ∈ zk_tg) (hs : zb_s b = (k, len)) (hJ : zk_V J 2 k) (hm : (zk_es [.ref b, a1, a2]).length ≤ J.2.2.1) (hsum : (st.map fun v => v.category).sum ≤ 8) (hd1 : d1 + 1 ≤ d) (hgo : zk_DoesR l Γ J d1 [.ref b, a1, a2] Z F v1 R)
    (kk : ∀ Z', R Z' → zk_Go l Γ I d kc ks Q (pc + 3) L (v1.toList ++ st) (zb_M Z') F) : zk_Go l Γ I d kc ks Q pc L (a2 :: a1 :: .ref b :: st) (zb_M Z) F :=
  gz_invv (M := zb_M Z) (kc1 := 0) (ks1 := 0) [a1, a2] st hd rfl hs hJ.2.2.2.2.2.2.1 hJ.2.2.2.2.2.2.2.1 hw hJ.1 hJ.2.1 hJ.2.2.1 hJ.2.2.2.1 hJ.2.2.2.2.1 rfl ⟨hJ.2.2.2.2.2.1, hm⟩ hsum hd1 ⟨Nat.zero_le _, Nat.zero_le _⟩ hJ.2.2.2.2.2.2.2.2 (hgo (fun v M' F' => v = v1 ∧ F' = F ∧ ∃ Z', R Z' ∧ M' = zb_M Z') (fun Z' h => ⟨rfl, rfl, Z', h, rfl⟩)) (fun v M' F' h => by obtain ⟨rfl, rfl, Z', h1, rfl⟩ := h; exact kk Z' h1)
theorem gq_3 {a1 a2 a3 : Value} (hd : decode I.2.1 pc = .ok (.invokevirtual idx, 3)) (hw : Cond.methodLink I.1.cls idx J.1 ∈ zk_tg) (hs : zb_s b = (k, len)) (hJ : zk_V J 3 k) (hm : (zk_es [.ref b, a1, a2, a3]).length ≤ J.2.2.1) (hsum : (st.map fun v => v.category).sum ≤ 8) (hd1 : d1 + 1 ≤ d) (hgo : zk_DoesR l Γ J d1 [.ref b, a1, a2, a3] Z F v1 R)
    (kk : ∀ Z', R Z' → zk_Go l Γ I d kc ks Q (pc + 3) L (v1.toList ++ st) (zb_M Z') F) : zk_Go l Γ I d kc ks Q pc L (a3 :: a2 :: a1 :: .ref b :: st) (zb_M Z) F :=
  gz_invv (M := zb_M Z) (kc1 := 0) (ks1 := 0) [a1, a2, a3] st hd rfl hs hJ.2.2.2.2.2.2.1 hJ.2.2.2.2.2.2.2.1 hw hJ.1 hJ.2.1 hJ.2.2.1 hJ.2.2.2.1 hJ.2.2.2.2.1 rfl ⟨hJ.2.2.2.2.2.1, hm⟩ hsum hd1 ⟨Nat.zero_le _, Nat.zero_le _⟩ hJ.2.2.2.2.2.2.2.2 (hgo (fun v M' F' => v = v1 ∧ F' = F ∧ ∃ Z', R Z' ∧ M' = zb_M Z') (fun Z' h => ⟨rfl, rfl, Z', h, rfl⟩)) (fun v M' F' h => by obtain ⟨rfl, rfl, Z', h1, rfl⟩ := h; exact kk Z' h1)
theorem gq_4 {a1 a2 a3 a4 : Value} (hd : decode I.2.1 pc = .ok (.invokevirtual idx, 3)) (hw : Cond.methodLink I.1.cls idx J.1 ∈ zk_tg) (hs : zb_s b = (k, len)) (hJ : zk_V J 4 k) (hm : (zk_es [.ref b, a1, a2, a3, a4]).length ≤ J.2.2.1) (hsum : (st.map fun v => v.category).sum ≤ 8) (hd1 : d1 + 1 ≤ d) (hgo : zk_DoesR l Γ J d1 [.ref b, a1, a2, a3, a4] Z F v1 R)
    (kk : ∀ Z', R Z' → zk_Go l Γ I d kc ks Q (pc + 3) L (v1.toList ++ st) (zb_M Z') F) : zk_Go l Γ I d kc ks Q pc L (a4 :: a3 :: a2 :: a1 :: .ref b :: st) (zb_M Z) F :=
  gz_invv (M := zb_M Z) (kc1 := 0) (ks1 := 0) [a1, a2, a3, a4] st hd rfl hs hJ.2.2.2.2.2.2.1 hJ.2.2.2.2.2.2.2.1 hw hJ.1 hJ.2.1 hJ.2.2.1 hJ.2.2.2.1 hJ.2.2.2.2.1 rfl ⟨hJ.2.2.2.2.2.1, hm⟩ hsum hd1 ⟨Nat.zero_le _, Nat.zero_le _⟩ hJ.2.2.2.2.2.2.2.2 (hgo (fun v M' F' => v = v1 ∧ F' = F ∧ ∃ Z', R Z' ∧ M' = zb_M Z') (fun Z' h => ⟨rfl, rfl, Z', h, rfl⟩)) (fun v M' F' h => by obtain ⟨rfl, rfl, Z', h1, rfl⟩ := h; exact kk Z' h1)
end CALLR
theorem zs_shorten {c p : Nat} (hcs : c = 336 ∨ c = 352) (hp : p = 368 ∨ p = 400) (hcp : Z c 0 = (p : Int)) (hw : wP (vP Z p)) {x y f : Int} (hx : 0 ≤ x ∧ x < Z p 0) (hy : 0 ≤ y ∧ y < Z p 0) (hf : 1 ≤ f ∧ f ≤ 20) (hrx : 0 ≤ Z (c + 12) x.toNat ∧ Z (c + 12) x.toNat ≤ 1000000) (hry : 0 ≤ Z (c + 12) y.toNat ∧ Z (c + 12) y.toNat ≤ 1000000) (hd : 1 ≤ d) : zk_Does l Γ mX0_shorten d 0 0 [.ref c, .int (iZ x), .int (iZ y), .int (iZ f)] (zb_M Z) F (some (.int (iZ (bI (decide (Z (c + 12) y.toNat + f < Z (c + 12) x.toNat)))))) (zb_M (if Z (c + 12) y.toNat + f < Z (c + 12) x.toNat then zb_u Z (c + 12) x.toNat (Z (c + 12) y.toNat + f) else Z)) F := by
  intro Q hq
  have hcs2 := hcs
  have hp2 := hp
  obtain ⟨rx, hrx_⟩ : ∃ z, Z (c + 12) x.toNat = z := ⟨_, rfl⟩
  obtain ⟨ry, hry_⟩ : ∃ z, Z (c + 12) y.toNat = z := ⟨_, rfl⟩
  rcases hcs with rfl | rfl <;> rcases hp with rfl | rfl <;> (
    try simp only [Nat.reduceAdd] at hrx_
    try simp only [Nat.reduceAdd] at hry_
    have hpl := congrArg Int.toNat hcp
    simp only [Int.toNat_natCast] at hpl
    have h0 := wP_n hw
    simp only [vP_ap, vC_ap, Nat.reduceAdd, Nat.reduceLT, Nat.add_zero, ↓reduceIte] at h0
    simp only [Nat.reduceAdd] at hrx hry hq
    skip
    refine gz_aload_n dX0_shorten_0 rfl ?_
    refine gz_getf 0 dX0_shorten_1 rfl rfl wf_Heliographs_Chain_53 (by decide) (congrArg Value.ref hpl) ?_
    refine gz_iload_n dX0_shorten_4 rfl ?_
    refine gv_1 (J := mX3_hasPeak) (d1 := d - 1) dX0_shorten_5 wm_Heliographs_Chain_144 rfl jzX3_hasPeak (Nat.le_of_ble_eq_true rfl) (Nat.le_of_ble_eq_true rfl) (by omega) ⟨Nat.le_refl _, Nat.le_refl _⟩ (zs_hasPeak hp2 (by omega) h0.1) ?_
    refine zz_if_eqB (tgt := 39) dX0_shorten_8 rfl (fun b8 => ?_) (fun b8 => ?_)
    · exact absurd (by simp only [decide_eq_true_eq]; omega) b8
    refine gz_aload_n dX0_shorten_11 rfl ?_
    refine gz_getf 0 dX0_shorten_12 rfl rfl wf_Heliographs_Chain_53 (by decide) (congrArg Value.ref hpl) ?_
    refine gz_iload_n dX0_shorten_15 rfl ?_
    refine gv_1 (J := mX3_hasPeak) (d1 := d - 1) dX0_shorten_16 wm_Heliographs_Chain_144 rfl jzX3_hasPeak (Nat.le_of_ble_eq_true rfl) (Nat.le_of_ble_eq_true rfl) (by omega) ⟨Nat.le_refl _, Nat.le_refl _⟩ (zs_hasPeak hp2 (by omega) h0.1) ?_
    refine zz_if_eqB (tgt := 39) dX0_shorten_19 rfl (fun b19 => ?_) (fun b19 => ?_)
    · exact absurd (by simp only [decide_eq_true_eq]; omega) b19
    refine gz_aload_n dX0_shorten_22 rfl ?_
    refine gz_getf 15 dX0_shorten_23 rfl rfl wf_Heliographs_Chain_50 (by decide) rfl ?_
    refine gz_iload_n dX0_shorten_26 rfl ?_
    refine gn_iald (v := .int (iZ (ry))) dX0_shorten_27 rfl (by omega) (congrArg (fun z => Value.int (iZ z)) hry_) ?_
    refine gz_iload_n dX0_shorten_28 rfl ?_
    refine zz_iadd dX0_shorten_29 ?_
    refine gz_aload_n dX0_shorten_30 rfl ?_
    refine gz_getf 15 dX0_shorten_31 rfl rfl wf_Heliographs_Chain_50 (by decide) rfl ?_
    refine gz_iload_n dX0_shorten_34 rfl ?_
    refine gn_iald (v := .int (iZ (rx))) dX0_shorten_35 rfl (by omega) (congrArg (fun z => Value.int (iZ z)) hrx_) ?_
    refine zz_icmp_lt (tgt := 41) dX0_shorten_36 rfl (by omega) (fun b36 => ?_) (fun b36 => ?_)
    ·
      refine gz_aload_n dX0_shorten_41 rfl ?_
      refine gz_getf 15 dX0_shorten_42 rfl rfl wf_Heliographs_Chain_50 (by decide) rfl ?_
      refine gz_iload_n dX0_shorten_45 rfl ?_
      refine gz_aload_n dX0_shorten_46 rfl ?_
      refine gz_getf 15 dX0_shorten_47 rfl rfl wf_Heliographs_Chain_50 (by decide) rfl ?_
      refine gz_iload_n dX0_shorten_50 rfl ?_
      refine gn_iald (v := .int (iZ (ry))) dX0_shorten_51 rfl (by omega) (congrArg (fun z => Value.int (iZ z)) hry_) ?_
      refine gz_iload_n dX0_shorten_52 rfl ?_
      refine zz_iadd dX0_shorten_53 ?_
      refine zn_iast dX0_shorten_54 rfl (by decide) (by omega) rfl ?_
      refine zz_iconst dX0_shorten_55 ?_
      refine gz_ireturn dX0_shorten_56 rfl rfl ?_
      (first | (rw [bI_t (by simp only [decide_eq_true_eq]; omega), if_pos (by omega)] at hq; rw [hry_] at hq; exact hq) | (rw [bI_f (by simp only [decide_eq_true_eq]; omega), if_neg (by omega)] at hq; exact hq))
    ·
      refine zz_iconst dX0_shorten_39 ?_
      refine gz_ireturn dX0_shorten_40 rfl rfl ?_
      (first | (rw [bI_t (by simp only [decide_eq_true_eq]; omega), if_pos (by omega)] at hq; rw [hry_] at hq; exact hq) | (rw [bI_f (by simp only [decide_eq_true_eq]; omega), if_neg (by omega)] at hq; exact hq))
  )
theorem zs_measure_a {c p : Nat} (hcs : c = 336 ∨ c = 352) {t : Nat} (ht : t < 8) {Q : Option Value → zk_M → (Heap → Prop) → Prop} : ∀ (n i : Nat) (Z1 : zV), (i : Int) + n = 8 → zeq Z Z1 → (∀ k : Nat, k < i → Z1 (c + 12) k = if k = t then 0 else 1000000) → (∀ Z2 : zV, zeq Z Z2 → (∀ k : Nat, k < 8 → Z2 (c + 12) k = if k = t then 0 else 1000000) → zk_Go l Γ mX0_measure d 0 0 Q 34 [some (.ref c), some (.int (iZ (t : Int))), some (.int (iZ 8)), none, none, none, none] [] (zb_M Z2) F) → zk_Go l Γ mX0_measure d 0 0 Q 2 [some (.ref c), some (.int (iZ (t : Int))), some (.int (iZ (i : Int))), none, none, none, none] [] (zb_M Z1) F := by
  rcases hcs with rfl | rfl <;> (
    intro n
    induction n with
    | zero =>
      intro i Z1 hi hz hk hc1
      refine gz_iload_n dX0_measure_2 rfl ?_
      refine gz_aload_n dX0_measure_3 rfl ?_
      refine gz_getf 15 dX0_measure_4 rfl rfl wf_Heliographs_Chain_50 (by decide) rfl ?_
      refine gz_alen (k := 0) dX0_measure_7 rfl (by decide) ?_
      refine zz_icmp_ge (tgt := 34) dX0_measure_8 rfl (by omega) (fun b8 => ?_) (fun b8 => ?_)
      rotate_left
      · exact absurd b8 (by omega)
      have ei : (i : Int) = 8 := by omega
      rw [ei]
      exact hc1 Z1 hz (fun k q => hk k (by omega))
    | succ n ih =>
      intro i Z1 hi hz hk hc1
      refine gz_iload_n dX0_measure_2 rfl ?_
      refine gz_aload_n dX0_measure_3 rfl ?_
      refine gz_getf 15 dX0_measure_4 rfl rfl wf_Heliographs_Chain_50 (by decide) rfl ?_
      refine gz_alen (k := 0) dX0_measure_7 rfl (by decide) ?_
      refine zz_icmp_ge (tgt := 34) dX0_measure_8 rfl (by omega) (fun b8 => ?_) (fun b8 => ?_)
      · exact absurd b8 (by omega)
      refine gz_aload_n dX0_measure_11 rfl ?_
      refine gz_getf 15 dX0_measure_12 rfl rfl wf_Heliographs_Chain_50 (by decide) rfl ?_
      refine gz_iload_n dX0_measure_15 rfl ?_
      refine gz_iload_n dX0_measure_16 rfl ?_
      refine gz_iload_n dX0_measure_17 rfl ?_
      refine zz_icmp_ne (tgt := 25) dX0_measure_18 rfl (by omega) (fun b18 => ?_) (fun b18 => ?_)
      ·
        refine zz_ldc (z := 1000000) dX0_measure_25 wk_Heliographs_Chain_147 rfl ?_
        refine zc_iast (n := i) dX0_measure_27 rfl (by decide) rfl (by omega) rfl ?_
        refine zz_iinc dX0_measure_28 rfl rfl ?_
        refine gz_goto (tgt := 2) dX0_measure_31 rfl ?_
        refine ih (i + 1) _ (by omega) (hz.trans (zeq.u rfl)) (fun k q => ?_) hc1
        rw [zb_row]
        dsimp only
        by_cases e : k = i
        · rw [if_pos e]
          first | rw [if_pos (by omega)] | rw [if_neg (by omega)]
        · rw [if_neg e]
          exact hk k (by omega)
      ·
        refine zz_iconst dX0_measure_21 ?_
        refine gz_goto (tgt := 27) dX0_measure_22 rfl ?_
        refine zc_iast (n := i) dX0_measure_27 rfl (by decide) rfl (by omega) rfl ?_
        refine zz_iinc dX0_measure_28 rfl rfl ?_
        refine gz_goto (tgt := 2) dX0_measure_31 rfl ?_
        refine ih (i + 1) _ (by omega) (hz.trans (zeq.u rfl)) (fun k q => ?_) hc1
        rw [zb_row]
        dsimp only
        by_cases e : k = i
        · rw [if_pos e]
          first | rw [if_pos (by omega)] | rw [if_neg (by omega)]
        · rw [if_neg e]
          exact hk k (by omega)
  )
theorem zv_i {a b : Int} (h : a = b) : Value.int (iZ a) = Value.int (iZ b) := by rw [h]
theorem zv_b {a b : Bool} (h : a = b) : some (Value.int (iZ (bI a))) = some (Value.int (iZ (bI b))) := by rw [h]
theorem zeq_if {Z : zV} {a j : Nat} {z : Int} {q : Prop} [Decidable q] (h : zscr a j = true) : zeq Z (if q then zb_u Z a j z else Z) := by
  split
  · exact zeq.u h
  · exact zeq.refl Z
theorem zs_measure_b {c p : Nat} (hcs : c = 336 ∨ c = 352) (hp : p = 368 ∨ p = 400) (hcp : Z c 0 = (p : Int)) (hw : wP (vP Z p)) (hlit : ∀ w : Nat, w < 12 → 0 ≤ Z (c + 11) w ∧ Z (c + 11) w ≤ 1) {t : Nat} (ht : (t : Int) < Z p 0) {np : Nat} (hnp : (np : Int) = Z p 1) {R0 : Nat → Int} (hK : ∀ k : Nat, (k : Int) < Z p 0 → R0 k ≤ 1000000) {r : Nat} (hd : 2 ≤ d) {Q : Option Value → zk_M → (Heap → Prop) → Prop} : ∀ (n i : Nat) (b : Bool) (Z1 : zV) (L5 L6 : Option Value), i + n = np → zeq Z Z1 → sRnd (vP Z p) (vC Z c) t i b R0 (Z1 (c + 12)) → (∀ (b2 : Bool) (Z2 : zV) (L4 L5 L6 : Option Value), zeq Z Z2 → sRnd (vP Z p) (vC Z c) t np b2 R0 (Z2 (c + 12)) → zk_Go l Γ mX0_measure d 0 0 Q 172 [some (.ref c), some (.int (iZ (t : Int))), some (.int (iZ (bI b2))), some (.int (iZ (r : Int))), L4, L5, L6] [] (zb_M Z2) F) → zk_Go l Γ mX0_measure d 0 0 Q 53 [some (.ref c), some (.int (iZ (t : Int))), some (.int (iZ (bI b))), some (.int (iZ (r : Int))), some (.int (iZ (i : Int))), L5, L6] [] (zb_M Z1) F := by
  intro n
  induction n with
  | zero =>
    intro i b Z1 L5 L6 hi hz hr hc1
    have hcs2 := hcs
    have hp2 := hp
    have ep : ∀ j, Z1 p j = Z p j := fun j => hz.at (by omega) j
    have ecp : Z1 c 0 = (p : Int) := (hz.at (by omega) 0).trans hcp
    have h0 := wP_n hw
    simp only [vP_ap, vC_ap, Nat.reduceAdd, Nat.reduceLT, Nat.add_zero, ↓reduceIte] at h0
    have hpl := congrArg Int.toNat ecp
    simp only [Int.toNat_natCast] at hpl
    rcases hcs with rfl | rfl <;> rcases hp with rfl | rfl <;> (
      refine gz_iload dX0_measure_53 rfl ?_
      refine gz_aload_n dX0_measure_55 rfl ?_
      refine gz_getf 0 dX0_measure_56 rfl rfl wf_Heliographs_Chain_53 (by decide) (congrArg Value.ref hpl) ?_
      refine gz_getf 1 dX0_measure_59 rfl rfl wf_Heliographs_Chain_148 (by decide) (zv_i (ep 1)) ?_
      refine zz_icmp_ge (tgt := 172) dX0_measure_62 rfl (by omega) (fun b62 => ?_) (fun b62 => ?_)
      rotate_left
      · exact absurd b62 (by omega)
      have ei : i = np := by omega
      subst ei
      exact hc1 b Z1 _ L5 L6 hz hr
    )
  | succ n ih =>
    intro i b Z1 L5 L6 hi hz hr hc1
    have hcs2 := hcs
    have hp2 := hp
    have ep : ∀ j, Z1 p j = Z p j := fun j => hz.at (by omega) j
    have ecp : Z1 c 0 = (p : Int) := (hz.at (by omega) 0).trans hcp
    have h0 := wP_n hw
    simp only [vP_ap, vC_ap, Nat.reduceAdd, Nat.reduceLT, Nat.add_zero, ↓reduceIte] at h0
    have hpl := congrArg Int.toNat ecp
    simp only [Int.toNat_natCast] at hpl
    have h1 := wP_w hw (w := i) (by simp only [vP_ap, vC_ap, Nat.reduceAdd, Nat.reduceLT, Nat.add_zero, ↓reduceIte]; omega)
    simp only [vP_ap, vC_ap, Nat.reduceAdd, Nat.reduceLT, Nat.add_zero, ↓reduceIte] at h1
    have hw1 : wP (vP Z1 p) := by rw [hz.vP hp]; exact hw
    have hl1 := hlit i (by omega)
    have el : Z1 (c + 11) i = Z (c + 11) i := hz.at (by omega) i
    have e4 : Z1 (p + 4) i = Z (p + 4) i := hz.at (by omega) i
    have e5 : Z1 (p + 5) i = Z (p + 5) i := hz.at (by omega) i
    have e6 : Z1 (p + 6) i = Z (p + 6) i := hz.at (by omega) i
    have hb : ∀ k : Nat, (k : Int) < Z p 0 → 0 ≤ Z1 (c + 12) k ∧ Z1 (c + 12) k ≤ 1000000 := fun k q => by have q1 := hr.1 k (by simp only [vP_ap, vC_ap, Nat.reduceAdd, Nat.reduceLT, Nat.add_zero, ↓reduceIte]; exact q); have q2 := sD_bd hw (vC Z c) t (k := k) (by simp only [vP_ap, vC_ap, Nat.reduceAdd, Nat.reduceLT, Nat.add_zero, ↓reduceIte]; exact q); have q3 := hK k q; omega
    obtain ⟨Z2, hZ2⟩ : ∃ z : zV, (if Z1 (c + 12) (Z (p + 5) i).toNat + Z (p + 6) i < Z1 (c + 12) (Z (p + 4) i).toNat then zb_u Z1 (c + 12) (Z (p + 4) i).toNat (Z1 (c + 12) (Z (p + 5) i).toNat + Z (p + 6) i) else Z1) = z := ⟨_, rfl⟩
    obtain ⟨b5, hb5⟩ : ∃ z, decide (Z1 (c + 12) (Z (p + 5) i).toNat + Z (p + 6) i < Z1 (c + 12) (Z (p + 4) i).toNat) = z := ⟨_, rfl⟩
    have r2 : Z2 (c + 12) = rx (Z1 (c + 12)) (Z (p + 4) i).toNat (Z (p + 5) i).toNat (Z (p + 6) i) := by rw [← hZ2]; exact zb_rx Z1 (c + 12) (Z (p + 4) i).toNat (Z (p + 5) i).toNat (Z (p + 6) i)
    have hsc : ∀ j, zscr (c + 12) j = true := by rcases hcs with rfl | rfl <;> exact fun j => rfl
    have z2 : zeq Z1 Z2 := by rw [← hZ2]; exact zeq_if (hsc _)
    have hz2 : zeq Z Z2 := hz.trans z2
    obtain ⟨Z3, hZ3⟩ : ∃ z : zV, (if Z2 (c + 12) (Z (p + 4) i).toNat + Z (p + 6) i < Z2 (c + 12) (Z (p + 5) i).toNat then zb_u Z2 (c + 12) (Z (p + 5) i).toNat (Z2 (c + 12) (Z (p + 4) i).toNat + Z (p + 6) i) else Z2) = z := ⟨_, rfl⟩
    obtain ⟨b6, hb6⟩ : ∃ z, decide (Z2 (c + 12) (Z (p + 4) i).toNat + Z (p + 6) i < Z2 (c + 12) (Z (p + 5) i).toNat) = z := ⟨_, rfl⟩
    have r3 : Z3 (c + 12) = rx (Z2 (c + 12)) (Z (p + 5) i).toNat (Z (p + 4) i).toNat (Z (p + 6) i) := by rw [← hZ3]; exact zb_rx Z2 (c + 12) (Z (p + 5) i).toNat (Z (p + 4) i).toNat (Z (p + 6) i)
    have z3 : zeq Z2 Z3 := by rw [← hZ3]; exact zeq_if (hsc _)
    have hz3 : zeq Z Z3 := hz2.trans z3
    have hw2 : wP (vP Z2 p) := by rw [hz2.vP hp]; exact hw
    have ep2 : ∀ j, Z2 p j = Z p j := fun j => hz2.at (by omega) j
    have ecp2 : Z2 c 0 = (p : Int) := (hz2.at (by omega) 0).trans hcp
    have hpl2 := congrArg Int.toNat ecp2
    simp only [Int.toNat_natCast] at hpl2
    have f4 : Z2 (p + 4) i = Z (p + 4) i := hz2.at (by omega) i
    have f5 : Z2 (p + 5) i = Z (p + 5) i := hz2.at (by omega) i
    have f6 : Z2 (p + 6) i = Z (p + 6) i := hz2.at (by omega) i
    have hb2 : ∀ k : Nat, (k : Int) < Z p 0 → 0 ≤ Z2 (c + 12) k ∧ Z2 (c + 12) k ≤ 1000000 := by
      intro k q
      have q0 := hb k q
      have q1 := rx_le (Z1 (c + 12)) (Z (p + 4) i).toNat (Z (p + 5) i).toNat (Z (p + 6) i) k
      have q4 := hb (Z (p + 4) i).toNat (by omega)
      have q5 := hb (Z (p + 5) i).toNat (by omega)
      rw [← r2] at q1
      refine ⟨?_, by omega⟩
      rw [r2]
      unfold rx
      split
      · dsimp only
        split <;> omega
      · exact q0.1
    have hnext : Z (c + 11) i ≠ 0 → sRnd (vP Z p) (vC Z c) t (i + 1) ((b || b5) || b6) R0 (Z3 (c + 12)) := by
      intro q
      have q1 := sRnd_two hw hr (by simp only [vP_ap, vC_ap, Nat.reduceAdd, Nat.reduceLT, Nat.add_zero, ↓reduceIte]; exact hK) (i := i) (by simp only [vP_ap, vC_ap, Nat.reduceAdd, Nat.reduceLT, Nat.add_zero, ↓reduceIte]; omega) (by simp only [vP_ap, vC_ap, Nat.reduceAdd, Nat.reduceLT, Nat.add_zero, ↓reduceIte]; exact q)
      simp only [vP_ap, vC_ap, Nat.reduceAdd, Nat.reduceLT, Nat.add_zero, ↓reduceIte] at q1
      rw [← r2, hb5, hb6, ← r3] at q1
      exact q1
    have hnot : Z (c + 11) i = 0 → sRnd (vP Z p) (vC Z c) t (i + 1) b R0 (Z1 (c + 12)) := fun q => sRnd_more hr (fun q2 => absurd (by simp only [vP_ap, vC_ap, Nat.reduceAdd, Nat.reduceLT, Nat.add_zero, ↓reduceIte] at q2; exact q2) (fun q3 : Z (c + 11) i ≠ 0 => q3 q))
    rcases hcs with rfl | rfl <;> rcases hp with rfl | rfl <;> (
      simp only [Nat.reduceAdd] at h1 hl1 el e4 e5 e6 hZ2 hb5 hZ3 hb6 f4 f5 f6 hb hb2 hnext hnot hr
      refine gz_iload dX0_measure_53 rfl ?_
      refine gz_aload_n dX0_measure_55 rfl ?_
      refine gz_getf 0 dX0_measure_56 rfl rfl wf_Heliographs_Chain_53 (by decide) (congrArg Value.ref hpl) ?_
      refine gz_getf 1 dX0_measure_59 rfl rfl wf_Heliographs_Chain_148 (by decide) (zv_i (ep 1)) ?_
      refine zz_icmp_ge (tgt := 172) dX0_measure_62 rfl (by omega) (fun b62 => ?_) (fun b62 => ?_)
      · exact absurd b62 (by omega)
      refine gz_aload_n dX0_measure_65 rfl ?_
      refine gz_iload dX0_measure_66 rfl ?_
      refine gv_1 (J := mX0_isLit) (d1 := d - 1) dX0_measure_68 wm_Heliographs_Chain_98 rfl jzX0_isLit (Nat.le_of_ble_eq_true rfl) (Nat.le_of_ble_eq_true rfl) (by omega) ⟨Nat.le_refl _, Nat.le_refl _⟩ (zs_isLit hcs2 (by omega) (by have q := hl1; rw [← el] at q; exact q)) ?_
      refine zz_if_eqB (tgt := 166) dX0_measure_71 rfl (fun b71 => ?_) (fun b71 => ?_)
      ·
        refine zz_iinc dX0_measure_166 rfl rfl ?_
        refine gz_goto (tgt := 53) dX0_measure_169 rfl ?_
        first
          | (refine ih (i + 1) b Z1 _ _ (by omega) hz (hnot (by rw [← el]; exact Decidable.byContradiction (fun q => b71 (decide_eq_true q)))) hc1)
          | (refine ih (i + 1) true Z3 _ _ (by omega) hz3 (sRnd_weak (hnext (by rw [← el]; exact of_decide_eq_true b71)) true (fun q => by cases q)) hc1)
          | (have n1 := Bool.eq_false_iff.mpr b147
             have n2 := Bool.eq_false_iff.mpr b152
             have n3 := Bool.eq_false_iff.mpr b157
             refine ih (i + 1) false Z3 _ _ (by omega) hz3 (sRnd_weak (hnext (by rw [← el]; exact of_decide_eq_true b71)) false (fun _ => by rw [n1, n2, n3]; rfl)) hc1)
      ·
        refine gz_aload_n dX0_measure_74 rfl ?_
        refine gz_aload_n dX0_measure_75 rfl ?_
        refine gz_getf 0 dX0_measure_76 rfl rfl wf_Heliographs_Chain_53 (by decide) (congrArg Value.ref hpl) ?_
        refine gz_getf 7 dX0_measure_79 rfl rfl wf_Heliographs_Chain_154 (by decide) rfl ?_
        refine gz_iload dX0_measure_82 rfl ?_
        refine gz_iald (n := i) dX0_measure_84 rfl rfl (by omega) (zv_i e4) ?_
        refine gz_aload_n dX0_measure_85 rfl ?_
        refine gz_getf 0 dX0_measure_86 rfl rfl wf_Heliographs_Chain_53 (by decide) (congrArg Value.ref hpl) ?_
        refine gz_getf 8 dX0_measure_89 rfl rfl wf_Heliographs_Chain_157 (by decide) rfl ?_
        refine gz_iload dX0_measure_92 rfl ?_
        refine gz_iald (n := i) dX0_measure_94 rfl rfl (by omega) (zv_i e5) ?_
        refine gz_aload_n dX0_measure_95 rfl ?_
        refine gz_getf 0 dX0_measure_96 rfl rfl wf_Heliographs_Chain_53 (by decide) (congrArg Value.ref hpl) ?_
        refine gz_getf 9 dX0_measure_99 rfl rfl wf_Heliographs_Chain_104 (by decide) rfl ?_
        refine gz_iload dX0_measure_102 rfl ?_
        refine gz_iald (n := i) dX0_measure_104 rfl rfl (by omega) (zv_i e6) ?_
        refine gv_3 (J := mX0_shorten) (d1 := d - 1) dX0_measure_105 wm_Heliographs_Chain_160 rfl jzX0_shorten (Nat.le_of_ble_eq_true rfl) (Nat.le_of_ble_eq_true rfl) (by omega) ⟨Nat.le_refl _, Nat.le_refl _⟩ (zk_Does.toM (zk_Does.to (zs_shorten hcs2 hp2 (by exact ecp) hw1 (by rw [ep 0]; omega) (by rw [ep 0]; omega) (by omega) (hb _ (by omega)) (hb _ (by omega)) (by omega)) (zv_b hb5)) (congrArg zb_M hZ2)) ?_
        refine gz_istore dX0_measure_108 (Nat.le_of_ble_eq_true rfl) rfl ?_
        refine gz_aload_n dX0_measure_110 rfl ?_
        refine gz_aload_n dX0_measure_111 rfl ?_
        refine gz_getf 0 dX0_measure_112 rfl rfl wf_Heliographs_Chain_53 (by decide) (congrArg Value.ref hpl2) ?_
        refine gz_getf 8 dX0_measure_115 rfl rfl wf_Heliographs_Chain_157 (by decide) rfl ?_
        refine gz_iload dX0_measure_118 rfl ?_
        refine gz_iald (n := i) dX0_measure_120 rfl rfl (by omega) (zv_i f5) ?_
        refine gz_aload_n dX0_measure_121 rfl ?_
        refine gz_getf 0 dX0_measure_122 rfl rfl wf_Heliographs_Chain_53 (by decide) (congrArg Value.ref hpl2) ?_
        refine gz_getf 7 dX0_measure_125 rfl rfl wf_Heliographs_Chain_154 (by decide) rfl ?_
        refine gz_iload dX0_measure_128 rfl ?_
        refine gz_iald (n := i) dX0_measure_130 rfl rfl (by omega) (zv_i f4) ?_
        refine gz_aload_n dX0_measure_131 rfl ?_
        refine gz_getf 0 dX0_measure_132 rfl rfl wf_Heliographs_Chain_53 (by decide) (congrArg Value.ref hpl2) ?_
        refine gz_getf 9 dX0_measure_135 rfl rfl wf_Heliographs_Chain_104 (by decide) rfl ?_
        refine gz_iload dX0_measure_138 rfl ?_
        refine gz_iald (n := i) dX0_measure_140 rfl rfl (by omega) (zv_i f6) ?_
        refine gv_3 (J := mX0_shorten) (d1 := d - 1) dX0_measure_141 wm_Heliographs_Chain_160 rfl jzX0_shorten (Nat.le_of_ble_eq_true rfl) (Nat.le_of_ble_eq_true rfl) (by omega) ⟨Nat.le_refl _, Nat.le_refl _⟩ (zk_Does.toM (zk_Does.to (zs_shorten hcs2 hp2 (by exact ecp2) hw2 (by rw [ep2 0]; omega) (by rw [ep2 0]; omega) (by omega) (hb2 _ (by omega)) (hb2 _ (by omega)) (by omega)) (zv_b hb6)) (congrArg zb_M hZ3)) ?_
        refine gz_istore dX0_measure_144 (Nat.le_of_ble_eq_true rfl) rfl ?_
        refine gz_iload_n dX0_measure_146 rfl ?_
        refine zz_if_neB (tgt := 160) dX0_measure_147 rfl (fun b147 => ?_) (fun b147 => ?_)
        ·
          refine zz_iconst dX0_measure_160 ?_
          refine gz_goto (tgt := 165) dX0_measure_161 rfl ?_
          refine gz_istore_n dX0_measure_165 (Nat.le_of_ble_eq_true rfl) rfl ?_
          refine zz_iinc dX0_measure_166 rfl rfl ?_
          refine gz_goto (tgt := 53) dX0_measure_169 rfl ?_
          first
            | (refine ih (i + 1) b Z1 _ _ (by omega) hz (hnot (by rw [← el]; exact Decidable.byContradiction (fun q => b71 (decide_eq_true q)))) hc1)
            | (refine ih (i + 1) true Z3 _ _ (by omega) hz3 (sRnd_weak (hnext (by rw [← el]; exact of_decide_eq_true b71)) true (fun q => by cases q)) hc1)
            | (have n1 := Bool.eq_false_iff.mpr b147
               have n2 := Bool.eq_false_iff.mpr b152
               have n3 := Bool.eq_false_iff.mpr b157
               refine ih (i + 1) false Z3 _ _ (by omega) hz3 (sRnd_weak (hnext (by rw [← el]; exact of_decide_eq_true b71)) false (fun _ => by rw [n1, n2, n3]; rfl)) hc1)
        ·
          refine gz_iload dX0_measure_150 rfl ?_
          refine zz_if_neB (tgt := 160) dX0_measure_152 rfl (fun b152 => ?_) (fun b152 => ?_)
          ·
            refine zz_iconst dX0_measure_160 ?_
            refine gz_goto (tgt := 165) dX0_measure_161 rfl ?_
            refine gz_istore_n dX0_measure_165 (Nat.le_of_ble_eq_true rfl) rfl ?_
            refine zz_iinc dX0_measure_166 rfl rfl ?_
            refine gz_goto (tgt := 53) dX0_measure_169 rfl ?_
            first
              | (refine ih (i + 1) b Z1 _ _ (by omega) hz (hnot (by rw [← el]; exact Decidable.byContradiction (fun q => b71 (decide_eq_true q)))) hc1)
              | (refine ih (i + 1) true Z3 _ _ (by omega) hz3 (sRnd_weak (hnext (by rw [← el]; exact of_decide_eq_true b71)) true (fun q => by cases q)) hc1)
              | (have n1 := Bool.eq_false_iff.mpr b147
                 have n2 := Bool.eq_false_iff.mpr b152
                 have n3 := Bool.eq_false_iff.mpr b157
                 refine ih (i + 1) false Z3 _ _ (by omega) hz3 (sRnd_weak (hnext (by rw [← el]; exact of_decide_eq_true b71)) false (fun _ => by rw [n1, n2, n3]; rfl)) hc1)
          ·
            refine gz_iload dX0_measure_155 rfl ?_
            refine zz_if_eqB (tgt := 164) dX0_measure_157 rfl (fun b157 => ?_) (fun b157 => ?_)
            ·
              refine zz_iconst dX0_measure_164 ?_
              refine gz_istore_n dX0_measure_165 (Nat.le_of_ble_eq_true rfl) rfl ?_
              refine zz_iinc dX0_measure_166 rfl rfl ?_
              refine gz_goto (tgt := 53) dX0_measure_169 rfl ?_
              first
                | (refine ih (i + 1) b Z1 _ _ (by omega) hz (hnot (by rw [← el]; exact Decidable.byContradiction (fun q => b71 (decide_eq_true q)))) hc1)
                | (refine ih (i + 1) true Z3 _ _ (by omega) hz3 (sRnd_weak (hnext (by rw [← el]; exact of_decide_eq_true b71)) true (fun q => by cases q)) hc1)
                | (have n1 := Bool.eq_false_iff.mpr b147
                   have n2 := Bool.eq_false_iff.mpr b152
                   have n3 := Bool.eq_false_iff.mpr b157
                   refine ih (i + 1) false Z3 _ _ (by omega) hz3 (sRnd_weak (hnext (by rw [← el]; exact of_decide_eq_true b71)) false (fun _ => by rw [n1, n2, n3]; rfl)) hc1)
            ·
              refine zz_iconst dX0_measure_160 ?_
              refine gz_goto (tgt := 165) dX0_measure_161 rfl ?_
              refine gz_istore_n dX0_measure_165 (Nat.le_of_ble_eq_true rfl) rfl ?_
              refine zz_iinc dX0_measure_166 rfl rfl ?_
              refine gz_goto (tgt := 53) dX0_measure_169 rfl ?_
              first
                | (refine ih (i + 1) b Z1 _ _ (by omega) hz (hnot (by rw [← el]; exact Decidable.byContradiction (fun q => b71 (decide_eq_true q)))) hc1)
                | (refine ih (i + 1) true Z3 _ _ (by omega) hz3 (sRnd_weak (hnext (by rw [← el]; exact of_decide_eq_true b71)) true (fun q => by cases q)) hc1)
                | (have n1 := Bool.eq_false_iff.mpr b147
                   have n2 := Bool.eq_false_iff.mpr b152
                   have n3 := Bool.eq_false_iff.mpr b157
                   refine ih (i + 1) false Z3 _ _ (by omega) hz3 (sRnd_weak (hnext (by rw [← el]; exact of_decide_eq_true b71)) false (fun _ => by rw [n1, n2, n3]; rfl)) hc1)
    )
theorem zs_measure_c {c p : Nat} (hcs : c = 336 ∨ c = 352) (hp : p = 368 ∨ p = 400) (hcp : Z c 0 = (p : Int)) (hw : wP (vP Z p)) (hlit : ∀ w : Nat, w < 12 → 0 ≤ Z (c + 11) w ∧ Z (c + 11) w ≤ 1) {t : Nat} (ht : (t : Int) < Z p 0) (hd : 2 ≤ d) {Q : Option Value → zk_M → (Heap → Prop) → Prop} : ∀ (n r : Nat) (b : Bool) (Z1 : zV) (L4 L5 L6 : Option Value), r + n = 8 → zeq Z Z1 → sRs (vP Z p) (vC Z c) t r b (Z1 (c + 12)) → Z1 (c + 12) t ≤ 0 → (∀ Z2 : zV, zeq Z Z2 → (∀ k : Nat, (k : Int) < Z p 0 → Z2 (c + 12) k = sD (vP Z p) (vC Z c) t k) → Q none (zb_M Z2) F) → zk_Go l Γ mX0_measure d 0 0 Q 38 [some (.ref c), some (.int (iZ (t : Int))), some (.int (iZ (bI b))), some (.int (iZ (r : Int))), L4, L5, L6] [] (zb_M Z1) F := by
  intro n
  induction n with
  | zero =>
    intro r b Z1 L4 L5 L6 hi hz hr hneg hc1
    refine gz_iload_n dX0_measure_38 rfl ?_
    refine zz_bipush (x := 8) dX0_measure_39 rfl ?_
    refine zz_icmp_ge (tgt := 178) dX0_measure_41 rfl (by omega) (fun b41 => ?_) (fun b41 => ?_)
    rotate_left
    · exact absurd b41 (by omega)
    refine gz_return_ dX0_measure_178 rfl ?_
    exact hc1 Z1 hz (fun k hk => sRs_end hw hr (Or.inl (by omega)) (by simp only [vP_ap, vC_ap, Nat.reduceAdd, Nat.reduceLT, Nat.add_zero, ↓reduceIte]; exact ht) hneg k (by simp only [vP_ap, vC_ap, Nat.reduceAdd, Nat.reduceLT, Nat.add_zero, ↓reduceIte]; exact hk))
  | succ n ih =>
    intro r b Z1 L4 L5 L6 hi hz hr hneg hc1
    refine gz_iload_n dX0_measure_38 rfl ?_
    refine zz_bipush (x := 8) dX0_measure_39 rfl ?_
    refine zz_icmp_ge (tgt := 178) dX0_measure_41 rfl (by omega) (fun b41 => ?_) (fun b41 => ?_)
    · exact absurd b41 (by omega)
    refine gz_iload_n dX0_measure_44 rfl ?_
    refine zz_if_eqB (tgt := 178) dX0_measure_45 rfl (fun b45 => ?_) (fun b45 => ?_)
    ·
      refine gz_return_ dX0_measure_178 rfl ?_
      exact hc1 Z1 hz (fun k hk => sRs_end hw hr (Or.inr (Bool.eq_false_iff.mpr b45)) (by simp only [vP_ap, vC_ap, Nat.reduceAdd, Nat.reduceLT, Nat.add_zero, ↓reduceIte]; exact ht) hneg k (by simp only [vP_ap, vC_ap, Nat.reduceAdd, Nat.reduceLT, Nat.add_zero, ↓reduceIte]; exact hk))
    ·
      refine zz_iconst dX0_measure_48 ?_
      refine gz_istore_n dX0_measure_49 (Nat.le_of_ble_eq_true rfl) rfl ?_
      refine zz_iconst dX0_measure_50 ?_
      refine gz_istore dX0_measure_51 (Nat.le_of_ble_eq_true rfl) rfl ?_
      refine zs_measure_b hcs hp hcp hw hlit ht (np := (Z p 1).toNat) (by have h0 := wP_n hw; simp only [vP_ap, vC_ap, Nat.reduceAdd, Nat.reduceLT, Nat.add_zero, ↓reduceIte] at h0; omega) (R0 := Z1 (c + 12)) (fun k hk => (hr.1 k (by simp only [vP_ap, vC_ap, Nat.reduceAdd, Nat.reduceLT, Nat.add_zero, ↓reduceIte]; exact hk)).2) (r := r) hd (Z p 1).toNat 0 false Z1 _ _ (by omega) hz ⟨fun k hk => ⟨(hr.1 k hk).1, Int.le_refl _⟩, fun w hw0 => absurd hw0 (Nat.not_lt_zero _), fun _ _ _ => rfl⟩ (fun b2 Z2 L4 L5 L6 hz2 hr2 => ?_)
      refine zz_iinc dX0_measure_172 rfl rfl ?_
      refine gz_goto (tgt := 38) dX0_measure_175 rfl ?_
      exact ih (r + 1) b2 Z2 _ _ _ (by omega) hz2 (sRs_step hw (by simp only [vP_ap, vC_ap, Nat.reduceAdd, Nat.reduceLT, Nat.add_zero, ↓reduceIte]; exact ht) hr (by simp only [vP_ap, vC_ap, Nat.reduceAdd, Nat.reduceLT, Nat.add_zero, ↓reduceIte]; exact hr2)) (Int.le_trans (hr2.1 t (by simp only [vP_ap, vC_ap, Nat.reduceAdd, Nat.reduceLT, Nat.add_zero, ↓reduceIte]; exact ht)).2 hneg) hc1
theorem zs_measure {c p : Nat} (hcs : c = 336 ∨ c = 352) (hp : p = 368 ∨ p = 400) (hcp : Z c 0 = (p : Int)) (hw : wP (vP Z p)) (hlit : ∀ w : Nat, w < 12 → 0 ≤ Z (c + 11) w ∧ Z (c + 11) w ≤ 1) {t : Nat} (ht : (t : Int) < Z p 0) (hd : 2 ≤ d) : zk_DoesR l Γ mX0_measure d [.ref c, .int (iZ (t : Int))] Z F none (fun Z2 => zeq Z Z2 ∧ (∀ k : Nat, (k : Int) < Z p 0 → Z2 (c + 12) k = sD (vP Z p) (vC Z c) t k)) := by
  intro Q hq
  have h0 := wP_n hw
  simp only [vP_ap, vC_ap, Nat.reduceAdd, Nat.reduceLT, Nat.add_zero, ↓reduceIte] at h0
  refine zz_iconst dX0_measure_0 ?_
  refine gz_istore_n dX0_measure_1 (Nat.le_of_ble_eq_true rfl) rfl ?_
  refine zs_measure_a (p := p) hcs (t := t) (by omega) 8 0 Z rfl (zeq.refl Z) (fun k q => absurd q (Nat.not_lt_zero _)) (fun Z2 hz2 hk2 => ?_)
  refine zz_iconst dX0_measure_34 ?_
  refine gz_istore_n dX0_measure_35 (Nat.le_of_ble_eq_true rfl) rfl ?_
  refine zz_iconst dX0_measure_36 ?_
  refine gz_istore_n dX0_measure_37 (Nat.le_of_ble_eq_true rfl) rfl ?_
  exact zs_measure_c hcs hp hcp hw hlit ht hd 8 0 true Z2 _ _ _ rfl hz2 (sRs_0 hw (by simp only [vP_ap, vC_ap, Nat.reduceAdd, Nat.reduceLT, Nat.add_zero, ↓reduceIte]; exact ht) (fun k hk => hk2 k (by have h0 := wP_n hw; omega))) (by rw [hk2 t (by omega), if_pos rfl]; exact Int.le_refl _) (fun Z3 h1 h2 => hq Z3 ⟨h1, h2⟩)
end

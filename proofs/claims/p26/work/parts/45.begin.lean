/-! A PLAN BEGUN -/
section
variable {l : Launch} {Γ : zk_G} {d : Nat} {Z : Nat → Nat → Int} {F : Heap → Prop}
theorem zk_Go_mem {I : zk_MI} {kc ks : Nat} {Q : Option Value → zk_M → (Heap → Prop) → Prop} {pc : Nat} {L : List (Option Value)} {st : List Value} {M M2 : zk_M} (e : M = M2) (k : zk_Go l Γ I d kc ks Q pc L st M2 F) : zk_Go l Γ I d kc ks Q pc L st M F := e ▸ k
def zFi (Z : zV) (b n : Nat) (v : Int) : zV := fun x j => if x = b ∧ j < n then v else Z x j
theorem zFi_s (Z : zV) (b n : Nat) (v : Int) : zb_u (zFi Z b n v) b n v = zFi Z b (n + 1) v := by
  funext x j
  unfold zb_u zFi
  by_cases h : x = b ∧ j = n
  · rw [if_pos h, if_pos ⟨h.1, by omega⟩]
  · rw [if_neg h]
    by_cases h2 : x = b ∧ j < n
    · rw [if_pos h2, if_pos ⟨h2.1, by omega⟩]
    · rw [if_neg h2, if_neg (by omega)]
def zMr (Z : zV) (p x j : Nat) : Int := if x = 338 then Z (p + 8) j else if x = 339 then Z (p + 9) j else if x = 340 then 0 else if x = 341 then Z (p + 7) j else if x = 342 then -1 else if x = 343 then -1 else if x = 344 then 0 else if x = 345 then 0 else Z x j
def zMs (Z : zV) (p i : Nat) : zV := fun x j => if j < i then zMr Z p x j else Z x j
theorem zMs_o (Z : zV) (p i : Nat) {x : Nat} (j : Nat) (h : x < 338 ∨ 346 ≤ x) : zMs Z p i x j = Z x j := by
  unfold zMs zMr
  split
  · repeat' (first | rfl | rw [if_neg (by omega)])
  · rfl
theorem zMs_s (Z : zV) (p i : Nat) {v7 v8 v9 : Int} (h7 : v7 = Z (p + 7) i) (h8 : v8 = Z (p + 8) i) (h9 : v9 = Z (p + 9) i) :
    zb_u (zb_u (zb_u (zb_u (zb_u (zb_u (zb_u (zb_u (zMs Z p i) 338 i v8) 339 i v9) 342 i (-1)) 344 i 0) 345 i 0) 340 i 0) 343 i (-1)) 341 i v7 = zMs Z p (i + 1) := by
  subst h7 h8 h9
  funext x j
  by_cases hj : j = i
  · subst hj
    by_cases hx : 338 ≤ x ∧ x < 346
    · have e : zMs Z p (j + 1) x j = zMr Z p x j := if_pos (Nat.lt_succ_self j)
      rw [e]
      rcases (show x = 338 ∨ x = 339 ∨ x = 340 ∨ x = 341 ∨ x = 342 ∨ x = 343 ∨ x = 344 ∨ x = 345 by omega) with rfl | rfl | rfl | rfl | rfl | rfl | rfl | rfl <;> (unfold zMr; simp (decide := true) only [zb_u, false_and, and_false, true_and, and_true, and_self, if_true, if_false, ↓reduceIte])
    · rw [zMs_o Z p (j + 1) j (by omega)]
      repeat' (first | rw [zb_u_a _ _ (by omega)] | fail)
      exact zMs_o Z p j j (by omega)
  · repeat' (first | rw [zb_u_j _ _ hj] | fail)
    unfold zMs
    by_cases h : j < i
    · rw [if_pos h, if_pos (by omega)]
    · rw [if_neg h, if_neg (by omega)]
def zBg (Z : zV) (p : Nat) : zV := fun x j => if x = 336 then (if j = 0 then (p : Int) else if j = 2 then -1 else if j = 13 then 0 else Z x j) else if x = 337 then Z (p + 3) j else if x = 346 then 0 else zMr Z p x j
theorem begin_end (Z : zV) {p : Nat} (hp : p = 368 ∨ p = 400) : ∀ x j, j < (zb_s x).2 → zb_g x j (zBg Z p x j) = zb_g x j (zMs (zFi (zCr (zb_u (zb_u (zb_u Z 336 0 (p : Int)) 336 2 (-1)) 336 13 0) (p + 3) 337) 346 12 0) p 8 x j) := by
  intro x j h
  congr 1
  by_cases e : x = 336
  · subst e
    rw [zMs_o _ _ _ _ (by decide)]
    unfold zBg zFi zCr zb_u
    simp (decide := true) only [false_and, and_false, true_and, and_true, and_self, if_true, if_false, ↓reduceIte]
    by_cases h0 : j = 0
    · rw [if_pos h0, if_neg (by omega), if_neg (by omega), if_pos h0]
    · rw [if_neg h0]
      by_cases h2 : j = 2
      · rw [if_pos h2, if_neg (by omega), if_pos h2]
      · rw [if_neg h2]
        by_cases h3 : j = 13
        · rw [if_pos h3, if_pos h3]
        · rw [if_neg h3, if_neg h3, if_neg h2, if_neg h0]
  · have r : ∀ y, 347 ≤ y → ∀ j, zFi (zCr (zb_u (zb_u (zb_u Z 336 0 (p : Int)) 336 2 (-1)) 336 13 0) (p + 3) 337) 346 12 0 y j = Z y j := fun y hy j => by
      unfold zFi zCr
      rw [if_neg (by omega), if_neg (by omega), zb_u_a _ _ (by omega), zb_u_a _ _ (by omega), zb_u_a _ _ (by omega)]
    unfold zBg
    rw [if_neg e]
    by_cases e1 : x = 337
    · subst e1
      rw [zMs_o _ _ _ _ (by decide), if_pos rfl]
      unfold zFi zCr
      rw [if_neg (by omega), if_pos rfl, zb_u_a _ _ (by omega), zb_u_a _ _ (by omega), zb_u_a _ _ (by omega)]
    · rw [if_neg e1]
      by_cases e2 : x = 346
      · subst e2
        have h12 : j < 12 := h
        rw [zMs_o _ _ _ _ (by decide), if_pos rfl]
        unfold zFi
        rw [if_pos ⟨rfl, h12⟩]
      · rw [if_neg e2]
        by_cases e3 : 338 ≤ x ∧ x < 346
        · have h8 : j < 8 := by rcases (show x = 338 ∨ x = 339 ∨ x = 340 ∨ x = 341 ∨ x = 342 ∨ x = 343 ∨ x = 344 ∨ x = 345 by omega) with rfl | rfl | rfl | rfl | rfl | rfl | rfl | rfl <;> exact h
          unfold zMs
          rw [if_pos h8]
          unfold zMr
          rw [r (p + 8) (by omega), r (p + 9) (by omega), r (p + 7) (by omega)]
          repeat' split
          all_goals (first | rfl | (exfalso; omega))
        · rw [zMs_o _ _ _ _ (by omega)]
          by_cases e4 : x < 347
          · unfold zFi zCr zMr
            repeat' (first | rw [if_neg (by omega)] | fail)
            rw [zb_u_a _ _ (by omega), zb_u_a _ _ (by omega), zb_u_a _ _ (by omega)]
          · rw [r x (by omega)]
            unfold zMr
            repeat' (first | rw [if_neg (by omega)] | fail)
theorem zs_begin_3 {p : Nat} (hp : p = 368 ∨ p = 400) (hd : 1 ≤ d) {Q : Option Value → zk_M → (Heap → Prop) → Prop} {Z9 : zV} (hq : Q none (zb_M Z9) F) : ∀ (n i : Nat) (Z0 : zV), i + n = 8 → Z0 336 0 = (p : Int) → (∀ x j, j < (zb_s x).2 → zb_g x j (Z9 x j) = zb_g x j (zMs Z0 p 8 x j)) → zk_Go l Γ mX0_begin d 0 0 Q 64 [some (.ref 336), some (.ref p), some (.int (iZ (i : Int)))] [] (zb_M (zMs Z0 p i)) F := by
  intro n
  induction n with
  | zero =>
    intro i Z0 hi h0 hj
    have hp2 := hp
    have ei : i = 8 := by omega
    have hj2 := hj
    rw [← ei] at hj2
    rcases hp with rfl | rfl <;> (
      refine gz_iload_n dX0_begin_64 rfl ?_
      refine zz_bipush (x := 8) dX0_begin_65 rfl ?_
      refine zz_icmp_ge (tgt := 126) dX0_begin_67 rfl (by omega) (fun b67 => ?_) (fun b67 => ?_)
      rotate_left
      · exact absurd b67 (by omega)
      refine zb_junk hj2 ?_
      refine gz_return_ dX0_begin_126 rfl ?_
      exact hq
    )
  | succ n ih =>
    intro i Z0 hi h0 hj
    have hp2 := hp
    rcases hp with rfl | rfl <;> (
      refine gz_iload_n dX0_begin_64 rfl ?_
      refine zz_bipush (x := 8) dX0_begin_65 rfl ?_
      refine zz_icmp_ge (tgt := 126) dX0_begin_67 rfl (by omega) (fun b67 => ?_) (fun b67 => ?_)
      · exact absurd b67 (by omega)
      refine gz_aload_n dX0_begin_70 rfl ?_
      refine gz_getf 4 dX0_begin_71 rfl rfl wf_Heliographs_Chain_19 (by decide) rfl ?_
      refine gz_iload_n dX0_begin_74 rfl ?_
      refine gz_aload_n dX0_begin_75 rfl ?_
      refine gz_getf 11 dX0_begin_76 rfl rfl wf_Heliographs_Chain_63 (by decide) rfl ?_
      refine gz_iload_n dX0_begin_79 rfl ?_
      refine gz_iald (n := i) dX0_begin_80 rfl rfl (by omega) rfl ?_
      refine zc_iast (n := i) dX0_begin_81 rfl (by decide) rfl (by omega) rfl ?_
      refine gz_aload_n dX0_begin_82 rfl ?_
      refine gz_getf 5 dX0_begin_83 rfl rfl wf_Heliographs_Chain_22 (by decide) rfl ?_
      refine gz_iload_n dX0_begin_86 rfl ?_
      refine gz_aload_n dX0_begin_87 rfl ?_
      refine gz_getf 12 dX0_begin_88 rfl rfl wf_Heliographs_Chain_66 (by decide) rfl ?_
      refine gz_iload_n dX0_begin_91 rfl ?_
      refine gz_iald (n := i) dX0_begin_92 rfl rfl (by omega) rfl ?_
      refine zc_iast (n := i) dX0_begin_93 rfl (by decide) rfl (by omega) rfl ?_
      refine gz_aload_n dX0_begin_94 rfl ?_
      refine gz_getf 8 dX0_begin_95 rfl rfl wf_Heliographs_Chain_31 (by decide) rfl ?_
      refine gz_iload_n dX0_begin_98 rfl ?_
      refine zz_iconst dX0_begin_99 ?_
      refine zc_iast (n := i) dX0_begin_100 rfl (by decide) rfl (by omega) rfl ?_
      refine gz_aload_n dX0_begin_101 rfl ?_
      refine gz_getf 10 dX0_begin_102 rfl rfl wf_Heliographs_Chain_37 (by decide) rfl ?_
      refine gz_iload_n dX0_begin_105 rfl ?_
      refine zz_iconst dX0_begin_106 ?_
      refine zc_iast (n := i) dX0_begin_107 rfl (by decide) rfl (by omega) rfl ?_
      refine gz_aload_n dX0_begin_108 rfl ?_
      refine gz_getf 11 dX0_begin_109 rfl rfl wf_Heliographs_Chain_40 (by decide) rfl ?_
      refine gz_iload_n dX0_begin_112 rfl ?_
      refine zz_iconst dX0_begin_113 ?_
      refine zc_iast (n := i) dX0_begin_114 rfl (by decide) rfl (by omega) rfl ?_
      refine gz_aload_n dX0_begin_115 rfl ?_
      refine gz_iload_n dX0_begin_116 rfl ?_
      refine gv_1 (J := mX0_letWait) (d1 := d - 1) dX0_begin_117 wm_Heliographs_Chain_67 rfl jzX0_letWait (Nat.le_of_ble_eq_true rfl) (Nat.le_of_ble_eq_true rfl) (by omega) ⟨Nat.le_refl _, Nat.le_refl _⟩ (zs_letWait8 (Or.inl rfl) hp2 (by rw [zb_u_a _ _ (by decide), zb_u_a _ _ (by decide), zb_u_a _ _ (by decide), zb_u_a _ _ (by decide), zb_u_a _ _ (by decide), zMs_o _ _ _ _ (by decide)]; exact h0) (by omega)) ?_
      refine zz_iinc dX0_begin_120 rfl rfl ?_
      refine gz_goto (tgt := 64) dX0_begin_123 rfl ?_
      refine zk_Go_mem (congrArg zb_M (zMs_s Z0 _ i ?_ ?_ ?_)) (ih (i + 1) Z0 (by omega) h0 hj)
      all_goals (repeat' (first | rw [zb_u_a _ _ (by decide)] | fail)); exact zMs_o _ _ _ _ (by decide)
    )
theorem zs_begin_1 {p : Nat} (hp : p = 368 ∨ p = 400) {Q : Option Value → zk_M → (Heap → Prop) → Prop} : ∀ (n i : Nat) (Z0 : zV), i + n = 8 → zk_Go l Γ mX0_begin d 0 0 Q 41 [some (.ref 336), some (.ref p), some (.int (iZ 8))] [] (zb_M (zCr Z0 (p + 3) 337)) F → zk_Go l Γ mX0_begin d 0 0 Q 17 [some (.ref 336), some (.ref p), some (.int (iZ (i : Int)))] [] (zb_M (zCrN Z0 (p + 3) 337 i)) F := by
  intro n
  induction n with
  | zero =>
    intro i Z0 hi hq
    have ei : (i : Int) = 8 := by omega
    have hq2 := hq
    rw [← ei] at hq2
    rcases hp with rfl | rfl <;> (
      refine gz_iload_n dX0_begin_17 rfl ?_
      refine zz_bipush (x := 8) dX0_begin_18 rfl ?_
      refine zz_icmp_ge (tgt := 41) dX0_begin_20 rfl (by omega) (fun b20 => ?_) (fun b20 => ?_)
      rotate_left
      · exact absurd b20 (by omega)
      refine zb_junk (fun x j h => ?_) hq2
      unfold zCr zCrN
      by_cases e : x = 337
      · have h8 : j < 8 := by rw [e] at h; exact h
        rw [if_pos e, if_pos ⟨e, by omega⟩]
      · rw [if_neg e, if_neg (fun q => e q.1)]
    )
  | succ n ih =>
    intro i Z0 hi hq
    rcases hp with rfl | rfl <;> (
      refine gz_iload_n dX0_begin_17 rfl ?_
      refine zz_bipush (x := 8) dX0_begin_18 rfl ?_
      refine zz_icmp_ge (tgt := 41) dX0_begin_20 rfl (by omega) (fun b20 => ?_) (fun b20 => ?_)
      · exact absurd b20 (by omega)
      refine gz_aload_n dX0_begin_23 rfl ?_
      refine gz_getf 3 dX0_begin_24 rfl rfl wf_Heliographs_Chain_15 (by decide) rfl ?_
      refine gz_iload_n dX0_begin_27 rfl ?_
      refine gz_aload_n dX0_begin_28 rfl ?_
      refine gz_getf 6 dX0_begin_29 rfl rfl wf_Heliographs_Chain_60 (by decide) rfl ?_
      refine gz_iload_n dX0_begin_32 rfl ?_
      refine gz_iald (n := i) dX0_begin_33 rfl rfl (by omega) rfl ?_
      refine zc_iast (n := i) dX0_begin_34 rfl (by decide) rfl (by omega) rfl ?_
      refine zz_iinc dX0_begin_35 rfl rfl ?_
      refine gz_goto (tgt := 17) dX0_begin_38 rfl ?_
      exact zk_Go_mem (congrArg zb_M (zCrN_s Z0 (by decide) i)) (ih (i + 1) Z0 (by omega) hq)
    )
theorem zs_begin_2 {p : Nat} (hp : p = 368 ∨ p = 400) {Q : Option Value → zk_M → (Heap → Prop) → Prop} : ∀ (n i : Nat) (Z0 : zV), i + n = 12 → zk_Go l Γ mX0_begin d 0 0 Q 62 [some (.ref 336), some (.ref p), some (.int (iZ 12))] [] (zb_M (zFi Z0 346 12 0)) F → zk_Go l Γ mX0_begin d 0 0 Q 43 [some (.ref 336), some (.ref p), some (.int (iZ (i : Int)))] [] (zb_M (zFi Z0 346 i 0)) F := by
  intro n
  induction n with
  | zero =>
    intro i Z0 hi hq
    rcases hp with rfl | rfl <;> (
      refine gz_iload_n dX0_begin_43 rfl ?_
      refine zz_bipush (x := 12) dX0_begin_44 rfl ?_
      refine zz_icmp_ge (tgt := 62) dX0_begin_46 rfl (by omega) (fun b46 => ?_) (fun b46 => ?_)
      rotate_left
      · exact absurd b46 (by omega)
      have ei : i = 12 := by omega
      subst ei
      exact hq
    )
  | succ n ih =>
    intro i Z0 hi hq
    rcases hp with rfl | rfl <;> (
      refine gz_iload_n dX0_begin_43 rfl ?_
      refine zz_bipush (x := 12) dX0_begin_44 rfl ?_
      refine zz_icmp_ge (tgt := 62) dX0_begin_46 rfl (by omega) (fun b46 => ?_) (fun b46 => ?_)
      · exact absurd b46 (by omega)
      refine gz_aload_n dX0_begin_49 rfl ?_
      refine gz_getf 12 dX0_begin_50 rfl rfl wf_Heliographs_Chain_43 (by decide) rfl ?_
      refine gz_iload_n dX0_begin_53 rfl ?_
      refine zz_iconst dX0_begin_54 ?_
      refine zc_iast (n := i) dX0_begin_55 rfl (by decide) rfl (by omega) rfl ?_
      refine zz_iinc dX0_begin_56 rfl rfl ?_
      refine gz_goto (tgt := 43) dX0_begin_59 rfl ?_
      exact zk_Go_mem (congrArg zb_M (zFi_s Z0 346 i 0)) (ih (i + 1) Z0 (by omega) hq)
    )
theorem zFi_0 (Z : zV) (b : Nat) (v : Int) : zFi Z b 0 v = Z := by
  funext x j
  exact if_neg (fun q => absurd q.2 (Nat.not_lt_zero _))
theorem zMs_0 (Z : zV) (p : Nat) : zMs Z p 0 = Z := by
  funext x j
  exact if_neg (Nat.not_lt_zero _)
theorem zs_begin {p : Nat} (hp : p = 368 ∨ p = 400) (hd : 1 ≤ d) : zk_Does l Γ mX0_begin d 0 0 [.ref 336, .ref p] (zb_M Z) F none (zb_M (zBg Z p)) F := by
  intro Q hq
  have ez : ((p : Int)).toNat = p := Int.toNat_natCast p
  obtain ⟨Y, hY⟩ : ∃ z, zb_u (zb_u (zb_u Z 336 0 (p : Int)) 336 2 (-1)) 336 13 0 = z := ⟨_, rfl⟩
  have h3 : zk_Go l Γ mX0_begin d 0 0 Q 62 [some (.ref 336), some (.ref p), some (.int (iZ 12))] [] (zb_M (zFi (zCr Y (p + 3) 337) 346 12 0)) F := by
    refine zz_iconst dX0_begin_62 ?_
    refine gz_istore_n dX0_begin_63 (Nat.le_of_ble_eq_true rfl) rfl ?_
    have q := zs_begin_3 (l := l) (Γ := Γ) (d := d) (F := F) (Q := Q) hp hd hq 8 0 (zFi (zCr Y (p + 3) 337) 346 12 0) rfl (by subst hY; rfl) (by subst hY; exact begin_end Z hp)
    rw [zMs_0] at q
    exact q
  have h2 : zk_Go l Γ mX0_begin d 0 0 Q 41 [some (.ref 336), some (.ref p), some (.int (iZ 8))] [] (zb_M (zCr Y (p + 3) 337)) F := by
    refine zz_iconst dX0_begin_41 ?_
    refine gz_istore_n dX0_begin_42 (Nat.le_of_ble_eq_true rfl) rfl ?_
    have q := zs_begin_2 (l := l) (Γ := Γ) (d := d) (F := F) (Q := Q) hp 12 0 (zCr Y (p + 3) 337) rfl h3
    rw [zFi_0] at q
    exact q
  have h1 : zk_Go l Γ mX0_begin d 0 0 Q 17 [some (.ref 336), some (.ref p), some (.int (iZ 0))] [] (zb_M Y) F := by
    have q := zs_begin_1 (l := l) (Γ := Γ) (d := d) (F := F) (Q := Q) hp 8 0 Y rfl h2
    rw [zCrN_0] at q
    exact q
  subst hY
  rcases hp with rfl | rfl <;> (
    refine gz_aload_n dX0_begin_0 rfl ?_
    refine gz_aload_n dX0_begin_1 rfl ?_
    refine zc_putf 0 dX0_begin_2 rfl rfl wf_Heliographs_Chain_53 (by decide) (by decide) jo_Heliographs_Chain ju_Heliographs_Chain rfl tyX0 tyX0_ok nmX0 rfl (fun _ => ⟨rfl, rfl⟩) (congrArg Value.ref ez.symm) ?_
    refine gz_aload_n dX0_begin_5 rfl ?_
    refine zz_iconst dX0_begin_6 ?_
    refine zc_putf 2 dX0_begin_7 rfl rfl wf_Heliographs_Chain_9 (by decide) (by decide) jo_Heliographs_Chain ju_Heliographs_Chain rfl tyX0 tyX0_ok nmX0 rfl (fun _ => ⟨rfl, rfl⟩) rfl ?_
    refine gz_aload_n dX0_begin_10 rfl ?_
    refine zz_iconst dX0_begin_11 ?_
    refine zc_putf 13 dX0_begin_12 rfl rfl wf_Heliographs_Chain_57 (by decide) (by decide) jo_Heliographs_Chain ju_Heliographs_Chain rfl tyX0 tyX0_ok nmX0 rfl (fun _ => ⟨rfl, rfl⟩) rfl ?_
    refine zz_iconst dX0_begin_15 ?_
    refine gz_istore_n dX0_begin_16 (Nat.le_of_ble_eq_true rfl) rfl ?_
    exact h1
  )
end

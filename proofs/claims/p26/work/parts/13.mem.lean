/-! THE RULES THAT READ AND WRITE CELLS -/
theorem zk_vs {v : VmData} (h : v.isStatics = false) : ∀ k, v ≠ .statics k := fun k e => by rw [e] at h; cases h
theorem zk_nar_int (x : Int32) : narrow .int (.int x) = .int x := rfl
/-- what the heap shows of a cell -/
theorem zk_Rl.obj {Γ : zk_G} {ρ : Nat → Nat} {M : zk_M} {F : Heap → Prop} {H : Heap} (h : zk_Rl Γ ρ M F H) {a k len : Nat} (ha : a < M.2.1) (hs : M.1 a = (k, len)) (hk : k < 100) : (∃ r, zk_cs[k]? = some r ∧ len ≤ r.2.2) ∧ zk_okO Γ ρ H k len (M.2.2 a) (ρ a) (zk_N ≤ a) := by
  have h1 := (h.1.1 a ha).1 (by rw [hs]; exact hk)
  rw [hs] at h1
  exact h1
theorem zk_Rl.arr {Γ : zk_G} {ρ : Nat → Nat} {M : zk_M} {F : Heap → Prop} {H : Heap} (h : zk_Rl Γ ρ M F H) {a k len : Nat} (ha : a < M.2.1) (hs : M.1 a = (100 + k, len)) (hk : k < 900) : k < 6 ∧ len < 2 ^ 31 ∧ (a < zk_N → (a, k) ∈ zk_oa) ∧ zk_okA Γ ρ H a k len (M.2.2 a) (ρ a) (zk_N ≤ a) := by
  have h1 := (h.1.1 a ha).2 (by rw [hs]; exact Nat.le_add_right _ _) (by rw [hs]; show 100 + k < 1000; omega)
  rw [hs] at h1
  dsimp only at h1
  rw [Nat.add_sub_cancel_left] at h1
  exact ⟨by omega, h1.2⟩
theorem zk_arrOf {Γ : zk_G} {s : State} (hK : zk_Kn Γ s) {a k : Nat} (hk : k < 6) (ho : a < zk_N → (a, k) ∈ zk_oa) : ArrOfT s (Γ.2.2.1 k a) (zk_ty k) := by
  by_cases h : a < zk_N
  · exact hK.2.1.2 (a, k) (ho h)
  · exact (hK.2.1.1 k a hk (by omega)).2.1
theorem zk_isArr {Γ : zk_G} {s : State} {cell : Cell} {a k : Nat} (h : ArrOfT s (Γ.2.2.1 k a) (zk_ty k)) (hc : cell.cls = Γ.2.2.1 k a) (hv : cell.vm.isStatics = false) : s.isArrayOf cell (zk_ty k) := by
  obtain ⟨-, k2, h1, comp, h2⟩ := h 0 (fun _ => .null)
  exact ⟨zk_vs hv, k2, by rw [hc]; exact h1, comp, h2⟩
section MEM
variable {l : Launch} {Γ : zk_G} {I : zk_MI} {d kc ks : Nat} {Q : Option Value → zk_M → (Heap → Prop) → Prop} {pc : Nat} {L : List (Option Value)} {st : List Value} {M : zk_M} {F : Heap → Prop}
theorem gz_getf {i a k len N : Nat} {C : String} {T : u_T} {v : Value} (j : Nat) (hd : decode I.2.1 pc = .ok (.getfield i, 3)) (hs : M.1 a = (k, len)) (hk : zk_cs[k]? = some (C, T, N)) (hw : Cond.fieldLink I.1.cls i (T j).1 (T j).2.1 (T j).2.2.1 ∈ zk_tg) (hj : j < len) (hv : M.2.2 a j = v)
    (kk : zk_Go l Γ I d kc ks Q (pc + 3) L (v :: st) M F) : zk_Go l Γ I d kc ks Q pc L (.ref a :: st) M F := by
  intro p e R s m args below meth c H locs cells slots Qf A ρ ls hc hr hs9 hR hA hS hL hW hE
  subst hv
  have hk100 : k < 100 := by
    have := (List.getElem?_eq_some_iff.mp hk).1
    have e : zk_cs.length = 11 := rfl
    omega
  obtain ⟨⟨r, hr1, hr2⟩, cell, h1, h2, h3, h4, h5, h6⟩ := hR.obj hW.1 hs hk100
  have er : r = (C, T, N) := Option.some.inj (hr1.symm.trans hk)
  subst er
  obtain ⟨cf, kf, fi, f, g1, g2, g3⟩ := (hc.2.2.2.2.2.2.2.2.1 k _ hk).2 j (Nat.lt_of_lt_of_le hj hr2)
  have hwf : zk_in_n M.2.1 (M.2.2 a j) := by
    unfold zk_in_n
    split
    · rename_i x hx
      exact hR.1.2.2.2.2.2.1 a j x hW.1 (by rw [hs]; exact hj) hx
    · trivial
  refine W.getf hc.1 hc.2.1 hc.2.2.2.1 (hc.2.2.2.2.1 _ hw) g1 g2 h1 h3 (v := zk_v ρ (M.2.2 a j)) (by rw [g3]; exact h6 j hj) rfl rfl hd ?_
  exact kk p e R s m args below meth c H locs cells slots Qf A ρ ls hc hr hs9 hR hA hS hL ⟨hwf, hW.2⟩ hE
theorem gz_gets {i : Nat} {C n ds : String} {v : Value} (hd : decode I.2.1 pc = .ok (.getstatic i, 3)) (hq : (C, n, ds, v) ∈ zk_st) (hw : Cond.fieldLink I.1.cls i C n ds ∈ zk_tg) (hv : zk_in_n zk_N v)
    (kk : zk_Go l Γ I d kc ks Q (pc + 3) L (v :: st) M F) : zk_Go l Γ I d kc ks Q pc L st M F := by
  intro p e R s m args below meth c H locs cells slots Qf A ρ ls hc hr hs9 hR hA hS hL hW hE
  obtain ⟨cf, kf, fi, f, q, cell, h1, h2, h3, h4, h5, h6, h7, h8⟩ := hc.2.2.2.2.2.2.2.2.2.2.1 _ hq
  dsimp only at h1
  have hlt : q < Γ.2.1.size := (Array.getElem?_eq_some_iff.mp h5).1
  have ev : zk_v0 Γ v = zk_v ρ v := by
    unfold zk_v0 zk_v
    cases v with
    | ref x => exact congrArg Value.ref (hR.1.2.2.2.2.1 x hv).symm
    | _ => rfl
  have hwf : zk_in_n M.2.1 v := by
    cases v with
    | ref x => exact Nat.lt_of_lt_of_le hv hR.1.2.2.2.2.2.2
    | _ => trivial
  refine W.gets hc.1 hc.2.1 hc.2.2.2.1 (hc.2.2.2.2.1 _ hw) h1 h2 h3 h4 (cell₁ := cell) (by rw [hR.1.2.2.1.1 q hlt]; exact h5) (fun e => by rw [e] at h6; cases h6) (v := zk_v ρ v) (by rw [← ev]; exact h7) rfl hd ?_
  exact kk p e R s m args below meth c H locs cells slots Qf A ρ ls hc hr hs9 hR hA hS hL ⟨hwf, hW⟩ hE
theorem gz_ldcS {i q : Nat} {tx : String} (hd : decode I.2.1 pc = .ok (.ldc i, 2)) (hq : (I.1.cls, i, tx, q) ∈ zk_sr) (hn : q < zk_N)
    (kk : zk_Go l Γ I d kc ks Q (pc + 2) L (.ref q :: st) M F) : zk_Go l Γ I d kc ks Q pc L st M F := by
  intro p e R s m args below meth c H locs cells slots Qf A ρ ls hc hr hs9 hR hA hS hL hW hE
  refine va_ldcS hc.1 hc.2.1 hc.2.2.2.1 (hc.2.2.2.2.2.2.2.2.2.2.2.1 _ hq) hd ?_
  have e9 : Γ.2.2.2.1 q = ρ q := (hR.1.2.2.2.2.1 q hn).symm
  rw [e9]
  exact kk p e R s m args below meth c H locs cells slots Qf A ρ ls hc hr hs9 hR hA hS hL ⟨Nat.lt_of_lt_of_le hn hR.1.2.2.2.2.2.2, hW⟩ hE
theorem gz_alen {a k len : Nat} (hd : decode I.2.1 pc = .ok (.arraylength, 1)) (hs : M.1 a = (100 + k, len)) (hk : k < 900)
    (kk : zk_Go l Γ I d kc ks Q (pc + 1) L (.int (iZ (len : Int)) :: st) M F) : zk_Go l Γ I d kc ks Q pc L (.ref a :: st) M F := by
  intro p e R s m args below meth c H locs cells slots Qf A ρ ls hc hr hs9 hR hA hS hL hW hE
  obtain ⟨h1, h2, h3, cell, h4, h5, h6, h7, h8, h9, h10⟩ := hR.arr hW.1 hs hk
  refine W.alen hc.1 hc.2.1 h4 (zk_isArr (zk_arrOf hc.2.2.2.2.2.2.2.2 h1 h3) h5 h7) (n := iZ (len : Int)) (by rw [h9]; rfl) rfl rfl hd ?_
  exact kk p e R s m args below meth c H locs cells slots Qf A ρ ls hc hr hs9 hR hA hS hL ⟨trivial, hW.2⟩ hE
theorem zk_ix {j : Int32} {len n : Nat} (h : j = iZ (n : Int)) (hn : n < len) (hl : len < 2 ^ 31) : ¬ (j < 0 ∨ len ≤ j.toNatClampNeg) ∧ j.toNatClampNeg = n := by
  subst h
  have e := iZ_clamp (x := (n : Int)) ⟨by omega, by omega⟩
  rw [Int.toNat_natCast] at e
  refine ⟨?_, e⟩
  rw [e, iZ_0, iZ_lt ⟨by omega, by omega, by omega, by omega⟩]
  omega
theorem gz_iald {a len n : Nat} {z : Int} {v : Value} (hd : decode I.2.1 pc = .ok (.iaload, 1)) (hs : M.1 a = (100, len)) (hz : z = (n : Int)) (hn : n < len) (hv : M.2.2 a n = v)
    (kk : zk_Go l Γ I d kc ks Q (pc + 1) L (v :: st) M F) : zk_Go l Γ I d kc ks Q pc L (.int (iZ z) :: .ref a :: st) M F := by
  intro p e R s m args below meth c H locs cells slots Qf A ρ ls hc hr hs9 hR hA hS hL hW hE
  subst hv
  obtain ⟨h1, h2, h3, cell, h4, h5, h6, h7, h8, h9, h10⟩ := hR.arr (k := 0) hW.2.1 hs (by omega)
  obtain ⟨i1, i2⟩ := zk_ix (j := iZ z) (by rw [hz]) hn h2
  have hwf : zk_in_n M.2.1 (M.2.2 a n) := by
    unfold zk_in_n
    split
    · rename_i x hx
      exact hR.1.2.2.2.2.2.1 a n x hW.2.1 (by rw [hs]; exact hn) hx
    · trivial
  refine W.iald hc.1 hc.2.1 h4 (zk_isArr (k := 0) (zk_arrOf hc.2.2.2.2.2.2.2.2 h1 h3) h5 h7) h6 (by rw [h9]; exact i1) (v := zk_v ρ (M.2.2 a n)) (by rw [i2]; exact h10 n hn) rfl rfl hd ?_
  exact kk p e R s m args below meth c H locs cells slots Qf A ρ ls hc hr hs9 hR hA hS hL ⟨hwf, hW.2.2⟩ hE
theorem gz_lald {a len n : Nat} {z : Int} {v : Value} (hd : decode I.2.1 pc = .ok (.laload, 1)) (hs : M.1 a = (101, len)) (hz : z = (n : Int)) (hn : n < len) (hv : M.2.2 a n = v)
    (kk : zk_Go l Γ I d kc ks Q (pc + 1) L (v :: st) M F) : zk_Go l Γ I d kc ks Q pc L (.int (iZ z) :: .ref a :: st) M F := by
  intro p e R s m args below meth c H locs cells slots Qf A ρ ls hc hr hs9 hR hA hS hL hW hE
  subst hv
  obtain ⟨h1, h2, h3, cell, h4, h5, h6, h7, h8, h9, h10⟩ := hR.arr (k := 1) hW.2.1 hs (by omega)
  obtain ⟨i1, i2⟩ := zk_ix (j := iZ z) (by rw [hz]) hn h2
  have hwf : zk_in_n M.2.1 (M.2.2 a n) := by
    unfold zk_in_n
    split
    · rename_i x hx
      exact hR.1.2.2.2.2.2.1 a n x hW.2.1 (by rw [hs]; exact hn) hx
    · trivial
  refine W.lald hc.1 hc.2.1 h4 (zk_isArr (k := 1) (zk_arrOf hc.2.2.2.2.2.2.2.2 h1 h3) h5 h7) h6 (by rw [h9]; exact i1) (v := zk_v ρ (M.2.2 a n)) (by rw [i2]; exact h10 n hn) rfl rfl hd ?_
  exact kk p e R s m args below meth c H locs cells slots Qf A ρ ls hc hr hs9 hR hA hS hL ⟨hwf, hW.2.2⟩ hE
theorem gz_zald {a len n : Nat} {z : Int} {v : Value} (hd : decode I.2.1 pc = .ok (.baload, 1)) (hs : M.1 a = (102, len)) (hz : z = (n : Int)) (hn : n < len) (hv : M.2.2 a n = v)
    (kk : zk_Go l Γ I d kc ks Q (pc + 1) L (v :: st) M F) : zk_Go l Γ I d kc ks Q pc L (.int (iZ z) :: .ref a :: st) M F := by
  intro p e R s m args below meth c H locs cells slots Qf A ρ ls hc hr hs9 hR hA hS hL hW hE
  subst hv
  obtain ⟨h1, h2, h3, cell, h4, h5, h6, h7, h8, h9, h10⟩ := hR.arr (k := 2) hW.2.1 hs (by omega)
  obtain ⟨i1, i2⟩ := zk_ix (j := iZ z) (by rw [hz]) hn h2
  have hwf : zk_in_n M.2.1 (M.2.2 a n) := by
    unfold zk_in_n
    split
    · rename_i x hx
      exact hR.1.2.2.2.2.2.1 a n x hW.2.1 (by rw [hs]; exact hn) hx
    · trivial
  refine W.zald hc.1 hc.2.1 h4 (zk_isArr (k := 2) (zk_arrOf hc.2.2.2.2.2.2.2.2 h1 h3) h5 h7) h6 (by rw [h9]; exact i1) (v := zk_v ρ (M.2.2 a n)) (by rw [i2]; exact h10 n hn) rfl rfl hd ?_
  exact kk p e R s m args below meth c H locs cells slots Qf A ρ ls hc hr hs9 hR hA hS hL ⟨hwf, hW.2.2⟩ hE
theorem gz_bald {a len n : Nat} {z : Int} {v : Value} (hd : decode I.2.1 pc = .ok (.baload, 1)) (hs : M.1 a = (103, len)) (hz : z = (n : Int)) (hn : n < len) (hv : M.2.2 a n = v)
    (kk : zk_Go l Γ I d kc ks Q (pc + 1) L (v :: st) M F) : zk_Go l Γ I d kc ks Q pc L (.int (iZ z) :: .ref a :: st) M F := by
  intro p e R s m args below meth c H locs cells slots Qf A ρ ls hc hr hs9 hR hA hS hL hW hE
  subst hv
  obtain ⟨h1, h2, h3, cell, h4, h5, h6, h7, h8, h9, h10⟩ := hR.arr (k := 3) hW.2.1 hs (by omega)
  obtain ⟨i1, i2⟩ := zk_ix (j := iZ z) (by rw [hz]) hn h2
  have hwf : zk_in_n M.2.1 (M.2.2 a n) := by
    unfold zk_in_n
    split
    · rename_i x hx
      exact hR.1.2.2.2.2.2.1 a n x hW.2.1 (by rw [hs]; exact hn) hx
    · trivial
  refine W.bald hc.1 hc.2.1 h4 (zk_isArr (k := 3) (zk_arrOf hc.2.2.2.2.2.2.2.2 h1 h3) h5 h7) h6 (by rw [h9]; exact i1) (v := zk_v ρ (M.2.2 a n)) (by rw [i2]; exact h10 n hn) rfl rfl hd ?_
  exact kk p e R s m args below meth c H locs cells slots Qf A ρ ls hc hr hs9 hR hA hS hL ⟨hwf, hW.2.2⟩ hE
theorem gz_aald {a k len n : Nat} {z : Int} {v : Value} (hd : decode I.2.1 pc = .ok (.aaload, 1)) (hs : M.1 a = (100 + k, len)) (hk : k = 4 ∨ k = 5) (hz : z = (n : Int)) (hn : n < len) (hv : M.2.2 a n = v)
    (kk : zk_Go l Γ I d kc ks Q (pc + 1) L (v :: st) M F) : zk_Go l Γ I d kc ks Q pc L (.int (iZ z) :: .ref a :: st) M F := by
  intro p e R s m args below meth c H locs cells slots Qf A ρ ls hc hr hs9 hR hA hS hL hW hE
  subst hv
  obtain ⟨h1, h2, h3, cell, h4, h5, h6, h7, h8, h9, h10⟩ := hR.arr hW.2.1 hs (by omega)
  obtain ⟨i1, i2⟩ := zk_ix (j := iZ z) (by rw [hz]) hn h2
  have hwf : zk_in_n M.2.1 (M.2.2 a n) := by
    unfold zk_in_n
    split
    · rename_i x hx
      exact hR.1.2.2.2.2.2.1 a n x hW.2.1 (by rw [hs]; exact hn) hx
    · trivial
  refine W.aald hc.1 hc.2.1 h4 (zk_isArr (zk_arrOf hc.2.2.2.2.2.2.2.2 h1 h3) h5 h7) (by rcases hk with q | q <;> rw [q] <;> rfl) h6 (by rw [h9]; exact i1) (v := zk_v ρ (M.2.2 a n)) (by rw [i2]; exact h10 n hn) rfl rfl hd ?_
  exact kk p e R s m args below meth c H locs cells slots Qf A ρ ls hc hr hs9 hR hA hS hL ⟨hwf, hW.2.2⟩ hE
/-- behind a store into a new array -/
theorem zk_stored {Γ : zk_G} {ρ : Nat → Nat} {M : zk_M} {F : Heap → Prop} {H H' : Heap} (h : zk_Rl Γ ρ M F H) {a k len n : Nat} {v : Value} {cell : Cell} (ha : zk_N ≤ a) (hn : a < M.2.1) (hs : M.1 a = (100 + k, len)) (hk : k < 6) (hl : len < 2 ^ 31) (hv : zk_in_n M.2.1 v) (hnl : n < len)
    (h4 : H[ρ a]? = some cell) (h5 : cell.cls = Γ.2.2.1 k a) (h6 : cell.vm ≠ .unknown) (h7 : cell.vm.isStatics = false) (h8 : zk_N ≤ a → cell.vm = .none) (h9 : cell.slots.size = len) (h10 : ∀ j, j < len → cell.slots[j]? = some (zk_v ρ (M.2.2 a j)))
    (e1 : H'[ρ a]? = some (cell.setSlot n (zk_v ρ v))) (e2 : H'.size = H.size) (e3 : ∀ q, q ≠ ρ a → H'[q]? = H[q]?) : zk_Rl Γ ρ (M.1, M.2.1, zk_up M.2.2 a n v) F H' := by
  refine h.put ha hn (by rw [hs]; show 100 + k < 1000; omega) hv e2 e3 ?_
  rw [hs]
  refine ⟨fun q => absurd (show 100 + k < 100 from q) (by omega), fun q1 q2 => ⟨show 100 + k < 106 by omega, hl, fun q3 => absurd q3 (by omega), ?_⟩⟩
  dsimp only
  rw [Nat.add_sub_cancel_left]
  refine ⟨_, e1, h5, h6, h7, h8, by rw [← h9]; exact k2_slotsz _ _ _, fun j hj => ?_⟩
  dsimp only
  by_cases q : j = n
  · subst q
    rw [if_pos rfl]
    simp [Cell.setSlot, Array.getElem?_setIfInBounds, h9, hj]
  · rw [if_neg q]
    rw [← h10 j hj]
    simp [Cell.setSlot, Array.getElem?_setIfInBounds, Ne.symm q]
theorem gz_iast {a len n : Nat} {z : Int} {x : Int32} (hd : decode I.2.1 pc = .ok (.iastore, 1)) (hs : M.1 a = (100, len)) (ha : zk_N ≤ a) (hz : z = (n : Int)) (hn : n < len) 
    (kk : zk_Go l Γ I d kc ks Q (pc + 1) L st (M.1, M.2.1, zk_up M.2.2 a n (.int x)) F) : zk_Go l Γ I d kc ks Q pc L (.int x :: .int (iZ z) :: .ref a :: st) M F := by
  intro p e R s m args below meth c H locs cells slots Qf A ρ ls hc hr hs9 hR hA hS hL hW hE
  obtain ⟨h1, h2, h3, cell, h4, h5, h6, h7, h8, h9, h10⟩ := hR.arr (k := 0) hW.2.2.1 hs (by omega)
  obtain ⟨i1, i2⟩ := zk_ix (j := iZ z) (by rw [hz]) hn h2
  refine W.iast hc.1 hc.2.1 h4 (zk_isArr (k := 0) (zk_arrOf hc.2.2.2.2.2.2.2.2 h1 h3) h5 h7) h6 (by rw [h9]; exact i1) rfl rfl hd fun H' e1 e2 e3 => ?_
  skip
  have hR' := zk_stored hR (v := .int x) ha hW.2.2.1 hs h1 h2 trivial hn h4 h5 h6 h7 h8 h9 h10 (by rw [i2] at e1; exact e1) e2 e3
  exact kk p e R s m args below meth c H' _ cells slots Qf A ρ ls hc hr hs9 hR' hA (hS.put e2 e3 (hA.1 a ha hW.2.2.1 (by rw [hs]; exact Nat.le_of_ble_eq_true rfl))) hL hW.2.2.2 (hE.put e2)
theorem gz_last {a len n : Nat} {z : Int} {x : Int64} (hd : decode I.2.1 pc = .ok (.lastore, 1)) (hs : M.1 a = (101, len)) (ha : zk_N ≤ a) (hz : z = (n : Int)) (hn : n < len) 
    (kk : zk_Go l Γ I d kc ks Q (pc + 1) L st (M.1, M.2.1, zk_up M.2.2 a n (.long x)) F) : zk_Go l Γ I d kc ks Q pc L (.long x :: .int (iZ z) :: .ref a :: st) M F := by
  intro p e R s m args below meth c H locs cells slots Qf A ρ ls hc hr hs9 hR hA hS hL hW hE
  obtain ⟨h1, h2, h3, cell, h4, h5, h6, h7, h8, h9, h10⟩ := hR.arr (k := 1) hW.2.2.1 hs (by omega)
  obtain ⟨i1, i2⟩ := zk_ix (j := iZ z) (by rw [hz]) hn h2
  refine W.last hc.1 hc.2.1 h4 (zk_isArr (k := 1) (zk_arrOf hc.2.2.2.2.2.2.2.2 h1 h3) h5 h7) h6 (by rw [h9]; exact i1) rfl rfl hd fun H' e1 e2 e3 => ?_
  skip
  have hR' := zk_stored hR (v := .long x) ha hW.2.2.1 hs h1 h2 trivial hn h4 h5 h6 h7 h8 h9 h10 (by rw [i2] at e1; exact e1) e2 e3
  exact kk p e R s m args below meth c H' _ cells slots Qf A ρ ls hc hr hs9 hR' hA (hS.put e2 e3 (hA.1 a ha hW.2.2.1 (by rw [hs]; exact Nat.le_of_ble_eq_true rfl))) hL hW.2.2.2 (hE.put e2)
theorem gz_zast {a len n : Nat} {z : Int} {x : Int32} (hd : decode I.2.1 pc = .ok (.bastore, 1)) (hs : M.1 a = (102, len)) (ha : zk_N ≤ a) (hz : z = (n : Int)) (hn : n < len) (hx : narrow .boolean (.int x) = .int x)
    (kk : zk_Go l Γ I d kc ks Q (pc + 1) L st (M.1, M.2.1, zk_up M.2.2 a n (.int x)) F) : zk_Go l Γ I d kc ks Q pc L (.int x :: .int (iZ z) :: .ref a :: st) M F := by
  intro p e R s m args below meth c H locs cells slots Qf A ρ ls hc hr hs9 hR hA hS hL hW hE
  obtain ⟨h1, h2, h3, cell, h4, h5, h6, h7, h8, h9, h10⟩ := hR.arr (k := 2) hW.2.2.1 hs (by omega)
  obtain ⟨i1, i2⟩ := zk_ix (j := iZ z) (by rw [hz]) hn h2
  refine W.zast hc.1 hc.2.1 h4 (zk_isArr (k := 2) (zk_arrOf hc.2.2.2.2.2.2.2.2 h1 h3) h5 h7) h6 (by rw [h9]; exact i1) rfl rfl hd fun H' e1 e2 e3 => ?_
  rw [hx] at e1
  have hR' := zk_stored hR (v := .int x) ha hW.2.2.1 hs h1 h2 trivial hn h4 h5 h6 h7 h8 h9 h10 (by rw [i2] at e1; exact e1) e2 e3
  exact kk p e R s m args below meth c H' _ cells slots Qf A ρ ls hc hr hs9 hR' hA (hS.put e2 e3 (hA.1 a ha hW.2.2.1 (by rw [hs]; exact Nat.le_of_ble_eq_true rfl))) hL hW.2.2.2 (hE.put e2)
theorem gz_bast {a len n : Nat} {z : Int} {x : Int32} (hd : decode I.2.1 pc = .ok (.bastore, 1)) (hs : M.1 a = (103, len)) (ha : zk_N ≤ a) (hz : z = (n : Int)) (hn : n < len) (hx : narrow .byte (.int x) = .int x)
    (kk : zk_Go l Γ I d kc ks Q (pc + 1) L st (M.1, M.2.1, zk_up M.2.2 a n (.int x)) F) : zk_Go l Γ I d kc ks Q pc L (.int x :: .int (iZ z) :: .ref a :: st) M F := by
  intro p e R s m args below meth c H locs cells slots Qf A ρ ls hc hr hs9 hR hA hS hL hW hE
  obtain ⟨h1, h2, h3, cell, h4, h5, h6, h7, h8, h9, h10⟩ := hR.arr (k := 3) hW.2.2.1 hs (by omega)
  obtain ⟨i1, i2⟩ := zk_ix (j := iZ z) (by rw [hz]) hn h2
  refine W.bast hc.1 hc.2.1 h4 (zk_isArr (k := 3) (zk_arrOf hc.2.2.2.2.2.2.2.2 h1 h3) h5 h7) h6 (by rw [h9]; exact i1) rfl rfl hd fun H' e1 e2 e3 => ?_
  rw [hx] at e1
  have hR' := zk_stored hR (v := .int x) ha hW.2.2.1 hs h1 h2 trivial hn h4 h5 h6 h7 h8 h9 h10 (by rw [i2] at e1; exact e1) e2 e3
  exact kk p e R s m args below meth c H' _ cells slots Qf A ρ ls hc hr hs9 hR' hA (hS.put e2 e3 (hA.1 a ha hW.2.2.1 (by rw [hs]; exact Nat.le_of_ble_eq_true rfl))) hL hW.2.2.2 (hE.put e2)
theorem gz_acmp_eq {a b : Nat} {off : Int} {tgt : Nat} (hd : decode I.2.1 pc = .ok (.if_acmp .eq off, 3)) (ht : (pc : Int) + off = (tgt : Int)) (ha : (M.1 a).1 < 1000) (hb : (M.1 b).1 < 1000) (hab : a < 48 ∧ b < 48)
    (kt : a = b → zk_Go l Γ I d kc ks Q tgt L st M F) (kf : a ≠ b → zk_Go l Γ I d kc ks Q (pc + 3) L st M F) : zk_Go l Γ I d kc ks Q pc L (.ref b :: .ref a :: st) M F := by
  intro p e R s m args below meth c H locs cells slots Qf A ρ ls hc hr hs9 hR hA hS hL hW hE
  exact lv_acmp_eq (rx := some (ρ a)) (ry := some (ρ b)) hc.1 hc.2.1 hd ht (fun q => kt (hR.1.2.1 a b hW.2.1 hW.1 ha hb (Or.inr hab) (Option.some.inj q)) p e R s m args below meth c H locs cells slots Qf A ρ ls hc hr hs9 hR hA hS hL hW.2.2 hE)
    (fun q => kf (fun z => q (by rw [z])) p e R s m args below meth c H locs cells slots Qf A ρ ls hc hr hs9 hR hA hS hL hW.2.2 hE)
theorem gz_acmp_ne {a b : Nat} {off : Int} {tgt : Nat} (hd : decode I.2.1 pc = .ok (.if_acmp .ne off, 3)) (ht : (pc : Int) + off = (tgt : Int)) (ha : (M.1 a).1 < 1000) (hb : (M.1 b).1 < 1000) (hab : a < 48 ∧ b < 48)
    (kt : a ≠ b → zk_Go l Γ I d kc ks Q tgt L st M F) (kf : a = b → zk_Go l Γ I d kc ks Q (pc + 3) L st M F) : zk_Go l Γ I d kc ks Q pc L (.ref b :: .ref a :: st) M F := by
  intro p e R s m args below meth c H locs cells slots Qf A ρ ls hc hr hs9 hR hA hS hL hW hE
  exact lv_acmp_ne (rx := some (ρ a)) (ry := some (ρ b)) hc.1 hc.2.1 hd ht (fun q => kt (fun z => q (by rw [z])) p e R s m args below meth c H locs cells slots Qf A ρ ls hc hr hs9 hR hA hS hL hW.2.2 hE)
    (fun q => kf (hR.1.2.1 a b hW.2.1 hW.1 ha hb (Or.inr hab) (Option.some.inj q)) p e R s m args below meth c H locs cells slots Qf A ρ ls hc hr hs9 hR hA hS hL hW.2.2 hE)
/-- a field that isn't final -/
theorem gz_putf {i a k len N : Nat} {C : String} {T : u_T} {v : Value} (j : Nat) (hd : decode I.2.1 pc = .ok (.putfield i, 3)) (hs : M.1 a = (k, len)) (hk : zk_cs[k]? = some (C, T, N)) (hw : Cond.fieldLink I.1.cls i (T j).1 (T j).2.1 (T j).2.2.1 ∈ zk_tg) (hj : j < len) (ha : zk_N ≤ a)
    (hi : Cond.instantiable C N ∈ zk_tg) (hws : ∀ w ∈ u_ws C T N, w ∈ zk_tg) (hf : (T j).2.2.2 = false) {ty : FieldType} (tys : Nat → FieldType) (htys : ∀ k, k < N → parseFieldDescriptor (T k).2.2.1 = some (tys k)) (hnm : ∀ a, a < N → ∀ b, b < N → a ≠ b → (T a).2.1 ≠ (T b).2.1) (hty : tys j = ty) (hv : ∀ ρ, narrow ty (zk_v ρ v) = zk_v ρ v ∧ fits ty (zk_v ρ v) = true)
    (kk : zk_Go l Γ I d kc ks Q (pc + 3) L st (M.1, M.2.1, zk_up M.2.2 a j v) F) : zk_Go l Γ I d kc ks Q pc L (v :: .ref a :: st) M F := by
  intro p e R s m args below meth c H locs cells slots Qf A ρ ls hc hr hs9 hR hA hS hL hW hE
  have hk100 : k < 100 := by
    have := (List.getElem?_eq_some_iff.mp hk).1
    have e : zk_cs.length = 11 := rfl
    omega
  obtain ⟨⟨r, hr1, hr2⟩, cell, h1, h2, h3, h4, h5, h6⟩ := hR.obj hW.2.1 hs hk100
  have er : r = (C, T, N) := Option.some.inj (hr1.symm.trans hk)
  subst er
  have hjN : j < N := Nat.lt_of_lt_of_le hj hr2
  obtain ⟨hfc, hfl⟩ := hc.2.2.2.2.2.2.2.2.1 k _ hk
  obtain ⟨cf, kf, fi, f, g1, g2, g3⟩ := hfl j hjN
  obtain ⟨cC, kC, q1, q2, q3, -⟩ := Cond.instantiable_spec (hc.2.2.2.2.1 _ hi)
  have ec : cC = Γ.1.1 k := Option.some.inj (q1.symm.trans hfc)
  subst ec
  have hlay := hc.2.2.2.2.1 _ (hws _ (u_in_lay hjN))
  unfold u_lay at hlay
  rw [if_neg (by rw [hf]; decide)] at hlay
  have hvv := hv ρ
  have hS6 := u_store q1 q2 q3 hlay g1 (hty ▸ htys j hjN) hvv.1 hvv.2
  have hvm := h5 ha
  refine W.putK hc.1 hc.2.1 (f := f) ⟨hc.2.2.2.1, hc.2.2.2.2.1 _ hw, ⟨_, _, _, g1⟩, g2⟩ (by rw [h2]; exact hS6) h1 hvm (by rw [g3]; exact k2_hasslot (h6 j hj)) rfl rfl hd fun H' e1 e2 e3 => ?_
  have hR' : zk_Rl Γ ρ (M.1, M.2.1, zk_up M.2.2 a j v) F H' := by
    refine hR.put ha hW.2.1 (by rw [hs]; show k < 1000; omega) hW.1 e2 e3 ?_
    rw [hs]
    refine ⟨fun _ => ⟨⟨_, hk, hr2⟩, _, e1, h2, h3, h4, h5, fun y hy => ?_⟩, fun q => absurd (show 100 ≤ k from q) (by omega)⟩
    dsimp only
    by_cases e9 : y = j
    · subst e9
      rw [if_pos rfl, ← g3]
      have := k2_hasslot (h6 y hy)
      rw [← g3] at this
      simp [Cell.setSlot, Array.getElem?_setIfInBounds, this]
    · rw [if_neg e9, ← h6 y hy]
      obtain ⟨cf2, kf2, fi2, f2, g1', g2', g3'⟩ := hfl y (Nat.lt_of_lt_of_le hy hr2)
      have hne : f.slot ≠ f2.slot := by
        refine u_apart (u_lays (fun w hw => hc.2.2.2.2.1 w hw) hws hjN) (u_lays (fun w hw => hc.2.2.2.2.1 w hw) hws (Nat.lt_of_lt_of_le hy hr2)) g1 g1' ?_
        rw [(State.fieldFound?_type g1 (htys j hjN)).1, (State.fieldFound?_type g1' (htys y (Nat.lt_of_lt_of_le hy hr2))).1]
        exact hnm j hjN y (Nat.lt_of_lt_of_le hy hr2) (Ne.symm e9)
      rw [← g3']
      simp [Cell.setSlot, Array.getElem?_setIfInBounds, hne]
  exact kk p e R s m args below meth c H' _ cells slots Qf A ρ ls hc hr hs9 hR' hA (hS.put e2 e3 (hA.1 a ha hW.2.1 (by rw [hs]; show k < 1000; omega))) hL hW.2.2 (hE.put e2)
end MEM

/-! MORE RULES: references stored in rows, long numbers compared -/
section
variable {l : Launch} {Γ : zk_G} {d : Nat} {Z : Nat → Nat → Int} {F : Heap → Prop}
theorem as_self (vm : Vm) (c : ClassId) : vm.assignable c c = true := by
  unfold Vm.assignable
  rw [show (256 : Nat) = 255 + 1 from rfl]
  unfold Vm.assignableAux
  rw [show (c == c) = true from beq_self_eq_true c]
  rfl
def cmpZ (x y : Int) : Int := if x < y then -1 else if x = y then 0 else 1
theorem cmpZ_bd (x y : Int) : -2147483648 ≤ cmpZ x y ∧ cmpZ x y < 2147483648 := by unfold cmpZ; (repeat' split) <;> decide
theorem cmpZ_0 {x y : Int} : cmpZ x y = 0 ↔ x = y := by unfold cmpZ; (repeat' split) <;> omega
theorem lg_cmp_z {x y : Int} (h : -9223372036854775808 ≤ x ∧ x < 9223372036854775808) (h2 : -9223372036854775808 ≤ y ∧ y < 9223372036854775808) : lg_cmp (lZ x) (lZ y) = iZ (cmpZ x y) := by
  unfold lg_cmp cmpZ
  simp only [gt_iff_lt, Int64.lt_iff_toInt_lt, ← Int64.toInt_inj, lZ_toInt h, lZ_toInt h2]
  by_cases q : x < y
  · rw [if_neg (by omega), if_neg (by omega), if_pos q]; rfl
  · rw [if_neg q]
    by_cases e : x = y
    · rw [if_neg (by omega), if_pos e, if_pos e]; rfl
    · rw [if_pos (by omega), if_neg e]; rfl
section
variable {I : zk_MI} {kc ks : Nat} {Q : Option Value → zk_M → (Heap → Prop) → Prop} {pc : Nat} {L : List (Option Value)} {st : List Value} {M : zk_M}
theorem zz_lcmp {x y : Int} (hd : decode I.2.1 pc = .ok (.lcmp, 1)) (h : -9223372036854775808 ≤ x ∧ x < 9223372036854775808) (h2 : -9223372036854775808 ≤ y ∧ y < 9223372036854775808)
    (k : zk_Go l Γ I d kc ks Q (pc + 1) L (.int (iZ (cmpZ x y)) :: st) M F) : zk_Go l Γ I d kc ks Q pc L (.long (lZ y) :: .long (lZ x) :: st) M F := gz_lcmp hd (by rw [lg_cmp_z h h2]; exact k)
theorem gz_aast {a len n x l2 : Nat} {z : Int} (hd : decode I.2.1 pc = .ok (.aastore, 1)) (hs : M.1 a = (104, len)) (ha : zk_N ≤ a) (hz : z = (n : Int)) (hn : n < len) (hx : M.1 x = (10, l2))
    (kk : zk_Go l Γ I d kc ks Q (pc + 1) L st (M.1, M.2.1, zk_up M.2.2 a n (.ref x)) F) : zk_Go l Γ I d kc ks Q pc L (.ref x :: .int (iZ z) :: .ref a :: st) M F := by
  intro p e R s m args below meth c H locs cells slots Qf A ρ ls hc hr hs9 hR hA hS hL hW hE
  obtain ⟨h1, h2, h3, cell, h4, h5, h6, h7, h8, h9, h10⟩ := hR.arr (k := 4) hW.2.2.1 hs (by omega)
  obtain ⟨i1, i2⟩ := zk_ix (j := iZ z) (by rw [hz]) hn h2
  obtain ⟨-, cv, v1, v2, v3, v4, -⟩ := hR.obj hW.1 hx (by omega)
  have hK := hc.2.2.2.2.2.2.2.2
  have hfx : s.vm.findClass "Heliographs$Kind" = some (Γ.1.1 10) := (hK.1 10 _ rfl).1
  have hra : va_RA s (Γ.2.2.1 4 a) (.object "Heliographs$Kind") := (hK.2.1.1 4 a (by omega) ha).2.2
  obtain ⟨kA, comp, k1, k2, k3, -⟩ := hra
  have ec : comp = Γ.1.1 10 := Option.some.inj (k3.symm.trans hfx)
  subst ec
  obtain ⟨kC, hkC, -⟩ := Vm.findClass_spec k3
  refine W.aast hc.1 hc.2.1 h4 (zk_vs h7) h6 (by rw [h5]; exact k1) k2 rfl hkC ⟨fun q => i1 (Or.inl q), by rw [h9, i2]; exact hn⟩ v1 (zk_vs v4) (by rw [v2]; exact hkC) (by rw [v2]; exact as_self _ _) rfl rfl hd fun H' e1 e2 e3 => ?_
  have hR' := zk_stored hR (v := .ref x) ha hW.2.2.1 hs h1 h2 hW.1 hn h4 h5 h6 h7 h8 h9 h10 (by rw [i2] at e1; exact e1) e2 e3
  exact kk p e R s m args below meth c H' _ cells slots Qf A ρ ls hc hr hs9 hR' hA (hS.put e2 e3 (hA.1 a ha hW.2.2.1 (by rw [hs]; exact Nat.le_of_ble_eq_true rfl))) hL hW.2.2.2 (hE.put e2)
theorem zc_aast {a len n x : Nat} {l2 : Nat} {z w : Int} (hd : decode I.2.1 pc = .ok (.aastore, 1)) (hs : zb_s a = (104, len)) (ha : zk_N ≤ a) (hz : z = (n : Int)) (hn : n < len) (hx : zb_s x = (10, l2)) (hg : (.ref x : Value) = zb_g a n w)
    (kk : zk_Go l Γ I d kc ks Q (pc + 1) L st (zb_M (zb_u Z a n w)) F) : zk_Go l Γ I d kc ks Q pc L (.ref x :: .int (iZ z) :: .ref a :: st) (zb_M Z) F :=
  gz_aast (M := zb_M Z) hd hs ha hz hn hx (by
    show zk_Go l Γ I d kc ks Q (pc + 1) L st (zb_s, 424, zk_up (zb_v Z) a n (.ref x)) F
    rw [hg, zb_up]
    exact kk)
end
section
variable {I : zk_MI} {kc ks : Nat} {Q : Option Value → zk_M → (Heap → Prop) → Prop} {pc : Nat} {L : List (Option Value)} {st : List Value} {M : zk_M}
theorem gz_getsN {i : Nat} {C n ds host : String} {v : Value} (hd : decode I.2.1 pc = .ok (.getstatic i, 3)) (hq : (C, n, ds, v) ∈ zk_st) (hw : (I.1.cls, i, C, n, ds, host) ∈ zk_nf) (hv : zk_in_n zk_N v)
    (kk : zk_Go l Γ I d kc ks Q (pc + 3) L (v :: st) M F) : zk_Go l Γ I d kc ks Q pc L st M F := by
  intro p e R s m args below meth c H locs cells slots Qf A ρ ls hc hr hs9 hR hA hS hL hW hE
  obtain ⟨cf, kf, fi, f, q, cell, h1, h2, h3, h4, h5, h6, h7, h8⟩ := hc.2.2.2.2.2.2.2.2.2.2.1 _ hq
  dsimp only at h1
  have hlt : q < Γ.2.1.size := (Array.getElem?_eq_some_iff.mp h5).1
  have ev : zk_v0 Γ v = zk_v ρ v := by
    unfold zk_v0 zk_v
    cases v with
    | ref x => exact congrArg Value.ref (hR.1.2.2.2.2.1 x hv).symm
    | _ => rfl
  have hwf : zk_in_n M.2.1 v := by
    cases v with
    | ref x => exact Nat.lt_of_lt_of_le hv hR.1.2.2.2.2.2.2
    | _ => trivial
  refine va_WgetsN hc.1 hc.2.1 hc.2.2.2.1 ((hc.2.2.2.2.2.2.2.2.2.2.2.2.2.1 _ hw).use rfl) h1 h2 h3 h4 (cell₁ := cell) (by rw [hR.1.2.2.1.1 q hlt]; exact h5) (fun e => by rw [e] at h6; cases h6) (v := zk_v ρ v) (by rw [← ev]; exact h7) rfl hd ?_
  exact kk p e R s m args below meth c H locs cells slots Qf A ρ ls hc hr hs9 hR hA hS hL ⟨hwf, hW⟩ hE
end
/-- a heap that grows shows what it showed -/
theorem zk_Rl.grow {Γ : zk_G} {ρ : Nat → Nat} {M : zk_M} {F : Heap → Prop} {H H2 : Heap} (hz : H.size ≤ H2.size) (ho : ∀ q : Nat, q < H.size → H2[q]? = H[q]?) (h : zk_Rl Γ ρ M F H) : zk_Rl Γ ρ M F H2 := by
  obtain ⟨⟨b1, b2, b3, b4, b5, b6, b7⟩, f1, f2, f3, f4⟩ := h
  exact ⟨⟨fun a ha => (b1 a ha).kept (fun hk => ho _ ((b1 a ha).lt hk)), b2, ⟨fun q hq => (ho q (by omega)).trans (b3.1 q hq), by omega⟩, b4, b5, b6, b7⟩, f2 H H2 (fun q hq => ho q (f3 q hq).1) (fun q hq => ho q (by omega)) hz f1, f2, fun q hq => ⟨by have := (f3 q hq).1; omega, (f3 q hq).2⟩, f4⟩
end

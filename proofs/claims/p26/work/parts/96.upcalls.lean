/-! CALLS OF WHAT A CLASS INHERITS; ARRAYS COPIED -/
section
variable {l : Launch} {Γ : zk_G} {d : Nat} {F : Heap → Prop}
section
variable {I : zk_MI} {kc ks : Nat} {Q : Option Value → zk_M → (Heap → Prop) → Prop} {pc : Nat} {L : List (Option Value)} {st : List Value} {M : zk_M}
theorem gz_ifnonnull {a : Nat} {off : Int} {tgt : Nat} (hd : decode I.2.1 pc = .ok (.ifnonnull off, 3)) (ht : (pc : Int) + off = (tgt : Int)) (k : zk_Go l Γ I d kc ks Q tgt L st M F) : zk_Go l Γ I d kc ks Q pc L (.ref a :: st) M F :=
  zk_Go.pure (st2 := st) (fun p e R s m args below meth c H locs cells slots Qf ρ ls hc hL k => lv_ifnonnull hc.1 hc.2.1 hd ht k) (fun ρ ls hL hw => hw.2) k
theorem gz_popr {v : Value} (hd : decode I.2.1 pc = .ok (.pop, 1)) (hv : v.category = 1) (k : zk_Go l Γ I d kc ks Q (pc + 1) L st M F) : zk_Go l Γ I d kc ks Q pc L (v :: st) M F := gz_pop hd hv k
/-- a private method is what an object of a class below has, too -/
theorem zs_private {Ts : List Cond} {C : String} {y x0 y0 : MethodName} {n : Nat} {s : State} {args : Array Value} (hts : ∀ w ∈ Ts, w.before args s = true) (hy : y.cls ≠ "java/lang/invoke/MethodHandle" ∧ y.cls ≠ "java/lang/invoke/VarHandle") (hins : Cond.instantiable C n ∈ Ts) (hpriv : Cond.privateMethod y ∈ Ts) (hinst : Cond.instanceMethod y ∈ Ts)
    (h0 : Cond.selects C x0 y0 ∈ Ts) (hcl : y0.cls = y.cls) : (Cond.selects C y y).before args s = true := by
  obtain ⟨c, k, hc, hk, -, -, -, -⟩ := Cond.instantiable_spec (hts _ hins)
  obtain ⟨mk, methM, hnamed, hmethM, -, -⟩ := Cond.instanceMethod_spec (hts _ hinst)
  have hfound : s.methodFound? y.cls y.name y.desc = some mk := State.methodFound?_of_named hnamed hy
  have hsel : selectMethod {} s.vm c mk = .method mk := selectMethod_private hmethM (Cond.privateMethod_at (hts _ hpriv) mk methM hnamed hmethM)
  obtain ⟨c2, r2, m2, q1, q2, q3, q4, kP, hkP, hkPi⟩ := Cond.selects_spec (hts _ h0)
  have e1 := findClass_of_methodNamed q3
  rw [hcl] at e1
  have e2 : mk.cls = m2.cls := Option.some.inj ((findClass_of_methodNamed hnamed).symm.trans e1)
  have hk2 : s.vm.classes[mk.cls]? = some kP := by rw [e2]; exact hkP
  simp only [Cond.before, Cond.holds, Cond.value, hc, hfound, hnamed, hsel, hk2]
  simp; exact hkPi
/-- a method that the object's class has from a class above -/
theorem gz_up {J : zk_MI} {x : MethodName} {C : String} {b0 : ByteArray} {m0 : Nat} {r0 : Option FieldType} {d1 kc1 ks1 : Nat} {Q1 : Option Value → zk_M → (Heap → Prop) → Prop} {idx k len b n : Nat} (As st : List Value) {st0 : List Value} (hd : decode I.2.1 pc = .ok (.invokevirtual idx, 3)) (hst : st0 = As.reverse ++ .ref b :: st)
    (hs : M.1 b = (k, len)) (hk : k < 100) (hcl : (zk_cs[k]?).map (fun r => r.1) = some C)
    (hw : Cond.methodLink I.1.cls idx x ∈ zk_tg) (hsame : Cond.sameMethod x.cls x.cls x.name x.desc ∈ zk_tg) (hdx : Cond.instanceMethod x ∈ zk_tg) (hcx : Cond.code x b0 m0 r0 ∈ zk_tg) (hse : Cond.selects C x J.1 ∈ zk_tg ∨ Cond.selects C x J.1 ∈ zk_xw)
    (hin : Cond.instanceMethod J.1 ∈ zk_tg) (hini : Cond.initialized J.1.cls ∈ zk_tg) (hcode : Cond.code J.1 J.2.1 J.2.2.1 J.2.2.2 ∈ zk_tg)
    (hpl : plainName J.1.cls = true) (hpx : x.cls ≠ "java/lang/invoke/MethodHandle" ∧ x.cls ≠ "java/lang/invoke/VarHandle" ∧ (parseMethodDescriptor x.desc).map (fun d => d.parameters.length) = some n) (hn : As.length = n) (hm : J.2.2.1 ≤ 45 ∧ (zk_es (.ref b :: As)).length ≤ J.2.2.1) (hsum : (st.map fun v => v.category).sum ≤ 8)
    (hd1 : d1 + 1 ≤ d) (hkk : kc1 ≤ kc ∧ ks1 ≤ ks) (hnt : J.1.name ∉ zk_mt) (hgo : zk_Go l Γ J d1 kc1 ks1 Q1 0 (zk_ent J.2.2.1 (.ref b :: As)) [] M F)
    (kk : ∀ v M' F', Q1 v M' F' → zk_Go l Γ I d (kc - kc1) (ks - ks1) Q (pc + 3) L (v.toList ++ st) M' F') : zk_Go l Γ I d kc ks Q pc L st0 M F := by
  intro p e R s m args below meth c H locs cells slots Qf A ρ ls hc hr hs9 hR hA hS hL hW hE
  subst hst
  obtain ⟨hW1, hW2⟩ := zk_wf_app hW
  have hwAs : zk_wf M.2.1 (.ref b :: As) := ⟨hW2.1, zk_wf_of fun v hv => zk_wf_mem hW1 (List.mem_reverse.mpr hv)⟩
  have hM := zk_met (ρ := ρ) (sz := H.size) hpl hm.2 hwAs hnt hgo
  obtain ⟨⟨r, hr1, hr2⟩, cell, h1, h2, h3, h4, -⟩ := hR.obj hW2.1 hs hk
  have hfc := (hc.2.2.2.2.2.2.2.2.1 k r hr1).1
  rw [hr1] at hcl
  have ecl : r.1 = C := Option.some.inj hcl
  rw [ecl] at hfc
  have hts := hc.2.2.2.2.1
  have hse9 : (Cond.selects C x J.1).before args s = true := hse.elim (fun h => hts _ h) (fun h => va_Nw.use rfl (hc.2.2.2.2.2.2.2.2.2.2.2.2.2.2.2.2.2 _ h))
  have hG : GoodIn zk_tg (zk_ws J) := zk_ws_good J hcode
  have hfit := zk_fits (J := J) hr hd1 hm.1
  have hlen : ∀ sig, parseMethodDescriptor x.desc = some sig → n = sig.parameters.length := fun sig h => by
    have h2 := hpx.2.2
    rw [h] at h2
    exact (Option.some.inj h2).symm
  have hrun := va_runU (e := e) (below := below) (meth := meth) (As := As.map (zk_v ρ)) (rest := st.map (zk_v ρ)) (g := F0 m pc ls ((As.reverse ++ .ref b :: st).map (zk_v ρ))) (H := H) (locs := locs) (cells := cells) (slots := slots) (b := ρ b) (x := x) (owner := x.cls) (C := C) (n := n) ⟨hc.1, hc.2.1, hc.2.2.1, hc.2.2.2.1, hts⟩ hM
    ⟨⟨rfl, rfl, hfit.1, hfit.2, pay_in hts hG, List.mem_cons_self⟩, hts _ hcode, hts _ hini, ⟨hpx.1, hpx.2.1⟩, hlen, hts _ hw, hts _ hsame, va_Decl.of (hts _ hdx) (hts _ hcx), hse9, hts _ hin⟩
    ⟨zk_Pc_blind, ⟨cell, h1, h4, by rw [h2]; exact hfc⟩, fun U hU hW9 => ⟨rfl, by rw [hU], hc.2.2.2.2.2.2.2.2.warm hW9, by rw [hU]; exact hR⟩⟩ rfl (by rw [List.length_map]; exact hn) hL.1 (by show ((As.reverse ++ .ref b :: st).map (zk_v ρ)) = _; rw [List.map_append, List.map_reverse]; rfl) (lv_room (by rw [List.map_map]; have e : ((fun v : Value => v.category) ∘ zk_v ρ) = fun v : Value => v.category := funext fun v => zk_v_cat ρ v; rw [e]; exact hsum)) hd ⟨by omega, by omega⟩
  exact zk_called (J := J) (d1 := d1) (st0 := []) hrun hc hr hs9 hA hS hL hW2.2 hE hkk kk
/-- the method of the class above, called by its name (super) -/
theorem gz_super {J : zk_MI} {C : String} {T : u_T} {N : Nat} {d1 kc1 ks1 : Nat} {Q1 : Option Value → zk_M → (Heap → Prop) → Prop} {idx k len b n : Nat} (As st : List Value) {st0 : List Value} (hd : decode I.2.1 pc = .ok (.invokespecial idx, 3)) (hst : st0 = As.reverse ++ .ref b :: st)
    (hs : M.1 b = (k, len)) (hk : k < 100) (hcl : zk_cs[k]? = some (C, T, N)) (hi : Cond.instantiable C N ∈ zk_tg) (hws : ∀ w ∈ u_ws C T N, w ∈ zk_tg)
    (hw : Cond.methodLink I.1.cls idx J.1 ∈ zk_tg) (hsame : Cond.sameMethod J.1.cls J.1.cls J.1.name J.1.desc ∈ zk_tg) (hsup : Cond.superclass I.1.cls J.1.cls ∈ zk_tg)
    (hin : Cond.instanceMethod J.1 ∈ zk_tg) (hini : Cond.initialized J.1.cls ∈ zk_tg) (hcode : Cond.code J.1 J.2.1 J.2.2.1 J.2.2.2 ∈ zk_tg)
    (hpl : plainName J.1.cls = true) (hpx : J.1.name ≠ "<init>" ∧ (parseMethodDescriptor J.1.desc).map (fun d => d.parameters.length) = some n) (hn : As.length = n) (hm : J.2.2.1 ≤ 45 ∧ (zk_es (.ref b :: As)).length ≤ J.2.2.1) (hsum : (st.map fun v => v.category).sum ≤ 8)
    (hd1 : d1 + 1 ≤ d) (hkk : kc1 ≤ kc ∧ ks1 ≤ ks) (hnt : J.1.name ∉ zk_mt) (hgo : zk_Go l Γ J d1 kc1 ks1 Q1 0 (zk_ent J.2.2.1 (.ref b :: As)) [] M F)
    (kk : ∀ v M' F', Q1 v M' F' → zk_Go l Γ I d (kc - kc1) (ks - ks1) Q (pc + 3) L (v.toList ++ st) M' F') : zk_Go l Γ I d kc ks Q pc L st0 M F := by
  intro p e R s m args below meth c H locs cells slots Qf A ρ ls hc hr hs9 hR hA hS hL hW hE
  subst hst
  obtain ⟨hW1, hW2⟩ := zk_wf_app hW
  have hwAs : zk_wf M.2.1 (.ref b :: As) := ⟨hW2.1, zk_wf_of fun v hv => zk_wf_mem hW1 (List.mem_reverse.mpr hv)⟩
  have hM := zk_met (ρ := ρ) (sz := H.size) hpl hm.2 hwAs hnt hgo
  obtain ⟨⟨r, hr1, hr2⟩, cell, h1, h2, h3, h4, -⟩ := hR.obj hW2.1 hs hk
  have hfc := (hc.2.2.2.2.2.2.2.2.1 k r hr1).1
  have er : r = (C, T, N) := Option.some.inj (hr1.symm.trans hcl)
  subst er
  have hts := hc.2.2.2.2.1
  obtain ⟨cC, iS, hkn⟩ := u_known hts hws (hts _ hi)
  have hG : GoodIn zk_tg (va_wsSU I.1.cls idx J.1 (zk_ws J)) := fun w h => by
    rcases List.mem_append.mp h with h | h
    · rcases List.mem_cons.mp h with e | h
      · rw [e]; exact ⟨hw, zk_tg_good hw⟩
      rcases List.mem_cons.mp h with e | h
      · rw [e]; exact ⟨hsame, zk_tg_good hsame⟩
      rcases List.mem_cons.mp h with e | h
      · rw [e]; exact ⟨hsup, zk_tg_good hsup⟩
      rcases List.mem_cons.mp h with e | h
      · rw [e]; exact ⟨hin, zk_tg_good hin⟩
      rcases List.mem_cons.mp h with e | h
      · rw [e]; exact ⟨hini, zk_tg_good hini⟩
      · cases h
    · exact zk_ws_good J hcode w h
  have hrun := va_runSU (e := e) (below := below) (meth := meth) (As := As.map (zk_v ρ)) (rest := st.map (zk_v ρ)) (g := F0 m pc ls ((As.reverse ++ .ref b :: st).map (zk_v ρ))) (H := H) (locs := locs) (cells := cells) (slots := slots) (b := ρ b) (C := C) (n := n) hkn.2 ⟨hc.1, hc.2.1, hc.2.2.1, hc.2.2.2.1, hts⟩ hM
    (va_cwSU n hts hG rfl rfl rfl hpx (zk_fits hr hd1 hm.1))
    ⟨zk_Pc_blind, ⟨cell, h1, h4, by rw [h2]; exact hfc⟩, fun U hU hW9 => ⟨rfl, by rw [hU], hc.2.2.2.2.2.2.2.2.warm hW9, by rw [hU]; exact hR⟩⟩ rfl (by rw [List.length_map]; exact hn) hL.1 (by show ((As.reverse ++ .ref b :: st).map (zk_v ρ)) = _; rw [List.map_append, List.map_reverse]; rfl) (lv_room (by rw [List.map_map]; have e : ((fun v : Value => v.category) ∘ zk_v ρ) = fun v : Value => v.category := funext fun v => zk_v_cat ρ v; rw [e]; exact hsum)) hd ⟨by omega, by omega⟩
  exact zk_called (J := J) (d1 := d1) (st0 := []) hrun hc hr hs9 hA hS hL hW2.2 hE hkk kk
/-- a new cell's whole contents written over -/
def zk_upC (G : Nat → Nat → Value) (a : Nat) (g : Nat → Value) : Nat → Nat → Value := fun x => if x = a then g else G x
theorem zk_Rl.putC {Γ : zk_G} {ρ : Nat → Nat} {M : zk_M} {F : Heap → Prop} {H H' : Heap} (h : zk_Rl Γ ρ M F H) {a : Nat} {g : Nat → Value} (ha : zk_N ≤ a) (hn : a < M.2.1) (hk : (M.1 a).1 < 1000) (hv : ∀ j x, j < (M.1 a).2 → g j = .ref x → x < M.2.1)
    (hsz : H'.size = H.size) (ho : ∀ q, q ≠ ρ a → H'[q]? = H[q]?) (hc : zk_ok Γ ρ H' a (M.1 a) g) : zk_Rl Γ ρ (M.1, M.2.1, zk_upC M.2.2 a g) F H' := by
  obtain ⟨⟨b1, b2, b3, b4, b5, b6, b7⟩, f1, f2, f3, f4⟩ := h
  have hge := b4 a ha hn hk
  refine ⟨⟨fun x hx => ?_, b2, ⟨fun q hq => (ho q (by omega)).trans (b3.1 q hq), by omega⟩, b4, b5, fun x y z hx hy hz => ?_, b7⟩, f2 H H' (fun q hq => ho q (fun e => f4 a ha hn hk (e ▸ hq))) (fun q hq => ho q (by omega)) (by omega) f1, f2, fun q hq => by rw [hsz]; exact f3 q hq, f4⟩
  · show zk_ok Γ ρ H' x (M.1 x) (zk_upC M.2.2 a g x)
    unfold zk_upC
    by_cases e : x = a
    · subst e
      rw [if_pos rfl]
      exact hc
    · rw [if_neg e]
      exact (b1 x hx).kept (fun h1 => ho _ (fun e2 => e (b2 x a hx hn h1 hk (Or.inl ha) e2)))
  · dsimp only at hy hz
    unfold zk_upC at hz
    by_cases e : x = a
    · rw [if_pos e] at hz
      exact hv y z (by rw [← e]; exact hy) hz
    · rw [if_neg e] at hz
      exact b6 x y z hx hy hz
theorem za_stat : Cond.static arraycopyName ∈ zk_tg := zk_in 1225 (by decide +kernel) rfl
theorem za_nat : Cond.native arraycopyName ∈ zk_tg := zk_in 1226 (by decide +kernel) rfl
/-- what stands in a row behind a copy into it -/
def zk_cpy (f g : Nat → Value) (sp dp n : Nat) : Nat → Value := fun j => if dp ≤ j ∧ j < dp + n then f (sp + (j - dp)) else g j
theorem gz_copy {a b k n0 n1 sp dp n : Nat} {zs zd zn : Int} {idx : Nat} (hd : decode I.2.1 pc = .ok (.invokestatic idx, 3)) (hw : Cond.methodLink I.1.cls idx arraycopyName ∈ zk_tg) (hini : Cond.initialized "java/lang/System" ∈ zk_tg) (hk : k < 4) (hs0 : M.1 a = (100 + k, n0)) (hs1 : M.1 b = (100 + k, n1)) (hb : zk_N ≤ b)
    (h1 : zs = (sp : Int)) (h2 : zd = (dp : Int)) (h3 : zn = (n : Int)) (h4 : sp + n ≤ n0) (h5 : dp + n ≤ n1) (hfit : ∀ i, i < n → fits (zk_ty k) (M.2.2 a (sp + i)) = true ∧ ∀ x, M.2.2 a (sp + i) ≠ .ref x) (hsum : (st.map fun v => v.category).sum ≤ 8) (hd1 : 1 ≤ d)
    (kk : zk_Go l Γ I d kc ks Q (pc + 3) L st (M.1, M.2.1, zk_upC M.2.2 b (zk_cpy (M.2.2 a) (M.2.2 b) sp dp n)) F) : zk_Go l Γ I d kc ks Q pc L (.int (iZ zn) :: .int (iZ zd) :: .ref b :: .int (iZ zs) :: .ref a :: st) M F := by
  intro p e R s m args below meth c H locs cells slots Qf A ρ ls hc hr hs9 hR hA hS hL hW hE
  obtain ⟨g1, g2, g3, cs, g4, g5, g6, g7, g8, g9, g10⟩ := hR.arr (k := k) hW.2.2.2.2.1 hs0 (by omega)
  obtain ⟨i1, i2, i3, cd, i4, i5, i6, i7, i8, i9, i10⟩ := hR.arr (k := k) hW.2.2.1 hs1 (by omega)
  have hts := hc.2.2.2.2.1
  obtain ⟨-, kS, q1, cS, q2⟩ := zk_isArr (k := k) (zk_arrOf hc.2.2.2.2.2.2.2.2 g1 g3) g5 g7
  obtain ⟨-, kD, q3, cD, q4⟩ := zk_isArr (k := k) (zk_arrOf hc.2.2.2.2.2.2.2.2 i1 i3) i5 i7
  have nn : ∀ {z : Int} {x : Nat}, z = (x : Int) → x < 2 ^ 31 → ¬ iZ z < 0 ∧ (iZ z).toInt = (x : Int) ∧ (iZ z).toNatClampNeg = x := fun {z x} h hx => by
    subst h
    refine ⟨?_, iZ_toInt ⟨by omega, by omega⟩, by rw [iZ_clamp ⟨by omega, by omega⟩, Int.toNat_natCast]⟩
    rw [iZ_0, iZ_lt ⟨by omega, by omega, by omega, by omega⟩]
    omega
  obtain ⟨s1, s2, s3⟩ := nn h1 (by omega)
  obtain ⟨d1', d2, d3⟩ := nn h2 (by omega)
  obtain ⟨n1', n2, n3⟩ := nn h3 (by omega)
  have hpr : refKind (zk_ty k) = false := by
    rcases (show k = 0 ∨ k = 1 ∨ k = 2 ∨ k = 3 by omega) with rfl | rfl | rfl | rfl <;> rfl
  have hrd : ∀ i, i < n → cs.slots.getD (sp + i) .null = M.2.2 a (sp + i) := fun i hi => by
    rw [Array.getD_eq_getD_getElem?, g10 (sp + i) (by omega)]
    show zk_v ρ (M.2.2 a (sp + i)) = M.2.2 a (sp + i)
    cases hv : M.2.2 a (sp + i) with
    | ref x => exact absurd hv ((hfit i hi).2 x)
    | _ => rfl
  have hsum9 : ((st.map (zk_v ρ)).map fun v => v.category).sum ≤ 8 := by
    rw [List.map_map]
    have e9 : ((fun v : Value => v.category) ∘ zk_v ρ) = fun v : Value => v.category := funext fun v => zk_v_cat ρ v
    rw [e9]
    exact hsum
  have hnw : nativeFrameWords "java/lang/System" "arraycopy" 5 + 11 ≤ 56 := by decide
  intro T hT X
  obtain ⟨vm', X', step⟩ := X.arraycopy hc.1 hc.2.2.2.1 (hts _ hw) (hts _ za_nat) (hts _ za_stat) (hts _ hini) (src := ρ a) (dst := ρ b) (cs := cs) (cd := cd) (srcPos := iZ zs) (destPos := iZ zd) (n := iZ zn) (by rw [hT]; exact g4) (by rw [hT]; exact i4)
    (zk_vs g7) (zk_vs i7) g6 i6 q1 q3 q2 q4 (by simp [hpr]) s1 d1' n1'
    (by rw [s2, n2, g9]; omega) (by rw [d2, n2, i9]; omega)
    (fun vm₁ _ i hi => by
      rw [n3] at hi
      rw [s3, hrd i hi]
      refine ⟨(hfit i hi).1, ?_⟩
      cases hv : M.2.2 a (sp + i) with
      | ref x => exact absurd hv ((hfit i hi).2 x)
      | _ => trivial)
    (g := F0 m pc ls (.int (iZ zn) :: .int (iZ zd) :: .ref (ρ b) :: .int (iZ zs) :: .ref (ρ a) :: st.map (zk_v ρ))) rfl (hL.1.trans hc.2.2.1.symm) (rest := st.map (zk_v ρ)) rfl (by rw [hc.2.1]; exact hd) (by omega) (by show 2 * 0 + _ + _ ≤ _; omega)
  have hcp : copied cs cd (iZ zs) (iZ zd) (iZ zn) = cd.storeRun dp (cs.stretch sp n) := by
    show cd.storeRun (iZ zd).toNatClampNeg (cs.stretch (iZ zs).toNatClampNeg (iZ zn).toNatClampNeg) = _
    rw [s3, d3, n3]
  have hlen : (cs.stretch sp n).length = n := by
    unfold Cell.stretch
    rw [List.length_map, List.length_range]
  obtain ⟨k1, k2, k3, -, -⟩ := cd.storeRun_facts dp (cs.stretch sp n)
  rw [hcp] at X' step
  have hlt : ρ b < H.size := (Array.getElem?_eq_some_iff.mp i4).1
  obtain ⟨H1, hH1⟩ : ∃ H1 : Heap, H1 = H.setIfInBounds (ρ b) (cd.storeRun dp (cs.stretch sp n)) := ⟨_, rfl⟩
  have hheap : ((T.setVm vm').setCell (ρ b) (cd.storeRun dp (cs.stretch sp n))).heap = H1 := by rw [hH1, ← hT]; rfl
  have o1 : ∀ q : Nat, q ≠ ρ b → H1[q]? = H[q]? := fun q hq => by rw [hH1]; simp [Array.getElem?_setIfInBounds, Ne.symm hq]
  have o2 : H1[ρ b]? = some (cd.storeRun dp (cs.stretch sp n)) := by rw [hH1]; simp [Array.getElem?_setIfInBounds, hlt]
  have z1 : H1.size = H.size := by rw [hH1, Array.size_setIfInBounds]
  have hR' : zk_Rl Γ ρ (M.1, M.2.1, zk_upC M.2.2 b (zk_cpy (M.2.2 a) (M.2.2 b) sp dp n)) F H1 := by
    refine hR.putC hb hW.2.2.1 (by rw [hs1]; show 100 + k < 1000; omega) (fun j x hj hx => ?_) z1 o1 ?_
    · unfold zk_cpy at hx
      by_cases q : dp ≤ j ∧ j < dp + n
      · rw [if_pos q] at hx
        exact absurd hx ((hfit (j - dp) (by omega)).2 x)
      · rw [if_neg q] at hx
        exact hR.1.2.2.2.2.2.1 b j x hW.2.2.1 hj hx
    · rw [hs1]
      refine ⟨fun q => absurd (show 100 + k < 100 from q) (by omega), fun _ _ => ⟨show 100 + k < 106 by omega, i2, fun q => absurd q (by omega), ?_⟩⟩
      dsimp only
      rw [Nat.add_sub_cancel_left]
      refine ⟨_, o2, k1.trans i5, by rw [k2]; exact i6, by rw [k2]; exact i7, fun q => by rw [k2]; exact i8 q, k3.trans i9, fun j hj => ?_⟩
      rw [Cell.storeRun_get _ _ _ _ (by rw [hlen, i9]; exact h5), hlen]
      unfold zk_cpy
      by_cases q : dp ≤ j ∧ j < dp + n
      · rw [if_pos q, if_pos q]
        unfold Cell.stretch
        rw [List.getElem?_map, List.getElem?_range (by omega)]
        show some (cs.slots.getD (sp + (j - dp)) .null) = some (zk_v ρ (M.2.2 a (sp + (j - dp))))
        rw [hrd _ (by omega)]
        cases hv : M.2.2 a (sp + (j - dp)) with
        | ref x => exact absurd hv ((hfit (j - dp) (by omega)).2 x)
        | _ => rfl
      · rw [if_neg q, if_neg q]
        exact i10 j hj
  have hS' : va_S A s.heap H1 (locs ++ (cs.stretch (iZ zs).toNatClampNeg (iZ zn).toNatClampNeg).zipIdx.map fun q => ⟨ρ b, (iZ zd).toNatClampNeg + q.2⟩) := by
    have hAb := hA.1 b hb hW.2.2.1 (by rw [hs1]; show 100 + k < 1000; omega)
    refine ⟨by rw [z1]; exact hS.1, fun q g1 g2 => ?_, fun q hq => ?_⟩
    · rw [o1 q (fun e => g2 (by rw [e]; exact hAb))]
      exact hS.2.1 q g1 g2
    · rcases List.mem_append.mp hq with h | h
      · exact hS.2.2 q h
      · obtain ⟨z, -, hz⟩ := List.mem_map.mp h
        rw [← hz]
        exact hAb
  obtain ⟨t, a1, b1⟩ := kk p e R s m args below meth c H1 _ cells slots Qf A ρ ls hc hr hs9 hR' hA hS' hL hW.2.2.2.2.2 (hE.put z1) _ hheap X'
  exact ⟨t, step t a1, b1⟩
theorem zc_same : Cond.sameMethod "[B" "java/lang/Object" "clone" "()Ljava/lang/Object;" ∈ zk_tg := zk_in 1217 (by decide +kernel) rfl
theorem zc_nat : Cond.native ⟨"java/lang/Object", "clone", "()Ljava/lang/Object;"⟩ ∈ zk_tg := zk_in 1218 (by decide +kernel) rfl
theorem zc_inst : Cond.instanceMethod ⟨"java/lang/Object", "clone", "()Ljava/lang/Object;"⟩ ∈ zk_tg := zk_in 1219 (by decide +kernel) rfl
theorem zc_sel : Cond.selects "[B" ⟨"[B", "clone", "()Ljava/lang/Object;"⟩ ⟨"java/lang/Object", "clone", "()Ljava/lang/Object;"⟩ ∈ zk_tg := zk_in 1220 (by decide +kernel) rfl
theorem gz_castB {a n idx : Nat} (hd : decode I.2.1 pc = .ok (.checkcast idx, 3)) (hw : Cond.classLink I.1.cls idx "[B" ∈ zk_tg) (hs : M.1 a = (103, n)) (ha : zk_N ≤ a) (kk : zk_Go l Γ I d kc ks Q (pc + 3) L (.ref a :: st) M F) : zk_Go l Γ I d kc ks Q pc L (.ref a :: st) M F := by
  intro p e R s m args below meth c H locs cells slots Qf A ρ ls hc hr hs9 hR hA hS hL hW hE
  obtain ⟨g1, g2, g3, cs, g4, g5, g6, g7, g8, g9, g10⟩ := hR.arr (k := 3) hW.1 hs (by omega)
  have hfc : s.vm.findClass "[B" = some (Γ.2.2.1 3 a) := (hc.2.2.2.2.2.2.2.2.2.1.1 3 a (by decide) ha).1
  intro T hT X
  obtain ⟨vm', X', step⟩ := X.checkcastYes hc.1 hc.2.2.2.1 (hc.2.2.2.2.1 _ hw) (by rw [hT]; exact g4) g7 hfc (by rw [g5]; exact va_asg _ _) (g := F0 m pc ls (.ref (ρ a) :: st.map (zk_v ρ))) rfl (rest := st.map (zk_v ρ)) rfl (by rw [hc.2.1]; exact hd)
  obtain ⟨t, a1, b1⟩ := kk p e R s m args below meth c H locs cells slots Qf A ρ ls hc hr hs9 hR hA hS hL hW hE (T.setVm vm') hT X'
  exact ⟨t, step t a1, b1⟩
theorem gz_clone {a n idx : Nat} (hd : decode I.2.1 pc = .ok (.invokevirtual idx, 3)) (hw : Cond.methodLink I.1.cls idx ⟨"[B", "clone", "()Ljava/lang/Object;"⟩ ∈ zk_tg) (hs : M.1 a = (103, n)) (ha : zk_N ≤ a) (hfit : ∀ j, j < n → fits .byte (M.2.2 a j) = true ∧ ∀ x, M.2.2 a j ≠ .ref x) (hk1 : 1 ≤ kc ∧ n ≤ ks) (hsum : (st.map fun v => v.category).sum ≤ 8) (hd1 : 1 ≤ d)
    (kk : zk_Go l Γ I d (kc - 1) (ks - n) Q (pc + 3) L (.ref M.2.1 :: st) (zk_add M (103, n) (fun j => if j < n then M.2.2 a j else .null)) F) : zk_Go l Γ I d kc ks Q pc L (.ref a :: st) M F := by
  intro p e R s m args below meth c H locs cells slots Qf A ρ ls hc hr hs9 hR hA hS hL hW hE
  obtain ⟨g1, g2, g3, cs, g4, g5, g6, g7, g8, g9, g10⟩ := hR.arr (k := 3) hW.1 hs (by omega)
  have hts := hc.2.2.2.2.1
  have hfc : s.vm.findClass "[B" = some (Γ.2.2.1 3 a) := (hc.2.2.2.2.2.2.2.2.2.1.1 3 a (by decide) ha).1
  have hge : zk_N ≤ M.2.1 := hR.1.2.2.2.2.2.2
  have hfc2 : s.vm.findClass "[B" = some (Γ.2.2.1 3 M.2.1) := (hc.2.2.2.2.2.2.2.2.2.1.1 3 M.2.1 (by decide) hge).1
  have hcc := hc.2.2.2.2.2.2.2.2.2.2.2.2.2.2.2.2.2 (.castable "[B" "java/lang/Cloneable") (by unfold zk_xw; simp)
  obtain ⟨c0, t0', f1, f2, f3⟩ := Cond.castable_spec (va_Nw.use (A := args) rfl hcc)
  have ec0 : c0 = Γ.2.2.1 3 a := Option.some.inj (f1.symm.trans hfc)
  subst ec0
  obtain ⟨-, kS, q1, cS, q2⟩ := zk_isArr (k := 3) (zk_arrOf hc.2.2.2.2.2.2.2.2 g1 g3) g5 g7
  have hsum9 : ((st.map (zk_v ρ)).map fun v => v.category).sum ≤ 8 := by
    rw [List.map_map]
    have e9 : ((fun v : Value => v.category) ∘ zk_v ρ) = fun v : Value => v.category := funext fun v => zk_v_cat ρ v
    rw [e9]
    exact hsum
  have hrd : ∀ j, j < n → cs.slots[j]? = some (M.2.2 a j) := fun j hj => by
    rw [g10 j hj]
    cases hv : M.2.2 a j with
    | ref x => exact absurd hv ((hfit j hj).2 x)
    | _ => rfl
  intro T hT X
  obtain ⟨k1, hk1', -⟩ : ∃ k1 : Class, T.vm.classes[cs.cls]? = some k1 ∧ k1.kind = kS.kind := by
    obtain ⟨k', hk', he⟩ := X.warmed.alike.2.2 _ _ q1
    exact ⟨k', hk', by rw [he]⟩
  obtain ⟨kT, hkT, hkTk⟩ : ∃ k1 : Class, T.vm.classes[cs.cls]? = some k1 ∧ k1.kind = kS.kind := by
    obtain ⟨k', hk', he⟩ := X.warmed.alike.2.2 _ _ q1
    exact ⟨k', hk', by rw [he]⟩
  obtain ⟨vm', X', st9⟩ := X.cloneArray hc.1 hc.2.2.2.1 (hts _ hw) (hts _ zc_same) (hts _ zc_nat) (hts _ zc_inst) (hts _ zc_sel) (a := ρ a) (cell := cs) (by rw [hT]; exact g4) (zk_vs g7) g6 (by rw [g5]; exact hfc) f2 (by rw [g5]; exact f3)
    (fun i v hv => by
      have hi : i < n := by
        have := (Array.getElem?_eq_some_iff.mp hv).1
        omega
      have e9 : v = M.2.2 a i := Option.some.inj (hv.symm.trans (hrd i hi))
      have this : fits (zk_ty 3) (M.2.2 a i) = true := (hfit i hi).1
      rw [← e9] at this
      simpa [State.fitsSlot, State.slotType?, hkT, hkTk, q2] using this)
    (g := F0 m pc ls (.ref (ρ a) :: st.map (zk_v ρ))) rfl (hL.1.trans hc.2.2.1.symm) (rest := st.map (zk_v ρ)) rfl (by rw [hc.2.1]; exact hd) (by omega) (by show 2 * 0 + _ + 14 ≤ _; omega) (by omega) (by rw [g9]; omega) (hloader := Vm.clonesLoader_of_array q1 q2)
  rw [g9] at X'
  obtain ⟨H1, hH1⟩ : ∃ H1 : Heap, H1 = H.push ({ cls := cs.cls, slots := cs.slots } : Cell) := ⟨_, rfl⟩
  have z1 : H1.size = H.size + 1 := by rw [hH1, Array.size_push]
  have e1 : H1[H.size]? = some ({ cls := cs.cls, slots := cs.slots } : Cell) := by rw [hH1, Array.getElem?_push_size]
  have o1 : ∀ q : Nat, q < H.size → H1[q]? = H[q]? := fun q hq => by rw [hH1, Array.getElem?_push, if_neg (Nat.ne_of_lt hq)]
  have hgo := zk_added (kl := (103, n)) (f := fun j => if j < n then M.2.2 a j else .null) (cells1 := cells + 1) (slots1 := slots + n) (kc1 := kc - 1) (ks1 := ks - n) hc hr ⟨by omega, by omega⟩ hR hA hS hL hW.2 hE z1 o1 (fun j x hx => by
      by_cases q : j < n
      · rw [if_pos q] at hx
        exact (hfit j q).2 x hx
      · rw [if_neg q] at hx
        cases hx) (fun ρ' hρ' => ⟨fun q => absurd (show 103 < 100 from q) (by omega), fun _ _ => ⟨show 103 < 106 by omega, g2, fun q => absurd q (by omega), ({ cls := cs.cls, slots := cs.slots } : Cell), by rw [hρ']; exact e1, ?_, (fun q => nomatch q), rfl, fun _ => rfl, g9, fun j hj => ?_⟩⟩) (by omega) (by omega) kk
  · obtain ⟨t, b1, b2⟩ := hgo ((T.setVm vm').pushCell ({ cls := cs.cls, slots := cs.slots } : Cell)) (by rw [hH1, ← hT]; rfl) X'
    refine ⟨t, st9 t ?_, b2⟩
    rw [hT]
    exact b1
  · show cs.cls = Γ.2.2.1 3 M.2.1
    rw [g5]
    exact Option.some.inj (hfc.symm.trans hfc2)
  · show cs.slots[j]? = some (zk_v ρ' (if j < n then M.2.2 a j else .null))
    rw [if_pos hj, hrd j hj]
    cases hv : M.2.2 a j with
    | ref x => exact absurd hv ((hfit j hj).2 x)
    | _ => rfl
end
end

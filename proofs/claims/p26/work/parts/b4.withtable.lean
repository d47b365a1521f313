/-! A STATIC CALL OF A METHOD WITH HANDLERS -/
section
def zk_wsW (I : zk_MI) (hh : List (Nat × Nat × Nat × Nat)) : List Cond := .codeWith I.1 I.2.1 I.2.2.1 I.2.2.2 hh :: zk_tg
theorem zk_wsW_good (J : zk_MI) {hh : List (Nat × Nat × Nat × Nat)} (hc : Cond.codeWith J.1 J.2.1 J.2.2.1 J.2.2.2 hh ∈ zk_tg) : GoodIn zk_tg (zk_wsW J hh) := fun w h => by
  rcases List.mem_cons.mp h with e | h
  · rw [e]; exact ⟨hc, zk_tg_good hc⟩
  · exact ⟨h, zk_tg_good h⟩
theorem zk_ofW {l : Launch} {y : MethodName} {ws ws' : List Cond} {rm : Room} {Pc : Array Value → State → Prop} {Qc : Array Value → State → Outcome → State → Prop} {mc ms : Nat} {free : Addr → Prop} {cc : ByteArray} {maxL : Nat} {ret : Option FieldType} {hh : List (Nat × Nat × Nat × Nat)}
    (hy : plainName y.cls = true) (hw : ws = Cond.codeWith y cc maxL ret hh :: ws')
    (body : ∀ p e s m args below meth c s₁, BodyLoose p l y (headSpec ws rm) cc maxL ret e s m args below meth c s₁ → c.maxLocals = maxL → Pc args s →
      W p l e (headSpec ws rm).room s m args below meth c s.heap [] 0 0 (MQ below Qc args s mc ms free) (entryFrame m args maxL)) : Met l y ws rm Pc Qc mc ms free := by
  refine MetFree.of_bodyS (code := cc) (maxLocals := maxL) (ret := ret) hy ?_ ?_
  · intro args s m h hn
    obtain ⟨m9, meth, c, hn9, h1, h2, h3, h4, -, h5, h6, -⟩ := Cond.codeWith_spec (atoms_spec (ws := ws) h _ (by rw [hw]; exact List.mem_cons_self))
    cases hn.symm.trans hn9
    exact ⟨meth, c, h1, h2, h3, h4, h5, h6⟩
  · intro p e s m args below meth c s₁ B hml hP _
    have hh0 : s₁.heap = s.heap := by rw [B.state]; rfl
    obtain ⟨t, a1, o, b1, b2, b3⟩ := body p e s m args below meth c s₁ B hml hP s₁ hh0 (Stand.of_body B)
    exact ⟨t, o, a1, b1, b2, ⟨b3.1, b3.2⟩⟩
theorem zk_metW {l : Launch} {Γ : zk_G} {J : zk_MI} {hh : List (Nat × Nat × Nat × Nat)} {d kc ks : Nat} {Q : Option Value → zk_M → (Heap → Prop) → Prop} {As : List Value} {M : zk_M} {F : Heap → Prop} {ρ : Nat → Nat} {sz : Nat} (hy : plainName J.1.cls = true) (hn : (zk_es As).length ≤ J.2.2.1) (hw : zk_wf M.2.1 As) (hnt : J.1.name ∉ zk_mt)
    (h : zk_Go l Γ J d kc ks Q 0 (zk_ent J.2.2.1 As) [] M F) : Met l J.1 (zk_wsW J hh) ({ frames := d, cells := kc, slots := ks, locals := 64 * d }) (zk_Pc Γ ρ As M F sz) (zk_Qc Γ ρ M sz Q) kc ks (zk_free Γ ρ M sz) := by
  refine zk_ofW (hh := hh) (cc := J.2.1) (maxL := J.2.2.1) (ret := J.2.2.2) hy rfl ?_
  intro p e s m args below meth c s₁ B hml hv
  obtain ⟨rfl, hsz, hK, hR⟩ := hv
  subst hsz
  have hts := atoms_spec (ws := zk_wsW J hh) B.pre
  have hcx : zk_Cx Γ J p s m (As.map (zk_v ρ)).toArray meth c := ⟨B.exec, B.bytes, hml, findClass_of_methodNamed B.named, fun w hw => hts w (List.mem_cons_of_mem _ hw), B.returns, ⟨B.notSynchronized, fun hh hhh => vx_table (x := J.1) B (hts _ (List.mem_cons_of_mem _ hhh))⟩, fun e => (name_of_methodNamed B.named B.method).1.trans e, hK⟩
  rw [lg_entry_eq]
  refine h p e _ s m _ below meth c s.heap [] 0 0 _ (zk_free Γ ρ M s.heap.size) ρ _ hcx ⟨Nat.le_refl _, Nat.le_refl _⟩ ⟨by show 0 + kc ≤ kc; omega, by show 0 + ks ≤ ks; omega⟩ hR ⟨fun a h1 h2 h3 => Or.inl ⟨a, h1, h2, h3, rfl⟩, fun q hq => Or.inr (Or.inl hq), fun q hq => Or.inr (Or.inr hq)⟩ va_S.rf (zk_ent_Lr hn hw) trivial ⟨?_, fun M' F' ρ' H' locs' cells' slots' pc' ls' a1 a2 a3 a4 a5 a6 a7 a8 => absurd a8.1 hnt⟩
  intro v M' F' ρ' H' locs' cells' slots' pc' ls' hq hR' hx hwf hS' hc1 hs1 hret
  have hq9 : ∀ t : State, t.heap = H' → zk_Qc Γ ρ M s.heap.size Q (As.map (zk_v ρ)).toArray s (.returned (v.map (zk_v ρ'))) t := fun t ht => ⟨v, M', F', ρ', rfl, hq, by rw [ht]; exact hR', by rw [ht]; exact hx, hwf, hS'.F ht⟩
  have hlk := hcx.2.2.2.2.2.2.1.1
  refine W.widen (k := kc) (n := ks) (by omega) (by omega) ?_
  unfold zk_ret at hret
  cases v with
  | none => exact W.vret hcx.1 hcx.2.1 (hcx.2.2.2.2.2.1.trans hret.2) (fun t ht _ => hq9 t ht) hS'.2.2 hret.1 hlk
  | some w =>
    cases w with
    | int x =>
      obtain ⟨h1, ty, h2, h3⟩ := hret
      exact W.zret hcx.1 hcx.2.1 (hcx.2.2.2.2.2.1.trans h2) h3 (fun t ht _ => hq9 t ht) hS'.2.2 h1 hlk
    | long x => exact W.lret hcx.1 hcx.2.1 (hcx.2.2.2.2.2.1.trans hret.2) (fun t ht _ => hq9 t ht) hS'.2.2 hret.1 hlk
    | double x => exact W.dret hcx.1 hcx.2.1 (hcx.2.2.2.2.2.1.trans hret.2) (fun t ht _ => hq9 t ht) hS'.2.2 hret.1 hlk
    | ref x =>
      obtain ⟨h1, ty, h2, h3⟩ := hret
      exact W.aret hcx.1 hcx.2.1 (hcx.2.2.2.2.2.1.trans h2) h3 (Or.inr ⟨ρ' x, rfl⟩) (fun t ht _ => hq9 t ht) hS'.2.2 h1 hlk
    | null =>
      obtain ⟨h1, ty, h2, h3⟩ := hret
      exact W.aret hcx.1 hcx.2.1 (hcx.2.2.2.2.2.1.trans h2) h3 (Or.inl rfl) (fun t ht _ => hq9 t ht) hS'.2.2 h1 hlk
    | float x => exact hret.elim
    | retAddr x => exact hret.elim
section
variable {l : Launch} {Γ : zk_G} {I : zk_MI} {d kc ks : Nat} {Q : Option Value → zk_M → (Heap → Prop) → Prop} {pc : Nat} {L : List (Option Value)} {st : List Value} {M : zk_M} {F : Heap → Prop}
theorem gz_invsW {hh : List (Nat × Nat × Nat × Nat)} {J : zk_MI} {d1 kc1 ks1 : Nat} {Q1 : Option Value → zk_M → (Heap → Prop) → Prop} {idx n : Nat} (As st : List Value) {st0 : List Value} (hd : decode I.2.1 pc = .ok (.invokestatic idx, 3)) (hst : st0 = As.reverse ++ st)
    (hw : Cond.methodLink I.1.cls idx J.1 ∈ zk_tg) (hin : Cond.static J.1 ∈ zk_tg) (hini : Cond.initialized J.1.cls ∈ zk_tg) (hcode : Cond.codeWith J.1 J.2.1 J.2.2.1 J.2.2.2 hh ∈ zk_tg)
    (hpl : plainName J.1.cls = true ∧ J.1.cls ≠ "java/lang/invoke/MethodHandle" ∧ J.1.cls ≠ "java/lang/invoke/VarHandle" ∧ (parseMethodDescriptor J.1.desc).map (fun d => d.parameters.length) = some n) (hn : As.length = n) (hm : J.2.2.1 ≤ 45 ∧ (zk_es As).length ≤ J.2.2.1) (hsum : (st.map fun v => v.category).sum ≤ 8)
    (hd1 : d1 + 1 ≤ d) (hkk : kc1 ≤ kc ∧ ks1 ≤ ks) (hnt : J.1.name ∉ zk_mt) (hgo : zk_Go l Γ J d1 kc1 ks1 Q1 0 (zk_ent J.2.2.1 As) [] M F)
    (kk : ∀ v M' F', Q1 v M' F' → zk_Go l Γ I d (kc - kc1) (ks - ks1) Q (pc + 3) L (v.toList ++ st) M' F') : zk_Go l Γ I d kc ks Q pc L st0 M F := by
  intro p e R s m args below meth c H locs cells slots Qf A ρ ls hc hr hs9 hR hA hS hL hW hE
  subst hst
  obtain ⟨hW1, hW2⟩ := zk_wf_app hW
  have hwAs : zk_wf M.2.1 As := zk_wf_of fun v hv => zk_wf_mem hW1 (List.mem_reverse.mpr hv)
  have hM := zk_metW (hh := hh) (ρ := ρ) (sz := H.size) hpl.1 hm.2 hwAs hnt hgo
  have hG : GoodIn zk_tg (va_wsS I.1.cls idx J.1 (zk_wsW J hh)) := fun w h => by
    rcases List.mem_append.mp h with h | h
    · rcases List.mem_cons.mp h with e | h
      · rw [e]; exact ⟨hw, zk_tg_good hw⟩
      rcases List.mem_cons.mp h with e | h
      · rw [e]; exact ⟨hin, zk_tg_good hin⟩
      rcases List.mem_cons.mp h with e | h
      · rw [e]; exact ⟨hini, zk_tg_good hini⟩
      · cases h
    · exact zk_wsW_good J hcode w h
  have hrun := vx_runSW (hh := hh) (e := e) (below := below) (meth := meth) (As := As.map (zk_v ρ)) (rest := st.map (zk_v ρ)) (g := F0 m pc ls ((As.reverse ++ st).map (zk_v ρ))) (H := H) (locs := locs) (cells := cells) (slots := slots) ⟨hc.1, hc.2.1, hc.2.2.1, hc.2.2.2.1, hc.2.2.2.2.1⟩ hM (vx_cwSW n hc.2.2.2.2.1 hG rfl rfl rfl hpl.2 (zk_fits hr hd1 hm.1))
    ⟨zk_Pc_blind, fun U hU hW9 => ⟨rfl, by rw [hU], hc.2.2.2.2.2.2.2.2.warm hW9, by rw [hU]; exact hR⟩⟩ rfl (by rw [List.length_map]; exact hn) hL.1 (by show ((As.reverse ++ st).map (zk_v ρ)) = _; rw [List.map_append, List.map_reverse]) (lv_room (by rw [List.map_map]; have e : ((fun v : Value => v.category) ∘ zk_v ρ) = fun v : Value => v.category := funext fun v => zk_v_cat ρ v; rw [e]; exact hsum)) hd ⟨by omega, by omega⟩
  exact zk_called (J := J) (d1 := d1) (st0 := []) hrun hc hr hs9 hA hS hL hW2 hE hkk kk
end
abbrev mL_act : zk_MI := (yL_act, cL_act, 9, some FieldType.boolean)
abbrev hL_act : List (Nat × Nat × Nat × Nat) := [(164, 196, 197, 162), (243, 268, 269, 162), (337, 365, 366, 162)]
theorem jiL_act : Cond.static yL_act ∈ zk_tg := zk_in 1431 (by decide +kernel) rfl
theorem jcL_act : Cond.codeWith yL_act cL_act 9 (some FieldType.boolean) hL_act ∈ zk_tg := zk_in 1432 (by decide +kernel) rfl
theorem jpL_act : plainName yL_act.cls = true ∧ yL_act.cls ≠ "java/lang/invoke/MethodHandle" ∧ yL_act.cls ≠ "java/lang/invoke/VarHandle" ∧ (parseMethodDescriptor yL_act.desc).map (fun d => d.parameters.length) = some 3 := ⟨by decide +kernel, by decide +kernel, by decide +kernel, by decide +kernel⟩
theorem zs_try : ∀ {s U : State}, s.WarmedH U.vm → va_Nw (.selects "java/lang/StringBuilder" yJ5_newCapacity_0f7a4 yJ5_newCapacity_0f7a4) s → va_Nw (.selects "java/lang/StringBuilder" yJ5_newCapacity_0f7a4 yJ5_newCapacity_0f7a4) U := fun hW h => word_at hW (good_of_word rfl) h
end

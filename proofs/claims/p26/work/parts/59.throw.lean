/-! EXCEPTIONS -/
section
variable {l : Launch} {Γ : zk_G} {d : Nat} {Z : Nat → Nat → Int} {F : Heap → Prop}
section
variable {I : zk_MI} {kc ks : Nat} {Q : Option Value → zk_M → (Heap → Prop) → Prop} {pc : Nat} {L : List (Option Value)} {st : List Value} {M : zk_M}
theorem gz_throw (ht : zk_thr I pc) (hk : 1 ≤ kc ∧ 6 ≤ ks) (hq : Q (some (.retAddr 0)) M F) : zk_Go l Γ I d kc ks Q pc L [] M F := by
  intro p e R s m args below meth c H locs cells slots Qf A ρ ls hc hr hs hR hA hS hL hW hE
  exact hE.2 M F ρ H locs cells slots pc ls hq hR zk_ext.refl hS (by omega) (by omega) hL.1 ht
end
def zk_XC (Γ : zk_G) (ρ : Nat → Nat) (M : zk_M) (sz : Nat) (Q : Option Value → zk_M → (Heap → Prop) → Prop) : String → State → State → Prop := fun E st t =>
  E = zk_X ∧ ∃ (M' : zk_M) (F' : Heap → Prop) (ρ' : Nat → Nat), Q (some (.retAddr 0)) M' F' ∧ zk_Rl Γ ρ' M' F' t.heap ∧ zk_ext ρ M st.heap ρ' M' t.heap ∧ va_F (zk_free Γ ρ M sz) st t
theorem zk_ext.grow {ρ ρ' : Nat → Nat} {M M' : zk_M} {H H' H2 : Heap} (h : zk_ext ρ M H ρ' M' H') (hz : H'.size ≤ H2.size) : zk_ext ρ M H ρ' M' H2 := ⟨h.1, h.2.1, Nat.le_trans h.2.2.1 hz, h.2.2.2⟩
def zk_nX (Q : Option Value → zk_M → (Heap → Prop) → Prop) : Option Value → zk_M → (Heap → Prop) → Prop := fun v M' F' => Q v M' F' ∧ ∀ x, v ≠ some (.retAddr x)
theorem zk_metX {l : Launch} {Γ : zk_G} {J : zk_MI} {d kc ks : Nat} {Q : Option Value → zk_M → (Heap → Prop) → Prop} {As : List Value} {M : zk_M} {F : Heap → Prop} {ρ : Nat → Nat} {sz : Nat} (hl : l.stackTraces = false) (hd : 6 ≤ d) (hy : plainName J.1.cls = true) (hn : (zk_es As).length ≤ J.2.2.1) (hw : zk_wf M.2.1 As)
    (h : zk_Go l Γ J d kc ks Q 0 (zk_ent J.2.2.1 As) [] M F) : vx_Met l J.1 (zk_ws J) ({ frames := d, cells := kc, slots := ks, locals := 64 * d }) (zk_Pc Γ ρ As M F sz) (zk_Qc Γ ρ M sz (zk_nX Q)) (zk_XC Γ ρ M sz Q) kc ks (zk_free Γ ρ M sz) := by
  refine vx_ofW (cc := J.2.1) (maxL := J.2.2.1) (ret := J.2.2.2) hy rfl ?_
  intro p e s m args below meth c s₁ B hml htab hv
  obtain ⟨rfl, hsz, hK, hR⟩ := hv
  subst hsz
  have hts := atoms_spec (ws := zk_ws J) B.pre
  have hcx : zk_Cx Γ J p s m (As.map (zk_v ρ)).toArray meth c := ⟨B.exec, B.bytes, hml, findClass_of_methodNamed B.named, fun w hw => hts w (List.mem_cons_of_mem _ hw), B.returns, ⟨B.notSynchronized, fun hh hhh => vx_table (x := J.1) B (hts _ (List.mem_cons_of_mem _ hhh))⟩, fun e => (name_of_methodNamed B.named B.method).1.trans e, hK⟩
  have hsub : ∀ q, zk_free Γ ρ M s.heap.size q → Γ.2.1.size ≤ q := fun q hq => by
    rcases hq with ⟨a, h1, h2, h3, rfl⟩ | hq | hq
    · exact hR.1.2.2.2.1 a h1 h2 h3
    · exact Nat.le_trans hR.1.2.2.1.2 hq
    · exact (hR.2.2.2.1 q hq).2
  rw [lg_entry_eq]
  refine h p e _ s m _ below meth c s.heap [] 0 0 _ (zk_free Γ ρ M s.heap.size) ρ _ hcx ⟨Nat.le_refl _, Nat.le_refl _⟩ ⟨by show 0 + kc ≤ kc; omega, by show 0 + ks ≤ ks; omega⟩ hR ⟨fun a h1 h2 h3 => Or.inl ⟨a, h1, h2, h3, rfl⟩, fun q hq => Or.inr (Or.inl hq), fun q hq => Or.inr (Or.inr hq)⟩ va_S.rf (zk_ent_Lr hn hw) trivial ⟨?_, ?_⟩
  · intro v M' F' ρ' H' locs' cells' slots' pc' ls' hq hR' hx hwf hS' hc1 hs1 hret
    have hnr : ∀ x, v ≠ some (.retAddr x) := fun x e => by
      rw [e] at hret
      exact hret
    have hq9 : ∀ t : State, t.heap = H' → zk_Qc Γ ρ M s.heap.size (zk_nX Q) (As.map (zk_v ρ)).toArray s (.returned (v.map (zk_v ρ'))) t := fun t ht => ⟨v, M', F', ρ', rfl, ⟨hq, hnr⟩, by rw [ht]; exact hR', by rw [ht]; exact hx, hwf, hS'.F ht⟩
    have hlk := hcx.2.2.2.2.2.2.1.1
    refine vx_ret ?_
    refine W.widen (k := kc) (n := ks) (by omega) (by omega) ?_
    unfold zk_ret at hret
    cases v with
    | none => exact W.vret hcx.1 hcx.2.1 (hcx.2.2.2.2.2.1.trans hret.2) (fun t ht _ => hq9 t ht) hS'.2.2 hret.1 hlk
    | some w =>
      cases w with
      | int x =>
        obtain ⟨h1, ty, h2, h3⟩ := hret
        exact W.zret hcx.1 hcx.2.1 (hcx.2.2.2.2.2.1.trans h2) h3 (fun t ht _ => hq9 t ht) hS'.2.2 h1 hlk
      | long x => exact W.lret hcx.1 hcx.2.1 (hcx.2.2.2.2.2.1.trans hret.2) (fun t ht _ => hq9 t ht) hS'.2.2 hret.1 hlk
      | double x => exact W.dret hcx.1 hcx.2.1 (hcx.2.2.2.2.2.1.trans hret.2) (fun t ht _ => hq9 t ht) hS'.2.2 hret.1 hlk
      | ref x =>
        obtain ⟨h1, ty, h2, h3⟩ := hret
        exact W.aret hcx.1 hcx.2.1 (hcx.2.2.2.2.2.1.trans h2) h3 (Or.inr ⟨ρ' x, rfl⟩) (fun t ht _ => hq9 t ht) hS'.2.2 h1 hlk
      | null =>
        obtain ⟨h1, ty, h2, h3⟩ := hret
        exact W.aret hcx.1 hcx.2.1 (hcx.2.2.2.2.2.1.trans h2) h3 (Or.inl rfl) (fun t ht _ => hq9 t ht) hS'.2.2 h1 hlk
      | float x => exact hret.elim
      | retAddr x => exact hret.elim
  · intro M' F' ρ' H' locs' cells' slots' pc' ls' hq hR' hx hS' hc1 hs1 hls ht
    obtain ⟨-, ik, is, ic, sa, tx, t0, t3, t4, t6, t9, tr, tk, ti, ta⟩ := ht
    have hg : ∀ w, w ∈ zk_tg → w.before (As.map (zk_v ρ)).toArray s = true := fun w hw => hts w (List.mem_cons_of_mem _ hw)
    refine vx_throwS (own := J.1.cls) (cls := zk_X) (text := tx) (names := zk_Xn) (ik := ik) (is := is) (ic := ic) (sa := Γ.2.2.2.1 sa) (A := zk_free Γ ρ M s.heap.size) hcx.1 hcx.2.1 hl hcx.2.2.2.1 (by decide +kernel) (by decide +kernel) (hg _ tk) (hg _ ti) (hK.2.2.2.1 _ tr) (fun w hw => (ta w hw).elim (fun q => hg w q) (fun q => (hK.2.2.2.2.2.2.2.2.2 w q).use (zk_xw_ok q).1)) (fun w hw => ?_) ?_ ?_ hS' (hls.trans hml.symm) t0 t3 t4 t6 t9 (fun x hx => (htab x hx).elim) ?_ ?_ (by show cells' + 1 ≤ kc; omega) (by show slots' + 6 ≤ ks; omega) hcx.2.2.2.2.2.2.1.1 (fun t hal hz ho => ?_) hS'.2.2 (by omega) (by omega)
    · have hm : w ∈ zk_tg ∨ w ∈ zk_xw := by
        rcases List.mem_cons.mp hw with e | hw
        · rw [e]; exact Or.inl tk
        rcases List.mem_cons.mp hw with e | hw
        · rw [e]; exact Or.inl ti
        · exact ta w hw
      unfold vx_ot
      rcases hm with hm | hm
      · rw [(List.mem_filter.mp hm).2, Bool.or_true]
      · rw [(zk_xw_ok hm).1, Bool.true_or]
    · exact (hK.2.2.2.2.1.1.kept (fun a ha _ => hR.1.2.2.1.1 a ha)).narrow hsub
    · exact (hK.2.2.2.2.1.2.1.kept (fun a ha _ => hR.1.2.2.1.1 a ha)).narrow hsub
    · show zk_Xn.length + 3 < d
      have : zk_Xn.length = 2 := rfl
      omega
    · show (([] : List Value).map fun v => v.category).sum + (13 * (zk_Xn.length + 1) + 43) ≤ 64 * d
      have : zk_Xn.length = 2 := rfl
      simp only [List.map_nil, List.sum_nil]
      omega
    · exact ⟨rfl, M', F', ρ', hq, hR'.grow hz ho, hx.grow hz, Nat.le_trans hS'.1 hz, fun q h1 h2 => (ho q (Nat.lt_of_lt_of_le h1 hS'.1)).trans (hS'.2.1 q h1 h2)⟩
/-- the exception goes into a local that tells nothing -/
theorem zk_drop {ρ : Nat → Nat} {n nL : Nat} {L : List (Option Value)} {ls : Array Slot} (h : zk_Lr ρ n nL L ls) {i q : Nat} (hi : i < L.length) : ∃ ls', storeLocals ls i (.ref q) = some ls' ∧ zk_Lr ρ n nL ((zk_cl L i).set i none) ls' := by
  obtain ⟨l, hl, hm⟩ := zk_Lr_has h
  have hlen := h.2.1
  obtain ⟨ls', e, h'⟩ := lv_store1 (v := .ref q) hl (i := i) (by omega) rfl
  refine ⟨ls', e, h'.1, ((List.length_set).trans (zk_cl_len L i)).trans hlen, h'.2.1, fun j w hj => ?_⟩
  by_cases e3 : j = i
  · subst e3
    rw [List.getElem?_set_self (by rw [zk_cl_len]; omega)] at hj
    cases hj
  · rw [List.getElem?_set_ne (Ne.symm e3)] at hj
    obtain ⟨a1, a2⟩ := zk_cl_get hj
    refine ⟨h'.2.2 (j, zk_v ρ w) (List.mem_cons_of_mem _ (List.mem_filter.mpr ⟨hm j w a1, ?_⟩)), (h.2.2.2 j w a1).2⟩
    simp only [Bool.and_eq_true, Bool.not_eq_true', beq_eq_false_iff_ne, ne_eq, Bool.and_eq_false_iff]
    refine ⟨e3, ?_⟩
    by_cases e4 : j + 1 = i
    · refine Or.inr ?_
      intro q
      rw [zk_v_cat] at q
      exact a2 ⟨e4, (zk_c2_iff w).mpr q⟩
    · exact Or.inl e4
section
variable {I : zk_MI} {kc ks : Nat} {Q : Option Value → zk_M → (Heap → Prop) → Prop} {pc : Nat} {L : List (Option Value)} {M : zk_M}
/-- a call of an object's method in a try: it returns, or what it throws is caught, and put into a local -/
theorem gz_invvX {J : zk_MI} {d1 kc1 ks1 : Nat} {Q1 : Option Value → zk_M → (Heap → Prop) → Prop} {idx k len b n hpc ct i : Nat} (hh : List (Nat × Nat × Nat × Nat)) (pre : List ExceptionTableEntry) (xe : ExceptionTableEntry) (suf : List ExceptionTableEntry) (As : List Value) {st0 : List Value} (hl : l.stackTraces = false) (hd6 : 6 ≤ d1)
    (hcw : Cond.codeWith I.1 I.2.1 I.2.2.1 I.2.2.2 hh ∈ zk_tg) (hsp : tableOf hh = pre ++ xe :: suf) (hpr : ∀ z ∈ pre, covers z pc = false) (hxc : covers xe pc = true) (hct : xe.catchType = ct) (hct0 : ct ≠ 0) (hhp : xe.handlerPc = hpc) (hcl1 : Cond.classLink I.1.cls ct zk_X ∈ zk_tg)
    (hda : decode I.2.1 hpc = .ok (.astore i, 2)) (hi : i < L.length)
    (hd : decode I.2.1 pc = .ok (.invokevirtual idx, 3)) (hst : st0 = As.reverse ++ [.ref b])
    (hs : M.1 b = (k, len)) (hk : k < 100) (hcl : (zk_cs[k]?).map (fun r => r.1) = some J.1.cls)
    (hw : Cond.methodLink I.1.cls idx J.1 ∈ zk_tg) (hin : Cond.instanceMethod J.1 ∈ zk_tg) (hse : Cond.selects J.1.cls J.1 J.1 ∈ zk_tg) (hini : Cond.initialized J.1.cls ∈ zk_tg) (hcode : Cond.code J.1 J.2.1 J.2.2.1 J.2.2.2 ∈ zk_tg)
    (hpl : plainName J.1.cls = true ∧ J.1.cls ≠ "java/lang/invoke/MethodHandle" ∧ J.1.cls ≠ "java/lang/invoke/VarHandle" ∧ (parseMethodDescriptor J.1.desc).map (fun d => d.parameters.length) = some n) (hn : As.length = n) (hm : J.2.2.1 ≤ 45 ∧ (zk_es (.ref b :: As)).length ≤ J.2.2.1)
    (hd1 : d1 + 1 ≤ d) (hkk : kc1 ≤ kc ∧ ks1 ≤ ks) (hgo : zk_Go l Γ J d1 kc1 ks1 Q1 0 (zk_ent J.2.2.1 (.ref b :: As)) [] M F)
    (kk : ∀ v M' F', Q1 v M' F' → (∀ x, v ≠ some (.retAddr x)) → zk_Go l Γ I d (kc - kc1) (ks - ks1) Q (pc + 3) L v.toList M' F')
    (kx : ∀ M' F', Q1 (some (.retAddr 0)) M' F' → zk_Go l Γ I d (kc - kc1) (ks - ks1) Q (hpc + 2) ((zk_cl L i).set i none) [] M' F') : zk_Go l Γ I d kc ks Q pc L st0 M F := by
  intro p e R s m args below meth c H locs cells slots Qf A ρ ls hc hr hs9 hR hA hS hL hW hE
  subst hst
  obtain ⟨hW1, hW2⟩ := zk_wf_app hW
  have hwAs : zk_wf M.2.1 (.ref b :: As) := ⟨hW2.1, zk_wf_of fun v hv => zk_wf_mem hW1 (List.mem_reverse.mpr hv)⟩
  have hM := zk_metX (ρ := ρ) (sz := H.size) hl hd6 hpl.1 hm.2 hwAs hgo
  obtain ⟨⟨r, hr1, hr2⟩, cell, h1, h2, h3, h4, -⟩ := hR.obj hW2.1 hs hk
  have hfc := (hc.2.2.2.2.2.2.2.2.1 k r hr1).1
  rw [hr1] at hcl
  have ecl : r.1 = J.1.cls := Option.some.inj hcl
  rw [ecl] at hfc
  have hG : GoodIn zk_tg (wsV I.1.cls idx J.1.cls J.1 (zk_ws J)) := fun w h => by
    rcases List.mem_append.mp h with h | h
    · rcases List.mem_cons.mp h with e | h
      · rw [e]; exact ⟨hw, zk_tg_good hw⟩
      rcases List.mem_cons.mp h with e | h
      · rw [e]; exact ⟨hin, zk_tg_good hin⟩
      rcases List.mem_cons.mp h with e | h
      · rw [e]; exact ⟨hse, zk_tg_good hse⟩
      rcases List.mem_cons.mp h with e | h
      · rw [e]; exact ⟨hini, zk_tg_good hini⟩
      · cases h
    · exact zk_ws_good J hcode w h
  have hrun := vx_runV (e := e) (below := below) (meth := meth) (As := As.map (zk_v ρ)) (rest := []) (g := F0 m pc ls ((As.reverse ++ [Value.ref b]).map (zk_v ρ))) (H := H) (locs := locs) (cells := cells) (slots := slots) (b := ρ b) ⟨hc.1, hc.2.1, hc.2.2.1, hc.2.2.2.1, hc.2.2.2.2.1⟩ hM (cwV n hc.2.2.2.2.1 hG rfl rfl rfl ⟨rfl, hpl.2⟩ (zk_fits hr hd1 hm.1))
    ⟨zk_Pc_blind, ⟨cell, h1, h4, by rw [h2]; exact hfc⟩, fun U hU hW9 => ⟨rfl, by rw [hU], hc.2.2.2.2.2.2.2.2.warm hW9, by rw [hU]; exact hR⟩⟩ rfl (by rw [List.length_map]; exact hn) hL.1 (by show ((As.reverse ++ [Value.ref b]).map (zk_v ρ)) = _; rw [List.map_append, List.map_reverse]; rfl) (by show 2 * 0 + _ ≤ 8; decide) hd ⟨by omega, by omega⟩
  have hfA : ∀ q, zk_free Γ ρ M H.size q → A q := fun q h => by
    rcases h with ⟨x, h1, h2, h3, rfl⟩ | h | h
    · exact hA.1 x h1 h2 h3
    · exact hA.2.1 q (Nat.le_trans hS.1 h)
    · exact hA.2.2 q h
  intro T hT X
  rcases hrun T hT X with ⟨v, st₀, t, T', L9, h0, X', hL9, e1, e2, ⟨v1, M', F', ρ', hv, hq, hR', hx, hwf, hz, hkeep⟩, step⟩ | ⟨q, st₀, t, T', L9, E, ce, h0, X', hL9, e1, e2, ⟨hE9, M', F', ρ', hq, hR', hx, hz, hkeep⟩, hce, hcv, hcf, step⟩
  · have hv' : v = v1.map (zk_v ρ') := Outcome.returned.inj hv
    subst hv'
    subst h0
    have hS' : va_S A s.heap t.heap (locs ++ L9) := by
      refine ⟨Nat.le_trans hS.1 hz, fun q h1 h2 => (hkeep q (Nat.lt_of_lt_of_le h1 hS.1) (fun h => h2 (hfA q h))).trans (hS.2.1 q h1 h2), fun q hq => ?_⟩
      rcases List.mem_append.mp hq with h | h
      · exact hS.2.2 q h
      · exact hfA _ (hL9 q h)
    obtain ⟨hW3, hst2⟩ := zk_wf.later (st := []) hx trivial
    have hgo2 := kk v1 M' F' hq.1 hq.2 p e R s m args below meth c t.heap (locs ++ L9) (cells + kc1) (slots + ks1) Qf A ρ' ls hc hr ⟨by omega, by omega⟩ hR' (hA.later hx hS.1) hS' (hL.later hx)
      (by
        cases v1 with
        | none => exact trivial
        | some w => exact ⟨hwf w rfl, trivial⟩)
      (hE.later hx (by omega) (by omega))
    have he : (v1.toList).map (zk_v ρ') = (v1.map (zk_v ρ')).toList := by cases v1 <;> rfl
    rw [he] at hgo2
    obtain ⟨t2, a1, b1⟩ := hgo2 T' e1 X'
    refine ⟨t2, step t2 ?_, b1⟩
    rw [List.append_nil]
    exact a1
  · subst h0
    subst hE9
    have hS' : va_S A s.heap t.heap (locs ++ L9) := by
      refine ⟨Nat.le_trans hS.1 hz, fun q h1 h2 => (hkeep q (Nat.lt_of_lt_of_le h1 hS.1) (fun h => h2 (hfA q h))).trans (hS.2.1 q h1 h2), fun q hq => ?_⟩
      rcases List.mem_append.mp hq with h | h
      · exact hS.2.2 q h
      · exact hfA _ (hL9 q h)
    have hL' : zk_Lr ρ' M'.2.1 I.2.2.1 L ls := hL.later hx
    obtain ⟨ls', es, hL2⟩ := zk_drop hL' (i := i) (q := q) hi
    have hgo2 := kx M' F' hq p e R s m args below meth c t.heap (locs ++ L9) (cells + kc1) (slots + ks1) Qf A ρ' ls' hc hr ⟨by omega, by omega⟩ hR' (hA.later hx hS.1) hS' hL2 trivial (hE.later hx (by omega) (by omega))
    have hcat : W p l e R s m args below meth c t.heap (locs ++ L9) (cells + kc1) (slots + ks1) Qf (F0 m hpc ls [.ref q]) := by
      intro T2 hT2 X2
      obtain ⟨t2, a1, b1⟩ := hgo2 T2 hT2 X2
      refine ⟨t2, ?_, b1⟩
      have hx9 := hc.1
      have hb9 := hc.2.1
      jvm_step X2.here [X2.here.top, ↓top_set X2.here.top, hx9, hb9, hda, es, Value.isRef]
      exact a1
    have hxw := vx_catch (own := I.1.cls) (name := zk_X) (E := zk_X) (ce := ce) (q := q) (pc := pc) (ls := ls) (rest := []) hc.2.2.2.1 pre xe suf ((hc.2.2.2.2.2.2.1.2 hh hcw).trans hsp) (fun z hz => Or.inl (hpr z hz)) hxc (by rw [hct]; exact hct0) (by rw [hct]; exact hc.2.2.2.2.1 _ hcl1) ((hc.2.2.2.2.2.2.2.2.2.2.2.2.2.2.2.2.2 (Cond.castable zk_X zk_X) (by simp [zk_xw])).use rfl) hce hcv hcf (by rw [hhp]; exact hcat)
    obtain ⟨t2, a1, b1⟩ := hxw T' e1 X'
    exact ⟨t2, step.trans a1, b1⟩
end
end

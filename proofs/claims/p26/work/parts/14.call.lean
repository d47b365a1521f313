/-! CALLS -/
def zk_es (As : List Value) : List (Option Value) := As.flatMap fun v => if zk_c2 v = true then [some v, none] else [some v]
/-- the locals at a method's entry -/
def zk_ent (nL : Nat) (As : List Value) : List (Option Value) := zk_es As ++ List.replicate (nL - (zk_es As).length) none
theorem zk_es_len (ρ : Nat → Nat) (As : List Value) : (lg_sl (As.map (zk_v ρ))).length = (zk_es As).length := by
  induction As with
  | nil => rfl
  | cons v As ih =>
    simp only [lg_sl, zk_es, List.map_cons, List.flatMap_cons, List.length_append] at ih ⊢
    have e : (zk_v ρ v).category = 2 ↔ zk_c2 v = true := by rw [zk_v_cat]; exact (zk_c2_iff v).symm
    by_cases h : zk_c2 v = true
    · rw [if_pos (e.mpr h), if_pos h, ih]
      rfl
    · rw [if_neg (fun q => h (e.mp q)), if_neg h, ih]
      rfl
theorem zk_es_at (ρ : Nat → Nat) : ∀ (As : List Value) (i : Nat) (v : Value), (zk_es As)[i]? = some (some v) → (lg_sl (As.map (zk_v ρ)))[i]? = some (.val (zk_v ρ v)) ∧ v ∈ As
  | [], i, v, h => by simp [zk_es] at h
  | w :: As, i, v, h => by
    have ih := zk_es_at ρ As
    have e : (zk_v ρ w).category = 2 ↔ zk_c2 w = true := by rw [zk_v_cat]; exact (zk_c2_iff w).symm
    have e1 : zk_es (w :: As) = (if zk_c2 w = true then [some w, none] else [some w]) ++ zk_es As := by simp [zk_es]
    have e2 : lg_sl ((w :: As).map (zk_v ρ)) = (if (zk_v ρ w).category = 2 then [.val (zk_v ρ w), .second] else [.val (zk_v ρ w)]) ++ lg_sl (As.map (zk_v ρ)) := by simp [lg_sl]
    rw [e1] at h
    rw [e2]
    by_cases hc : zk_c2 w = true
    · rw [if_pos hc] at h
      rw [if_pos (e.mpr hc)]
      match i with
      | 0 => cases h; exact ⟨rfl, List.mem_cons_self⟩
      | 1 => cases h
      | i + 2 =>
        obtain ⟨a, b⟩ := ih i v h
        exact ⟨a, List.mem_cons_of_mem _ b⟩
    · rw [if_neg hc] at h
      rw [if_neg (fun q => hc (e.mp q))]
      match i with
      | 0 => cases h; exact ⟨rfl, List.mem_cons_self⟩
      | i + 1 =>
        obtain ⟨a, b⟩ := ih i v h
        exact ⟨a, List.mem_cons_of_mem _ b⟩
theorem zk_wf_mem {n : Nat} : ∀ {As : List Value} {v : Value}, zk_wf n As → v ∈ As → zk_in_n n v
  | [], _, _, h => by cases h
  | w :: As, v, hw, h => by
    rcases List.mem_cons.mp h with e | h
    · rw [e]; exact hw.1
    · exact zk_wf_mem hw.2 h
theorem zk_wf_app {n : Nat} : ∀ {As Bs : List Value}, zk_wf n (As ++ Bs) → zk_wf n As ∧ zk_wf n Bs
  | [], _, h => ⟨trivial, h⟩
  | _ :: As, _, h => ⟨⟨h.1, (zk_wf_app (As := As) h.2).1⟩, (zk_wf_app (As := As) h.2).2⟩
theorem zk_wf_of {n : Nat} : ∀ {As : List Value}, (∀ v ∈ As, zk_in_n n v) → zk_wf n As
  | [], _ => trivial
  | _ :: _, h => ⟨h _ List.mem_cons_self, zk_wf_of (fun v hv => h v (List.mem_cons_of_mem _ hv))⟩
theorem zk_in_le {n m : Nat} (h : n ≤ m) {v : Value} (hv : zk_in_n n v) : zk_in_n m v := by
  cases v with
  | ref x => exact Nat.lt_of_lt_of_le hv h
  | _ => trivial
theorem zk_ent_Lr {ρ : Nat → Nat} {n nL : Nat} {As : List Value} (h : (zk_es As).length ≤ nL) (hw : zk_wf n As) : zk_Lr ρ n nL (zk_ent nL As) ((lg_sl (As.map (zk_v ρ)) ++ List.replicate (nL - (lg_sl (As.map (zk_v ρ))).length) Slot.unset).toArray) := by
  have hl := lv_entry (As.map (zk_v ρ)) (n := nL) (by rw [zk_es_len]; exact h)
  refine ⟨hl.1, by simp [zk_ent]; omega, hl.2.1, fun i v hi => ?_⟩
  unfold zk_ent at hi
  by_cases hlt : i < (zk_es As).length
  · rw [List.getElem?_append_left hlt] at hi
    obtain ⟨a, b⟩ := zk_es_at ρ As i v hi
    refine ⟨?_, zk_wf_mem hw b⟩
    rw [List.getElem?_toArray, List.getElem?_append_left (by rw [zk_es_len]; exact hlt)]
    exact a
  · rw [List.getElem?_append_right (by omega)] at hi
    rw [List.getElem?_replicate] at hi
    split at hi <;> cases hi
def zk_free (Γ : zk_G) (ρ : Nat → Nat) (M : zk_M) (sz : Nat) : Nat → Prop := fun q => (∃ a, zk_N ≤ a ∧ a < M.2.1 ∧ (M.1 a).1 < 1000 ∧ q = ρ a) ∨ sz ≤ q ∨ Γ.2.2.2.2 q
def zk_Pc (Γ : zk_G) (ρ : Nat → Nat) (As : List Value) (M : zk_M) (F : Heap → Prop) (sz : Nat) : Array Value → State → Prop := fun a U => a = (As.map (zk_v ρ)).toArray ∧ U.heap.size = sz ∧ zk_Kn Γ U ∧ zk_Rl Γ ρ M F U.heap
def zk_Qc (Γ : zk_G) (ρ : Nat → Nat) (M : zk_M) (sz : Nat) (Q : Option Value → zk_M → (Heap → Prop) → Prop) : Array Value → State → Outcome → State → Prop := fun _ st o t =>
  ∃ (v : Option Value) (M' : zk_M) (F' : Heap → Prop) (ρ' : Nat → Nat), o = .returned (v.map (zk_v ρ')) ∧ Q v M' F' ∧ zk_Rl Γ ρ' M' F' t.heap ∧ zk_ext ρ M st.heap ρ' M' t.heap ∧ (∀ w, v = some w → zk_in_n M'.2.1 w) ∧ va_F (zk_free Γ ρ M sz) st t
/-- a walk from the entry gives the contract -/
theorem zk_met {l : Launch} {Γ : zk_G} {J : zk_MI} {d kc ks : Nat} {Q : Option Value → zk_M → (Heap → Prop) → Prop} {As : List Value} {M : zk_M} {F : Heap → Prop} {ρ : Nat → Nat} {sz : Nat} (hy : plainName J.1.cls = true) (hn : (zk_es As).length ≤ J.2.2.1) (hw : zk_wf M.2.1 As) (hnt : J.1.name ∉ zk_mt)
    (h : zk_Go l Γ J d kc ks Q 0 (zk_ent J.2.2.1 As) [] M F) : Met l J.1 (zk_ws J) ({ frames := d, cells := kc, slots := ks, locals := 64 * d }) (zk_Pc Γ ρ As M F sz) (zk_Qc Γ ρ M sz Q) kc ks (zk_free Γ ρ M sz) := by
  refine Met.ofW (cc := J.2.1) (maxL := J.2.2.1) (ret := J.2.2.2) hy rfl ?_
  intro p e s m args below meth c s₁ B hml hv
  obtain ⟨rfl, hsz, hK, hR⟩ := hv
  subst hsz
  have hts := atoms_spec (ws := zk_ws J) B.pre
  have hcx : zk_Cx Γ J p s m (As.map (zk_v ρ)).toArray meth c := ⟨B.exec, B.bytes, hml, findClass_of_methodNamed B.named, fun w hw => hts w (List.mem_cons_of_mem _ hw), B.returns, ⟨B.notSynchronized, fun hh hhh => vx_table (x := J.1) B (hts _ (List.mem_cons_of_mem _ hhh))⟩, fun e => (name_of_methodNamed B.named B.method).1.trans e, hK⟩
  rw [lg_entry_eq]
  refine h p e _ s m _ below meth c s.heap [] 0 0 _ (zk_free Γ ρ M s.heap.size) ρ _ hcx ⟨Nat.le_refl _, Nat.le_refl _⟩ ⟨by show 0 + kc ≤ kc; omega, by show 0 + ks ≤ ks; omega⟩ hR ⟨fun a h1 h2 h3 => Or.inl ⟨a, h1, h2, h3, rfl⟩, fun q hq => Or.inr (Or.inl hq), fun q hq => Or.inr (Or.inr hq)⟩ va_S.rf (zk_ent_Lr hn hw) trivial ⟨?_, fun M' F' ρ' H' locs' cells' slots' pc' ls' a1 a2 a3 a4 a5 a6 a7 a8 => absurd a8.1 hnt⟩
  intro v M' F' ρ' H' locs' cells' slots' pc' ls' hq hR' hx hwf hS' hc1 hs1 hret
  have hq9 : ∀ t : State, t.heap = H' → zk_Qc Γ ρ M s.heap.size Q (As.map (zk_v ρ)).toArray s (.returned (v.map (zk_v ρ'))) t := fun t ht => ⟨v, M', F', ρ', rfl, hq, by rw [ht]; exact hR', by rw [ht]; exact hx, hwf, hS'.F ht⟩
  have hlk := hcx.2.2.2.2.2.2.1.1
  refine W.widen (k := kc) (n := ks) (by omega) (by omega) ?_
  unfold zk_ret at hret
  cases v with
  | none => exact W.vret hcx.1 hcx.2.1 (hcx.2.2.2.2.2.1.trans hret.2) (fun t ht _ => hq9 t ht) hS'.2.2 hret.1 hlk
  | some w =>
    cases w with
    | int x =>
      obtain ⟨h1, ty, h2, h3⟩ := hret
      exact W.zret hcx.1 hcx.2.1 (hcx.2.2.2.2.2.1.trans h2) h3 (fun t ht _ => hq9 t ht) hS'.2.2 h1 hlk
    | long x => exact W.lret hcx.1 hcx.2.1 (hcx.2.2.2.2.2.1.trans hret.2) (fun t ht _ => hq9 t ht) hS'.2.2 hret.1 hlk
    | double x => exact W.dret hcx.1 hcx.2.1 (hcx.2.2.2.2.2.1.trans hret.2) (fun t ht _ => hq9 t ht) hS'.2.2 hret.1 hlk
    | ref x =>
      obtain ⟨h1, ty, h2, h3⟩ := hret
      exact W.aret hcx.1 hcx.2.1 (hcx.2.2.2.2.2.1.trans h2) h3 (Or.inr ⟨ρ' x, rfl⟩) (fun t ht _ => hq9 t ht) hS'.2.2 h1 hlk
    | null =>
      obtain ⟨h1, ty, h2, h3⟩ := hret
      exact W.aret hcx.1 hcx.2.1 (hcx.2.2.2.2.2.1.trans h2) h3 (Or.inl rfl) (fun t ht _ => hq9 t ht) hS'.2.2 h1 hlk
    | float x => exact hret.elim
    | retAddr x => exact hret.elim
theorem zk_Pc_blind {Γ : zk_G} {ρ : Nat → Nat} {As : List Value} {M : zk_M} {F : Heap → Prop} {sz : Nat} : FrameBlind (zk_Pc Γ ρ As M F sz) := fun a U g mk h => ⟨h.1, h.2.1, zk_Kn.warm (s := U) (U := U.calling g mk a) (State.WarmedH.refl U) h.2.2.1, h.2.2.2⟩
theorem zk_ws_good (J : zk_MI) (hc : Cond.code J.1 J.2.1 J.2.2.1 J.2.2.2 ∈ zk_tg) : GoodIn zk_tg (zk_ws J) := fun w h => by
  rcases List.mem_cons.mp h with e | h
  · rw [e]; exact ⟨hc, zk_tg_good hc⟩
  · exact ⟨h, zk_tg_good h⟩
theorem zk_Lr.later {ρ ρ' : Nat → Nat} {M M' : zk_M} {H H' : Heap} {nL : Nat} {L : List (Option Value)} {ls : Array Slot} (h : zk_Lr ρ M.2.1 nL L ls) (hx : zk_ext ρ M H ρ' M' H') : zk_Lr ρ' M'.2.1 nL L ls := by
  refine ⟨h.1, h.2.1, h.2.2.1, fun i v hi => ?_⟩
  obtain ⟨a, b⟩ := h.2.2.2 i v hi
  refine ⟨?_, zk_in_le hx.2.1 b⟩
  rw [a]
  cases v with
  | ref x => exact congrArg (fun z => some (Slot.val (Value.ref z))) (hx.1 x b).1.symm
  | _ => rfl
theorem zk_wf.later {ρ ρ' : Nat → Nat} {M M' : zk_M} {H H' : Heap} (hx : zk_ext ρ M H ρ' M' H') : ∀ {st : List Value}, zk_wf M.2.1 st → zk_wf M'.2.1 st ∧ st.map (zk_v ρ') = st.map (zk_v ρ)
  | [], _ => ⟨trivial, rfl⟩
  | v :: st, h => by
    obtain ⟨a, b⟩ := zk_wf.later hx h.2
    refine ⟨⟨zk_in_le hx.2.1 h.1, a⟩, ?_⟩
    rw [List.map_cons, List.map_cons, b]
    cases v with
    | ref x => exact congrArg (fun z => Value.ref z :: st.map (zk_v ρ)) (hx.1 x h.1).1
    | _ => rfl
theorem zk_A.later {Γ : zk_G} {ρ ρ' : Nat → Nat} {M M' : zk_M} {H H' : Heap} {sz : Nat} {A : Nat → Prop} (h : zk_A Γ ρ M sz A) (hx : zk_ext ρ M H ρ' M' H') (hs : sz ≤ H.size) : zk_A Γ ρ' M' sz A := by
  refine ⟨fun a h1 h2 h3 => ?_, h.2.1, h.2.2⟩
  by_cases ha : a < M.2.1
  · rw [(hx.1 a ha).1]
    rcases (hx.1 a ha).2 with q | q
    · exact h.1 a h1 ha (by rw [← q]; exact h3)
    · exact absurd q (by omega)
  · exact h.2.1 _ (Nat.le_trans hs (hx.2.2.2 a (by omega) h2 h3))
section CALL
variable {l : Launch} {Γ : zk_G} {I : zk_MI} {d kc ks : Nat} {Q : Option Value → zk_M → (Heap → Prop) → Prop} {pc : Nat} {L : List (Option Value)} {st : List Value} {M : zk_M} {F : Heap → Prop}
/-- behind a call -/
theorem zk_called {J : zk_MI} {d1 kc1 ks1 : Nat} {Q1 : Option Value → zk_M → (Heap → Prop) → Prop} {st0 : List Value} {p : Program} {e : Env} {R : Room} {s : State} {m : MethodId} {args a : Array Value} {below : List Frame} {meth : Method} {c : Code} {H : Heap} {locs : List Loc} {cells slots : Nat} {Qf : State → Prop} {A : Nat → Prop} {ρ : Nat → Nat} {ls : Array Slot} {st1 : List Value}
    (hrun : va_Run p l e R s m args below meth c H locs cells slots kc1 ks1 (F0 m pc ls st1) (st.map (zk_v ρ)) (zk_Qc Γ ρ M H.size Q1 a) (zk_free Γ ρ M H.size))
    (hc : zk_Cx Γ I p s m args meth c) (hr : d ≤ R.frames ∧ 64 * d ≤ R.locals) (hs : cells + kc ≤ R.cells ∧ slots + ks ≤ R.slots) (hA : zk_A Γ ρ M s.heap.size A) (hS : va_S A s.heap H locs) (hL : zk_Lr ρ M.2.1 I.2.2.1 L ls) (hW : zk_wf M.2.1 st) (hE : zk_End l Γ I kc ks Q p e R s m args below meth c Qf A ρ M H cells slots)
    (hk : kc1 ≤ kc ∧ ks1 ≤ ks) (kk : ∀ v M' F', Q1 v M' F' → zk_Go l Γ I d (kc - kc1) (ks - ks1) Q (pc + 3) L (v.toList ++ st) M' F') : W p l e R s m args below meth c H locs cells slots Qf (F0 m pc ls st1) := by
  intro T hT X
  obtain ⟨v, st₀, t, T', L9, h0, X', hL9, e1, e2, ⟨v1, M', F', ρ', hv, hq, hR', hx, hwf, hz, hkeep⟩, step⟩ := hrun T hT X
  have hv' : v = v1.map (zk_v ρ') := Outcome.returned.inj hv
  subst hv'
  subst h0
  obtain ⟨hW2, hst2⟩ := zk_wf.later hx hW
  have hfA : ∀ q, zk_free Γ ρ M st₀.heap.size q → A q := fun q h => by
    rcases h with ⟨x, h1, h2, h3, rfl⟩ | h | h
    · exact hA.1 x h1 h2 h3
    · exact hA.2.1 q (Nat.le_trans hS.1 h)
    · exact hA.2.2 q h
  have hS' : va_S A s.heap t.heap (locs ++ L9) := by
    refine ⟨Nat.le_trans hS.1 hz, fun q h1 h2 => (hkeep q (Nat.lt_of_lt_of_le h1 hS.1) (fun h => h2 (hfA q h))).trans (hS.2.1 q h1 h2), fun q hq => ?_⟩
    rcases List.mem_append.mp hq with h | h
    · exact hS.2.2 q h
    · exact hfA _ (hL9 q h)
  have hgo := kk v1 M' F' hq p e R s m args below meth c t.heap (locs ++ L9) (cells + kc1) (slots + ks1) Qf A ρ' ls hc hr ⟨by omega, by omega⟩ hR' (hA.later hx hS.1) hS' (hL.later hx)
    (by
      cases v1 with
      | none => exact hW2
      | some w => exact ⟨hwf w rfl, hW2⟩)
    (hE.later hx (by omega) (by omega))
  have he : (v1.toList ++ st).map (zk_v ρ') = (v1.map (zk_v ρ')).toList ++ st.map (zk_v ρ) := by
    rw [List.map_append, hst2]
    cases v1 <;> rfl
  rw [he] at hgo
  obtain ⟨t2, a1, b1⟩ := hgo T' e1 X'
  exact ⟨t2, step t2 a1, b1⟩
theorem zk_fits {J : zk_MI} {d1 : Nat} {R : Room} (hr : d ≤ R.frames ∧ 64 * d ≤ R.locals) (hd : d1 + 1 ≤ d) (hm : J.2.2.1 ≤ 45) : d1 + 1 ≤ R.frames ∧ 8 + (J.2.2.1 + 11) + 64 * d1 ≤ R.locals := ⟨by omega, by omega⟩
/-- a method of an object -/
theorem gz_invv {J : zk_MI} {d1 kc1 ks1 : Nat} {Q1 : Option Value → zk_M → (Heap → Prop) → Prop} {idx k len b n : Nat} (As st : List Value) {st0 : List Value} (hd : decode I.2.1 pc = .ok (.invokevirtual idx, 3)) (hst : st0 = As.reverse ++ .ref b :: st)
    (hs : M.1 b = (k, len)) (hk : k < 100) (hcl : (zk_cs[k]?).map (fun r => r.1) = some J.1.cls)
    (hw : Cond.methodLink I.1.cls idx J.1 ∈ zk_tg) (hin : Cond.instanceMethod J.1 ∈ zk_tg) (hse : Cond.selects J.1.cls J.1 J.1 ∈ zk_tg) (hini : Cond.initialized J.1.cls ∈ zk_tg) (hcode : Cond.code J.1 J.2.1 J.2.2.1 J.2.2.2 ∈ zk_tg)
    (hpl : plainName J.1.cls = true ∧ J.1.cls ≠ "java/lang/invoke/MethodHandle" ∧ J.1.cls ≠ "java/lang/invoke/VarHandle" ∧ (parseMethodDescriptor J.1.desc).map (fun d => d.parameters.length) = some n) (hn : As.length = n) (hm : J.2.2.1 ≤ 45 ∧ (zk_es (.ref b :: As)).length ≤ J.2.2.1) (hsum : (st.map fun v => v.category).sum ≤ 8)
    (hd1 : d1 + 1 ≤ d) (hkk : kc1 ≤ kc ∧ ks1 ≤ ks) (hnt : J.1.name ∉ zk_mt) (hgo : zk_Go l Γ J d1 kc1 ks1 Q1 0 (zk_ent J.2.2.1 (.ref b :: As)) [] M F)
    (kk : ∀ v M' F', Q1 v M' F' → zk_Go l Γ I d (kc - kc1) (ks - ks1) Q (pc + 3) L (v.toList ++ st) M' F') : zk_Go l Γ I d kc ks Q pc L st0 M F := by
  intro p e R s m args below meth c H locs cells slots Qf A ρ ls hc hr hs9 hR hA hS hL hW hE
  subst hst
  obtain ⟨hW1, hW2⟩ := zk_wf_app hW
  have hwAs : zk_wf M.2.1 (.ref b :: As) := ⟨hW2.1, zk_wf_of fun v hv => zk_wf_mem hW1 (List.mem_reverse.mpr hv)⟩
  have hM := zk_met (ρ := ρ) (sz := H.size) hpl.1 hm.2 hwAs hnt hgo
  obtain ⟨⟨r, hr1, hr2⟩, cell, h1, h2, h3, h4, -⟩ := hR.obj hW2.1 hs hk
  have hfc := (hc.2.2.2.2.2.2.2.2.1 k r hr1).1
  rw [hr1] at hcl
  have ecl : r.1 = J.1.cls := Option.some.inj hcl
  rw [ecl] at hfc
  have hG : GoodIn zk_tg (wsV I.1.cls idx J.1.cls J.1 (zk_ws J)) := fun w h => by
    rcases List.mem_append.mp h with h | h
    · rcases List.mem_cons.mp h with e | h
      · rw [e]; exact ⟨hw, zk_tg_good hw⟩
      rcases List.mem_cons.mp h with e | h
      · rw [e]; exact ⟨hin, zk_tg_good hin⟩
      rcases List.mem_cons.mp h with e | h
      · rw [e]; exact ⟨hse, zk_tg_good hse⟩
      rcases List.mem_cons.mp h with e | h
      · rw [e]; exact ⟨hini, zk_tg_good hini⟩
      · cases h
    · exact zk_ws_good J hcode w h
  have hrun := va_runV (e := e) (below := below) (meth := meth) (As := As.map (zk_v ρ)) (rest := st.map (zk_v ρ)) (g := F0 m pc ls ((As.reverse ++ .ref b :: st).map (zk_v ρ))) (H := H) (locs := locs) (cells := cells) (slots := slots) (b := ρ b) ⟨hc.1, hc.2.1, hc.2.2.1, hc.2.2.2.1, hc.2.2.2.2.1⟩ hM (cwV n hc.2.2.2.2.1 hG rfl rfl rfl ⟨rfl, hpl.2⟩ (zk_fits hr hd1 hm.1))
    ⟨zk_Pc_blind, ⟨cell, h1, h4, by rw [h2]; exact hfc⟩, fun U hU hW9 => ⟨rfl, by rw [hU], hc.2.2.2.2.2.2.2.2.warm hW9, by rw [hU]; exact hR⟩⟩ rfl (by rw [List.length_map]; exact hn) hL.1 (by show ((As.reverse ++ .ref b :: st).map (zk_v ρ)) = _; rw [List.map_append, List.map_reverse]; rfl) (lv_room (by rw [List.map_map]; have e : ((fun v : Value => v.category) ∘ zk_v ρ) = fun v : Value => v.category := funext fun v => zk_v_cat ρ v; rw [e]; exact hsum)) hd ⟨by omega, by omega⟩
  exact zk_called (J := J) (d1 := d1) (st0 := []) hrun hc hr hs9 hA hS hL hW2.2 hE hkk kk
/-- a static method -/
theorem gz_invs {J : zk_MI} {d1 kc1 ks1 : Nat} {Q1 : Option Value → zk_M → (Heap → Prop) → Prop} {idx n : Nat} (As st : List Value) {st0 : List Value} (hd : decode I.2.1 pc = .ok (.invokestatic idx, 3)) (hst : st0 = As.reverse ++ st)
    (hw : Cond.methodLink I.1.cls idx J.1 ∈ zk_tg) (hin : Cond.static J.1 ∈ zk_tg) (hini : Cond.initialized J.1.cls ∈ zk_tg) (hcode : Cond.code J.1 J.2.1 J.2.2.1 J.2.2.2 ∈ zk_tg)
    (hpl : plainName J.1.cls = true ∧ J.1.cls ≠ "java/lang/invoke/MethodHandle" ∧ J.1.cls ≠ "java/lang/invoke/VarHandle" ∧ (parseMethodDescriptor J.1.desc).map (fun d => d.parameters.length) = some n) (hn : As.length = n) (hm : J.2.2.1 ≤ 45 ∧ (zk_es As).length ≤ J.2.2.1) (hsum : (st.map fun v => v.category).sum ≤ 8)
    (hd1 : d1 + 1 ≤ d) (hkk : kc1 ≤ kc ∧ ks1 ≤ ks) (hnt : J.1.name ∉ zk_mt) (hgo : zk_Go l Γ J d1 kc1 ks1 Q1 0 (zk_ent J.2.2.1 As) [] M F)
    (kk : ∀ v M' F', Q1 v M' F' → zk_Go l Γ I d (kc - kc1) (ks - ks1) Q (pc + 3) L (v.toList ++ st) M' F') : zk_Go l Γ I d kc ks Q pc L st0 M F := by
  intro p e R s m args below meth c H locs cells slots Qf A ρ ls hc hr hs9 hR hA hS hL hW hE
  subst hst
  obtain ⟨hW1, hW2⟩ := zk_wf_app hW
  have hwAs : zk_wf M.2.1 As := zk_wf_of fun v hv => zk_wf_mem hW1 (List.mem_reverse.mpr hv)
  have hM := zk_met (ρ := ρ) (sz := H.size) hpl.1 hm.2 hwAs hnt hgo
  have hG : GoodIn zk_tg (va_wsS I.1.cls idx J.1 (zk_ws J)) := fun w h => by
    rcases List.mem_append.mp h with h | h
    · rcases List.mem_cons.mp h with e | h
      · rw [e]; exact ⟨hw, zk_tg_good hw⟩
      rcases List.mem_cons.mp h with e | h
      · rw [e]; exact ⟨hin, zk_tg_good hin⟩
      rcases List.mem_cons.mp h with e | h
      · rw [e]; exact ⟨hini, zk_tg_good hini⟩
      · cases h
    · exact zk_ws_good J hcode w h
  have hrun := va_runS (e := e) (below := below) (meth := meth) (As := As.map (zk_v ρ)) (rest := st.map (zk_v ρ)) (g := F0 m pc ls ((As.reverse ++ st).map (zk_v ρ))) (H := H) (locs := locs) (cells := cells) (slots := slots) ⟨hc.1, hc.2.1, hc.2.2.1, hc.2.2.2.1, hc.2.2.2.2.1⟩ hM (va_cwS n hc.2.2.2.2.1 hG rfl rfl rfl hpl.2 (zk_fits hr hd1 hm.1))
    ⟨zk_Pc_blind, fun U hU hW9 => ⟨rfl, by rw [hU], hc.2.2.2.2.2.2.2.2.warm hW9, by rw [hU]; exact hR⟩⟩ rfl (by rw [List.length_map]; exact hn) hL.1 (by show ((As.reverse ++ st).map (zk_v ρ)) = _; rw [List.map_append, List.map_reverse]) (lv_room (by rw [List.map_map]; have e : ((fun v : Value => v.category) ∘ zk_v ρ) = fun v : Value => v.category := funext fun v => zk_v_cat ρ v; rw [e]; exact hsum)) hd ⟨by omega, by omega⟩
  exact zk_called (J := J) (d1 := d1) (st0 := []) hrun hc hr hs9 hA hS hL hW2 hE hkk kk
end CALL

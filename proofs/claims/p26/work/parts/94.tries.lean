/-! THE LAW TRIES A METHOD OF THE CLASS -/
section
variable {l : Launch} {Γ : zk_G} {d : Nat} {F : Heap → Prop}
section
variable {I : zk_MI} {kc ks : Nat} {Q : Option Value → zk_M → (Heap → Prop) → Prop} {pc : Nat} {L : List (Option Value)} {E : Nat → Nat × Nat} {e : Nat} {W : zV}
theorem gA_callX {J : zk_MI} {d1 kc1 ks1 n k len b idx hpc ct i : Nat} {R : Option Value → zV → Prop} (hh : List (Nat × Nat × Nat × Nat)) (pre : List ExceptionTableEntry) (xe : ExceptionTableEntry) (suf : List ExceptionTableEntry) (As : List Value) {st0 : List Value} (hl : l.stackTraces = false) (hd6 : 6 ≤ d1)
    (hcw : Cond.codeWith I.1 I.2.1 I.2.2.1 I.2.2.2 hh ∈ zk_tg) (hsp : tableOf hh = pre ++ xe :: suf) (hpr : ∀ z ∈ pre, covers z pc = false) (hxc : covers xe pc = true) (hct : xe.catchType = ct) (hct0 : ct ≠ 0) (hhp : xe.handlerPc = hpc) (hcl1 : Cond.classLink I.1.cls ct zk_X ∈ zk_tg)
    (hda : decode I.2.1 hpc = .ok (.astore i, 2)) (hi : i < L.length) (hd : decode I.2.1 pc = .ok (.invokevirtual idx, 3)) (hst : st0 = As.reverse ++ [.ref b]) (hw : Cond.methodLink I.1.cls idx J.1 ∈ zk_tg) (hs : zb_s b = (k, len)) (hb : b < 424 ∧ b ≠ 56) (hk : k < 100) (hcl : (zk_cs[k]?).map (fun r => r.1) = some J.1.cls)
    (hin : Cond.instanceMethod J.1 ∈ zk_tg) (hse : Cond.selects J.1.cls J.1 J.1 ∈ zk_tg) (hini : Cond.initialized J.1.cls ∈ zk_tg) (hcode : Cond.code J.1 J.2.1 J.2.2.1 J.2.2.2 ∈ zk_tg)
    (hpl : plainName J.1.cls = true ∧ J.1.cls ≠ "java/lang/invoke/MethodHandle" ∧ J.1.cls ≠ "java/lang/invoke/VarHandle" ∧ (parseMethodDescriptor J.1.desc).map (fun d => d.parameters.length) = some n) (hn : As.length = n) (hm : J.2.2.1 ≤ 45 ∧ (zk_es (.ref b :: As)).length ≤ J.2.2.1)
    (hd1 : d1 + 1 ≤ d) (hkk : kc1 ≤ kc ∧ ks1 ≤ ks) (hclass : zK l J d1 kc1 ks1 (.ref b :: As) W R) (hE0 : ∀ a, a < 424 → a ≠ 56 → E a = zb_s a) (he : 424 ≤ e) (hz : zin W) (h56 : Γ.2.2.2.1 56 < Γ.2.1.size) (hAs : ∀ v ∈ As, zk_in_n 424 v) (hRv : ∀ v Z', R v Z' → ∀ w, v = some w → zk_in_n 424 w)
    (kk : ∀ v Z', R v Z' → zin Z' → (∀ x, v ≠ some (.retAddr x)) → zk_Go l Γ I d (kc - kc1) (ks - ks1) Q (pc + 3) L v.toList (zG E e (zL Z' W)) F)
    (kx : ∀ Z', R (some (.retAddr 0)) Z' → zin Z' → zk_Go l Γ I d (kc - kc1) (ks - ks1) Q (hpc + 2) ((zk_cl L i).set i none) [] (zG E e (zL Z' W)) F) : zk_Go l Γ I d kc ks Q pc L st0 (zG E e W) F := by
  refine gz_invvX (Q1 := fun v M' F' => ∃ Z', R v Z' ∧ zin Z' ∧ zk_al M' (zG E e (zL Z' W)) ∧ F' = F) hh pre xe suf As hl hd6 hcw hsp hpr hxc hct hct0 hhp hcl1 hda hi hd hst ((hE0 b hb.1 hb.2).trans hs) hk hcl hw hin hse hini hcode hpl hn hm hd1 hkk ?_ (fun v M' F' h hv => ?_) (fun M' F' h => ?_)
  · refine zL_class hclass hE0 he hz h56 (fun v hv => ?_) hRv (fun v Z' M' h1 h2 h3 => ⟨Z', h1, h2, h3, rfl⟩)
    rcases List.mem_cons.mp hv with q | q
    · rw [q]; exact hb.1
    · exact hAs v q
  · obtain ⟨Z', h1, h2, h3, rfl⟩ := h
    exact zk_Go.alike h3 (kk v Z' h1 h2 hv)
  · obtain ⟨Z', h1, h2, h3, rfl⟩ := h
    exact zk_Go.alike h3 (kx Z' h1 h2)
end
end

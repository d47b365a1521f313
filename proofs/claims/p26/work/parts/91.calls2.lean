/-! THE LAW CALLS THE CLASS -/
section
variable {l : Launch} {Γ : zk_G} {d : Nat} {F : Heap → Prop}
/-- what a method of the class does over its block, whatever else there is -/
def zK (l : Launch) (J : zk_MI) (d kc ks : Nat) (As : List Value) (W : zV) (R : Option Value → zV → Prop) : Prop := ∀ (Γ : zk_G) (F : Heap → Prop) (Q1 : Option Value → zk_M → (Heap → Prop) → Prop), (∀ v Z', R v Z' → Q1 v (zb_M Z') F) → zk_Go l Γ J d kc ks Q1 0 (zk_ent J.2.2.1 As) [] (zb_M W) F
theorem zK_of {J : zk_MI} {kc ks : Nat} {As : List Value} {W W1 : zV} {v : Option Value} (h : ∀ (Γ : zk_G) (F : Heap → Prop), zk_Does l Γ J d kc ks As (zb_M W) F v (zb_M W1) F) : zK l J d kc ks As W (fun v' Z' => v' = v ∧ Z' = W1) := fun Γ F Q1 hq => h Γ F Q1 (hq v W1 ⟨rfl, rfl⟩)
theorem zK_ofR {J : zk_MI} {As : List Value} {W : zV} {v : Option Value} {R : zV → Prop} (h : ∀ (Γ : zk_G) (F : Heap → Prop), zk_DoesR l Γ J d As W F v R) : zK l J d 0 0 As W (fun v' Z' => v' = v ∧ R Z') := fun Γ F Q1 hq => h Γ F Q1 (fun Z' hr => hq v Z' ⟨rfl, hr⟩)
section
variable {I : zk_MI} {kc ks : Nat} {Q : Option Value → zk_M → (Heap → Prop) → Prop} {pc : Nat} {L : List (Option Value)} {E : Nat → Nat × Nat} {e : Nat} {W : zV}
theorem gA_call {J : zk_MI} {d1 kc1 ks1 n k len b idx : Nat} {R : Option Value → zV → Prop} (As st : List Value) {st0 : List Value} (hd : decode I.2.1 pc = .ok (.invokevirtual idx, 3)) (hst : st0 = As.reverse ++ .ref b :: st) (hw : Cond.methodLink I.1.cls idx J.1 ∈ zk_tg) (hs : zb_s b = (k, len)) (hb : b < 424 ∧ b ≠ 56) (hJ : zk_V J n k) (hn : As.length = n) (hm : (zk_es (.ref b :: As)).length ≤ J.2.2.1)
    (hsum : (st.map fun v => v.category).sum ≤ 8) (hd1 : d1 + 1 ≤ d) (hkk : kc1 ≤ kc ∧ ks1 ≤ ks) (hcl : zK l J d1 kc1 ks1 (.ref b :: As) W R) (hE0 : ∀ a, a < 424 → a ≠ 56 → E a = zb_s a) (he : 424 ≤ e) (hz : zin W) (h56 : Γ.2.2.2.1 56 < Γ.2.1.size) (hAs : ∀ v ∈ As, zk_in_n 424 v) (hRv : ∀ v Z', R v Z' → ∀ w, v = some w → zk_in_n 424 w)
    (kk : ∀ v Z', R v Z' → zin Z' → zk_Go l Γ I d (kc - kc1) (ks - ks1) Q (pc + 3) L (v.toList ++ st) (zG E e (zL Z' W)) F) : zk_Go l Γ I d kc ks Q pc L st0 (zG E e W) F := by
  refine gz_invv (Q1 := fun v M' F' => ∃ Z', R v Z' ∧ zin Z' ∧ zk_al M' (zG E e (zL Z' W)) ∧ F' = F) As st hd hst ((hE0 b hb.1 hb.2).trans hs) hJ.2.2.2.2.2.2.1 hJ.2.2.2.2.2.2.2.1 hw hJ.1 hJ.2.1 hJ.2.2.1 hJ.2.2.2.1 hJ.2.2.2.2.1 hn ⟨hJ.2.2.2.2.2.1, hm⟩ hsum hd1 hkk hJ.2.2.2.2.2.2.2.2 ?_ (fun v M' F' h => ?_)
  · refine zL_class hcl hE0 he hz h56 (fun v hv => ?_) hRv (fun v Z' M' h1 h2 h3 => ⟨Z', h1, h2, h3, rfl⟩)
    rcases List.mem_cons.mp hv with q | q
    · rw [q]; exact hb.1
    · exact hAs v q
  · obtain ⟨Z', h1, h2, h3, rfl⟩ := h
    exact zk_Go.alike h3 (kk v Z' h1 h2)
end
theorem zL_W (W : zV) : zL W W = W := by
  funext a j
  unfold zL
  split <;> rfl
end

/-! CALLS WITH ONE OUTCOME -/
/-- the method, begun so, returns so -/
def zk_Does (l : Launch) (Γ : zk_G) (J : zk_MI) (d kc ks : Nat) (As : List Value) (M : zk_M) (F : Heap → Prop) (v : Option Value) (M1 : zk_M) (F1 : Heap → Prop) : Prop :=
  ∀ Q : Option Value → zk_M → (Heap → Prop) → Prop, Q v M1 F1 → zk_Go l Γ J d kc ks Q 0 (zk_ent J.2.2.1 As) [] M F
def zk_V (J : zk_MI) (n k : Nat) : Prop := Cond.instanceMethod J.1 ∈ zk_tg ∧ Cond.selects J.1.cls J.1 J.1 ∈ zk_tg ∧ Cond.initialized J.1.cls ∈ zk_tg ∧ Cond.code J.1 J.2.1 J.2.2.1 J.2.2.2 ∈ zk_tg ∧
  (plainName J.1.cls = true ∧ J.1.cls ≠ "java/lang/invoke/MethodHandle" ∧ J.1.cls ≠ "java/lang/invoke/VarHandle" ∧ (parseMethodDescriptor J.1.desc).map (fun d => d.parameters.length) = some n) ∧ J.2.2.1 ≤ 45 ∧ k < 100 ∧ (zk_cs[k]?).map (fun r => r.1) = some J.1.cls ∧ J.1.name ∉ zk_mt
def zk_S (J : zk_MI) (n : Nat) : Prop := Cond.static J.1 ∈ zk_tg ∧ Cond.initialized J.1.cls ∈ zk_tg ∧ Cond.code J.1 J.2.1 J.2.2.1 J.2.2.2 ∈ zk_tg ∧
  (plainName J.1.cls = true ∧ J.1.cls ≠ "java/lang/invoke/MethodHandle" ∧ J.1.cls ≠ "java/lang/invoke/VarHandle" ∧ (parseMethodDescriptor J.1.desc).map (fun d => d.parameters.length) = some n) ∧ J.2.2.1 ≤ 45 ∧ J.1.name ∉ zk_mt
section CALLN
variable {l : Launch} {Γ : zk_G} {I J : zk_MI} {d d1 kc ks kc1 ks1 : Nat} {Q : Option Value → zk_M → (Heap → Prop) → Prop} {pc idx k len b : Nat} {L : List (Option Value)} {st : List Value} {M M1 : zk_M} {F F1 : Heap → Prop} {v1 : Option Value}
theorem zk_Does.le {kc2 ks2 : Nat} {As : List Value} (h : zk_Does l Γ J d kc ks As M F v1 M1 F1) (h1 : kc ≤ kc2) (h2 : ks ≤ ks2) : zk_Does l Γ J d kc2 ks2 As M F v1 M1 F1 := by
  intro Q hq p e R s m args below meth c H locs cells slots Qf A ρ ls hc hr hs hR hA hS hL hW hE
  exact h Q hq p e R s m args below meth c H locs cells slots Qf A ρ ls hc hr ⟨by omega, by omega⟩ hR hA hS hL hW (hE.later zk_ext.refl (by omega) (by omega))
theorem gv_0 (hd : decode I.2.1 pc = .ok (.invokevirtual idx, 3)) (hw : Cond.methodLink I.1.cls idx J.1 ∈ zk_tg) (hs : M.1 b = (k, len)) (hJ : zk_V J 0 k) (hm : (zk_es [.ref b]).length ≤ J.2.2.1) (hsum : (st.map fun v => v.category).sum ≤ 8) (hd1 : d1 + 1 ≤ d) (hkk : kc1 ≤ kc ∧ ks1 ≤ ks) (hgo : zk_Does l Γ J d1 kc1 ks1 [.ref b] M F v1 M1 F1)
    (kk : zk_Go l Γ I d (kc - kc1) (ks - ks1) Q (pc + 3) L (v1.toList ++ st) M1 F1) : zk_Go l Γ I d kc ks Q pc L (.ref b :: st) M F :=
  gz_invv [] st hd rfl hs hJ.2.2.2.2.2.2.1 hJ.2.2.2.2.2.2.2.1 hw hJ.1 hJ.2.1 hJ.2.2.1 hJ.2.2.2.1 hJ.2.2.2.2.1 rfl ⟨hJ.2.2.2.2.2.1, hm⟩ hsum hd1 hkk hJ.2.2.2.2.2.2.2.2 (hgo (fun v M' F' => v = v1 ∧ M' = M1 ∧ F' = F1) ⟨rfl, rfl, rfl⟩) (fun v M' F' h => by obtain ⟨rfl, rfl, rfl⟩ := h; exact kk)
theorem gs_0 (hd : decode I.2.1 pc = .ok (.invokestatic idx, 3)) (hw : Cond.methodLink I.1.cls idx J.1 ∈ zk_tg) (hJ : zk_S J 0) (hm : (zk_es []).length ≤ J.2.2.1) (hsum : (st.map fun v => v.category).sum ≤ 8) (hd1 : d1 + 1 ≤ d) (hkk : kc1 ≤ kc ∧ ks1 ≤ ks) (hgo : zk_Does l Γ J d1 kc1 ks1 [] M F v1 M1 F1)
    (kk : zk_Go l Γ I d (kc - kc1) (ks - ks1) Q (pc + 3) L (v1.toList ++ st) M1 F1) : zk_Go l Γ I d kc ks Q pc L (st) M F :=
  gz_invs [] st hd rfl hw hJ.1 hJ.2.1 hJ.2.2.1 hJ.2.2.2.1 rfl ⟨hJ.2.2.2.2.1, hm⟩ hsum hd1 hkk hJ.2.2.2.2.2 (hgo (fun v M' F' => v = v1 ∧ M' = M1 ∧ F' = F1) ⟨rfl, rfl, rfl⟩) (fun v M' F' h => by obtain ⟨rfl, rfl, rfl⟩ := h; exact kk)
theorem gv_1 {a1 : Value} (hd : decode I.2.1 pc = .ok (.invokevirtual idx, 3)) (hw : Cond.methodLink I.1.cls idx J.1 ∈ zk_tg) (hs : M.1 b = (k, len)) (hJ : zk_V J 1 k) (hm : (zk_es [.ref b, a1]).length ≤ J.2.2.1) (hsum : (st.map fun v => v.category).sum ≤ 8) (hd1 : d1 + 1 ≤ d) (hkk : kc1 ≤ kc ∧ ks1 ≤ ks) (hgo : zk_Does l Γ J d1 kc1 ks1 [.ref b, a1] M F v1 M1 F1)
    (kk : zk_Go l Γ I d (kc - kc1) (ks - ks1) Q (pc + 3) L (v1.toList ++ st) M1 F1) : zk_Go l Γ I d kc ks Q pc L (a1 :: .ref b :: st) M F :=
  gz_invv [a1] st hd rfl hs hJ.2.2.2.2.2.2.1 hJ.2.2.2.2.2.2.2.1 hw hJ.1 hJ.2.1 hJ.2.2.1 hJ.2.2.2.1 hJ.2.2.2.2.1 rfl ⟨hJ.2.2.2.2.2.1, hm⟩ hsum hd1 hkk hJ.2.2.2.2.2.2.2.2 (hgo (fun v M' F' => v = v1 ∧ M' = M1 ∧ F' = F1) ⟨rfl, rfl, rfl⟩) (fun v M' F' h => by obtain ⟨rfl, rfl, rfl⟩ := h; exact kk)
theorem gs_1 {a1 : Value} (hd : decode I.2.1 pc = .ok (.invokestatic idx, 3)) (hw : Cond.methodLink I.1.cls idx J.1 ∈ zk_tg) (hJ : zk_S J 1) (hm : (zk_es [a1]).length ≤ J.2.2.1) (hsum : (st.map fun v => v.category).sum ≤ 8) (hd1 : d1 + 1 ≤ d) (hkk : kc1 ≤ kc ∧ ks1 ≤ ks) (hgo : zk_Does l Γ J d1 kc1 ks1 [a1] M F v1 M1 F1)
    (kk : zk_Go l Γ I d (kc - kc1) (ks - ks1) Q (pc + 3) L (v1.toList ++ st) M1 F1) : zk_Go l Γ I d kc ks Q pc L (a1 :: st) M F :=
  gz_invs [a1] st hd rfl hw hJ.1 hJ.2.1 hJ.2.2.1 hJ.2.2.2.1 rfl ⟨hJ.2.2.2.2.1, hm⟩ hsum hd1 hkk hJ.2.2.2.2.2 (hgo (fun v M' F' => v = v1 ∧ M' = M1 ∧ F' = F1) ⟨rfl, rfl, rfl⟩) (fun v M' F' h => by obtain ⟨rfl, rfl, rfl⟩ := h; exact kk)
theorem gv_2 {a1 a2 : Value} (hd : decode I.2.1 pc = .ok (.invokevirtual idx, 3)) (hw : Cond.methodLink I.1.cls idx J.1 ∈ zk_tg) (hs : M.1 b = (k, len)) (hJ : zk_V J 2 k) (hm : (zk_es [.ref b, a1, a2]).length ≤ J.2.2.1) (hsum : (st.map fun v => v.category).sum ≤ 8) (hd1 : d1 + 1 ≤ d) (hkk : kc1 ≤ kc ∧ ks1 ≤ ks) (hgo : zk_Does l Γ J d1 kc1 ks1 [.ref b, a1, a2] M F v1 M1 F1)
    (kk : zk_Go l Γ I d (kc - kc1) (ks - ks1) Q (pc + 3) L (v1.toList ++ st) M1 F1) : zk_Go l Γ I d kc ks Q pc L (a2 :: a1 :: .ref b :: st) M F :=
  gz_invv [a1, a2] st hd rfl hs hJ.2.2.2.2.2.2.1 hJ.2.2.2.2.2.2.2.1 hw hJ.1 hJ.2.1 hJ.2.2.1 hJ.2.2.2.1 hJ.2.2.2.2.1 rfl ⟨hJ.2.2.2.2.2.1, hm⟩ hsum hd1 hkk hJ.2.2.2.2.2.2.2.2 (hgo (fun v M' F' => v = v1 ∧ M' = M1 ∧ F' = F1) ⟨rfl, rfl, rfl⟩) (fun v M' F' h => by obtain ⟨rfl, rfl, rfl⟩ := h; exact kk)
theorem gs_2 {a1 a2 : Value} (hd : decode I.2.1 pc = .ok (.invokestatic idx, 3)) (hw : Cond.methodLink I.1.cls idx J.1 ∈ zk_tg) (hJ : zk_S J 2) (hm : (zk_es [a1, a2]).length ≤ J.2.2.1) (hsum : (st.map fun v => v.category).sum ≤ 8) (hd1 : d1 + 1 ≤ d) (hkk : kc1 ≤ kc ∧ ks1 ≤ ks) (hgo : zk_Does l Γ J d1 kc1 ks1 [a1, a2] M F v1 M1 F1)
    (kk : zk_Go l Γ I d (kc - kc1) (ks - ks1) Q (pc + 3) L (v1.toList ++ st) M1 F1) : zk_Go l Γ I d kc ks Q pc L (a2 :: a1 :: st) M F :=
  gz_invs [a1, a2] st hd rfl hw hJ.1 hJ.2.1 hJ.2.2.1 hJ.2.2.2.1 rfl ⟨hJ.2.2.2.2.1, hm⟩ hsum hd1 hkk hJ.2.2.2.2.2 (hgo (fun v M' F' => v = v1 ∧ M' = M1 ∧ F' = F1) ⟨rfl, rfl, rfl⟩) (fun v M' F' h => by obtain ⟨rfl, rfl, rfl⟩ := h; exact kk)
theorem gv_3 {a1 a2 a3 : Value} (hd : decode I.2.1 pc = .ok (.invokevirtual idx, 3)) (hw : Cond.methodLink I.1.cls idx J.1 ∈ zk_tg) (hs : M.1 b = (k, len)) (hJ : zk_V J 3 k) (hm : (zk_es [.ref b, a1, a2, a3]).length ≤ J.2.2.1) (hsum : (st.map fun v => v.category).sum ≤ 8) (hd1 : d1 + 1 ≤ d) (hkk : kc1 ≤ kc ∧ ks1 ≤ ks) (hgo : zk_Does l Γ J d1 kc1 ks1 [.ref b, a1, a2, a3] M F v1 M1 F1)
    (kk : zk_Go l Γ I d (kc - kc1) (ks - ks1) Q (pc + 3) L (v1.toList ++ st) M1 F1) : zk_Go l Γ I d kc ks Q pc L (a3 :: a2 :: a1 :: .ref b :: st) M F :=
  gz_invv [a1, a2, a3] st hd rfl hs hJ.2.2.2.2.2.2.1 hJ.2.2.2.2.2.2.2.1 hw hJ.1 hJ.2.1 hJ.2.2.1 hJ.2.2.2.1 hJ.2.2.2.2.1 rfl ⟨hJ.2.2.2.2.2.1, hm⟩ hsum hd1 hkk hJ.2.2.2.2.2.2.2.2 (hgo (fun v M' F' => v = v1 ∧ M' = M1 ∧ F' = F1) ⟨rfl, rfl, rfl⟩) (fun v M' F' h => by obtain ⟨rfl, rfl, rfl⟩ := h; exact kk)
theorem gs_3 {a1 a2 a3 : Value} (hd : decode I.2.1 pc = .ok (.invokestatic idx, 3)) (hw : Cond.methodLink I.1.cls idx J.1 ∈ zk_tg) (hJ : zk_S J 3) (hm : (zk_es [a1, a2, a3]).length ≤ J.2.2.1) (hsum : (st.map fun v => v.category).sum ≤ 8) (hd1 : d1 + 1 ≤ d) (hkk : kc1 ≤ kc ∧ ks1 ≤ ks) (hgo : zk_Does l Γ J d1 kc1 ks1 [a1, a2, a3] M F v1 M1 F1)
    (kk : zk_Go l Γ I d (kc - kc1) (ks - ks1) Q (pc + 3) L (v1.toList ++ st) M1 F1) : zk_Go l Γ I d kc ks Q pc L (a3 :: a2 :: a1 :: st) M F :=
  gz_invs [a1, a2, a3] st hd rfl hw hJ.1 hJ.2.1 hJ.2.2.1 hJ.2.2.2.1 rfl ⟨hJ.2.2.2.2.1, hm⟩ hsum hd1 hkk hJ.2.2.2.2.2 (hgo (fun v M' F' => v = v1 ∧ M' = M1 ∧ F' = F1) ⟨rfl, rfl, rfl⟩) (fun v M' F' h => by obtain ⟨rfl, rfl, rfl⟩ := h; exact kk)
theorem gv_4 {a1 a2 a3 a4 : Value} (hd : decode I.2.1 pc = .ok (.invokevirtual idx, 3)) (hw : Cond.methodLink I.1.cls idx J.1 ∈ zk_tg) (hs : M.1 b = (k, len)) (hJ : zk_V J 4 k) (hm : (zk_es [.ref b, a1, a2, a3, a4]).length ≤ J.2.2.1) (hsum : (st.map fun v => v.category).sum ≤ 8) (hd1 : d1 + 1 ≤ d) (hkk : kc1 ≤ kc ∧ ks1 ≤ ks) (hgo : zk_Does l Γ J d1 kc1 ks1 [.ref b, a1, a2, a3, a4] M F v1 M1 F1)
    (kk : zk_Go l Γ I d (kc - kc1) (ks - ks1) Q (pc + 3) L (v1.toList ++ st) M1 F1) : zk_Go l Γ I d kc ks Q pc L (a4 :: a3 :: a2 :: a1 :: .ref b :: st) M F :=
  gz_invv [a1, a2, a3, a4] st hd rfl hs hJ.2.2.2.2.2.2.1 hJ.2.2.2.2.2.2.2.1 hw hJ.1 hJ.2.1 hJ.2.2.1 hJ.2.2.2.1 hJ.2.2.2.2.1 rfl ⟨hJ.2.2.2.2.2.1, hm⟩ hsum hd1 hkk hJ.2.2.2.2.2.2.2.2 (hgo (fun v M' F' => v = v1 ∧ M' = M1 ∧ F' = F1) ⟨rfl, rfl, rfl⟩) (fun v M' F' h => by obtain ⟨rfl, rfl, rfl⟩ := h; exact kk)
theorem gs_4 {a1 a2 a3 a4 : Value} (hd : decode I.2.1 pc = .ok (.invokestatic idx, 3)) (hw : Cond.methodLink I.1.cls idx J.1 ∈ zk_tg) (hJ : zk_S J 4) (hm : (zk_es [a1, a2, a3, a4]).length ≤ J.2.2.1) (hsum : (st.map fun v => v.category).sum ≤ 8) (hd1 : d1 + 1 ≤ d) (hkk : kc1 ≤ kc ∧ ks1 ≤ ks) (hgo : zk_Does l Γ J d1 kc1 ks1 [a1, a2, a3, a4] M F v1 M1 F1)
    (kk : zk_Go l Γ I d (kc - kc1) (ks - ks1) Q (pc + 3) L (v1.toList ++ st) M1 F1) : zk_Go l Γ I d kc ks Q pc L (a4 :: a3 :: a2 :: a1 :: st) M F :=
  gz_invs [a1, a2, a3, a4] st hd rfl hw hJ.1 hJ.2.1 hJ.2.2.1 hJ.2.2.2.1 rfl ⟨hJ.2.2.2.2.1, hm⟩ hsum hd1 hkk hJ.2.2.2.2.2 (hgo (fun v M' F' => v = v1 ∧ M' = M1 ∧ F' = F1) ⟨rfl, rfl, rfl⟩) (fun v M' F' h => by obtain ⟨rfl, rfl, rfl⟩ := h; exact kk)
theorem gv_5 {a1 a2 a3 a4 a5 : Value} (hd : decode I.2.1 pc = .ok (.invokevirtual idx, 3)) (hw : Cond.methodLink I.1.cls idx J.1 ∈ zk_tg) (hs : M.1 b = (k, len)) (hJ : zk_V J 5 k) (hm : (zk_es [.ref b, a1, a2, a3, a4, a5]).length ≤ J.2.2.1) (hsum : (st.map fun v => v.category).sum ≤ 8) (hd1 : d1 + 1 ≤ d) (hkk : kc1 ≤ kc ∧ ks1 ≤ ks) (hgo : zk_Does l Γ J d1 kc1 ks1 [.ref b, a1, a2, a3, a4, a5] M F v1 M1 F1)
    (kk : zk_Go l Γ I d (kc - kc1) (ks - ks1) Q (pc + 3) L (v1.toList ++ st) M1 F1) : zk_Go l Γ I d kc ks Q pc L (a5 :: a4 :: a3 :: a2 :: a1 :: .ref b :: st) M F :=
  gz_invv [a1, a2, a3, a4, a5] st hd rfl hs hJ.2.2.2.2.2.2.1 hJ.2.2.2.2.2.2.2.1 hw hJ.1 hJ.2.1 hJ.2.2.1 hJ.2.2.2.1 hJ.2.2.2.2.1 rfl ⟨hJ.2.2.2.2.2.1, hm⟩ hsum hd1 hkk hJ.2.2.2.2.2.2.2.2 (hgo (fun v M' F' => v = v1 ∧ M' = M1 ∧ F' = F1) ⟨rfl, rfl, rfl⟩) (fun v M' F' h => by obtain ⟨rfl, rfl, rfl⟩ := h; exact kk)
theorem gs_5 {a1 a2 a3 a4 a5 : Value} (hd : decode I.2.1 pc = .ok (.invokestatic idx, 3)) (hw : Cond.methodLink I.1.cls idx J.1 ∈ zk_tg) (hJ : zk_S J 5) (hm : (zk_es [a1, a2, a3, a4, a5]).length ≤ J.2.2.1) (hsum : (st.map fun v => v.category).sum ≤ 8) (hd1 : d1 + 1 ≤ d) (hkk : kc1 ≤ kc ∧ ks1 ≤ ks) (hgo : zk_Does l Γ J d1 kc1 ks1 [a1, a2, a3, a4, a5] M F v1 M1 F1)
    (kk : zk_Go l Γ I d (kc - kc1) (ks - ks1) Q (pc + 3) L (v1.toList ++ st) M1 F1) : zk_Go l Γ I d kc ks Q pc L (a5 :: a4 :: a3 :: a2 :: a1 :: st) M F :=
  gz_invs [a1, a2, a3, a4, a5] st hd rfl hw hJ.1 hJ.2.1 hJ.2.2.1 hJ.2.2.2.1 rfl ⟨hJ.2.2.2.2.1, hm⟩ hsum hd1 hkk hJ.2.2.2.2.2 (hgo (fun v M' F' => v = v1 ∧ M' = M1 ∧ F' = F1) ⟨rfl, rfl, rfl⟩) (fun v M' F' h => by obtain ⟨rfl, rfl, rfl⟩ := h; exact kk)
end CALLN
theorem jzX0_begin : zk_V mX0_begin 1 1 := ⟨jiX0_begin, jsX0_begin, jn_Heliographs_Chain, jcX0_begin, jpX0_begin, by decide, by decide, rfl, by decide⟩
theorem jzX0_copy : zk_V mX0_copy 1 1 := ⟨jiX0_copy, jsX0_copy, jn_Heliographs_Chain, jcX0_copy, jpX0_copy, by decide, by decide, rfl, by decide⟩
theorem jzX0_copyRow : zk_S mX0_copyRow 2 := ⟨jiX0_copyRow, jn_Heliographs_Chain, jcX0_copyRow, jpX0_copyRow, by decide, by decide⟩
theorem jzX0_run : zk_V mX0_run 1 1 := ⟨jiX0_run, jsX0_run, jn_Heliographs_Chain, jcX0_run, jpX0_run, by decide, by decide, rfl, by decide⟩
theorem jzX0_look : zk_V mX0_look 0 1 := ⟨jiX0_look, jsX0_look, jn_Heliographs_Chain, jcX0_look, jpX0_look, by decide, by decide, rfl, by decide⟩
theorem jzX0_flashWord : zk_V mX0_flashWord 1 1 := ⟨jiX0_flashWord, jsX0_flashWord, jn_Heliographs_Chain, jcX0_flashWord, jpX0_flashWord, by decide, by decide, rfl, by decide⟩
theorem jzX0_arrive : zk_V mX0_arrive 2 1 := ⟨jiX0_arrive, jsX0_arrive, jn_Heliographs_Chain, jcX0_arrive, jpX0_arrive, by decide, by decide, rfl, by decide⟩
theorem jzX0_letWait : zk_V mX0_letWait 1 1 := ⟨jiX0_letWait, jsX0_letWait, jn_Heliographs_Chain, jcX0_letWait, jpX0_letWait, by decide, by decide, rfl, by decide⟩
theorem jzX0_breakOff : zk_V mX0_breakOff 1 1 := ⟨jiX0_breakOff, jsX0_breakOff, jn_Heliographs_Chain, jcX0_breakOff, jpX0_breakOff, by decide, by decide, rfl, by decide⟩
theorem jzX0_sendOff : zk_V mX0_sendOff 1 1 := ⟨jiX0_sendOff, jsX0_sendOff, jn_Heliographs_Chain, jcX0_sendOff, jpX0_sendOff, by decide, by decide, rfl, by decide⟩
theorem jzX0_farOfWay : zk_V mX0_farOfWay 2 1 := ⟨jiX0_farOfWay, jsX0_farOfWay, jn_Heliographs_Chain, jcX0_farOfWay, jpX0_farOfWay, by decide, by decide, rfl, by decide⟩
theorem jzX0_firstPassOfWay : zk_V mX0_firstPassOfWay 2 1 := ⟨jiX0_firstPassOfWay, jsX0_firstPassOfWay, jn_Heliographs_Chain, jcX0_firstPassOfWay, jpX0_firstPassOfWay, by decide, by decide, rfl, by decide⟩
theorem jzX0_measure : zk_V mX0_measure 1 1 := ⟨jiX0_measure, jsX0_measure, jn_Heliographs_Chain, jcX0_measure, jpX0_measure, by decide, by decide, rfl, by decide⟩
theorem jzX0_shorten : zk_V mX0_shorten 3 1 := ⟨jiX0_shorten, jsX0_shorten, jn_Heliographs_Chain, jcX0_shorten, jpX0_shorten, by decide, by decide, rfl, by decide⟩
theorem jzX0_isPassable : zk_V mX0_isPassable 2 1 := ⟨jiX0_isPassable, jsX0_isPassable, jn_Heliographs_Chain, jcX0_isPassable, jpX0_isPassable, by decide, by decide, rfl, by decide⟩
theorem jzX0_isLit : zk_V mX0_isLit 1 1 := ⟨jiX0_isLit, jsX0_isLit, jn_Heliographs_Chain, jcX0_isLit, jpX0_isLit, by decide, by decide, rfl, by decide⟩
theorem jzX0_isCarried : zk_V mX0_isCarried 1 1 := ⟨jiX0_isCarried, jsX0_isCarried, jn_Heliographs_Chain, jcX0_isCarried, jpX0_isCarried, by decide, by decide, rfl, by decide⟩
theorem jzX0_leftOf : zk_V mX0_leftOf 1 1 := ⟨jiX0_leftOf, jsX0_leftOf, jn_Heliographs_Chain, jcX0_leftOf, jpX0_leftOf, by decide, by decide, rfl, by decide⟩
theorem jzX0_breaksOf : zk_V mX0_breaksOf 1 1 := ⟨jiX0_breaksOf, jsX0_breaksOf, jn_Heliographs_Chain, jcX0_breaksOf, jpX0_breaksOf, by decide, by decide, rfl, by decide⟩
theorem jzX0_freeMirrors : zk_V mX0_freeMirrors 1 1 := ⟨jiX0_freeMirrors, jsX0_freeMirrors, jn_Heliographs_Chain, jcX0_freeMirrors, jpX0_freeMirrors, by decide, by decide, rfl, by decide⟩
theorem jzX0_messagesAt : zk_V mX0_messagesAt 2 1 := ⟨jiX0_messagesAt, jsX0_messagesAt, jn_Heliographs_Chain, jcX0_messagesAt, jpX0_messagesAt, by decide, by decide, rfl, by decide⟩
theorem jzX0_messagesIn : zk_V mX0_messagesIn 1 1 := ⟨jiX0_messagesIn, jsX0_messagesIn, jn_Heliographs_Chain, jcX0_messagesIn, jpX0_messagesIn, by decide, by decide, rfl, by decide⟩
theorem jzX0_messageOver : zk_V mX0_messageOver 1 1 := ⟨jiX0_messageOver, jsX0_messageOver, jn_Heliographs_Chain, jcX0_messageOver, jpX0_messageOver, by decide, by decide, rfl, by decide⟩
theorem jzX0_breaksInAll : zk_V mX0_breaksInAll 0 1 := ⟨jiX0_breaksInAll, jsX0_breaksInAll, jn_Heliographs_Chain, jcX0_breaksInAll, jpX0_breaksInAll, by decide, by decide, rfl, by decide⟩
theorem jzX0_sunnyPeaks : zk_V mX0_sunnyPeaks 0 1 := ⟨jiX0_sunnyPeaks, jsX0_sunnyPeaks, jn_Heliographs_Chain, jcX0_sunnyPeaks, jpX0_sunnyPeaks, by decide, by decide, rfl, by decide⟩
theorem jzX0_openPasses : zk_V mX0_openPasses 0 1 := ⟨jiX0_openPasses, jsX0_openPasses, jn_Heliographs_Chain, jcX0_openPasses, jpX0_openPasses, by decide, by decide, rfl, by decide⟩
theorem jzX0_passesOf : zk_V mX0_passesOf 1 1 := ⟨jiX0_passesOf, jsX0_passesOf, jn_Heliographs_Chain, jcX0_passesOf, jpX0_passesOf, by decide, by decide, rfl, by decide⟩
theorem jzX0_openPassesOf : zk_V mX0_openPassesOf 1 1 := ⟨jiX0_openPassesOf, jsX0_openPassesOf, jn_Heliographs_Chain, jcX0_openPassesOf, jpX0_openPassesOf, by decide, by decide, rfl, by decide⟩
theorem jzX0_tally : zk_V mX0_tally 1 1 := ⟨jiX0_tally, jsX0_tally, jn_Heliographs_Chain, jcX0_tally, jpX0_tally, by decide, by decide, rfl, by decide⟩
theorem jzX0_peakTold : zk_V mX0_peakTold 2 1 := ⟨jiX0_peakTold, jsX0_peakTold, jn_Heliographs_Chain, jcX0_peakTold, jpX0_peakTold, by decide, by decide, rfl, by decide⟩
theorem jzX0_passTold : zk_V mX0_passTold 2 1 := ⟨jiX0_passTold, jsX0_passTold, jn_Heliographs_Chain, jcX0_passTold, jpX0_passTold, by decide, by decide, rfl, by decide⟩
theorem jzX0_messageTold : zk_V mX0_messageTold 2 1 := ⟨jiX0_messageTold, jsX0_messageTold, jn_Heliographs_Chain, jcX0_messageTold, jpX0_messageTold, by decide, by decide, rfl, by decide⟩
theorem jzX2_clear : zk_V mX2_clear 0 2 := ⟨jiX2_clear, jsX2_clear, jn_Heliographs_Orders, jcX2_clear, jpX2_clear, by decide, by decide, rfl, by decide⟩
theorem jzX2_append : zk_V mX2_append 2 2 := ⟨jiX2_append, jsX2_append, jn_Heliographs_Orders, jcX2_append, jpX2_append, by decide, by decide, rfl, by decide⟩
theorem jzX2_close : zk_V mX2_close 1 2 := ⟨jiX2_close, jsX2_close, jn_Heliographs_Orders, jcX2_close, jpX2_close, by decide, by decide, rfl, by decide⟩
theorem jzX2_isHeld : zk_V mX2_isHeld 2 2 := ⟨jiX2_isHeld, jsX2_isHeld, jn_Heliographs_Orders, jcX2_isHeld, jpX2_isHeld, by decide, by decide, rfl, by decide⟩
theorem jzX2_isTrue : zk_V mX2_isTrue 3 2 := ⟨jiX2_isTrue, jsX2_isTrue, jn_Heliographs_Orders, jcX2_isTrue, jpX2_isTrue, by decide, by decide, rfl, by decide⟩
theorem jzX2_apply : zk_V mX2_apply 3 2 := ⟨jiX2_apply, jsX2_apply, jn_Heliographs_Orders, jcX2_apply, jpX2_apply, by decide, by decide, rfl, by decide⟩
theorem jzX2_joined : zk_S mX2_joined 3 := ⟨jiX2_joined, jn_Heliographs_Orders, jcX2_joined, jpX2_joined, by decide, by decide⟩
theorem jzX2_push : zk_V mX2_push 1 2 := ⟨jiX2_push, jsX2_push, jn_Heliographs_Orders, jcX2_push, jpX2_push, by decide, by decide, rfl, by decide⟩
theorem jzX2_pop : zk_V mX2_pop 0 2 := ⟨jiX2_pop, jsX2_pop, jn_Heliographs_Orders, jcX2_pop, jpX2_pop, by decide, by decide, rfl, by decide⟩
theorem jzX3_clear : zk_V mX3_clear 0 3 := ⟨jiX3_clear, jsX3_clear, jn_Heliographs_Plan, jcX3_clear, jpX3_clear, by decide, by decide, rfl, by decide⟩
theorem jzX3_addPeak : zk_V mX3_addPeak 3 3 := ⟨jiX3_addPeak, jsX3_addPeak, jn_Heliographs_Plan, jcX3_addPeak, jpX3_addPeak, by decide, by decide, rfl, by decide⟩
theorem jzX3_addPass : zk_V mX3_addPass 3 3 := ⟨jiX3_addPass, jsX3_addPass, jn_Heliographs_Plan, jcX3_addPass, jpX3_addPass, by decide, by decide, rfl, by decide⟩
theorem jzX3_addCloud : zk_V mX3_addCloud 4 3 := ⟨jiX3_addCloud, jsX3_addCloud, jn_Heliographs_Plan, jcX3_addCloud, jpX3_addCloud, by decide, by decide, rfl, by decide⟩
theorem jzX3_addMessage : zk_V mX3_addMessage 4 3 := ⟨jiX3_addMessage, jsX3_addMessage, jn_Heliographs_Plan, jcX3_addMessage, jpX3_addMessage, by decide, by decide, rfl, by decide⟩
theorem jzX3_hasPeak : zk_V mX3_hasPeak 1 3 := ⟨jiX3_hasPeak, jsX3_hasPeak, jn_Heliographs_Plan, jcX3_hasPeak, jpX3_hasPeak, by decide, by decide, rfl, by decide⟩
theorem jzX3_hasPass : zk_V mX3_hasPass 1 3 := ⟨jiX3_hasPass, jsX3_hasPass, jn_Heliographs_Plan, jcX3_hasPass, jpX3_hasPass, by decide, by decide, rfl, by decide⟩
theorem jzX3_hasMessage : zk_V mX3_hasMessage 1 3 := ⟨jiX3_hasMessage, jsX3_hasMessage, jn_Heliographs_Plan, jcX3_hasMessage, jpX3_hasMessage, by decide, by decide, rfl, by decide⟩
theorem jzX3_isSunny : zk_V mX3_isSunny 2 3 := ⟨jiX3_isSunny, jsX3_isSunny, jn_Heliographs_Plan, jcX3_isSunny, jpX3_isSunny, by decide, by decide, rfl, by decide⟩
theorem jzX3_isCloudy : zk_V mX3_isCloudy 2 3 := ⟨jiX3_isCloudy, jsX3_isCloudy, jn_Heliographs_Plan, jcX3_isCloudy, jpX3_isCloudy, by decide, by decide, rfl, by decide⟩
theorem jzX3_cloudsOver : zk_V mX3_cloudsOver 1 3 := ⟨jiX3_cloudsOver, jsX3_cloudsOver, jn_Heliographs_Plan, jcX3_cloudsOver, jpX3_cloudsOver, by decide, by decide, rfl, by decide⟩
theorem jzX3_isEnd : zk_V mX3_isEnd 2 3 := ⟨jiX3_isEnd, jsX3_isEnd, jn_Heliographs_Plan, jcX3_isEnd, jpX3_isEnd, by decide, by decide, rfl, by decide⟩
theorem jzX3_across : zk_V mX3_across 2 3 := ⟨jiX3_across, jsX3_across, jn_Heliographs_Plan, jcX3_across, jpX3_across, by decide, by decide, rfl, by decide⟩
theorem jzX4_read : zk_V mX4_read 1 4 := ⟨jiX4_read, jsX4_read, jn_Heliographs_Reader, jcX4_read, jpX4_read, by decide, by decide, rfl, by decide⟩
theorem jzX4_readPeak : zk_V mX4_readPeak 0 4 := ⟨jiX4_readPeak, jsX4_readPeak, jn_Heliographs_Reader, jcX4_readPeak, jpX4_readPeak, by decide, by decide, rfl, by decide⟩
theorem jzX4_readPass : zk_V mX4_readPass 0 4 := ⟨jiX4_readPass, jsX4_readPass, jn_Heliographs_Reader, jcX4_readPass, jpX4_readPass, by decide, by decide, rfl, by decide⟩
theorem jzX4_readCloud : zk_V mX4_readCloud 0 4 := ⟨jiX4_readCloud, jsX4_readCloud, jn_Heliographs_Reader, jcX4_readCloud, jpX4_readCloud, by decide, by decide, rfl, by decide⟩
theorem jzX4_readMessage : zk_V mX4_readMessage 0 4 := ⟨jiX4_readMessage, jsX4_readMessage, jn_Heliographs_Reader, jcX4_readMessage, jpX4_readMessage, by decide, by decide, rfl, by decide⟩
theorem jzX4_readHold : zk_V mX4_readHold 0 4 := ⟨jiX4_readHold, jsX4_readHold, jn_Heliographs_Reader, jcX4_readHold, jpX4_readHold, by decide, by decide, rfl, by decide⟩
theorem jzX4_readTest : zk_V mX4_readTest 1 4 := ⟨jiX4_readTest, jsX4_readTest, jn_Heliographs_Reader, jcX4_readTest, jpX4_readTest, by decide, by decide, rfl, by decide⟩
theorem jzX4_readBoth : zk_V mX4_readBoth 1 4 := ⟨jiX4_readBoth, jsX4_readBoth, jn_Heliographs_Reader, jcX4_readBoth, jpX4_readBoth, by decide, by decide, rfl, by decide⟩
theorem jzX4_readSingle : zk_V mX4_readSingle 1 4 := ⟨jiX4_readSingle, jsX4_readSingle, jn_Heliographs_Reader, jcX4_readSingle, jpX4_readSingle, by decide, by decide, rfl, by decide⟩
theorem jzX4_comparisonOf : zk_S mX4_comparisonOf 1 := ⟨jiX4_comparisonOf, jn_Heliographs_Reader, jcX4_comparisonOf, jpX4_comparisonOf, by decide, by decide⟩
theorem jzX4_readSum : zk_V mX4_readSum 1 4 := ⟨jiX4_readSum, jsX4_readSum, jn_Heliographs_Reader, jcX4_readSum, jpX4_readSum, by decide, by decide, rfl, by decide⟩
theorem jzX4_readProduct : zk_V mX4_readProduct 1 4 := ⟨jiX4_readProduct, jsX4_readProduct, jn_Heliographs_Reader, jcX4_readProduct, jpX4_readProduct, by decide, by decide, rfl, by decide⟩
theorem jzX4_readValue : zk_V mX4_readValue 1 4 := ⟨jiX4_readValue, jsX4_readValue, jn_Heliographs_Reader, jcX4_readValue, jpX4_readValue, by decide, by decide, rfl, by decide⟩
theorem jzX4_readTwoSums : zk_V mX4_readTwoSums 2 4 := ⟨jiX4_readTwoSums, jsX4_readTwoSums, jn_Heliographs_Reader, jcX4_readTwoSums, jpX4_readTwoSums, by decide, by decide, rfl, by decide⟩
theorem jzX4_goDeeper : zk_V mX4_goDeeper 2 4 := ⟨jiX4_goDeeper, jsX4_goDeeper, jn_Heliographs_Reader, jcX4_goDeeper, jpX4_goDeeper, by decide, by decide, rfl, by decide⟩
theorem jzX4_newName : zk_V mX4_newName 2 4 := ⟨jiX4_newName, jsX4_newName, jn_Heliographs_Reader, jcX4_newName, jpX4_newName, by decide, by decide, rfl, by decide⟩
theorem jzX4_oldName : zk_V mX4_oldName 2 4 := ⟨jiX4_oldName, jsX4_oldName, jn_Heliographs_Reader, jcX4_oldName, jpX4_oldName, by decide, by decide, rfl, by decide⟩
theorem jzX4_otherPeak : zk_V mX4_otherPeak 1 4 := ⟨jiX4_otherPeak, jsX4_otherPeak, jn_Heliographs_Reader, jcX4_otherPeak, jpX4_otherPeak, by decide, by decide, rfl, by decide⟩
theorem jzX4_find : zk_S mX4_find 3 := ⟨jiX4_find, jn_Heliographs_Reader, jcX4_find, jpX4_find, by decide, by decide⟩
theorem jzX4_number : zk_V mX4_number 2 4 := ⟨jiX4_number, jsX4_number, jn_Heliographs_Reader, jcX4_number, jpX4_number, by decide, by decide, rfl, by decide⟩
theorem jzX4_emit : zk_V mX4_emit 2 4 := ⟨jiX4_emit, jsX4_emit, jn_Heliographs_Reader, jcX4_emit, jpX4_emit, by decide, by decide, rfl, by decide⟩
theorem jzX4_accept : zk_V mX4_accept 1 4 := ⟨jiX4_accept, jsX4_accept, jn_Heliographs_Reader, jcX4_accept, jpX4_accept, by decide, by decide, rfl, by decide⟩
theorem jzX4_expect : zk_V mX4_expect 1 4 := ⟨jiX4_expect, jsX4_expect, jn_Heliographs_Reader, jcX4_expect, jpX4_expect, by decide, by decide, rfl, by decide⟩
theorem jzX4_fail : zk_V mX4_fail 0 4 := ⟨jiX4_fail, jsX4_fail, jn_Heliographs_Reader, jcX4_fail, jpX4_fail, by decide, by decide, rfl, by decide⟩
theorem jzX4_complain : zk_V mX4_complain 1 4 := ⟨jiX4_complain, jsX4_complain, jn_Heliographs_Reader, jcX4_complain, jpX4_complain, by decide, by decide, rfl, by decide⟩
theorem jzX5_append : zk_V mX5_append 1 5 := ⟨jiX5_append, jsX5_append, jn_Heliographs_Tape, jcX5_append, jpX5_append, by decide, by decide, rfl, by decide⟩
theorem jzX5_byteAt : zk_V mX5_byteAt 1 5 := ⟨jiX5_byteAt, jsX5_byteAt, jn_Heliographs_Tape, jcX5_byteAt, jpX5_byteAt, by decide, by decide, rfl, by decide⟩
theorem jzX5_reads : zk_V mX5_reads 3 5 := ⟨jiX5_reads, jsX5_reads, jn_Heliographs_Tape, jcX5_reads, jpX5_reads, by decide, by decide, rfl, by decide⟩
theorem jzX6_scan : zk_V mX6_scan 1 6 := ⟨jiX6_scan, jsX6_scan, jn_Heliographs_Tokens, jcX6_scan, jpX6_scan, by decide, by decide, rfl, by decide⟩
theorem jzX6_kind : zk_V mX6_kind 0 6 := ⟨jiX6_kind, jsX6_kind, jn_Heliographs_Tokens, jcX6_kind, jpX6_kind, by decide, by decide, rfl, by decide⟩
theorem jzX6_start : zk_V mX6_start 0 6 := ⟨jiX6_start, jsX6_start, jn_Heliographs_Tokens, jcX6_start, jpX6_start, by decide, by decide, rfl, by decide⟩
theorem jzX6_value : zk_V mX6_value 0 6 := ⟨jiX6_value, jsX6_value, jn_Heliographs_Tokens, jcX6_value, jpX6_value, by decide, by decide, rfl, by decide⟩
theorem jzX6_advance : zk_V mX6_advance 0 6 := ⟨jiX6_advance, jsX6_advance, jn_Heliographs_Tokens, jcX6_advance, jpX6_advance, by decide, by decide, rfl, by decide⟩
theorem jzX6_giveUp : zk_V mX6_giveUp 0 6 := ⟨jiX6_giveUp, jsX6_giveUp, jn_Heliographs_Tokens, jcX6_giveUp, jpX6_giveUp, by decide, by decide, rfl, by decide⟩
theorem jzX6_skipBlanks : zk_V mX6_skipBlanks 1 6 := ⟨jiX6_skipBlanks, jsX6_skipBlanks, jn_Heliographs_Tokens, jcX6_skipBlanks, jpX6_skipBlanks, by decide, by decide, rfl, by decide⟩
theorem jzX6_scanToken : zk_V mX6_scanToken 1 6 := ⟨jiX6_scanToken, jsX6_scanToken, jn_Heliographs_Tokens, jcX6_scanToken, jpX6_scanToken, by decide, by decide, rfl, by decide⟩
theorem jzX6_scanWord : zk_V mX6_scanWord 1 6 := ⟨jiX6_scanWord, jsX6_scanWord, jn_Heliographs_Tokens, jcX6_scanWord, jpX6_scanWord, by decide, by decide, rfl, by decide⟩
theorem jzX6_scanNumber : zk_V mX6_scanNumber 1 6 := ⟨jiX6_scanNumber, jsX6_scanNumber, jn_Heliographs_Tokens, jcX6_scanNumber, jpX6_scanNumber, by decide, by decide, rfl, by decide⟩
theorem jzX6_scanSymbol : zk_V mX6_scanSymbol 1 6 := ⟨jiX6_scanSymbol, jsX6_scanSymbol, jn_Heliographs_Tokens, jcX6_scanSymbol, jpX6_scanSymbol, by decide, by decide, rfl, by decide⟩
theorem jzX6_kindOf : zk_S mX6_kindOf 3 := ⟨jiX6_kindOf, jn_Heliographs_Tokens, jcX6_kindOf, jpX6_kindOf, by decide, by decide⟩
theorem jzX6_keep : zk_V mX6_keep 2 6 := ⟨jiX6_keep, jsX6_keep, jn_Heliographs_Tokens, jcX6_keep, jpX6_keep, by decide, by decide, rfl, by decide⟩
theorem jzX6_isLetter : zk_S mX6_isLetter 1 := ⟨jiX6_isLetter, jn_Heliographs_Tokens, jcX6_isLetter, jpX6_isLetter, by decide, by decide⟩
theorem jzX6_isDigit : zk_S mX6_isDigit 1 := ⟨jiX6_isDigit, jn_Heliographs_Tokens, jcX6_isDigit, jpX6_isDigit, by decide, by decide⟩
theorem jzX7_feed : zk_V mX7_feed 5 0 := ⟨jiX7_feed, jsX7_feed, jn_Heliographs, jcX7_feed, jpX7_feed, by decide, by decide, rfl, by decide⟩
theorem jzX7_trim : zk_V mX7_trim 1 0 := ⟨jiX7_trim, jsX7_trim, jn_Heliographs, jcX7_trim, jpX7_trim, by decide, by decide, rfl, by decide⟩
theorem jzX7_teach : zk_V mX7_teach 0 0 := ⟨jiX7_teach, jsX7_teach, jn_Heliographs, jcX7_teach, jpX7_teach, by decide, by decide, rfl, by decide⟩
theorem jzX7_count : zk_V mX7_count 1 0 := ⟨jiX7_count, jsX7_count, jn_Heliographs, jcX7_count, jpX7_count, by decide, by decide, rfl, by decide⟩
theorem jzX7_peak : zk_V mX7_peak 2 0 := ⟨jiX7_peak, jsX7_peak, jn_Heliographs, jcX7_peak, jpX7_peak, by decide, by decide, rfl, by decide⟩
theorem jzX7_pass : zk_V mX7_pass 2 0 := ⟨jiX7_pass, jsX7_pass, jn_Heliographs, jcX7_pass, jpX7_pass, by decide, by decide, rfl, by decide⟩
theorem jzX7_message : zk_V mX7_message 2 0 := ⟨jiX7_message, jsX7_message, jn_Heliographs, jcX7_message, jpX7_message, by decide, by decide, rfl, by decide⟩
theorem jzX7_hasSun : zk_V mX7_hasSun 2 0 := ⟨jiX7_hasSun, jsX7_hasSun, jn_Heliographs, jcX7_hasSun, jpX7_hasSun, by decide, by decide, rfl, by decide⟩
theorem jzX7_isOpen : zk_V mX7_isOpen 2 0 := ⟨jiX7_isOpen, jsX7_isOpen, jn_Heliographs, jcX7_isOpen, jpX7_isOpen, by decide, by decide, rfl, by decide⟩
theorem jzX7_way : zk_V mX7_way 2 0 := ⟨jiX7_way, jsX7_way, jn_Heliographs, jcX7_way, jpX7_way, by decide, by decide, rfl, by decide⟩
theorem jzX7_first : zk_V mX7_first 2 0 := ⟨jiX7_first, jsX7_first, jn_Heliographs, jcX7_first, jpX7_first, by decide, by decide, rfl, by decide⟩
theorem jzX7_go : zk_V mX7_go 1 0 := ⟨jiX7_go, jsX7_go, jn_Heliographs, jcX7_go, jpX7_go, by decide, by decide, rfl, by decide⟩
theorem jzX7_until : zk_V mX7_until 1 0 := ⟨jiX7_until, jsX7_until, jn_Heliographs, jcX7_until, jpX7_until, by decide, by decide, rfl, by decide⟩
theorem jzX7_opens : zk_V mX7_opens 1 0 := ⟨jiX7_opens, jsX7_opens, jn_Heliographs, jcX7_opens, jpX7_opens, by decide, by decide, rfl, by decide⟩
theorem jzX7_foresee : zk_V mX7_foresee 2 0 := ⟨jiX7_foresee, jsX7_foresee, jn_Heliographs, jcX7_foresee, jpX7_foresee, by decide, by decide, rfl, by decide⟩
theorem jzX7_missed : zk_V mX7_missed 1 0 := ⟨jiX7_missed, jsX7_missed, jn_Heliographs, jcX7_missed, jpX7_missed, by decide, by decide, rfl, by decide⟩
theorem jzX7_advise : zk_V mX7_advise 1 0 := ⟨jiX7_advise, jsX7_advise, jn_Heliographs, jcX7_advise, jpX7_advise, by decide, by decide, rfl, by decide⟩
theorem jzX7_mean : zk_V mX7_mean 0 0 := ⟨jiX7_mean, jsX7_mean, jn_Heliographs, jcX7_mean, jpX7_mean, by decide, by decide, rfl, by decide⟩
theorem jzX7_digest : zk_V mX7_digest 0 0 := ⟨jiX7_digest, jsX7_digest, jn_Heliographs, jcX7_digest, jpX7_digest, by decide, by decide, rfl, by decide⟩
theorem jzX7_countTold : zk_V mX7_countTold 1 0 := ⟨jiX7_countTold, jsX7_countTold, jn_Heliographs, jcX7_countTold, jpX7_countTold, by decide, by decide, rfl, by decide⟩
theorem jzX8_hasSun : zk_V mX8_hasSun 2 7 := ⟨jiX8_hasSun, jsX8_hasSun, jn_HeliographsLaw_Sim, jcX8_hasSun, jpX8_hasSun, by decide, by decide, rfl, by decide⟩
theorem jzX8_isOpen : zk_V mX8_isOpen 2 7 := ⟨jiX8_isOpen, jsX8_isOpen, jn_HeliographsLaw_Sim, jcX8_isOpen, jpX8_isOpen, by decide, by decide, rfl, by decide⟩
theorem jzX8_isOpen_ : zk_V mX8_isOpen_ 1 7 := ⟨jiX8_isOpen_, jsX8_isOpen_, jn_HeliographsLaw_Sim, jcX8_isOpen_, jpX8_isOpen_, by decide, by decide, rfl, by decide⟩
theorem jzX8_queue : zk_V mX8_queue 1 7 := ⟨jiX8_queue, jsX8_queue, jn_HeliographsLaw_Sim, jcX8_queue, jpX8_queue, by decide, by decide, rfl, by decide⟩
theorem jzX8_busy : zk_V mX8_busy 1 7 := ⟨jiX8_busy, jsX8_busy, jn_HeliographsLaw_Sim, jcX8_busy, jpX8_busy, by decide, by decide, rfl, by decide⟩
theorem jzX8_over : zk_V mX8_over 1 7 := ⟨jiX8_over, jsX8_over, jn_HeliographsLaw_Sim, jcX8_over, jpX8_over, by decide, by decide, rfl, by decide⟩
theorem jzX8_ways : zk_V mX8_ways 0 7 := ⟨jiX8_ways, jsX8_ways, jn_HeliographsLaw_Sim, jcX8_ways, jpX8_ways, by decide, by decide, rfl, by decide⟩
theorem jzX8_first : zk_V mX8_first 3 7 := ⟨jiX8_first, jsX8_first, jn_HeliographsLaw_Sim, jcX8_first, jpX8_first, by decide, by decide, rfl, by decide⟩
theorem jzX8_holds : zk_V mX8_holds 1 7 := ⟨jiX8_holds, jsX8_holds, jn_HeliographsLaw_Sim, jcX8_holds, jpX8_holds, by decide, by decide, rfl, by decide⟩
theorem jzX8_isHeld : zk_V mX8_isHeld 1 7 := ⟨jiX8_isHeld, jsX8_isHeld, jn_HeliographsLaw_Sim, jcX8_isHeld, jpX8_isHeld, by decide, by decide, rfl, by decide⟩
theorem jzX8_breakOff : zk_V mX8_breakOff 1 7 := ⟨jiX8_breakOff, jsX8_breakOff, jn_HeliographsLaw_Sim, jcX8_breakOff, jpX8_breakOff, by decide, by decide, rfl, by decide⟩
theorem jzX8_pass : zk_V mX8_pass 0 7 := ⟨jiX8_pass, jsX8_pass, jn_HeliographsLaw_Sim, jcX8_pass, jpX8_pass, by decide, by decide, rfl, by decide⟩
theorem jzX8_go : zk_V mX8_go 1 7 := ⟨jiX8_go, jsX8_go, jn_HeliographsLaw_Sim, jcX8_go, jpX8_go, by decide, by decide, rfl, by decide⟩
theorem jzX8_counts : zk_V mX8_counts 0 7 := ⟨jiX8_counts, jsX8_counts, jn_HeliographsLaw_Sim, jcX8_counts, jpX8_counts, by decide, by decide, rfl, by decide⟩
theorem jzX8_isSame : zk_V mX8_isSame 1 7 := ⟨jiX8_isSame, jsX8_isSame, jn_HeliographsLaw_Sim, jcX8_isSame, jpX8_isSame, by decide, by decide, rfl, by decide⟩
theorem jzJ6_getChars_ba4f3 : zk_S mJ6_getChars_ba4f3 3 := ⟨jiJ6_getChars_ba4f3, jn_Integer, jcJ6_getChars_ba4f3, jpJ6_getChars_ba4f3, by decide, by decide⟩
theorem jzJ6_stringSize_0f7a4 : zk_S mJ6_stringSize_0f7a4 1 := ⟨jiJ6_stringSize_0f7a4, jn_Integer, jcJ6_stringSize_0f7a4, jpJ6_stringSize_0f7a4, by decide, by decide⟩
theorem jzJ0_length_8abf5 : zk_V mJ0_length_8abf5 0 8 := ⟨jiJ0_length_8abf5, jsJ0_length_8abf5, jn_String, jcJ0_length_8abf5, jpJ0_length_8abf5, by decide, by decide, rfl, by decide⟩
theorem jzJ0_charAt_5068e : zk_V mJ0_charAt_5068e 1 8 := ⟨jiJ0_charAt_5068e, jsJ0_charAt_5068e, jn_String, jcJ0_charAt_5068e, jpJ0_charAt_5068e, by decide, by decide, rfl, by decide⟩
theorem jzJ0_getBytes_840e7 : zk_V mJ0_getBytes_840e7 3 8 := ⟨jiJ0_getBytes_840e7, jsJ0_getBytes_840e7, jn_String, jcJ0_getBytes_840e7, jpJ0_getBytes_840e7, by decide, by decide, rfl, by decide⟩
theorem jzJ0_coder_7d493 : zk_V mJ0_coder_7d493 0 8 := ⟨jiJ0_coder_7d493, jsJ0_coder_7d493, jn_String, jcJ0_coder_7d493, jpJ0_coder_7d493, by decide, by decide, rfl, by decide⟩
theorem jzJ0_isLatin1_aae02 : zk_V mJ0_isLatin1_aae02 0 8 := ⟨jiJ0_isLatin1_aae02, jsJ0_isLatin1_aae02, jn_String, jcJ0_isLatin1_aae02, jpJ0_isLatin1_aae02, by decide, by decide, rfl, by decide⟩
theorem jzJ0_checkIndex_df160 : zk_S mJ0_checkIndex_df160 2 := ⟨jiJ0_checkIndex_df160, jn_String, jcJ0_checkIndex_df160, jpJ0_checkIndex_df160, by decide, by decide⟩
theorem jzJ0_checkBoundsOffCount_cabcc : zk_S mJ0_checkBoundsOffCount_cabcc 3 := ⟨jiJ0_checkBoundsOffCount_cabcc, jn_String, jcJ0_checkBoundsOffCount_cabcc, jpJ0_checkBoundsOffCount_cabcc, by decide, by decide⟩
theorem jzJ0_checkBoundsBeginEnd_23922 : zk_S mJ0_checkBoundsBeginEnd_23922 3 := ⟨jiJ0_checkBoundsBeginEnd_23922, jn_String, jcJ0_checkBoundsBeginEnd_23922, jpJ0_checkBoundsBeginEnd_23922, by decide, by decide⟩
theorem jzJ4_append_15ec4 : zk_V mJ4_append_15ec4 1 9 := ⟨jiJ4_append_15ec4, jsJ4_append_15ec4, jn_StringBuilder, jcJ4_append_15ec4, jpJ4_append_15ec4, by decide, by decide, rfl, by decide⟩
theorem jzJ4_append_bf812 : zk_V mJ4_append_bf812 1 9 := ⟨jiJ4_append_bf812, jsJ4_append_bf812, jn_StringBuilder, jcJ4_append_bf812, jpJ4_append_bf812, by decide, by decide, rfl, by decide⟩
theorem jzJ4_toString_0e30d : zk_V mJ4_toString_0e30d 0 9 := ⟨jiJ4_toString_0e30d, jsJ4_toString_0e30d, jn_StringBuilder, jcJ4_toString_0e30d, jpJ4_toString_0e30d, by decide, by decide, rfl, by decide⟩
theorem jzJ1_charAt_3b067 : zk_S mJ1_charAt_3b067 2 := ⟨jiJ1_charAt_3b067, jn_StringLatin1, jcJ1_charAt_3b067, jpJ1_charAt_3b067, by decide, by decide⟩
theorem jzJ1_inflate_0e8fd : zk_S mJ1_inflate_0e8fd 5 := ⟨jiJ1_inflate_0e8fd, jn_StringLatin1, jcJ1_inflate_0e8fd, jpJ1_inflate_0e8fd, by decide, by decide⟩
theorem jzJ2_newBytesFor_77867 : zk_S mJ2_newBytesFor_77867 1 := ⟨jiJ2_newBytesFor_77867, jn_StringUTF16, jcJ2_newBytesFor_77867, jpJ2_newBytesFor_77867, by decide, by decide⟩
theorem jzJ2_newBytesLength_0f7a4 : zk_S mJ2_newBytesLength_0f7a4 1 := ⟨jiJ2_newBytesLength_0f7a4, jn_StringUTF16, jcJ2_newBytesLength_0f7a4, jpJ2_newBytesLength_0f7a4, by decide, by decide⟩
theorem jzJ2_putChar_b72d1 : zk_S mJ2_putChar_b72d1 3 := ⟨jiJ2_putChar_b72d1, jn_StringUTF16, jcJ2_putChar_b72d1, jpJ2_putChar_b72d1, by decide, by decide⟩
theorem jzJ2_getChar_3b067 : zk_S mJ2_getChar_3b067 2 := ⟨jiJ2_getChar_3b067, jn_StringUTF16, jcJ2_getChar_3b067, jpJ2_getChar_3b067, by decide, by decide⟩
theorem jzJ2_length_9d52b : zk_S mJ2_length_9d52b 1 := ⟨jiJ2_length_9d52b, jn_StringUTF16, jcJ2_length_9d52b, jpJ2_length_9d52b, by decide, by decide⟩
theorem jzJ2_coderFromArrayLen_85cad : zk_S mJ2_coderFromArrayLen_85cad 2 := ⟨jiJ2_coderFromArrayLen_85cad, jn_StringUTF16, jcJ2_coderFromArrayLen_85cad, jpJ2_coderFromArrayLen_85cad, by decide, by decide⟩
theorem jzJ2_compress_39247 : zk_S mJ2_compress_39247 3 := ⟨jiJ2_compress_39247, jn_StringUTF16, jcJ2_compress_39247, jpJ2_compress_39247, by decide, by decide⟩
theorem jzJ2_compress_5af95 : zk_S mJ2_compress_5af95 5 := ⟨jiJ2_compress_5af95, jn_StringUTF16, jcJ2_compress_5af95, jpJ2_compress_5af95, by decide, by decide⟩
theorem jzJ2_getChars_46870 : zk_S mJ2_getChars_46870 4 := ⟨jiJ2_getChars_46870, jn_StringUTF16, jcJ2_getChars_46870, jpJ2_getChars_46870, by decide, by decide⟩
theorem jzJ2_putCharsAt_cd4e5 : zk_S mJ2_putCharsAt_cd4e5 6 := ⟨jiJ2_putCharsAt_cd4e5, jn_StringUTF16, jcJ2_putCharsAt_cd4e5, jpJ2_putCharsAt_cd4e5, by decide, by decide⟩
theorem jzJ2_charAt_3b067 : zk_S mJ2_charAt_3b067 2 := ⟨jiJ2_charAt_3b067, jn_StringUTF16, jcJ2_charAt_3b067, jpJ2_charAt_3b067, by decide, by decide⟩
theorem jzJ2_inflate_0e8fd : zk_S mJ2_inflate_0e8fd 5 := ⟨jiJ2_inflate_0e8fd, jn_StringUTF16, jcJ2_inflate_0e8fd, jpJ2_inflate_0e8fd, by decide, by decide⟩
theorem jzJ2_getChars_ba4f3 : zk_S mJ2_getChars_ba4f3 3 := ⟨jiJ2_getChars_ba4f3, jn_StringUTF16, jcJ2_getChars_ba4f3, jpJ2_getChars_ba4f3, by decide, by decide⟩
theorem jzJ2_checkIndex_2214a : zk_S mJ2_checkIndex_2214a 2 := ⟨jiJ2_checkIndex_2214a, jn_StringUTF16, jcJ2_checkIndex_2214a, jpJ2_checkIndex_2214a, by decide, by decide⟩
theorem jzJ2_checkBoundsBeginEnd_d044e : zk_S mJ2_checkBoundsBeginEnd_d044e 3 := ⟨jiJ2_checkBoundsBeginEnd_d044e, jn_StringUTF16, jcJ2_checkBoundsBeginEnd_d044e, jpJ2_checkBoundsBeginEnd_d044e, by decide, by decide⟩
theorem jzJ2_checkBoundsOffCount_d044e : zk_S mJ2_checkBoundsOffCount_d044e 3 := ⟨jiJ2_checkBoundsOffCount_d044e, jn_StringUTF16, jcJ2_checkBoundsOffCount_d044e, jpJ2_checkBoundsOffCount_d044e, by decide, by decide⟩
theorem jzJ7_copyOf_9075b : zk_S mJ7_copyOf_9075b 2 := ⟨jiJ7_copyOf_9075b, jn_Arrays, jcJ7_copyOf_9075b, jpJ7_copyOf_9075b, by decide, by decide⟩
theorem jzJ7_checkLength_df160 : zk_S mJ7_checkLength_df160 2 := ⟨jiJ7_checkLength_df160, jn_Arrays, jcJ7_checkLength_df160, jpJ7_checkLength_df160, by decide, by decide⟩
theorem jzJ7_copyOfRange_39247 : zk_S mJ7_copyOfRange_39247 3 := ⟨jiJ7_copyOfRange_39247, jn_Arrays, jcJ7_copyOfRange_39247, jpJ7_copyOfRange_39247, by decide, by decide⟩
theorem jzJ7_copyOfRangeByte_39247 : zk_S mJ7_copyOfRangeByte_39247 3 := ⟨jiJ7_copyOfRangeByte_39247, jn_Arrays, jcJ7_copyOfRangeByte_39247, jpJ7_copyOfRangeByte_39247, by decide, by decide⟩
theorem jzJ8_newLength_cabcc : zk_S mJ8_newLength_cabcc 3 := ⟨jiJ8_newLength_cabcc, jn_ArraysSupport, jcJ8_newLength_cabcc, jpJ8_newLength_cabcc, by decide, by decide⟩
theorem jzJ8_hugeLength_7cf53 : zk_S mJ8_hugeLength_7cf53 2 := ⟨jiJ8_hugeLength_7cf53, jn_ArraysSupport, jcJ8_hugeLength_7cf53, jpJ8_hugeLength_7cf53, by decide, by decide⟩
theorem jzJ3_checkIndex_8e157 : zk_S mJ3_checkIndex_8e157 3 := ⟨jiJ3_checkIndex_8e157, jn_Preconditions, jcJ3_checkIndex_8e157, jpJ3_checkIndex_8e157, by decide, by decide⟩
theorem jzJ3_checkFromToIndex_8c36e : zk_S mJ3_checkFromToIndex_8c36e 4 := ⟨jiJ3_checkFromToIndex_8c36e, jn_Preconditions, jcJ3_checkFromToIndex_8c36e, jpJ3_checkFromToIndex_8c36e, by decide, by decide⟩
theorem jzJ3_checkFromIndexSize_8c36e : zk_S mJ3_checkFromIndexSize_8c36e 4 := ⟨jiJ3_checkFromIndexSize_8c36e, jn_Preconditions, jcJ3_checkFromIndexSize_8c36e, jpJ3_checkFromIndexSize_8c36e, by decide, by decide⟩
theorem jzL_below : zk_S mL_below 2 := ⟨jiL_below, jn_HeliographsLaw, jcL_below, jpL_below, by decide, by decide⟩
theorem jzL_cell : zk_S mL_cell 2 := ⟨jiL_cell, jn_HeliographsLaw, jcL_cell, jpL_cell, by decide, by decide⟩
theorem jzL_taught : zk_S mL_taught 2 := ⟨jiL_taught, jn_HeliographsLaw, jcL_taught, jpL_taught, by decide, by decide⟩
theorem jzL_test : zk_S mL_test 1 := ⟨jiL_test, jn_HeliographsLaw, jcL_test, jpL_test, by decide, by decide⟩
theorem jzL_list : zk_S mL_list 2 := ⟨jiL_list, jn_HeliographsLaw, jcL_list, jpL_list, by decide, by decide⟩
theorem jzL_gone : zk_S mL_gone 3 := ⟨jiL_gone, jn_HeliographsLaw, jcL_gone, jpL_gone, by decide, by decide⟩

/-! THE LAW ACTS -/
section
variable {l : Launch} {Γ : zk_G} {d : Nat} {F : Heap → Prop}
theorem sm_m {c : Nat → Nat} {W π σ : zV} (h : sm c W π σ) (hb : c 0 ≤ 8 ∧ c 1 ≤ 12 ∧ c 2 ≤ 8 ∧ c 3 ≤ 8) {k : Nat} (hk : k < c 0) (z : Int) : sm c (zb_u W (432 + k) 2 z) π (zb_u σ 1 k z) := by
  obtain ⟨h1, h2, h3, h4, h5, h6⟩ := h
  have fW : ∀ a j, a ≠ 432 + k → zb_u W (432 + k) 2 z a j = W a j := fun a j h => zb_u_no _ _ (by omega)
  have fσ : ∀ i j, i ≠ 1 → zb_u σ 1 k z i j = σ i j := fun i j h => zb_u_no _ _ (by omega)
  refine ⟨h1, ?_, fun j hj => ?_, fun j hj => ?_, fun j hj => ?_, fun j hj => ?_⟩
  · rw [fW 424 0 (by omega), fW 424 1 (by omega), fW 424 2 (by omega), fσ 0 1 (by omega), fσ 0 13 (by omega), fσ 0 2 (by omega)]
    exact h2
  · have q := h3 j hj
    refine ⟨(zb_u_no _ _ (by omega)).trans q.1, (zb_u_no _ _ (by omega)).trans q.2.1, ?_⟩
    by_cases e : j = k
    · rw [e, zb_u_at, zb_u_at]
    · rw [zb_u_no _ _ (by omega), zb_u_no _ _ (by omega)]
      exact q.2.2
  · have g : ∀ i, zb_u W (432 + k) 2 z (440 + j) i = W (440 + j) i := fun i => fW (440 + j) i (by omega)
    rw [g 0, g 1, g 2, g 3, fσ 10 j (by omega)]
    exact h4 j hj
  · have g : ∀ i, zb_u W (432 + k) 2 z (452 + j) i = W (452 + j) i := fun i => fW (452 + j) i (by omega)
    rw [g 0, g 1, g 2, g 3]
    exact h5 j hj
  · have q := h6 j hj
    have g : ∀ i, zb_u W (432 + k) 2 z (460 + j) i = W (460 + j) i := fun i => fW (460 + j) i (by omega)
    rw [g 0, g 1, g 2, g 3, g 4, g 5, g 6, g 7, g 8, g 9, fσ 2 j (by omega), fσ 3 j (by omega), fσ 4 j (by omega), fσ 5 j (by omega), fσ 6 j (by omega), fσ 7 j (by omega), fσ 8 j (by omega), fσ 9 j (by omega)]
    exact q
theorem sm_forw {c : Nat → Nat} {W π σ : zV} (h : sm c W π σ) (hb : c 0 ≤ 8 ∧ c 1 ≤ 12 ∧ c 2 ≤ 8 ∧ c 3 ≤ 8) {m : Nat} {x : Int} (h7 : σ 7 m = -1) : sm c (zb_u (zb_u (zb_u (zb_u W (460 + m) 2 x) (460 + m) 4 0) (460 + m) 6 (π 7 m)) (460 + m) 8 (-1)) π (sForw π σ m x) := by
  refine sm_row (k := m) h hb (fun a j ha => by repeat rw [zb_u_no _ _ (by omega)]) (fun i j hij => by unfold sForw sWait; repeat rw [zb_u_no _ _ (by omega)]) (fun hm => ?_)
  have g := h.2.2.2.2.2 m hm
  unfold sForw sWait
  simp (decide := true) only [zb_u, false_and, and_false, true_and, and_true, and_self, if_true, if_false, ↓reduceIte]
  exact ⟨g.2.1, g.2.2.2.2.2.1.trans h7, g.2.2.2.2.2.2.2.1, g.2.2.2.2.2.2.2.2.2⟩
theorem gw_below {I : zk_MI} {kc ks : Nat} {Q : Option Value → zk_M → (Heap → Prop) → Prop} {pc idx : Nat} {L : List (Option Value)} {st : List Value} {M : zk_M} {v : Int32} {z : Int} (hd : decode I.2.1 pc = .ok (.invokestatic idx, 3)) (hw : Cond.methodLink I.1.cls idx yL_below ∈ zk_tg) (hz : 0 < z ∧ z < 2147483648) (hsum : (st.map fun v => v.category).sum ≤ 8) (hd1 : 1 ≤ d) (kk : zk_Go l Γ I d kc ks Q (pc + 3) L (.int (iZ (lB v z)) :: st) M F) : zk_Go l Γ I d kc ks Q pc L (.int (iZ z) :: .int v :: st) M F := by
  refine gb_s (J := mL_below) (d1 := d - 1) (kc1 := 0) (ks1 := 0) [.int v, .int (iZ z)] st hd rfl hw jzL_below rfl (Nat.le_of_ble_eq_true rfl) hsum (by omega) ⟨by omega, by omega⟩ (zDo_of (zL_below hz)) (fun v' M' h => ?_)
  obtain ⟨rfl, rfl⟩ := h
  exact kk
/-- the two side by side, behind a call -/
theorem lJ_next {E : Nat → Nat × Nat} {e : Nat} {c : Nat → Nat} {W π σ : zV} {p : Nat} {H : zV → Nat → Bool} {t o N : Int} (hJ : lJ E e c W p H π σ t o N) {Z W1 σ' : zV} {N' : Int} (hz : zin Z) (hSt : St Z p H π σ' t o N') (hS : sm c W1 π σ') (hk : ∀ a j, 468 ≤ a → a < 480 → W1 a j = W a j) (hO : lOk π σ') : lJ E e c (zL Z W1) p H π σ' t o N' := by
  obtain ⟨hE, hE0, -, -, -, hh, hH, -⟩ := hJ
  have hb := hE.2.2.2.2
  have hk2 : ∀ a j, 468 ≤ a → a < 480 → zL Z W1 a j = W a j := fun a j h1 h2 => (if_neg (by omega)).trans (hk a j h1 h2)
  refine ⟨hE, hE0, zin_L hz, St_424 hSt (fun a j h1 h2 => if_pos ⟨h2, by omega⟩), sm_kept hS ⟨by omega, by omega, by omega, by omega⟩ (fun a j q1 q2 => if_neg (by omega)), hRow_k hk2 hb.2.2.2.2 hh, fun N τ h1 h2 hl k h3 => ?_, hO⟩
  rw [hH N τ h1 h2 hl k h3]
  refine any_eq (fun i hi => ?_)
  have g : ∀ j, zL Z W1 (468 + i) j = W (468 + i) j := fun j => hk2 _ _ (by omega) (by omega)
  unfold sHs
  rw [g 0, g 1, g 2, g 3, g 4, g 5]
theorem act_0c_true {E : Nat → Nat × Nat} {e : Nat} {c : Nat → Nat} {W π σ : zV} {p : Nat} {H : zV → Nat → Bool} {t o N : Int} {kc ks : Nat} {Q : Option Value → zk_M → (Heap → Prop) → Prop} {x : Int32} {k m : Nat} (hJ : lJ E e c W p H π σ t o N) (h56 : Γ.2.2.2.1 56 < Γ.2.1.size) (hl : l.stackTraces = false) (hk : k < c 0) (hcan : if (true : Bool) = true then σ 1 k < 4 else 0 < sFree π σ (k : Int)) (hd : 12 ≤ d) (hq : ∀ (E' : Nat → Nat × Nat) (e' : Nat) (W' σ' : zV) (N' : Int), lJ E' e' c W' p H π σ' t o N' → N ≤ N' → N' ≤ N + 541 → σ 0 1 ≤ σ' 0 1 → σ' 0 1 ≤ σ 0 1 + 60 → σ' 0 2 = σ 0 2 → e ≤ e' → (∀ a, a < e → E' a = E a) → (∀ a j, (a = 56 ∨ 468 ≤ a) → a < e → W' a j = W a j) → Q (some (.int (iZ 1))) (zG E' e' W') F) : zk_Go l Γ mL_act d (kc + 8) (ks + 60) Q 136 [some (.ref 320), some (.ref 424), some (.int x), some (.int (iZ (k : Int))), some (.int (iZ (m : Int))), some (.ref (460 + m)), some (.int (iZ 1)), none, none] [.int (iZ 1)] (zG E e W) F := by
  have hJ2 := hJ
  obtain ⟨hE, hE0, hz, hSt, hS, hh, hH, hO⟩ := hJ2
  have hb5 := hE.2.2.2.2
  have h48 := hE.2.2.2.1
  have n1 := hS.1
  have hw : wP π := hSt.2.2.2.2.1
  have hc : wC π σ N := hSt.2.2.2.2.2.1
  have n0 := wP_n hw
  have hS1 : sm c (zb_u W (432 + k) 2 (σ 1 k + 1)) π (sMir σ k true) := sm_m hS ⟨by omega, by omega, by omega, by omega⟩ hk _
  have hz1 : zin (zb_u W (432 + k) 2 (σ 1 k + 1)) := zin_424 hz (fun a j h1 => zb_u_no _ _ (by omega))
  have hSt1 : St (zb_u W (432 + k) 2 (σ 1 k + 1)) p H π σ t o N := St_424 hSt (fun a j h1 h2 => zb_u_no _ _ (by omega))
  have k1 := wC_k hc (k := k) (by omega)
  refine gz_istore (L2 := [some (.ref 320), some (.ref 424), some (.int x), some (.int (iZ (k : Int))), some (.int (iZ (m : Int))), some (.ref (460 + m)), some (.int (iZ 1)), some (.int (iZ 1)), none]) dL_act_136 (Nat.le_of_ble_eq_true rfl) rfl ?_
  refine gz_iload dL_act_138 rfl ?_
  refine zz_if_eq (tgt := 164) dL_act_140 rfl (by omega) (fun b140 => ?_) (fun b140 => ?_)
  · exact absurd b140 (by omega)
  refine gz_aload_n dL_act_143 rfl ?_
  refine gz_getf (M := zG E e W) 3 dL_act_144 hE.1 rfl wf_HeliographsLaw_89 (by decide) rfl ?_
  refine gz_iload_n dL_act_147 rfl ?_
  refine gg_aald hE 0 (j := k) dL_act_148 (by decide) rfl rfl (by omega) ?_
  refine zz_iconst dL_act_149 ?_
  refine gz_dup2 dL_act_150 rfl rfl ?_
  refine gg_iald hE 0 2 (j := k) (v := σ 1 k) dL_act_151 (by decide) rfl (by omega) rfl (by decide) (hS.2.2.1 k (by omega)).2.2 ?_
  refine gz_iload dL_act_152 rfl ?_
  refine zz_if_eq (tgt := 161) dL_act_154 rfl (by omega) (fun b154 => ?_) (fun b154 => ?_)
  · exact absurd b154 (by omega)
  refine zz_iconst dL_act_157 ?_
  refine gz_goto (tgt := 162) dL_act_158 rfl ?_
  refine zz_iadd dL_act_162 ?_
  refine gg_iast hE 0 2 (j := k) dL_act_163 (by decide) rfl (by omega) rfl (by decide) ?_
  refine gz_aload_n dL_act_164 rfl ?_
  refine gz_iload_n dL_act_165 rfl ?_
  refine gz_iload dL_act_166 rfl ?_
  refine gA_callX (J := mX7_mirror) (d1 := d - 1) (kc1 := 0) (ks1 := 0) (b := 320) (ct := 162) (hpc := 197) (i := 8) (W := (zb_u W (432 + k) 2 (σ 1 k + 1))) hL_act [] ({ startPc := 164, endPc := 196, handlerPc := 197, catchType := 162 } : ExceptionTableEntry) [({ startPc := 243, endPc := 268, handlerPc := 269, catchType := 162 } : ExceptionTableEntry), ({ startPc := 337, endPc := 365, handlerPc := 366, catchType := 162 } : ExceptionTableEntry)] [.int (iZ (k : Int)), .int (iZ (bI true))] hl (by omega) jcL_act rfl (fun z hz => nomatch hz) rfl rfl (by decide) rfl wc_HeliographsLaw_162 dL_act_197 (Nat.le_of_ble_eq_true rfl) dL_act_168 rfl wm_HeliographsLaw_158 rfl ⟨by decide, by decide⟩ (by decide) rfl jiX7_mirror jsX7_mirror jn_Heliographs jcX7_mirror jpX7_mirror rfl ⟨Nat.le_of_ble_eq_true rfl, Nat.le_of_ble_eq_true rfl⟩ (by omega) ⟨by omega, by omega⟩ (zK_ofR (fun Γ F => zh_mirror hSt1 (x := k) (b := true) (by omega) hcan (by omega))) hE0 (by omega) hz1 h56 (fun v hv => by simp only [List.mem_cons, List.mem_nil_iff, or_false] at hv; rcases hv with rfl | rfl <;> trivial) (fun v Z1 hr w hw => by rw [hr.1] at hw; cases hw; trivial) (fun v Z1 hr hz2 hv => ?_) (fun Z1 hr hz2 => nomatch hr.1)
  obtain ⟨rfl, hS2⟩ := hr
  refine gz_istore (L2 := [some (.ref 320), some (.ref 424), some (.int x), some (.int (iZ (k : Int))), some (.int (iZ (m : Int))), some (.ref (460 + m)), some (.int (iZ 1)), some (.int (iZ 1)), some (.int (iZ (sMir σ k true 1 k)))]) dL_act_171 (Nat.le_of_ble_eq_true rfl) rfl ?_
  refine gz_iload dL_act_173 rfl ?_
  refine zz_if_eq (tgt := 195) dL_act_175 rfl (by omega) (fun b175 => ?_) (fun b175 => ?_)
  · exact absurd b175 (by omega)
  refine gz_iload dL_act_178 rfl ?_
  refine gz_aload_n dL_act_180 rfl ?_
  refine gz_getf (M := zG E e (zL Z1 (zb_u W (432 + k) 2 (σ 1 k + 1)))) 3 dL_act_181 hE.1 rfl wf_HeliographsLaw_89 (by decide) rfl ?_
  refine gz_iload_n dL_act_184 rfl ?_
  refine gg_aald hE 0 (j := k) dL_act_185 (by decide) rfl rfl (by omega) ?_
  refine zz_iconst dL_act_186 ?_
  refine gg_iald hE 0 2 (j := k) (b := 432) (v := sMir σ k true 1 k) dL_act_187 (by decide) rfl (by omega) rfl (by decide) ((if_neg (by omega)).trans (hS1.2.2.1 k hk).2.2) ?_
  have kb : -1 ≤ sMir σ k true 1 k ∧ sMir σ k true 1 k ≤ 7 := by
    unfold sMir
    rw [zb_u_at]
    simp only [if_true, Bool.false_eq_true, if_false]
    omega
  refine zz_icmp_ne (tgt := 195) dL_act_188 rfl (by omega) (fun b188 => ?_) (fun b188 => ?_)
  · exact absurd rfl b188
  refine zz_iconst dL_act_191 ?_
  refine gz_goto (tgt := 196) dL_act_192 rfl ?_
  refine gz_ireturn dL_act_196 rfl rfl ?_
  refine hq E e _ (sMir σ k true) N (lJ_next hJ hz2 hS2 hS1 (fun a j h1 h2 => zb_u_no _ _ (by omega)) (lOk_mir (fun q => by cases q) hO)) (by omega) (by omega) (by show _ ≤ zb_u σ 1 k _ 0 1; rw [zb_u_no _ _ (by omega)]; omega) (by show zb_u σ 1 k _ 0 1 ≤ _; rw [zb_u_no _ _ (by omega)]; omega) (by show zb_u σ 1 k _ 0 2 = _; rw [zb_u_no _ _ (by omega)]) (by omega) (fun a ha => rfl) (fun a j h1 h2 => ?_)
  unfold zL
  rw [if_neg (by omega), zb_u_no _ _ (by omega)]
theorem act_0n_true {E : Nat → Nat × Nat} {e : Nat} {c : Nat → Nat} {W π σ : zV} {p : Nat} {H : zV → Nat → Bool} {t o N : Int} {kc ks : Nat} {Q : Option Value → zk_M → (Heap → Prop) → Prop} {x : Int32} {k m : Nat} (hJ : lJ E e c W p H π σ t o N) (h56 : Γ.2.2.2.1 56 < Γ.2.1.size) (hl : l.stackTraces = false) (hk : k < c 0) (hcan : ¬ (if (true : Bool) = true then σ 1 k < 4 else 0 < sFree π σ (k : Int))) (hd : 12 ≤ d) (hq : ∀ (E' : Nat → Nat × Nat) (e' : Nat) (W' σ' : zV) (N' : Int), lJ E' e' c W' p H π σ' t o N' → N ≤ N' → N' ≤ N + 541 → σ 0 1 ≤ σ' 0 1 → σ' 0 1 ≤ σ 0 1 + 60 → σ' 0 2 = σ 0 2 → e ≤ e' → (∀ a, a < e → E' a = E a) → (∀ a j, (a = 56 ∨ 468 ≤ a) → a < e → W' a j = W a j) → Q (some (.int (iZ 1))) (zG E' e' W') F) : zk_Go l Γ mL_act d (kc + 8) (ks + 60) Q 136 [some (.ref 320), some (.ref 424), some (.int x), some (.int (iZ (k : Int))), some (.int (iZ (m : Int))), some (.ref (460 + m)), some (.int (iZ 1)), none, none] [.int (iZ 0)] (zG E e W) F := by
  have hJ2 := hJ
  obtain ⟨hE, hE0, hz, hSt, hS, hh, hH, hO⟩ := hJ2
  have hb5 := hE.2.2.2.2
  have h48 := hE.2.2.2.1
  have n1 := hS.1
  have hw : wP π := hSt.2.2.2.2.1
  have hc : wC π σ N := hSt.2.2.2.2.2.1
  have n0 := wP_n hw
  refine gz_istore (L2 := [some (.ref 320), some (.ref 424), some (.int x), some (.int (iZ (k : Int))), some (.int (iZ (m : Int))), some (.ref (460 + m)), some (.int (iZ 1)), some (.int (iZ 0)), none]) dL_act_136 (Nat.le_of_ble_eq_true rfl) rfl ?_
  refine gz_iload dL_act_138 rfl ?_
  refine zz_if_eq (tgt := 164) dL_act_140 rfl (by omega) (fun b140 => ?_) (fun b140 => ?_)
  rotate_left
  · exact absurd rfl b140
  refine gz_aload_n dL_act_164 rfl ?_
  refine gz_iload_n dL_act_165 rfl ?_
  refine gz_iload dL_act_166 rfl ?_
  refine gA_callX (J := mX7_mirror) (d1 := d - 1) (kc1 := 1) (ks1 := 6) (b := 320) (ct := 162) (hpc := 197) (i := 8) (W := W) hL_act [] ({ startPc := 164, endPc := 196, handlerPc := 197, catchType := 162 } : ExceptionTableEntry) [({ startPc := 243, endPc := 268, handlerPc := 269, catchType := 162 } : ExceptionTableEntry), ({ startPc := 337, endPc := 365, handlerPc := 366, catchType := 162 } : ExceptionTableEntry)] [.int (iZ (k : Int)), .int (iZ (bI true))] hl (by omega) jcL_act rfl (fun z hz => nomatch hz) rfl rfl (by decide) rfl wc_HeliographsLaw_162 dL_act_197 (Nat.le_of_ble_eq_true rfl) dL_act_168 rfl wm_HeliographsLaw_158 rfl ⟨by decide, by decide⟩ (by decide) rfl jiX7_mirror jsX7_mirror jn_Heliographs jcX7_mirror jpX7_mirror rfl ⟨Nat.le_of_ble_eq_true rfl, Nat.le_of_ble_eq_true rfl⟩ (by omega) ⟨by omega, by omega⟩ (zK_of (fun Γ F => zh_mirror_x hSt (x := k) (b := true) (by omega) hcan (by omega))) hE0 (by omega) hz h56 (fun v hv => by simp only [List.mem_cons, List.mem_nil_iff, or_false] at hv; rcases hv with rfl | rfl <;> trivial) (fun v Z1 hr w hw => by rw [hr.1] at hw; cases hw; trivial) (fun v Z1 hr hz2 hv => absurd hr.1 (hv 0)) (fun Z1 hr hz2 => ?_)
  obtain ⟨-, rfl⟩ := hr
  rw [zL_W]
  refine gz_iload dL_act_199 rfl ?_
  refine zz_if_ne (tgt := 208) dL_act_201 rfl (by omega) (fun b201 => ?_) (fun b201 => ?_)
  · exact absurd rfl b201
  refine zz_iconst dL_act_204 ?_
  refine gz_goto (tgt := 209) dL_act_205 rfl ?_
  refine gz_ireturn dL_act_209 rfl rfl ?_
  exact hq E e _ σ N hJ (by omega) (by omega) (by omega) (by omega) rfl (by omega) (fun a ha => rfl) (fun a j h1 h2 => rfl)
theorem act_0c_false {E : Nat → Nat × Nat} {e : Nat} {c : Nat → Nat} {W π σ : zV} {p : Nat} {H : zV → Nat → Bool} {t o N : Int} {kc ks : Nat} {Q : Option Value → zk_M → (Heap → Prop) → Prop} {x : Int32} {k m : Nat} (hJ : lJ E e c W p H π σ t o N) (h56 : Γ.2.2.2.1 56 < Γ.2.1.size) (hl : l.stackTraces = false) (hk : k < c 0) (hcan : if (false : Bool) = true then σ 1 k < 4 else 0 < sFree π σ (k : Int)) (hd : 12 ≤ d) (hq : ∀ (E' : Nat → Nat × Nat) (e' : Nat) (W' σ' : zV) (N' : Int), lJ E' e' c W' p H π σ' t o N' → N ≤ N' → N' ≤ N + 541 → σ 0 1 ≤ σ' 0 1 → σ' 0 1 ≤ σ 0 1 + 60 → σ' 0 2 = σ 0 2 → e ≤ e' → (∀ a, a < e → E' a = E a) → (∀ a j, (a = 56 ∨ 468 ≤ a) → a < e → W' a j = W a j) → Q (some (.int (iZ 1))) (zG E' e' W') F) : zk_Go l Γ mL_act d (kc + 8) (ks + 60) Q 136 [some (.ref 320), some (.ref 424), some (.int x), some (.int (iZ (k : Int))), some (.int (iZ (m : Int))), some (.ref (460 + m)), some (.int (iZ 0)), none, none] [.int (iZ 1)] (zG E e W) F := by
  have hJ2 := hJ
  obtain ⟨hE, hE0, hz, hSt, hS, hh, hH, hO⟩ := hJ2
  have hb5 := hE.2.2.2.2
  have h48 := hE.2.2.2.1
  have n1 := hS.1
  have hw : wP π := hSt.2.2.2.2.1
  have hc : wC π σ N := hSt.2.2.2.2.2.1
  have n0 := wP_n hw
  have hS1 : sm c (zb_u W (432 + k) 2 (σ 1 k + (-1))) π (sMir σ k false) := sm_m hS ⟨by omega, by omega, by omega, by omega⟩ hk _
  have hz1 : zin (zb_u W (432 + k) 2 (σ 1 k + (-1))) := zin_424 hz (fun a j h1 => zb_u_no _ _ (by omega))
  have hSt1 : St (zb_u W (432 + k) 2 (σ 1 k + (-1))) p H π σ t o N := St_424 hSt (fun a j h1 h2 => zb_u_no _ _ (by omega))
  have k1 := wC_k hc (k := k) (by omega)
  refine gz_istore (L2 := [some (.ref 320), some (.ref 424), some (.int x), some (.int (iZ (k : Int))), some (.int (iZ (m : Int))), some (.ref (460 + m)), some (.int (iZ 0)), some (.int (iZ 1)), none]) dL_act_136 (Nat.le_of_ble_eq_true rfl) rfl ?_
  refine gz_iload dL_act_138 rfl ?_
  refine zz_if_eq (tgt := 164) dL_act_140 rfl (by omega) (fun b140 => ?_) (fun b140 => ?_)
  · exact absurd b140 (by omega)
  refine gz_aload_n dL_act_143 rfl ?_
  refine gz_getf (M := zG E e W) 3 dL_act_144 hE.1 rfl wf_HeliographsLaw_89 (by decide) rfl ?_
  refine gz_iload_n dL_act_147 rfl ?_
  refine gg_aald hE 0 (j := k) dL_act_148 (by decide) rfl rfl (by omega) ?_
  refine zz_iconst dL_act_149 ?_
  refine gz_dup2 dL_act_150 rfl rfl ?_
  refine gg_iald hE 0 2 (j := k) (v := σ 1 k) dL_act_151 (by decide) rfl (by omega) rfl (by decide) (hS.2.2.1 k (by omega)).2.2 ?_
  refine gz_iload dL_act_152 rfl ?_
  refine zz_if_eq (tgt := 161) dL_act_154 rfl (by omega) (fun b154 => ?_) (fun b154 => ?_)
  rotate_left
  · exact absurd b154 (by omega)
  refine zz_iconst dL_act_161 ?_
  refine zz_iadd dL_act_162 ?_
  refine gg_iast hE 0 2 (j := k) dL_act_163 (by decide) rfl (by omega) rfl (by decide) ?_
  refine gz_aload_n dL_act_164 rfl ?_
  refine gz_iload_n dL_act_165 rfl ?_
  refine gz_iload dL_act_166 rfl ?_
  refine gA_callX (J := mX7_mirror) (d1 := d - 1) (kc1 := 0) (ks1 := 0) (b := 320) (ct := 162) (hpc := 197) (i := 8) (W := (zb_u W (432 + k) 2 (σ 1 k + (-1)))) hL_act [] ({ startPc := 164, endPc := 196, handlerPc := 197, catchType := 162 } : ExceptionTableEntry) [({ startPc := 243, endPc := 268, handlerPc := 269, catchType := 162 } : ExceptionTableEntry), ({ startPc := 337, endPc := 365, handlerPc := 366, catchType := 162 } : ExceptionTableEntry)] [.int (iZ (k : Int)), .int (iZ (bI false))] hl (by omega) jcL_act rfl (fun z hz => nomatch hz) rfl rfl (by decide) rfl wc_HeliographsLaw_162 dL_act_197 (Nat.le_of_ble_eq_true rfl) dL_act_168 rfl wm_HeliographsLaw_158 rfl ⟨by decide, by decide⟩ (by decide) rfl jiX7_mirror jsX7_mirror jn_Heliographs jcX7_mirror jpX7_mirror rfl ⟨Nat.le_of_ble_eq_true rfl, Nat.le_of_ble_eq_true rfl⟩ (by omega) ⟨by omega, by omega⟩ (zK_ofR (fun Γ F => zh_mirror hSt1 (x := k) (b := false) (by omega) hcan (by omega))) hE0 (by omega) hz1 h56 (fun v hv => by simp only [List.mem_cons, List.mem_nil_iff, or_false] at hv; rcases hv with rfl | rfl <;> trivial) (fun v Z1 hr w hw => by rw [hr.1] at hw; cases hw; trivial) (fun v Z1 hr hz2 hv => ?_) (fun Z1 hr hz2 => nomatch hr.1)
  obtain ⟨rfl, hS2⟩ := hr
  refine gz_istore (L2 := [some (.ref 320), some (.ref 424), some (.int x), some (.int (iZ (k : Int))), some (.int (iZ (m : Int))), some (.ref (460 + m)), some (.int (iZ 0)), some (.int (iZ 1)), some (.int (iZ (sMir σ k false 1 k)))]) dL_act_171 (Nat.le_of_ble_eq_true rfl) rfl ?_
  refine gz_iload dL_act_173 rfl ?_
  refine zz_if_eq (tgt := 195) dL_act_175 rfl (by omega) (fun b175 => ?_) (fun b175 => ?_)
  · exact absurd b175 (by omega)
  refine gz_iload dL_act_178 rfl ?_
  refine gz_aload_n dL_act_180 rfl ?_
  refine gz_getf (M := zG E e (zL Z1 (zb_u W (432 + k) 2 (σ 1 k + (-1))))) 3 dL_act_181 hE.1 rfl wf_HeliographsLaw_89 (by decide) rfl ?_
  refine gz_iload_n dL_act_184 rfl ?_
  refine gg_aald hE 0 (j := k) dL_act_185 (by decide) rfl rfl (by omega) ?_
  refine zz_iconst dL_act_186 ?_
  refine gg_iald hE 0 2 (j := k) (b := 432) (v := sMir σ k false 1 k) dL_act_187 (by decide) rfl (by omega) rfl (by decide) ((if_neg (by omega)).trans (hS1.2.2.1 k hk).2.2) ?_
  have kb : -1 ≤ sMir σ k false 1 k ∧ sMir σ k false 1 k ≤ 7 := by
    unfold sMir
    rw [zb_u_at]
    simp only [if_true, Bool.false_eq_true, if_false]
    omega
  refine zz_icmp_ne (tgt := 195) dL_act_188 rfl (by omega) (fun b188 => ?_) (fun b188 => ?_)
  · exact absurd rfl b188
  refine zz_iconst dL_act_191 ?_
  refine gz_goto (tgt := 196) dL_act_192 rfl ?_
  refine gz_ireturn dL_act_196 rfl rfl ?_
  refine hq E e _ (sMir σ k false) N (lJ_next hJ hz2 hS2 hS1 (fun a j h1 h2 => zb_u_no _ _ (by omega)) (lOk_mir (fun q => hcan) hO)) (by omega) (by omega) (by show _ ≤ zb_u σ 1 k _ 0 1; rw [zb_u_no _ _ (by omega)]; omega) (by show zb_u σ 1 k _ 0 1 ≤ _; rw [zb_u_no _ _ (by omega)]; omega) (by show zb_u σ 1 k _ 0 2 = _; rw [zb_u_no _ _ (by omega)]) (by omega) (fun a ha => rfl) (fun a j h1 h2 => ?_)
  unfold zL
  rw [if_neg (by omega), zb_u_no _ _ (by omega)]
theorem act_0n_false {E : Nat → Nat × Nat} {e : Nat} {c : Nat → Nat} {W π σ : zV} {p : Nat} {H : zV → Nat → Bool} {t o N : Int} {kc ks : Nat} {Q : Option Value → zk_M → (Heap → Prop) → Prop} {x : Int32} {k m : Nat} (hJ : lJ E e c W p H π σ t o N) (h56 : Γ.2.2.2.1 56 < Γ.2.1.size) (hl : l.stackTraces = false) (hk : k < c 0) (hcan : ¬ (if (false : Bool) = true then σ 1 k < 4 else 0 < sFree π σ (k : Int))) (hd : 12 ≤ d) (hq : ∀ (E' : Nat → Nat × Nat) (e' : Nat) (W' σ' : zV) (N' : Int), lJ E' e' c W' p H π σ' t o N' → N ≤ N' → N' ≤ N + 541 → σ 0 1 ≤ σ' 0 1 → σ' 0 1 ≤ σ 0 1 + 60 → σ' 0 2 = σ 0 2 → e ≤ e' → (∀ a, a < e → E' a = E a) → (∀ a j, (a = 56 ∨ 468 ≤ a) → a < e → W' a j = W a j) → Q (some (.int (iZ 1))) (zG E' e' W') F) : zk_Go l Γ mL_act d (kc + 8) (ks + 60) Q 136 [some (.ref 320), some (.ref 424), some (.int x), some (.int (iZ (k : Int))), some (.int (iZ (m : Int))), some (.ref (460 + m)), some (.int (iZ 0)), none, none] [.int (iZ 0)] (zG E e W) F := by
  have hJ2 := hJ
  obtain ⟨hE, hE0, hz, hSt, hS, hh, hH, hO⟩ := hJ2
  have hb5 := hE.2.2.2.2
  have h48 := hE.2.2.2.1
  have n1 := hS.1
  have hw : wP π := hSt.2.2.2.2.1
  have hc : wC π σ N := hSt.2.2.2.2.2.1
  have n0 := wP_n hw
  refine gz_istore (L2 := [some (.ref 320), some (.ref 424), some (.int x), some (.int (iZ (k : Int))), some (.int (iZ (m : Int))), some (.ref (460 + m)), some (.int (iZ 0)), some (.int (iZ 0)), none]) dL_act_136 (Nat.le_of_ble_eq_true rfl) rfl ?_
  refine gz_iload dL_act_138 rfl ?_
  refine zz_if_eq (tgt := 164) dL_act_140 rfl (by omega) (fun b140 => ?_) (fun b140 => ?_)
  rotate_left
  · exact absurd rfl b140
  refine gz_aload_n dL_act_164 rfl ?_
  refine gz_iload_n dL_act_165 rfl ?_
  refine gz_iload dL_act_166 rfl ?_
  refine gA_callX (J := mX7_mirror) (d1 := d - 1) (kc1 := 1) (ks1 := 6) (b := 320) (ct := 162) (hpc := 197) (i := 8) (W := W) hL_act [] ({ startPc := 164, endPc := 196, handlerPc := 197, catchType := 162 } : ExceptionTableEntry) [({ startPc := 243, endPc := 268, handlerPc := 269, catchType := 162 } : ExceptionTableEntry), ({ startPc := 337, endPc := 365, handlerPc := 366, catchType := 162 } : ExceptionTableEntry)] [.int (iZ (k : Int)), .int (iZ (bI false))] hl (by omega) jcL_act rfl (fun z hz => nomatch hz) rfl rfl (by decide) rfl wc_HeliographsLaw_162 dL_act_197 (Nat.le_of_ble_eq_true rfl) dL_act_168 rfl wm_HeliographsLaw_158 rfl ⟨by decide, by decide⟩ (by decide) rfl jiX7_mirror jsX7_mirror jn_Heliographs jcX7_mirror jpX7_mirror rfl ⟨Nat.le_of_ble_eq_true rfl, Nat.le_of_ble_eq_true rfl⟩ (by omega) ⟨by omega, by omega⟩ (zK_of (fun Γ F => zh_mirror_x hSt (x := k) (b := false) (by omega) hcan (by omega))) hE0 (by omega) hz h56 (fun v hv => by simp only [List.mem_cons, List.mem_nil_iff, or_false] at hv; rcases hv with rfl | rfl <;> trivial) (fun v Z1 hr w hw => by rw [hr.1] at hw; cases hw; trivial) (fun v Z1 hr hz2 hv => absurd hr.1 (hv 0)) (fun Z1 hr hz2 => ?_)
  obtain ⟨-, rfl⟩ := hr
  rw [zL_W]
  refine gz_iload dL_act_199 rfl ?_
  refine zz_if_ne (tgt := 208) dL_act_201 rfl (by omega) (fun b201 => ?_) (fun b201 => ?_)
  · exact absurd rfl b201
  refine zz_iconst dL_act_204 ?_
  refine gz_goto (tgt := 209) dL_act_205 rfl ?_
  refine gz_ireturn dL_act_209 rfl rfl ?_
  exact hq E e _ σ N hJ (by omega) (by omega) (by omega) (by omega) rfl (by omega) (fun a ha => rfl) (fun a j h1 h2 => rfl)
theorem act_0 {E : Nat → Nat × Nat} {e : Nat} {c : Nat → Nat} {W π σ : zV} {p : Nat} {H : zV → Nat → Bool} {t o N : Int} {kc ks : Nat} {Q : Option Value → zk_M → (Heap → Prop) → Prop} {x : Int32} {k m : Nat} {b : Bool} (hJ : lJ E e c W p H π σ t o N) (h56 : Γ.2.2.2.1 56 < Γ.2.1.size) (hl : l.stackTraces = false) (hk : k < c 0) (hd : 12 ≤ d) (hq : ∀ (E' : Nat → Nat × Nat) (e' : Nat) (W' σ' : zV) (N' : Int), lJ E' e' c W' p H π σ' t o N' → N ≤ N' → N' ≤ N + 541 → σ 0 1 ≤ σ' 0 1 → σ' 0 1 ≤ σ 0 1 + 60 → σ' 0 2 = σ 0 2 → e ≤ e' → (∀ a, a < e → E' a = E a) → (∀ a j, (a = 56 ∨ 468 ≤ a) → a < e → W' a j = W a j) → Q (some (.int (iZ 1))) (zG E' e' W') F) : zk_Go l Γ mL_act d (kc + 8) (ks + 60) Q 90 [some (.ref 320), some (.ref 424), some (.int x), some (.int (iZ (k : Int))), some (.int (iZ (m : Int))), some (.ref (460 + m)), some (.int (iZ (bI b))), none, none] [] (zG E e W) F := by
  have hJ2 := hJ
  obtain ⟨hE, hE0, hz, hSt, hS, hh, hH, hO⟩ := hJ2
  have hb5 := hE.2.2.2.2
  have h48 := hE.2.2.2.1
  have n1 := hS.1
  have hw : wP π := hSt.2.2.2.2.1
  have hc : wC π σ N := hSt.2.2.2.2.2.1
  have n0 := wP_n hw
  have k1 := wC_k hc (k := k) (by omega)
  have e3 : (π 0 3).toNat = c 3 := by omega
  have nb := sNum_bd (sAt σ (k : Int) 1) (c 3) 0
  have ef : sFree π σ (k : Int) = σ 1 k - sNum (sAt σ (k : Int) 1) 0 (c 3) := by unfold sFree; rw [e3, Int.toNat_natCast]
  refine gz_iload dL_act_90 rfl ?_
  cases b with
  | true =>
    refine zz_if_eq (x := 1) (tgt := 115) dL_act_92 rfl (by omega) (fun b92 => absurd b92 (by decide)) (fun b92 => ?_)
    refine gz_aload_n dL_act_95 rfl ?_
    refine gz_getf (M := zG E e W) 3 dL_act_96 hE.1 rfl wf_HeliographsLaw_89 (by decide) rfl ?_
    refine gz_iload_n dL_act_99 rfl ?_
    refine gg_aald hE 0 (j := k) dL_act_100 (by decide) rfl rfl (by omega) ?_
    refine zz_iconst dL_act_101 ?_
    refine gg_iald hE 0 2 (j := k) (b := 432) (v := σ 1 k) dL_act_102 (by decide) rfl (by omega) rfl (by decide) (hS.2.2.1 k hk).2.2 ?_
    refine zz_iconst dL_act_103 ?_
    refine zz_icmp_ge (tgt := 111) dL_act_104 rfl (by omega) (fun b104 => ?_) (fun b104 => ?_)
    · refine zz_iconst dL_act_111 ?_
      refine gz_goto (tgt := 136) dL_act_112 rfl ?_
      exact act_0n_true hJ h56 hl hk (by simp only [if_true]; omega) hd hq
    · refine zz_iconst dL_act_107 ?_
      refine gz_goto (tgt := 136) dL_act_108 rfl ?_
      exact act_0c_true hJ h56 hl hk (by simp only [if_true]; omega) hd hq
  | false =>
    refine zz_if_eq (x := 0) (tgt := 115) dL_act_92 rfl (by omega) (fun b92 => ?_) (fun b92 => absurd rfl b92)
    refine gz_aload_n dL_act_115 rfl ?_
    refine gz_getf (M := zG E e W) 3 dL_act_116 hE.1 rfl wf_HeliographsLaw_89 (by decide) rfl ?_
    refine gz_iload_n dL_act_119 rfl ?_
    refine gg_aald hE 0 (j := k) dL_act_120 (by decide) rfl rfl (by omega) ?_
    refine zz_iconst dL_act_121 ?_
    refine gg_iald hE 0 2 (j := k) (b := 432) (v := σ 1 k) dL_act_122 (by decide) rfl (by omega) rfl (by decide) (hS.2.2.1 k hk).2.2 ?_
    refine gz_aload_n dL_act_123 rfl ?_
    refine gz_iload_n dL_act_124 rfl ?_
    refine gb_v (J := mX8_busy) (d1 := d - 1) (kc1 := 0) (ks1 := 0) [.int (iZ (k : Int))] _ dL_act_125 rfl hE.1 wm_HeliographsLaw_155 jzX8_busy rfl (Nat.le_of_ble_eq_true rfl) (Nat.le_of_ble_eq_true rfl) (by omega) ⟨by omega, by omega⟩ (zDo_of (zS_busy hE hS hw hc (by omega))) (fun v125 M125 h125 => ?_)
    obtain ⟨rfl, rfl⟩ := h125
    refine zz_icmp_le (tgt := 135) dL_act_128 rfl (by omega) (fun b128 => ?_) (fun b128 => ?_)
    · refine zz_iconst dL_act_135 ?_
      exact act_0n_false hJ h56 hl hk (by simp only [Bool.false_eq_true, if_false]; omega) hd hq
    · refine zz_iconst dL_act_131 ?_
      refine gz_goto (tgt := 136) dL_act_132 rfl ?_
      exact act_0c_false hJ h56 hl hk (by simp only [Bool.false_eq_true, if_false]; omega) hd hq
theorem act_1 {E : Nat → Nat × Nat} {e : Nat} {c : Nat → Nat} {W π σ : zV} {p : Nat} {H : zV → Nat → Bool} {t o N : Int} {kc ks : Nat} {Q : Option Value → zk_M → (Heap → Prop) → Prop} {x : Int32} {k m : Nat} (hJ : lJ E e c W p H π σ t o N) (h56 : Γ.2.2.2.1 56 < Γ.2.1.size) (hl : l.stackTraces = false) (hm : m < c 3) (hN : N + 600 ≤ 90000) (hd : 12 ≤ d) (hq : ∀ (E' : Nat → Nat × Nat) (e' : Nat) (W' σ' : zV) (N' : Int), lJ E' e' c W' p H π σ' t o N' → N ≤ N' → N' ≤ N + 541 → σ 0 1 ≤ σ' 0 1 → σ' 0 1 ≤ σ 0 1 + 60 → σ' 0 2 = σ 0 2 → e ≤ e' → (∀ a, a < e → E' a = E a) → (∀ a j, (a = 56 ∨ 468 ≤ a) → a < e → W' a j = W a j) → Q (some (.int (iZ 1))) (zG E' e' W') F) : zk_Go l Γ mL_act d (kc + 8) (ks + 60) Q 210 [some (.ref 320), some (.ref 424), some (.int x), some (.int (iZ (k : Int))), some (.int (iZ (m : Int))), some (.ref (460 + m)), none, none, none] [] (zG E e W) F := by
  have hJ2 := hJ
  obtain ⟨hE, hE0, hz, hSt, hS, hh, hH, hO⟩ := hJ2
  have hb5 := hE.2.2.2.2
  have h48 := hE.2.2.2.1
  have n1 := hS.1
  have hw : wP π := hSt.2.2.2.2.1
  have hc : wC π σ N := hSt.2.2.2.2.2.1
  have n0 := wP_n hw
  have m1 := wC_m hc (k := m) (by omega)
  unfold wM at m1
  have r := hS.2.2.2.2.2 m hm
  refine gz_aload dL_act_210 rfl ?_
  refine zz_iconst dL_act_212 ?_
  refine gg_iald hE 3 4 (j := m) (b := 460) (v := σ 4 m) dL_act_213 (by decide) rfl (by omega) rfl (by decide) r.2.2.2.2.1 ?_
  refine zz_iconst dL_act_214 ?_
  refine zz_icmp_ne (tgt := 222) dL_act_215 rfl (by omega) (fun b215 => ?_) (fun b215 => ?_)
  · refine zz_iconst dL_act_222 ?_
    refine gz_istore (L2 := [some (.ref 320), some (.ref 424), some (.int x), some (.int (iZ (k : Int))), some (.int (iZ (m : Int))), some (.ref (460 + m)), some (.int (iZ 0)), none, none]) dL_act_223 (Nat.le_of_ble_eq_true rfl) rfl ?_
    refine gz_aload dL_act_225 rfl ?_
    refine zz_bipush (x := 6) dL_act_227 rfl ?_
    refine gg_iald hE 3 6 (j := m) (b := 460) (v := σ 5 m) dL_act_229 (by decide) rfl (by omega) rfl (by decide) r.2.2.2.2.2.2.1 ?_
    refine gz_istore (L2 := [some (.ref 320), some (.ref 424), some (.int x), some (.int (iZ (k : Int))), some (.int (iZ (m : Int))), some (.ref (460 + m)), some (.int (iZ 0)), some (.int (iZ (σ 5 m))), none]) dL_act_230 (Nat.le_of_ble_eq_true rfl) rfl ?_
    refine gz_iload dL_act_232 rfl ?_
    refine zz_if_eq (tgt := 243) dL_act_234 rfl (by omega) (fun b234 => ?_) (fun b234 => absurd rfl b234)
    refine gz_aload_n dL_act_243 rfl ?_
    refine gz_iload dL_act_244 rfl ?_
    refine gA_callX (J := mX7_stop) (d1 := d - 1) (kc1 := 1) (ks1 := 6) (b := 320) (ct := 162) (hpc := 269) (i := 8) (W := W) hL_act [({ startPc := 164, endPc := 196, handlerPc := 197, catchType := 162 } : ExceptionTableEntry)] ({ startPc := 243, endPc := 268, handlerPc := 269, catchType := 162 } : ExceptionTableEntry) [({ startPc := 337, endPc := 365, handlerPc := 366, catchType := 162 } : ExceptionTableEntry)] [.int (iZ (m : Int))] hl (by omega) jcL_act rfl (fun z hz => by rw [List.mem_singleton.mp hz]; rfl) rfl rfl (by decide) rfl wc_HeliographsLaw_162 dL_act_269 (Nat.le_of_ble_eq_true rfl) dL_act_246 rfl wm_HeliographsLaw_168 rfl ⟨by decide, by decide⟩ (by decide) rfl jiX7_stop jsX7_stop jn_Heliographs jcX7_stop jpX7_stop rfl ⟨Nat.le_of_ble_eq_true rfl, Nat.le_of_ble_eq_true rfl⟩ (by omega) ⟨by omega, by omega⟩ (zK_of (fun Γ F => zh_stop_x hSt (x := m) (by omega) b215 (by omega))) hE0 (by omega) hz h56 (fun v hv => by rw [List.mem_singleton.mp hv]; trivial) (fun v Z1 hr w hw => by rw [hr.1] at hw; cases hw; trivial) (fun v Z1 hr hz2 hv => absurd hr.1 (hv 0)) (fun Z1 hr hz2 => ?_)
    obtain ⟨-, rfl⟩ := hr
    rw [zL_W]
    refine gz_iload dL_act_271 rfl ?_
    refine zz_if_ne (tgt := 280) dL_act_273 rfl (by omega) (fun b273 => absurd rfl b273) (fun b273 => ?_)
    refine zz_iconst dL_act_276 ?_
    refine gz_goto (tgt := 281) dL_act_277 rfl ?_
    refine gz_ireturn dL_act_281 rfl rfl ?_
    exact hq E e _ σ N hJ (by omega) (by omega) (by omega) (by omega) rfl (by omega) (fun a ha => rfl) (fun a j h1 h2 => rfl)
  · have hs4 : σ 4 m = 1 := by omega
    have hS1 : sm c (zb_u (zb_u (zb_u (zb_u W (460 + m) 4 0) (460 + m) 5 (-1)) (460 + m) 6 (π 7 m)) (460 + m) 7 (σ 8 m + 1)) π (sBreak π σ m) := sm_break hS ⟨by omega, by omega, by omega, by omega⟩
    have hz1 : zin (zb_u (zb_u (zb_u (zb_u W (460 + m) 4 0) (460 + m) 5 (-1)) (460 + m) 6 (π 7 m)) (460 + m) 7 (σ 8 m + 1)) := zin_424 hz (fun a j h1 => by rw [zb_u_no _ _ (by omega)]; rw [zb_u_no _ _ (by omega)]; rw [zb_u_no _ _ (by omega)]; rw [zb_u_no _ _ (by omega)])
    have hSt1 : St (zb_u (zb_u (zb_u (zb_u W (460 + m) 4 0) (460 + m) 5 (-1)) (460 + m) 6 (π 7 m)) (460 + m) 7 (σ 8 m + 1)) p H π σ t o N := St_424 hSt (fun a j h1 h2 => by rw [zb_u_no _ _ (by omega)]; rw [zb_u_no _ _ (by omega)]; rw [zb_u_no _ _ (by omega)]; rw [zb_u_no _ _ (by omega)])
    have ht : sBreak π σ m 0 1 = σ 0 1 := by unfold sBreak sWait; rw [zb_u_no _ _ (by omega)]; rw [zb_u_no _ _ (by omega)]; rw [zb_u_no _ _ (by omega)]; rw [zb_u_no _ _ (by omega)]
    have ht2 : sBreak π σ m 0 2 = σ 0 2 := by unfold sBreak sWait; rw [zb_u_no _ _ (by omega)]; rw [zb_u_no _ _ (by omega)]; rw [zb_u_no _ _ (by omega)]; rw [zb_u_no _ _ (by omega)]
    refine zz_iconst dL_act_218 ?_
    refine gz_goto (tgt := 223) dL_act_219 rfl ?_
    refine gz_istore (L2 := [some (.ref 320), some (.ref 424), some (.int x), some (.int (iZ (k : Int))), some (.int (iZ (m : Int))), some (.ref (460 + m)), some (.int (iZ 1)), none, none]) dL_act_223 (Nat.le_of_ble_eq_true rfl) rfl ?_
    refine gz_aload dL_act_225 rfl ?_
    refine zz_bipush (x := 6) dL_act_227 rfl ?_
    refine gg_iald hE 3 6 (j := m) (b := 460) (v := σ 5 m) dL_act_229 (by decide) rfl (by omega) rfl (by decide) r.2.2.2.2.2.2.1 ?_
    refine gz_istore (L2 := [some (.ref 320), some (.ref 424), some (.int x), some (.int (iZ (k : Int))), some (.int (iZ (m : Int))), some (.ref (460 + m)), some (.int (iZ 1)), some (.int (iZ (σ 5 m))), none]) dL_act_230 (Nat.le_of_ble_eq_true rfl) rfl ?_
    refine gz_iload dL_act_232 rfl ?_
    refine zz_if_eq (x := 1) (tgt := 243) dL_act_234 rfl (by omega) (fun b234 => absurd b234 (by decide)) (fun b234 => ?_)
    refine gz_aload_n dL_act_237 rfl ?_
    refine gz_aload dL_act_238 rfl ?_
    refine gb_v (J := mX8_breakOff) (d1 := d - 1) (kc1 := 0) (ks1 := 0) [.ref (460 + m)] _ dL_act_240 rfl hE.1 wm_HeliographsLaw_164 jzX8_breakOff rfl (Nat.le_of_ble_eq_true rfl) (Nat.le_of_ble_eq_true rfl) (by omega) ⟨by omega, by omega⟩ (zDo_of (zS_breakOff hE hS hm)) (fun v240 M240 h240 => ?_)
    obtain ⟨rfl, rfl⟩ := h240
    refine gz_aload_n dL_act_243 rfl ?_
    refine gz_iload dL_act_244 rfl ?_
    refine gA_callX (J := mX7_stop) (d1 := d - 1) (kc1 := 0) (ks1 := 0) (b := 320) (ct := 162) (hpc := 269) (i := 8) (W := (zb_u (zb_u (zb_u (zb_u W (460 + m) 4 0) (460 + m) 5 (-1)) (460 + m) 6 (π 7 m)) (460 + m) 7 (σ 8 m + 1))) hL_act [({ startPc := 164, endPc := 196, handlerPc := 197, catchType := 162 } : ExceptionTableEntry)] ({ startPc := 243, endPc := 268, handlerPc := 269, catchType := 162 } : ExceptionTableEntry) [({ startPc := 337, endPc := 365, handlerPc := 366, catchType := 162 } : ExceptionTableEntry)] [.int (iZ (m : Int))] hl (by omega) jcL_act rfl (fun z hz => by rw [List.mem_singleton.mp hz]; rfl) rfl rfl (by decide) rfl wc_HeliographsLaw_162 dL_act_269 (Nat.le_of_ble_eq_true rfl) dL_act_246 rfl wm_HeliographsLaw_168 rfl ⟨by decide, by decide⟩ (by decide) rfl jiX7_stop jsX7_stop jn_Heliographs jcX7_stop jpX7_stop rfl ⟨Nat.le_of_ble_eq_true rfl, Nat.le_of_ble_eq_true rfl⟩ (by omega) ⟨by omega, by omega⟩ (zK_ofR (fun Γ F => zh_stop hSt1 (x := m) (by omega) hs4 (by omega) (by omega))) hE0 (by omega) hz1 h56 (fun v hv => by rw [List.mem_singleton.mp hv]; trivial) (fun v Z1 hr w hw => by rw [hr.1] at hw; cases hw; trivial) (fun v Z1 hr hz2 hv => ?_) (fun Z1 hr hz2 => nomatch hr.1)
    obtain ⟨rfl, hS2⟩ := hr
    refine gz_istore (L2 := [some (.ref 320), some (.ref 424), some (.int x), some (.int (iZ (k : Int))), some (.int (iZ (m : Int))), some (.ref (460 + m)), some (.int (iZ 1)), some (.int (iZ (σ 5 m))), some (.int (iZ (σ 5 m)))]) dL_act_249 (Nat.le_of_ble_eq_true rfl) rfl ?_
    refine gz_iload dL_act_251 rfl ?_
    refine zz_if_eq (x := 1) (tgt := 267) dL_act_253 rfl (by omega) (fun b253 => absurd b253 (by decide)) (fun b253 => ?_)
    refine gz_iload dL_act_256 rfl ?_
    refine gz_iload dL_act_258 rfl ?_
    refine zz_icmp_ne (tgt := 267) dL_act_260 rfl (by omega) (fun b260 => absurd rfl b260) (fun b260 => ?_)
    refine zz_iconst dL_act_263 ?_
    refine gz_goto (tgt := 268) dL_act_264 rfl ?_
    refine gz_ireturn dL_act_268 rfl rfl ?_
    refine hq E e _ (sBreak π σ m) (N + 1) (lJ_next hJ hz2 hS2 hS1 (fun a j h1 h2 => by rw [zb_u_no _ _ (by omega)]; rw [zb_u_no _ _ (by omega)]; rw [zb_u_no _ _ (by omega)]; rw [zb_u_no _ _ (by omega)]) (lOk_break (by omega) hs4 hO)) (by omega) (by omega) (by rw [ht]; omega) (by rw [ht]; omega) ht2 (by omega) (fun a ha => rfl) (fun a j h1 h2 => ?_)
    unfold zL
    rw [if_neg (by omega)]
    rw [zb_u_no _ _ (by omega)]; rw [zb_u_no _ _ (by omega)]; rw [zb_u_no _ _ (by omega)]; rw [zb_u_no _ _ (by omega)]
theorem act_2 {E : Nat → Nat × Nat} {e : Nat} {c : Nat → Nat} {W π σ : zV} {p : Nat} {H : zV → Nat → Bool} {t o N : Int} {kc ks : Nat} {Q : Option Value → zk_M → (Heap → Prop) → Prop} {x : Int32} {k m : Nat} (hJ : lJ E e c W p H π σ t o N) (h56 : Γ.2.2.2.1 56 < Γ.2.1.size) (hl : l.stackTraces = false) (hk : k < c 0) (hm : m < c 3) (hd : 12 ≤ d) (hq : ∀ (E' : Nat → Nat × Nat) (e' : Nat) (W' σ' : zV) (N' : Int), lJ E' e' c W' p H π σ' t o N' → N ≤ N' → N' ≤ N + 541 → σ 0 1 ≤ σ' 0 1 → σ' 0 1 ≤ σ 0 1 + 60 → σ' 0 2 = σ 0 2 → e ≤ e' → (∀ a, a < e → E' a = E a) → (∀ a j, (a = 56 ∨ 468 ≤ a) → a < e → W' a j = W a j) → Q (some (.int (iZ 1))) (zG E' e' W') F) : zk_Go l Γ mL_act d (kc + 8) (ks + 60) Q 282 [some (.ref 320), some (.ref 424), some (.int x), some (.int (iZ (k : Int))), some (.int (iZ (m : Int))), some (.ref (460 + m)), none, none, none] [] (zG E e W) F := by
  have hJ2 := hJ
  obtain ⟨hE, hE0, hz, hSt, hS, hh, hH, hO⟩ := hJ2
  have hb5 := hE.2.2.2.2
  have h48 := hE.2.2.2.1
  have n1 := hS.1
  have hw : wP π := hSt.2.2.2.2.1
  have hc : wC π σ N := hSt.2.2.2.2.2.1
  have n0 := wP_n hw
  have m1 := wC_m hc (k := m) (by omega)
  unfold wM at m1
  have m7 := (wP_m hw (i := m) (by omega)).1
  have r := hS.2.2.2.2.2 m hm
  have same : Q (some (.int (iZ 1))) (zG E e W) F := hq E e _ σ N hJ (by omega) (by omega) (by omega) (by omega) rfl (by omega) (fun a ha => rfl) (fun a j h1 h2 => rfl)
  refine gz_aload dL_act_282 rfl ?_
  refine zz_iconst dL_act_284 ?_
  refine gg_iald hE 3 4 (j := m) (b := 460) (v := σ 4 m) dL_act_285 (by decide) rfl (by omega) rfl (by decide) r.2.2.2.2.1 ?_
  refine zz_iconst dL_act_286 ?_
  refine zz_icmp_ne (tgt := 294) dL_act_287 rfl (by omega) (fun b287 => ?_) (fun b287 => ?_)
  · refine zz_iconst dL_act_294 ?_
    refine gz_istore (L2 := [some (.ref 320), some (.ref 424), some (.int x), some (.int (iZ (k : Int))), some (.int (iZ (m : Int))), some (.ref (460 + m)), some (.int (iZ 0)), none, none]) dL_act_295 (Nat.le_of_ble_eq_true rfl) rfl ?_
    refine gz_aload dL_act_297 rfl ?_
    refine zz_iconst dL_act_299 ?_
    refine gg_iald hE 3 1 (j := m) (b := 460) (v := σ 2 m) dL_act_300 (by decide) rfl (by omega) rfl (by decide) r.2.1 ?_
    refine gz_iload_n dL_act_301 rfl ?_
    refine zz_icmp_ne (tgt := 307) dL_act_302 rfl (by omega) (fun b302 => ?_) (fun b302 => ?_)
    rotate_left
    · refine zz_iconst dL_act_305 ?_
      refine gz_ireturn dL_act_306 rfl rfl ?_
      exact same
    refine gz_iload dL_act_307 rfl ?_
    refine zz_if_eq (tgt := 337) dL_act_309 rfl (by omega) (fun b309 => ?_) (fun b309 => absurd rfl b309)
    refine gz_aload_n dL_act_337 rfl ?_
    refine gz_iload dL_act_338 rfl ?_
    refine gz_iload_n dL_act_340 rfl ?_
    refine gA_callX (J := mX7_forward) (d1 := d - 1) (kc1 := 1) (ks1 := 6) (b := 320) (ct := 162) (hpc := 366) (i := 7) (W := W) hL_act [({ startPc := 164, endPc := 196, handlerPc := 197, catchType := 162 } : ExceptionTableEntry), ({ startPc := 243, endPc := 268, handlerPc := 269, catchType := 162 } : ExceptionTableEntry)] ({ startPc := 337, endPc := 365, handlerPc := 366, catchType := 162 } : ExceptionTableEntry) [] [.int (iZ (m : Int)), .int (iZ (k : Int))] hl (by omega) jcL_act rfl (fun z hz => by rcases List.mem_cons.mp hz with q | q; (rw [q]; rfl); (rw [List.mem_singleton.mp q]; rfl)) rfl rfl (by decide) rfl wc_HeliographsLaw_162 dL_act_366 (Nat.le_of_ble_eq_true rfl) dL_act_341 rfl wm_HeliographsLaw_171 rfl ⟨by decide, by decide⟩ (by decide) rfl jiX7_forward jsX7_forward jn_Heliographs jcX7_forward jpX7_forward rfl ⟨Nat.le_of_ble_eq_true rfl, Nat.le_of_ble_eq_true rfl⟩ (by omega) ⟨by omega, by omega⟩ (zK_of (fun Γ F => zh_forward_x hSt (x := m) (by omega) (y := (k : Int)) (by omega) b287 b302 (by omega))) hE0 (by omega) hz h56 (fun v hv => by simp only [List.mem_cons, List.mem_nil_iff, or_false] at hv; rcases hv with rfl | rfl <;> trivial) (fun v Z1 hr w hw => by rw [hr.1] at hw; cases hw; trivial) (fun v Z1 hr hz2 hv => absurd hr.1 (hv 0)) (fun Z1 hr hz2 => ?_)
    obtain ⟨-, rfl⟩ := hr
    rw [zL_W]
    refine gz_iload dL_act_368 rfl ?_
    refine zz_if_ne (tgt := 377) dL_act_370 rfl (by omega) (fun b370 => absurd rfl b370) (fun b370 => ?_)
    refine zz_iconst dL_act_373 ?_
    refine gz_goto (tgt := 378) dL_act_374 rfl ?_
    refine gz_ireturn dL_act_378 rfl rfl ?_
    exact same
  · have hs4 : σ 4 m = 2 := by omega
    refine zz_iconst dL_act_290 ?_
    refine gz_goto (tgt := 295) dL_act_291 rfl ?_
    refine gz_istore (L2 := [some (.ref 320), some (.ref 424), some (.int x), some (.int (iZ (k : Int))), some (.int (iZ (m : Int))), some (.ref (460 + m)), some (.int (iZ 1)), none, none]) dL_act_295 (Nat.le_of_ble_eq_true rfl) rfl ?_
    refine gz_aload dL_act_297 rfl ?_
    refine zz_iconst dL_act_299 ?_
    refine gg_iald hE 3 1 (j := m) (b := 460) (v := σ 2 m) dL_act_300 (by decide) rfl (by omega) rfl (by decide) r.2.1 ?_
    refine gz_iload_n dL_act_301 rfl ?_
    refine zz_icmp_ne (tgt := 307) dL_act_302 rfl (by omega) (fun b302 => ?_) (fun b302 => ?_)
    rotate_left
    · refine zz_iconst dL_act_305 ?_
      refine gz_ireturn dL_act_306 rfl rfl ?_
      exact same
    have h7 : σ 7 m = -1 := m1.2.2.2.2.2.2.2.2.2 (by omega)
    have hS1 : sm c (zb_u (zb_u (zb_u (zb_u W (460 + m) 2 (k : Int)) (460 + m) 4 0) (460 + m) 6 (π 7 m)) (460 + m) 8 (-1)) π (sForw π σ m (k : Int)) := sm_forw hS ⟨by omega, by omega, by omega, by omega⟩ h7
    have hz1 : zin (zb_u (zb_u (zb_u (zb_u W (460 + m) 2 (k : Int)) (460 + m) 4 0) (460 + m) 6 (π 7 m)) (460 + m) 8 (-1)) := zin_424 hz (fun a j h1 => by rw [zb_u_no _ _ (by omega)]; rw [zb_u_no _ _ (by omega)]; rw [zb_u_no _ _ (by omega)]; rw [zb_u_no _ _ (by omega)])
    have hSt1 : St (zb_u (zb_u (zb_u (zb_u W (460 + m) 2 (k : Int)) (460 + m) 4 0) (460 + m) 6 (π 7 m)) (460 + m) 8 (-1)) p H π σ t o N := St_424 hSt (fun a j h1 h2 => by rw [zb_u_no _ _ (by omega)]; rw [zb_u_no _ _ (by omega)]; rw [zb_u_no _ _ (by omega)]; rw [zb_u_no _ _ (by omega)])
    have ht : sForw π σ m (k : Int) 0 1 = σ 0 1 := by unfold sForw sWait; rw [zb_u_no _ _ (by omega)]; rw [zb_u_no _ _ (by omega)]; rw [zb_u_no _ _ (by omega)]; rw [zb_u_no _ _ (by omega)]; rw [zb_u_no _ _ (by omega)]
    have ht2 : sForw π σ m (k : Int) 0 2 = σ 0 2 := by unfold sForw sWait; rw [zb_u_no _ _ (by omega)]; rw [zb_u_no _ _ (by omega)]; rw [zb_u_no _ _ (by omega)]; rw [zb_u_no _ _ (by omega)]; rw [zb_u_no _ _ (by omega)]
    refine gz_iload dL_act_307 rfl ?_
    refine zz_if_eq (x := 1) (tgt := 337) dL_act_309 rfl (by omega) (fun b309 => absurd b309 (by decide)) (fun b309 => ?_)
    refine gz_aload dL_act_312 rfl ?_
    refine zz_iconst dL_act_314 ?_
    refine gz_iload_n dL_act_315 rfl ?_
    refine gg_iast hE 3 2 (j := m) (b := 460) dL_act_316 (by decide) rfl (by omega) rfl (by decide) ?_
    refine gz_aload dL_act_317 rfl ?_
    refine zz_iconst dL_act_319 ?_
    refine zz_iconst dL_act_320 ?_
    refine gg_iast hE 3 4 (j := m) (b := 460) dL_act_321 (by decide) rfl (by omega) rfl (by decide) ?_
    refine gz_aload dL_act_322 rfl ?_
    refine zz_bipush (x := 6) dL_act_324 rfl ?_
    refine gz_aload dL_act_326 rfl ?_
    refine zz_iconst dL_act_328 ?_
    refine gg_iald hE 3 0 (j := m) (b := 460) (v := π 7 m) dL_act_329 (by decide) rfl (by omega) rfl (by decide) (by rw [zb_u_no _ _ (by omega), zb_u_no _ _ (by omega)]; exact r.1) ?_
    refine gg_iast hE 3 6 (j := m) (b := 460) dL_act_330 (by decide) rfl (by omega) rfl (by decide) ?_
    refine gz_aload dL_act_331 rfl ?_
    refine zz_bipush (x := 8) dL_act_333 rfl ?_
    refine zz_iconst dL_act_335 ?_
    refine gg_iast hE 3 8 (j := m) (b := 460) dL_act_336 (by decide) rfl (by omega) rfl (by decide) ?_
    refine gz_aload_n dL_act_337 rfl ?_
    refine gz_iload dL_act_338 rfl ?_
    refine gz_iload_n dL_act_340 rfl ?_
    refine gA_callX (J := mX7_forward) (d1 := d - 1) (kc1 := 0) (ks1 := 0) (b := 320) (ct := 162) (hpc := 366) (i := 7) (W := (zb_u (zb_u (zb_u (zb_u W (460 + m) 2 (k : Int)) (460 + m) 4 0) (460 + m) 6 (π 7 m)) (460 + m) 8 (-1))) hL_act [({ startPc := 164, endPc := 196, handlerPc := 197, catchType := 162 } : ExceptionTableEntry), ({ startPc := 243, endPc := 268, handlerPc := 269, catchType := 162 } : ExceptionTableEntry)] ({ startPc := 337, endPc := 365, handlerPc := 366, catchType := 162 } : ExceptionTableEntry) [] [.int (iZ (m : Int)), .int (iZ (k : Int))] hl (by omega) jcL_act rfl (fun z hz => by rcases List.mem_cons.mp hz with q | q; (rw [q]; rfl); (rw [List.mem_singleton.mp q]; rfl)) rfl rfl (by decide) rfl wc_HeliographsLaw_162 dL_act_366 (Nat.le_of_ble_eq_true rfl) dL_act_341 rfl wm_HeliographsLaw_171 rfl ⟨by decide, by decide⟩ (by decide) rfl jiX7_forward jsX7_forward jn_Heliographs jcX7_forward jpX7_forward rfl ⟨Nat.le_of_ble_eq_true rfl, Nat.le_of_ble_eq_true rfl⟩ (by omega) ⟨by omega, by omega⟩ (zK_ofR (fun Γ F => zh_forward hSt1 (x := m) (by omega) (y := (k : Int)) (by omega) hs4 b302 (by omega))) hE0 (by omega) hz1 h56 (fun v hv => by simp only [List.mem_cons, List.mem_nil_iff, or_false] at hv; rcases hv with rfl | rfl <;> trivial) (fun v Z1 hr w hw => by rw [hr.1] at hw; cases hw; trivial) (fun v Z1 hr hz2 hv => ?_) (fun Z1 hr hz2 => nomatch hr.1)
    obtain ⟨rfl, hS2⟩ := hr
    refine gz_istore (L2 := [some (.ref 320), some (.ref 424), some (.int x), some (.int (iZ (k : Int))), some (.int (iZ (m : Int))), some (.ref (460 + m)), some (.int (iZ 1)), some (.int (iZ (σ 2 m))), none]) dL_act_344 (Nat.le_of_ble_eq_true rfl) rfl ?_
    refine gz_iload dL_act_346 rfl ?_
    refine zz_if_eq (x := 1) (tgt := 364) dL_act_348 rfl (by omega) (fun b348 => absurd b348 (by decide)) (fun b348 => ?_)
    refine gz_iload dL_act_351 rfl ?_
    refine gz_aload dL_act_353 rfl ?_
    refine zz_iconst dL_act_355 ?_
    refine gg_iald hE 3 1 (j := m) (b := 460) (v := σ 2 m) dL_act_356 (by decide) rfl (by omega) rfl (by decide) (by unfold zL; rw [if_neg (by omega)]; rw [zb_u_no _ _ (by omega)]; rw [zb_u_no _ _ (by omega)]; rw [zb_u_no _ _ (by omega)]; rw [zb_u_no _ _ (by omega)]; exact r.2.1) ?_
    refine zz_icmp_ne (tgt := 364) dL_act_357 rfl (by omega) (fun b357 => absurd rfl b357) (fun b357 => ?_)
    refine zz_iconst dL_act_360 ?_
    refine gz_goto (tgt := 365) dL_act_361 rfl ?_
    refine gz_ireturn dL_act_365 rfl rfl ?_
    refine hq E e _ (sForw π σ m (k : Int)) N (lJ_next hJ hz2 hS2 hS1 (fun a j h1 h2 => by rw [zb_u_no _ _ (by omega)]; rw [zb_u_no _ _ (by omega)]; rw [zb_u_no _ _ (by omega)]; rw [zb_u_no _ _ (by omega)]) (lOk_forw (by omega) hs4 b302 hO)) (by omega) (by omega) (by rw [ht]; omega) (by rw [ht]; omega) ht2 (by omega) (fun a ha => rfl) (fun a j h1 h2 => ?_)
    unfold zL
    rw [if_neg (by omega)]
    rw [zb_u_no _ _ (by omega)]; rw [zb_u_no _ _ (by omega)]; rw [zb_u_no _ _ (by omega)]; rw [zb_u_no _ _ (by omega)]
/-- some minutes go by -/
theorem act_3 {E : Nat → Nat × Nat} {e : Nat} {c : Nat → Nat} {W π σ : zV} {p : Nat} {H : zV → Nat → Bool} {t o N : Int} {kc ks : Nat} {Q : Option Value → zk_M → (Heap → Prop) → Prop} {x : Int32} {k m : Nat} (hJ : lJ E e c W p H π σ t o N) (h56 : Γ.2.2.2.1 56 < Γ.2.1.size) (hl : l.stackTraces = false) (hN : N + 600 ≤ 90000) (hd : 12 ≤ d) (hq : ∀ (E' : Nat → Nat × Nat) (e' : Nat) (W' σ' : zV) (N' : Int), lJ E' e' c W' p H π σ' t o N' → N ≤ N' → N' ≤ N + 541 → σ 0 1 ≤ σ' 0 1 → σ' 0 1 ≤ σ 0 1 + 60 → σ' 0 2 = σ 0 2 → e ≤ e' → (∀ a, a < e → E' a = E a) → (∀ a j, (a = 56 ∨ 468 ≤ a) → a < e → W' a j = W a j) → Q (some (.int (iZ 1))) (zG E' e' W') F) : zk_Go l Γ mL_act d (kc + 540) (ks + 4320) Q 379 [some (.ref 320), some (.ref 424), some (.int x), some (.int (iZ (k : Int))), some (.int (iZ (m : Int))), some (.ref (460 + m)), none, none, none] [] (zG E e W) F := by
  obtain ⟨f, hf⟩ : ∃ f : Int, f = if lB (sh x 8) 4 = 0 then 60 else 6 := ⟨_, rfl⟩
  have fb : f = 60 ∨ f = 6 := by rw [hf]; split; exact Or.inl rfl; exact Or.inr rfl
  have lb := lB_bd (sh x 4) (n := f) (by omega)
  obtain ⟨n, hn⟩ : ∃ n : Nat, (n : Int) = 1 + lB (sh x 4) f := ⟨(1 + lB (sh x 4) f).toNat, by omega⟩
  have fin : zk_Go l Γ mL_act d (kc + 540) (ks + 4320) Q 403 [some (.ref 320), some (.ref 424), some (.int x), some (.int (iZ (k : Int))), some (.int (iZ (m : Int))), some (.ref (460 + m)), none, none, none] [.int (iZ f), .int (sh x 4), .int (iZ 1), .ref 424, .ref 320] (zG E e W) F := by
    refine gw_below dL_act_403 wm_HeliographsLaw_83 (by omega) (Nat.le_of_ble_eq_true rfl) (by omega) ?_
    refine zz_iadd dL_act_406 ?_
    rw [← hn]
    refine gb_s (J := mL_gone) (d1 := d - 1) (kc1 := 9 * n) (ks1 := 72 * n) [.ref 320, .ref 424, .int (iZ (n : Int))] [] dL_act_407 rfl wm_HeliographsLaw_174 jzL_gone rfl (Nat.le_of_ble_eq_true rfl) (Nat.le_of_ble_eq_true rfl) (by omega) ⟨by omega, by omega⟩ (R := fun v M' => ∃ E' e' W', v = some (.int (iZ 1)) ∧ M' = zG E' e' W' ∧ lJ E' e' c W' p H π (zap (sRun π H n σ)) t o (N + 9 * n) ∧ e ≤ e' ∧ (∀ a, a < e → E' a = E a) ∧ ∀ a j, (a = 56 ∨ 468 ≤ a) → a < e → W' a j = W a j) (fun Q1 hq1 => zL_gone hJ h56 (n := n) (by omega) (by omega) (by omega) (fun E' e' W' q1 q2 q3 q4 => hq1 _ _ ⟨E', e', W', rfl, rfl, q1, q2, q3, q4⟩)) (fun v M' h => ?_)
    obtain ⟨E', e', W', rfl, rfl, q1, q2, q3, q4⟩ := h
    refine gz_ireturn dL_act_410 rfl rfl ?_
    have ht : zap (sRun π H n σ) 0 1 = σ 0 1 + n := sRun_t π H n σ
    exact hq E' e' W' _ _ q1 (by omega) (by omega) (by rw [ht]; omega) (by rw [ht]; omega) (sRun_o π H (i := 0) (j := 2) (by omega) n σ) q2 q3 q4
  refine gz_aload_n dL_act_379 rfl ?_
  refine gz_aload_n dL_act_380 rfl ?_
  refine zz_iconst dL_act_381 ?_
  refine gz_iload_n dL_act_382 rfl ?_
  refine zz_iconst dL_act_383 ?_
  refine gz_ishr dL_act_384 ?_
  refine gz_iload_n dL_act_385 rfl ?_
  refine zz_bipush (x := 8) dL_act_386 rfl ?_
  refine gz_ishr dL_act_388 ?_
  refine zz_iconst dL_act_389 ?_
  have lb8 := lB_bd (sh x 8) (n := 4) (by omega)
  refine gw_below (v := sh x 8) dL_act_390 wm_HeliographsLaw_83 (by omega) (Nat.le_of_ble_eq_true rfl) (by omega) ?_
  refine zz_if_ne (tgt := 401) dL_act_393 rfl (by omega) (fun b393 => ?_) (fun b393 => ?_)
  · rw [if_neg b393] at hf
    refine zz_bipush (x := 6) dL_act_401 rfl ?_
    rw [hf] at fin
    exact fin
  · rw [if_pos (by omega)] at hf
    refine zz_bipush (x := 60) dL_act_396 rfl ?_
    refine gz_goto (tgt := 403) dL_act_398 rfl ?_
    rw [hf] at fin
    exact fin
theorem zL_act {E : Nat → Nat × Nat} {e : Nat} {c : Nat → Nat} {W π σ : zV} {p : Nat} {H : zV → Nat → Bool} {t o N : Int} {kc ks : Nat} {Q : Option Value → zk_M → (Heap → Prop) → Prop} {x : Int32} (hJ : lJ E e c W p H π σ t o N) (h56 : Γ.2.2.2.1 56 < Γ.2.1.size) (hl : l.stackTraces = false) (hN : N + 600 ≤ 90000) (h0 : 0 < c 0 ∧ 0 < c 3) (hd : 12 ≤ d) (hq : ∀ (E' : Nat → Nat × Nat) (e' : Nat) (W' σ' : zV) (N' : Int), lJ E' e' c W' p H π σ' t o N' → N ≤ N' → N' ≤ N + 541 → σ 0 1 ≤ σ' 0 1 → σ' 0 1 ≤ σ 0 1 + 60 → σ' 0 2 = σ 0 2 → e ≤ e' → (∀ a, a < e → E' a = E a) → (∀ a j, (a = 56 ∨ 468 ≤ a) → a < e → W' a j = W a j) → Q (some (.int (iZ 1))) (zG E' e' W') F) : zk_Go l Γ mL_act d (kc + 540) (ks + 4320) Q 0 (zk_ent 9 [.ref 320, .ref 424, .int x]) [] (zG E e W) F := by
  have hJ2 := hJ
  obtain ⟨hE, hE0, hz, hSt, hS, hh, hH, hO⟩ := hJ2
  have hb5 := hE.2.2.2.2
  have h48 := hE.2.2.2.1
  have n1 := hS.1
  have hw : wP π := hSt.2.2.2.2.1
  have hc : wC π σ N := hSt.2.2.2.2.2.1
  have n0 := wP_n hw
  have lb0 := lB_bd (sh x 3) (n := (c 0 : Int)) (by omega)
  have lb3 := lB_bd (sh x 4) (n := (c 3 : Int)) (by omega)
  obtain ⟨k, hk⟩ : ∃ k : Nat, lB (sh x 3) (c 0 : Int) = (k : Int) := ⟨(lB (sh x 3) (c 0 : Int)).toNat, by omega⟩
  obtain ⟨m, hm⟩ : ∃ m : Nat, lB (sh x 4) (c 3 : Int) = (m : Int) := ⟨(lB (sh x 4) (c 3 : Int)).toNat, by omega⟩
  refine gz_iload_n dL_act_0 rfl ?_
  refine zz_iconst dL_act_1 ?_
  refine gz_ishr dL_act_2 ?_
  refine gz_aload_n dL_act_3 rfl ?_
  refine gz_getf (M := zG E e W) 3 dL_act_4 hE.1 rfl wf_HeliographsLaw_89 (by decide) rfl ?_
  refine gg_alen hE 0 dL_act_7 (by decide) ?_
  refine gw_below (v := sh x 3) dL_act_8 wm_HeliographsLaw_83 (by omega) (Nat.le_of_ble_eq_true rfl) (by omega) ?_
  rw [hk]
  refine gz_istore_n (L2 := [some (.ref 320), some (.ref 424), some (.int x), some (.int (iZ (k : Int))), none, none, none, none, none]) dL_act_11 (Nat.le_of_ble_eq_true rfl) rfl ?_
  refine gz_iload_n dL_act_12 rfl ?_
  refine zz_iconst dL_act_13 ?_
  refine gz_ishr dL_act_14 ?_
  refine gz_aload_n dL_act_15 rfl ?_
  refine gz_getf (M := zG E e W) 6 dL_act_16 hE.1 rfl wf_HeliographsLaw_127 (by decide) rfl ?_
  refine gg_alen hE 3 dL_act_19 (by decide) ?_
  refine gw_below (v := sh x 4) dL_act_20 wm_HeliographsLaw_83 (by omega) (Nat.le_of_ble_eq_true rfl) (by omega) ?_
  rw [hm]
  refine gz_istore (L2 := [some (.ref 320), some (.ref 424), some (.int x), some (.int (iZ (k : Int))), some (.int (iZ (m : Int))), none, none, none, none]) dL_act_23 (Nat.le_of_ble_eq_true rfl) rfl ?_
  refine gz_aload_n dL_act_25 rfl ?_
  refine gz_getf (M := zG E e W) 6 dL_act_26 hE.1 rfl wf_HeliographsLaw_127 (by decide) rfl ?_
  refine gz_iload dL_act_29 rfl ?_
  refine gg_aald hE 3 (j := m) dL_act_31 (by decide) rfl rfl (by omega) ?_
  refine gz_astore (L2 := [some (.ref 320), some (.ref 424), some (.int x), some (.int (iZ (k : Int))), some (.int (iZ (m : Int))), some (.ref (460 + m)), none, none, none]) dL_act_32 (Nat.le_of_ble_eq_true rfl) rfl ?_
  refine gz_iload_n dL_act_34 rfl ?_
  refine zz_bipush (x := 9) dL_act_35 rfl ?_
  have lb9 := lB_bd x (n := 9) (by omega)
  refine gw_below (v := x) dL_act_37 wm_HeliographsLaw_83 (by omega) (Nat.le_of_ble_eq_true rfl) (by omega) ?_
  obtain ⟨y, hy⟩ : ∃ y, lB x 9 = y := ⟨_, rfl⟩
  rw [hy] at lb9 ⊢
  rcases (show y = 0 ∨ y = 1 ∨ y = 2 ∨ y = 3 ∨ 3 < y by omega) with rfl | rfl | rfl | rfl | h3
  · refine zz_tsw (tgt := 72) dL_act_40 (by omega) (by decide) (by decide) rfl rfl ?_
    refine gz_iload_n dL_act_72 rfl ?_
    refine zz_bipush (x := 6) dL_act_73 rfl ?_
    refine gz_ishr dL_act_75 ?_
    refine zz_iconst dL_act_76 ?_
    have lb6 := lB_bd (sh x 6) (n := 2) (by omega)
    refine gw_below (v := sh x 6) dL_act_77 wm_HeliographsLaw_83 (by omega) (Nat.le_of_ble_eq_true rfl) (by omega) ?_
    refine zz_if_ne (tgt := 87) dL_act_80 rfl (by omega) (fun b80 => ?_) (fun b80 => ?_)
    · refine zz_iconst dL_act_87 ?_
      refine gz_istore (L2 := [some (.ref 320), some (.ref 424), some (.int x), some (.int (iZ (k : Int))), some (.int (iZ (m : Int))), some (.ref (460 + m)), some (.int (iZ (bI false))), none, none]) dL_act_88 (Nat.le_of_ble_eq_true rfl) rfl ?_
      exact (act_0 (kc := 0) (ks := 0) hJ h56 hl (by omega) hd hq).le (by omega) (by omega)
    · refine zz_iconst dL_act_83 ?_
      refine gz_goto (tgt := 88) dL_act_84 rfl ?_
      refine gz_istore (L2 := [some (.ref 320), some (.ref 424), some (.int x), some (.int (iZ (k : Int))), some (.int (iZ (m : Int))), some (.ref (460 + m)), some (.int (iZ (bI true))), none, none]) dL_act_88 (Nat.le_of_ble_eq_true rfl) rfl ?_
      exact (act_0 (kc := 0) (ks := 0) hJ h56 hl (by omega) hd hq).le (by omega) (by omega)
  · refine zz_tsw (tgt := 210) dL_act_40 (by omega) (by decide) (by decide) rfl rfl ?_
    exact (act_1 (kc := 0) (ks := 0) hJ h56 hl (by omega) hN hd hq).le (by omega) (by omega)
  · refine zz_tsw (tgt := 282) dL_act_40 (by omega) (by decide) (by decide) rfl rfl ?_
    exact (act_2 (kc := 0) (ks := 0) hJ h56 hl (by omega) (by omega) hd hq).le (by omega) (by omega)
  · refine zz_tsw (tgt := 282) dL_act_40 (by omega) (by decide) (by decide) rfl rfl ?_
    exact (act_2 (kc := 0) (ks := 0) hJ h56 hl (by omega) (by omega) hd hq).le (by omega) (by omega)
  · refine zz_tswD (tgt := 379) dL_act_40 (by omega) (Or.inr h3) rfl ?_
    exact act_3 hJ h56 hl hN hd hq
end

/-! THE BUILDER OF TEXTS, in any small memory -/
section
variable {l : Launch} {Γ : zk_G} {d : Nat} {F : Heap → Prop}
theorem js_max : Cond.static Lib.Math.max.name ∈ zk_tg := zk_in 1206 (by decide +kernel) rfl
theorem jc_max : Cond.code Lib.Math.max.name Lib.Math.max.code 2 (some .int) ∈ zk_tg := zk_in 1207 (by decide +kernel) rfl
theorem wa_byte : Cond.arrayClass (newarray.typeOf .byte) ∈ zk_tg := zk_in 392 (by decide +kernel) rfl
theorem wz_super : Cond.superclass "java/lang/StringBuilder" "java/lang/AbstractStringBuilder" ∈ zk_tg := zk_in 1187 (by decide +kernel) rfl
/-- a method that comes to what R says -/
def zDo (l : Launch) (Γ : zk_G) (J : zk_MI) (d kc ks : Nat) (As : List Value) (M : zk_M) (F : Heap → Prop) (R : Option Value → zk_M → Prop) : Prop :=
  ∀ Q : Option Value → zk_M → (Heap → Prop) → Prop, (∀ v M', R v M' → Q v M' F) → zk_Go l Γ J d kc ks Q 0 (zk_ent J.2.2.1 As) [] M F
/-- a method of the class above StringBuilder -/
def zB (J : zk_MI) (n : Nat) : Prop := Cond.sameMethod J.1.cls J.1.cls J.1.name J.1.desc ∈ zk_tg ∧ Cond.instanceMethod J.1 ∈ zk_tg ∧ Cond.code J.1 J.2.1 J.2.2.1 J.2.2.2 ∈ zk_tg ∧ Cond.initialized J.1.cls ∈ zk_tg ∧
  (plainName J.1.cls = true ∧ J.1.cls ≠ "java/lang/invoke/MethodHandle" ∧ J.1.cls ≠ "java/lang/invoke/VarHandle" ∧ (parseMethodDescriptor J.1.desc).map (fun d => d.parameters.length) = some n) ∧ J.2.2.1 ≤ 45 ∧ J.1.name ∉ zk_mt
def zBs (J : zk_MI) : Prop := Cond.selects "java/lang/StringBuilder" J.1 J.1 ∈ zk_tg ∨ Cond.selects "java/lang/StringBuilder" J.1 J.1 ∈ zk_xw
section
variable {I J : zk_MI} {kc ks : Nat} {Q : Option Value → zk_M → (Heap → Prop) → Prop} {pc : Nat} {L : List (Option Value)} {M : zk_M}
theorem zDo.le {kc2 ks2 : Nat} {As : List Value} {R : Option Value → zk_M → Prop} (h : zDo l Γ J d kc ks As M F R) (h1 : kc ≤ kc2) (h2 : ks ≤ ks2) : zDo l Γ J d kc2 ks2 As M F R := by
  intro Q hq p e R9 s m args below meth c H locs cells slots Qf A ρ ls hc hr hs hR hA hS hL hW hE
  exact h Q hq p e R9 s m args below meth c H locs cells slots Qf A ρ ls hc hr ⟨by omega, by omega⟩ hR hA hS hL hW (hE.later zk_ext.refl (by omega) (by omega))
theorem zDo_of {As : List Value} {v : Option Value} {M1 : zk_M} (h : zk_Does l Γ J d kc ks As M F v M1 F) : zDo l Γ J d kc ks As M F (fun v' M' => v' = v ∧ M' = M1) := fun Q hq => h Q (hq v M1 ⟨rfl, rfl⟩)
theorem gb_up {R : Option Value → zk_M → Prop} {d1 kc1 ks1 n idx a : Nat} (As st : List Value) {st0 : List Value} (hd : decode I.2.1 pc = .ok (.invokevirtual idx, 3)) (hst : st0 = As.reverse ++ .ref a :: st) (hs : M.1 a = (9, 4)) (hw : Cond.methodLink I.1.cls idx J.1 ∈ zk_tg) (hB : zB J n) (hBs : zBs J) (hn : As.length = n) (hm : (zk_es (.ref a :: As)).length ≤ J.2.2.1)
    (hsum : (st.map fun v => v.category).sum ≤ 8) (hd1 : d1 + 1 ≤ d) (hkk : kc1 ≤ kc ∧ ks1 ≤ ks) (hgo : zDo l Γ J d1 kc1 ks1 (.ref a :: As) M F R) (kk : ∀ v M', R v M' → zk_Go l Γ I d (kc - kc1) (ks - ks1) Q (pc + 3) L (v.toList ++ st) M' F) : zk_Go l Γ I d kc ks Q pc L st0 M F :=
  gz_up (x := J.1) (C := "java/lang/StringBuilder") (Q1 := fun v M' F' => R v M' ∧ F' = F) As st hd hst hs (by decide) rfl hw hB.1 hB.2.1 hB.2.2.1 hBs hB.2.1 hB.2.2.2.1 hB.2.2.1 hB.2.2.2.2.1.1 hB.2.2.2.2.1.2 hn ⟨hB.2.2.2.2.2.1, hm⟩ hsum hd1 hkk hB.2.2.2.2.2.2 (hgo _ (fun v M' h => ⟨h, rfl⟩)) (fun v M' F' h => by obtain ⟨h1, rfl⟩ := h; exact kk v M' h1)
theorem gb_super {R : Option Value → zk_M → Prop} {d1 kc1 ks1 n idx a : Nat} (As st : List Value) {st0 : List Value} (hd : decode I.2.1 pc = .ok (.invokespecial idx, 3)) (hst : st0 = As.reverse ++ .ref a :: st) (hs : M.1 a = (9, 4)) (hw : Cond.methodLink I.1.cls idx J.1 ∈ zk_tg) (hsup : Cond.superclass I.1.cls J.1.cls ∈ zk_tg) (hni : J.1.name ≠ "<init>") (hB : zB J n) (hn : As.length = n) (hm : (zk_es (.ref a :: As)).length ≤ J.2.2.1)
    (hsum : (st.map fun v => v.category).sum ≤ 8) (hd1 : d1 + 1 ≤ d) (hkk : kc1 ≤ kc ∧ ks1 ≤ ks) (hgo : zDo l Γ J d1 kc1 ks1 (.ref a :: As) M F R) (kk : ∀ v M', R v M' → zk_Go l Γ I d (kc - kc1) (ks - ks1) Q (pc + 3) L (v.toList ++ st) M' F) : zk_Go l Γ I d kc ks Q pc L st0 M F :=
  gz_super (C := RJ4) (T := TJ4) (N := 4) (Q1 := fun v M' F' => R v M' ∧ F' = F) As st hd hst hs (by decide) rfl jo_StringBuilder ju_StringBuilder hw hB.1 hsup hB.2.1 hB.2.2.2.1 hB.2.2.1 hB.2.2.2.2.1.1 ⟨hni, hB.2.2.2.2.1.2.2.2⟩ hn ⟨hB.2.2.2.2.2.1, hm⟩ hsum hd1 hkk hB.2.2.2.2.2.2 (hgo _ (fun v M' h => ⟨h, rfl⟩)) (fun v M' F' h => by obtain ⟨h1, rfl⟩ := h; exact kk v M' h1)
theorem gb_v {R : Option Value → zk_M → Prop} {d1 kc1 ks1 n k len idx b : Nat} (As st : List Value) {st0 : List Value} (hd : decode I.2.1 pc = .ok (.invokevirtual idx, 3)) (hst : st0 = As.reverse ++ .ref b :: st) (hs : M.1 b = (k, len)) (hw : Cond.methodLink I.1.cls idx J.1 ∈ zk_tg) (hJ : zk_V J n k) (hn : As.length = n) (hm : (zk_es (.ref b :: As)).length ≤ J.2.2.1)
    (hsum : (st.map fun v => v.category).sum ≤ 8) (hd1 : d1 + 1 ≤ d) (hkk : kc1 ≤ kc ∧ ks1 ≤ ks) (hgo : zDo l Γ J d1 kc1 ks1 (.ref b :: As) M F R) (kk : ∀ v M', R v M' → zk_Go l Γ I d (kc - kc1) (ks - ks1) Q (pc + 3) L (v.toList ++ st) M' F) : zk_Go l Γ I d kc ks Q pc L st0 M F :=
  gz_invv (Q1 := fun v M' F' => R v M' ∧ F' = F) As st hd hst hs hJ.2.2.2.2.2.2.1 hJ.2.2.2.2.2.2.2.1 hw hJ.1 hJ.2.1 hJ.2.2.1 hJ.2.2.2.1 hJ.2.2.2.2.1 hn ⟨hJ.2.2.2.2.2.1, hm⟩ hsum hd1 hkk hJ.2.2.2.2.2.2.2.2 (hgo _ (fun v M' h => ⟨h, rfl⟩)) (fun v M' F' h => by obtain ⟨h1, rfl⟩ := h; exact kk v M' h1)
theorem gb_s {R : Option Value → zk_M → Prop} {d1 kc1 ks1 n idx : Nat} (As st : List Value) {st0 : List Value} (hd : decode I.2.1 pc = .ok (.invokestatic idx, 3)) (hst : st0 = As.reverse ++ st) (hw : Cond.methodLink I.1.cls idx J.1 ∈ zk_tg) (hJ : zk_S J n) (hn : As.length = n) (hm : (zk_es As).length ≤ J.2.2.1)
    (hsum : (st.map fun v => v.category).sum ≤ 8) (hd1 : d1 + 1 ≤ d) (hkk : kc1 ≤ kc ∧ ks1 ≤ ks) (hgo : zDo l Γ J d1 kc1 ks1 As M F R) (kk : ∀ v M', R v M' → zk_Go l Γ I d (kc - kc1) (ks - ks1) Q (pc + 3) L (v.toList ++ st) M' F) : zk_Go l Γ I d kc ks Q pc L st0 M F :=
  gz_invs (Q1 := fun v M' F' => R v M' ∧ F' = F) As st hd hst hw hJ.1 hJ.2.1 hJ.2.2.1 hJ.2.2.2.1 hn ⟨hJ.2.2.2.2.1, hm⟩ hsum hd1 hkk hJ.2.2.2.2.2 (hgo _ (fun v M' h => ⟨h, rfl⟩)) (fun v M' F' h => by obtain ⟨h1, rfl⟩ := h; exact kk v M' h1)
theorem gz_max {st : List Value} {idx : Nat} {x y z : Int} (hd : decode I.2.1 pc = .ok (.invokestatic idx, 3)) (hw : Cond.methodLink I.1.cls idx Lib.Math.max.name ∈ zk_tg) (hb : (-2147483648 ≤ x ∧ x < 2147483648) ∧ (-2147483648 ≤ y ∧ y < 2147483648)) (hz : z = if x < y then y else x) (hsum : (st.map fun v => v.category).sum ≤ 8) (hd1 : 1 ≤ d) (kk : zk_Go l Γ I d kc ks Q (pc + 3) L (.int (iZ z) :: st) M F) : zk_Go l Γ I d kc ks Q pc L (.int (iZ y) :: .int (iZ x) :: st) M F := by
  intro p ev R s m args below meth c H locs cells slots Qf A ρ ls hc hr hs9 hR hA hS hL hW hE
  have e9 : ((st.map (zk_v ρ)).map fun v => v.category) = st.map fun v => v.category := by
    rw [List.map_map]
    congr 1
    funext v
    exact zk_v_cat ρ v
  refine va_mmax hc.1 hc.2.1 (hc.2.2.1.trans hL.1.symm) hc.2.2.2.1 (hc.2.2.2.2.1 _ hw) (hc.2.2.2.2.1 _ js_max) (hc.2.2.2.2.1 _ jn_Math) (hc.2.2.2.2.1 _ jc_max) (by omega) (by rw [e9]; omega) (by omega) (by omega) hd ?_
  have hgo := kk p ev R s m args below meth c H locs cells slots Qf A ρ ls hc hr hs9 hR hA hS hL ⟨trivial, hW.2.2⟩ hE
  have ez : (if iZ x < iZ y then iZ y else iZ x) = iZ z := by
    rw [hz]
    by_cases q : x < y
    · rw [if_pos q, if_pos ((iZ_lt ⟨by omega, by omega, by omega, by omega⟩).mpr q)]
    · rw [if_neg q, if_neg (fun k => q ((iZ_lt ⟨by omega, by omega, by omega, by omega⟩).mp k))]
  rw [ez]
  exact hgo
end
theorem jbJ5_append_cf1ce : zB mJ5_append_cf1ce 1 := ⟨zk_in 1466 (by decide +kernel) rfl, jiJ5_append_cf1ce, jcJ5_append_cf1ce, jn_AbstractStringBuilder, jpJ5_append_cf1ce, by decide, by decide⟩
theorem jbJ5_ensureCapacityInternal_d00df : zB mJ5_ensureCapacityInternal_d00df 1 := ⟨zk_in 1468 (by decide +kernel) rfl, jiJ5_ensureCapacityInternal_d00df, jcJ5_ensureCapacityInternal_d00df, jn_AbstractStringBuilder, jpJ5_ensureCapacityInternal_d00df, by decide, by decide⟩
theorem jbJ5_newCapacity_0f7a4 : zB mJ5_newCapacity_0f7a4 1 := ⟨zk_in 1469 (by decide +kernel) rfl, jiJ5_newCapacity_0f7a4, jcJ5_newCapacity_0f7a4, jn_AbstractStringBuilder, jpJ5_newCapacity_0f7a4, by decide, by decide⟩
theorem jbJ5_putStringAt_47b60 : zB mJ5_putStringAt_47b60 2 := ⟨zk_in 1470 (by decide +kernel) rfl, jiJ5_putStringAt_47b60, jcJ5_putStringAt_47b60, jn_AbstractStringBuilder, jpJ5_putStringAt_47b60, by decide, by decide⟩
theorem jbJ5_inflateIfNeededFor_a7421 : zB mJ5_inflateIfNeededFor_a7421 1 := ⟨zk_in 1471 (by decide +kernel) rfl, jiJ5_inflateIfNeededFor_a7421, jcJ5_inflateIfNeededFor_a7421, jn_AbstractStringBuilder, jpJ5_inflateIfNeededFor_a7421, by decide, by decide⟩
theorem jbJ5_append_c97b9 : zB mJ5_append_c97b9 1 := ⟨zk_in 1473 (by decide +kernel) rfl, jiJ5_append_c97b9, jcJ5_append_c97b9, jn_AbstractStringBuilder, jpJ5_append_c97b9, by decide, by decide⟩
theorem jbJ5_isLatin1_aae02 : zB mJ5_isLatin1_aae02 0 := ⟨zk_in 1229 (by decide +kernel) rfl, jiJ5_isLatin1_aae02, jcJ5_isLatin1_aae02, jn_AbstractStringBuilder, jpJ5_isLatin1_aae02, by decide, by decide⟩
theorem jbJ5_getValue_6d5f1 : zB mJ5_getValue_6d5f1 0 := ⟨zk_in 1375 (by decide +kernel) rfl, jiJ5_getValue_6d5f1, jcJ5_getValue_6d5f1, jn_AbstractStringBuilder, jpJ5_getValue_6d5f1, by decide, by decide⟩
theorem jbJ5_length_8abf5 : zB mJ5_length_8abf5 0 := ⟨zk_in 1380 (by decide +kernel) rfl, jiJ5_length_8abf5, jcJ5_length_8abf5, jn_AbstractStringBuilder, jpJ5_length_8abf5, by decide, by decide⟩
theorem zb_sel : Cond.selects "java/lang/StringBuilder" yJ5_isLatin1_aae02 yJ5_isLatin1_aae02 ∈ zk_tg := zk_in 1230 (by decide +kernel) rfl
theorem jtJ5_ensureCapacityInternal_d00df : zBs mJ5_ensureCapacityInternal_d00df := Or.inr (List.mem_of_getElem? (i := 5) rfl)
theorem jtJ5_newCapacity_0f7a4 : zBs mJ5_newCapacity_0f7a4 := Or.inr (List.mem_of_getElem? (i := 6) rfl)
theorem jtJ5_putStringAt_47b60 : zBs mJ5_putStringAt_47b60 := Or.inr (List.mem_of_getElem? (i := 7) rfl)
theorem jtJ5_inflateIfNeededFor_a7421 : zBs mJ5_inflateIfNeededFor_a7421 := Or.inr (List.mem_of_getElem? (i := 8) rfl)
theorem jtJ5_isLatin1_aae02 : zBs mJ5_isLatin1_aae02 := Or.inl (zk_in 1230 (by decide +kernel) rfl)
theorem jtJ5_getValue_6d5f1 : zBs mJ5_getValue_6d5f1 := Or.inl (zk_in 1376 (by decide +kernel) rfl)
theorem str_shl (n : Int32) : n <<< (iZ 0 &&& 31) = n := by
  rw [show iZ 0 &&& (31 : Int32) = 0 from rfl]
  exact Int32.shiftLeft_zero
/-- at a stands a builder whose letters, at b, are those of t -/
def zSB (M : zk_M) (a b cap : Nat) (t : List Int) : Prop := (M.1 a = (9, 4) ∧ 320 ≤ a ∧ a < M.2.1) ∧ (M.1 b = (103, cap) ∧ 320 ≤ b ∧ b < M.2.1) ∧ (M.2.2 a 0 = .ref b ∧ M.2.2 a 1 = .int (iZ 0) ∧ M.2.2 a 3 = .int (iZ (t.length : Int))) ∧ t.length ≤ cap ∧ cap < 100000 ∧
  (∀ j, j < cap → ∃ z, M.2.2 b j = .int (iZ z) ∧ 0 ≤ z ∧ z < 128) ∧ (∀ j, j < t.length → M.2.2 b j = .int (iZ (t.getD j 0))) ∧ ∀ c ∈ t, 0 ≤ c ∧ c < 128
/-- the memory behind it: what is neither the builder nor its row stands as it stood -/
def zKp (M M' : zk_M) (a b b' : Nat) : Prop := M.2.1 ≤ M'.2.1 ∧ (∀ c, c < M.2.1 → M'.1 c = M.1 c) ∧ (∀ c, c < M.2.1 → c ≠ a → c ≠ b → M'.2.2 c = M.2.2 c) ∧ (b' = b ∨ M.2.1 ≤ b')
theorem zKp.refl {M : zk_M} {a b : Nat} : zKp M M a b b := ⟨Nat.le_refl _, fun _ _ => rfl, fun _ _ _ _ => rfl, Or.inl rfl⟩
theorem zKp.trans {M M1 M2 : zk_M} {a b b1 b2 : Nat} (h : zKp M M1 a b b1) (g : zKp M1 M2 a b1 b2) (hb : b < M.2.1) : zKp M M2 a b b2 := by
  obtain ⟨h1, h2, h3, h4⟩ := h
  obtain ⟨g1, g2, g3, g4⟩ := g
  refine ⟨by omega, fun c hc => (g2 c (by omega)).trans (h2 c hc), fun c hc q1 q2 => (g3 c (by omega) q1 (by omega)).trans (h3 c hc q1 q2), by omega⟩
theorem zk_up_n2 {G : Nat → Nat → Value} {a j x y : Nat} {v : Value} (h : x ≠ a ∨ y ≠ j) : zk_up G a j v x y = G x y := by
  unfold zk_up
  by_cases q : x = a
  · rw [if_pos q, if_neg (by omega), q]
  · rw [if_neg q]
theorem zk_up_a2 {G : Nat → Nat → Value} {a j : Nat} {v : Value} : zk_up G a j v a j = v := by
  unfold zk_up
  rw [if_pos rfl, if_pos rfl]
theorem zk_upC_a {G : Nat → Nat → Value} {a : Nat} {g : Nat → Value} : zk_upC G a g a = g := if_pos rfl
theorem zk_upC_n {G : Nat → Nat → Value} {a x : Nat} {g : Nat → Value} (h : x ≠ a) : zk_upC G a g x = G x := if_neg h
theorem nar_byte0 : ∀ x : Fin 128, narrow .byte (.int (iZ ((x.val : Nat) : Int))) = .int (iZ ((x.val : Nat) : Int)) ∧ fits .byte (.int (iZ ((x.val : Nat) : Int))) = true := by decide +kernel
theorem nar_byte {x : Int} (h : 0 ≤ x ∧ x < 128) : narrow .byte (.int (iZ x)) = .int (iZ x) ∧ fits .byte (.int (iZ x)) = true := by
  have q := nar_byte0 ⟨x.toNat, by omega⟩
  rw [show (((⟨x.toNat, by omega⟩ : Fin 128).val : Nat) : Int) = x from by show ((x.toNat : Nat) : Int) = x; omega] at q
  exact q
theorem zSB_fit {M : zk_M} {a b cap : Nat} {t : List Int} (h : zSB M a b cap t) {j : Nat} (hj : j < cap) : fits .byte (M.2.2 b j) = true ∧ ∀ x, M.2.2 b j ≠ .ref x := by
  obtain ⟨z, e, hz⟩ := h.2.2.2.2.2.1 j hj
  rw [e]
  exact ⟨(nar_byte hz).2, fun x q => by cases q⟩
section
variable {M : zk_M} {a b cap : Nat} {t : List Int}
theorem jb_latin (h : zSB M a b cap t) : zk_Does l Γ mJ5_isLatin1_aae02 d 0 0 [.ref a] M F (some (.int (iZ 1))) M F := by
  intro Q hq
  obtain ⟨⟨s1, s2, s3⟩, ⟨b1, b2, b3⟩, ⟨f0, f1, f3⟩, c1, c2, c3, c4, c5⟩ := h
  refine gz_gets (v := .int 1) dJ5_isLatin1_aae02_0 (by decide) wf_AbstractStringBuilder_18 (by first | exact True.intro | (show _ < _; decide)) ?_
  refine zz_if_eq (x := 1) (tgt := 17) dJ5_isLatin1_aae02_3 rfl (by omega) (fun b3 => ?_) (fun b3 => ?_)
  · exact absurd b3 (by omega)
  refine gz_aload_n dJ5_isLatin1_aae02_6 rfl ?_
  refine gz_getf 1 dJ5_isLatin1_aae02_7 s1 rfl wf_AbstractStringBuilder_22 (by omega) f1 ?_
  refine zz_if_ne (tgt := 17) dJ5_isLatin1_aae02_10 rfl (by omega) (fun b10 => ?_) (fun b10 => ?_)
  · exact absurd b10 (by omega)
  refine zz_iconst dJ5_isLatin1_aae02_13 ?_
  refine gz_goto (tgt := 18) dJ5_isLatin1_aae02_14 rfl ?_
  refine gz_ireturn dJ5_isLatin1_aae02_18 rfl rfl ?_
  exact hq
theorem ja_newLength {x y z w : Nat} (hx : x < 100000 ∧ y < 100000 ∧ z < 200000) (hw : w = x + (if y < z then z else y)) (h0 : 0 < w) (hd : 1 ≤ d) : zk_Does l Γ mJ8_newLength_cabcc d 0 0 [.int (iZ (x : Int)), .int (iZ (y : Int)), .int (iZ (z : Int))] M F (some (.int (iZ (w : Int)))) M F := by
  intro Q hq
  have ew : (x : Int) + (if (y : Int) < (z : Int) then (z : Int) else (y : Int)) = (w : Int) := by
    rw [hw]
    by_cases q : y < z
    · rw [if_pos q, if_pos (by omega)]; omega
    · rw [if_neg q, if_neg (by omega)]; omega
  have hwb : w < 300000 := by
    rw [hw]
    by_cases q : y < z
    · rw [if_pos q]; omega
    · rw [if_neg q]; omega
  refine gz_iload_n dJ8_newLength_cabcc_0 rfl ?_
  refine gz_iload_n dJ8_newLength_cabcc_1 rfl ?_
  refine gz_iload_n dJ8_newLength_cabcc_2 rfl ?_
  refine gz_max (z := if (y : Int) < (z : Int) then (z : Int) else (y : Int)) dJ8_newLength_cabcc_3 wm_ArraysSupport_194 ⟨by omega, by omega⟩ rfl (Nat.le_of_ble_eq_true rfl) hd ?_
  refine zz_iadd dJ8_newLength_cabcc_6 ?_
  rw [ew]
  refine gz_istore_n dJ8_newLength_cabcc_7 (Nat.le_of_ble_eq_true rfl) rfl ?_
  refine zz_iconst dJ8_newLength_cabcc_8 ?_
  refine gz_iload_n dJ8_newLength_cabcc_9 rfl ?_
  refine zz_icmp_ge (tgt := 21) dJ8_newLength_cabcc_10 rfl (by omega) (fun b10 => ?_) (fun b10 => ?_)
  · exact absurd b10 (by omega)
  refine gz_iload_n dJ8_newLength_cabcc_13 rfl ?_
  refine zz_ldc (z := 2147483639) dJ8_newLength_cabcc_14 wk_ArraysSupport_200 rfl ?_
  refine zz_icmp_gt (tgt := 21) dJ8_newLength_cabcc_16 rfl (by omega) (fun b16 => ?_) (fun b16 => ?_)
  · exact absurd b16 (by omega)
  refine gz_iload_n dJ8_newLength_cabcc_19 rfl ?_
  refine gz_ireturn dJ8_newLength_cabcc_20 rfl rfl ?_
  exact hq
def zCap (q cap : Nat) : Nat := if q ≤ cap then cap else if 2 * cap + 2 < q then q else 2 * cap + 2
theorem jb_newCap (h : zSB M a b cap t) {q : Nat} (hq9 : cap < q) (hq8 : q < 90000) (hd : 2 ≤ d) : zk_Does l Γ mJ5_newCapacity_0f7a4 d 0 0 [.ref a, .int (iZ (q : Int))] M F (some (.int (iZ (zCap q cap : Int)))) M F := by
  intro Q hq
  have ec : zCap q cap = cap + (if q - cap < cap + 2 then cap + 2 else q - cap) := by
    unfold zCap
    rw [if_neg (by omega)]
    by_cases k : q - cap < cap + 2
    · rw [if_pos k, if_neg (by omega)]; omega
    · rw [if_neg k]
      by_cases k2 : 2 * cap + 2 < q
      · rw [if_pos k2]; omega
      · rw [if_neg k2]; omega
  obtain ⟨⟨s1, s2, s3⟩, ⟨b1, b2, b3⟩, ⟨f0, f1, f3⟩, c1, c2, c3, c4, c5⟩ := h
  refine gz_aload_n dJ5_newCapacity_0f7a4_0 rfl ?_
  refine gz_getf 0 dJ5_newCapacity_0f7a4_1 s1 rfl wf_AbstractStringBuilder_15 (by omega) f0 ?_
  refine gz_alen (k := 3) dJ5_newCapacity_0f7a4_4 b1 (by decide) ?_
  refine gz_istore_n dJ5_newCapacity_0f7a4_5 (Nat.le_of_ble_eq_true rfl) rfl ?_
  refine gz_iload_n dJ5_newCapacity_0f7a4_6 rfl ?_
  refine gz_aload_n dJ5_newCapacity_0f7a4_7 rfl ?_
  refine gz_getf 1 dJ5_newCapacity_0f7a4_8 s1 rfl wf_AbstractStringBuilder_22 (by omega) f1 ?_
  refine gz_ishl dJ5_newCapacity_0f7a4_11 ?_
  rw [str_shl]
  refine gz_istore_n dJ5_newCapacity_0f7a4_12 (Nat.le_of_ble_eq_true rfl) rfl ?_
  refine gz_iload_n dJ5_newCapacity_0f7a4_13 rfl ?_
  refine gz_iload_n dJ5_newCapacity_0f7a4_14 rfl ?_
  refine zz_isub dJ5_newCapacity_0f7a4_15 ?_
  rw [show (q : Int) - (cap : Int) = ((q - cap : Nat) : Int) by omega]
  refine gz_istore dJ5_newCapacity_0f7a4_16 (Nat.le_of_ble_eq_true rfl) rfl ?_
  refine gz_iload_n dJ5_newCapacity_0f7a4_18 rfl ?_
  refine gz_iload dJ5_newCapacity_0f7a4_19 rfl ?_
  refine gz_iload_n dJ5_newCapacity_0f7a4_21 rfl ?_
  refine zz_iconst dJ5_newCapacity_0f7a4_22 ?_
  refine gz_aload_n dJ5_newCapacity_0f7a4_23 rfl ?_
  refine gz_getf 1 dJ5_newCapacity_0f7a4_24 s1 rfl wf_AbstractStringBuilder_22 (by omega) f1 ?_
  refine gz_ishl dJ5_newCapacity_0f7a4_27 ?_
  rw [str_shl]
  refine zz_iadd dJ5_newCapacity_0f7a4_28 ?_
  rw [show (cap : Int) + 2 = ((cap + 2 : Nat) : Int) by omega]
  refine gs_3 (J := mJ8_newLength_cabcc) (d1 := d - 1) dJ5_newCapacity_0f7a4_29 wm_AbstractStringBuilder_114 jzJ8_newLength_cabcc (Nat.le_of_ble_eq_true rfl) (Nat.le_of_ble_eq_true rfl) (by omega) ⟨Nat.le_refl _, Nat.le_refl _⟩ (ja_newLength (w := zCap q cap) ⟨by omega, by omega, by omega⟩ ec (by unfold zCap; (repeat' split) <;> omega) (by omega)) ?_
  have hb9 : zCap q cap < 300000 := by unfold zCap; (repeat' split) <;> omega
  refine gz_istore dJ5_newCapacity_0f7a4_32 (Nat.le_of_ble_eq_true rfl) rfl ?_
  refine gz_iload dJ5_newCapacity_0f7a4_34 rfl ?_
  refine zz_ldc (z := 2147483647) dJ5_newCapacity_0f7a4_36 wk_AbstractStringBuilder_39 rfl ?_
  refine zz_icmp_ne (tgt := 51) dJ5_newCapacity_0f7a4_38 rfl (by omega) (fun b38 => ?_) (fun b38 => ?_)
  rotate_left
  · exact absurd b38 (by omega)
  refine gz_iload dJ5_newCapacity_0f7a4_51 rfl ?_
  refine gz_aload_n dJ5_newCapacity_0f7a4_53 rfl ?_
  refine gz_getf 1 dJ5_newCapacity_0f7a4_54 s1 rfl wf_AbstractStringBuilder_22 (by omega) f1 ?_
  refine gz_ishr dJ5_newCapacity_0f7a4_57 ?_
  rw [str_shr]
  refine gz_ireturn dJ5_newCapacity_0f7a4_58 rfl rfl ?_
  exact hq
/-- a longer row with the old one's letters -/
def zCO (M : zk_M) (b cap q : Nat) : zk_M := ((zk_add M (103, q) (fun _ => .int 0)).1, M.2.1 + 1, zk_upC (zk_add M (103, q) (fun _ => .int 0)).2.2 M.2.1 (zk_cpy (M.2.2 b) (fun _ => .int 0) 0 0 cap))
theorem ja_copyOf {q : Nat} (hb : M.1 b = (103, cap)) (hbn : b < M.2.1) (hfit : ∀ j, j < cap → fits .byte (M.2.2 b j) = true ∧ ∀ x, M.2.2 b j ≠ .ref x) (hq9 : cap < q) (hq8 : q < 300000) (hn : 320 ≤ M.2.1) (hd : 1 ≤ d) : zk_Does l Γ mJ7_copyOf_9075b d 1 q [.ref b, .int (iZ (q : Int))] M F (some (.ref M.2.1)) (zCO M b cap q) F := by
  intro Q hq
  refine gz_iload_n dJ7_copyOf_9075b_0 rfl ?_
  refine gz_aload_n dJ7_copyOf_9075b_1 rfl ?_
  refine gz_alen (k := 3) dJ7_copyOf_9075b_2 hb (by decide) ?_
  refine zz_icmp_ne (tgt := 14) dJ7_copyOf_9075b_3 rfl (by omega) (fun b3 => ?_) (fun b3 => ?_)
  rotate_left
  · exact absurd b3 (by omega)
  refine gz_iload_n dJ7_copyOf_9075b_14 rfl ?_
  refine gz_newa (k := 3) (len := q) (v0 := .int 0) dJ7_copyOf_9075b_15 rfl (by decide) wa_byte rfl (by omega) (Nat.le_of_ble_eq_true rfl) rfl (fun x q => nomatch q) ⟨Nat.le_refl _, Nat.le_refl _⟩ ?_
  have hne : b ≠ M.2.1 := by omega
  have g1 : (zk_add M (100 + 3, q) (fun _ => .int 0)).1 b = (103, cap) := (if_neg hne).trans hb
  have g2 : (zk_add M (100 + 3, q) (fun _ => .int 0)).1 M.2.1 = (103, q) := if_pos rfl
  have g3 : (zk_add M (100 + 3, q) (fun _ => .int 0)).2.2 b = M.2.2 b := if_neg hne
  have g4 : (zk_add M (100 + 3, q) (fun _ => .int 0)).2.2 M.2.1 = (fun _ => .int 0) := if_pos rfl
  refine gz_astore_n dJ7_copyOf_9075b_17 (Nat.le_of_ble_eq_true rfl) rfl ?_
  refine gz_aload_n dJ7_copyOf_9075b_18 rfl ?_
  refine zz_iconst dJ7_copyOf_9075b_19 ?_
  refine gz_aload_n dJ7_copyOf_9075b_20 rfl ?_
  refine zz_iconst dJ7_copyOf_9075b_21 ?_
  refine gz_aload_n dJ7_copyOf_9075b_22 rfl ?_
  refine gz_alen (k := 3) dJ7_copyOf_9075b_23 g1 (by decide) ?_
  refine gz_iload_n dJ7_copyOf_9075b_24 rfl ?_
  refine gz_min (z := (cap : Int)) dJ7_copyOf_9075b_25 wm_Arrays_304 ⟨by omega, by omega⟩ (if_neg (by omega)).symm (Nat.le_of_ble_eq_true rfl) hd ?_
  refine gz_copy (k := 3) (n0 := cap) (n1 := q) (sp := 0) (dp := 0) (n := cap) dJ7_copyOf_9075b_28 wm_Arrays_150 jn_System (by decide) g1 g2 hn rfl rfl rfl (by omega) (by omega) (fun i hi => by rw [Nat.zero_add, g3]; exact hfit i hi) (Nat.le_of_ble_eq_true rfl) hd ?_
  rw [g3, g4]
  refine gz_aload_n dJ7_copyOf_9075b_31 rfl ?_
  refine gz_areturn dJ7_copyOf_9075b_32 rfl (Or.inr ⟨_, rfl⟩) ?_
  exact hq
theorem jb_ensure (h : zSB M a b cap t) {q : Nat} (hq8 : q < 40000) (hc8 : cap < 40000) (hd : 3 ≤ d) : zDo l Γ mJ5_ensureCapacityInternal_d00df d 1 (zCap q cap) [.ref a, .int (iZ (q : Int))] M F (fun v M' => v = none ∧ ∃ b', zSB M' a b' (zCap q cap) t ∧ zKp M M' a b b') := by
  intro Q hq
  have h9 := h
  have hcb : zCap q cap < 100000 ∧ (cap < q → q ≤ zCap q cap) := by unfold zCap; (repeat' split) <;> exact ⟨by omega, fun _ => by omega⟩
  obtain ⟨⟨s1, s2, s3⟩, ⟨b1, b2, b3⟩, ⟨f0, f1, f3⟩, c1, c2, c3, c4, c5⟩ := h
  refine gz_aload_n dJ5_ensureCapacityInternal_d00df_0 rfl ?_
  refine gz_getf 0 dJ5_ensureCapacityInternal_d00df_1 s1 rfl wf_AbstractStringBuilder_15 (by omega) f0 ?_
  refine gz_alen (k := 3) dJ5_ensureCapacityInternal_d00df_4 b1 (by decide) ?_
  refine gz_aload_n dJ5_ensureCapacityInternal_d00df_5 rfl ?_
  refine gz_getf 1 dJ5_ensureCapacityInternal_d00df_6 s1 rfl wf_AbstractStringBuilder_22 (by omega) f1 ?_
  refine gz_ishr dJ5_ensureCapacityInternal_d00df_9 ?_
  rw [str_shr]
  refine gz_istore_n dJ5_ensureCapacityInternal_d00df_10 (Nat.le_of_ble_eq_true rfl) rfl ?_
  refine gz_iload_n dJ5_ensureCapacityInternal_d00df_11 rfl ?_
  refine gz_iload_n dJ5_ensureCapacityInternal_d00df_12 rfl ?_
  refine zz_isub dJ5_ensureCapacityInternal_d00df_13 ?_
  refine zz_if_le (tgt := 38) dJ5_ensureCapacityInternal_d00df_14 rfl (by omega) (fun b14 => ?_) (fun b14 => ?_)
  · refine gz_return_ dJ5_ensureCapacityInternal_d00df_38 rfl ?_
    have e : zCap q cap = cap := if_pos (by omega)
    exact hq _ _ ⟨rfl, b, by rw [e]; exact h9, zKp.refl⟩
  · refine gz_aload_n dJ5_ensureCapacityInternal_d00df_17 rfl ?_
    refine gz_aload_n dJ5_ensureCapacityInternal_d00df_18 rfl ?_
    refine gz_getf 0 dJ5_ensureCapacityInternal_d00df_19 s1 rfl wf_AbstractStringBuilder_15 (by omega) f0 ?_
    refine gz_aload_n dJ5_ensureCapacityInternal_d00df_22 rfl ?_
    refine gz_iload_n dJ5_ensureCapacityInternal_d00df_23 rfl ?_
    refine gb_up (J := mJ5_newCapacity_0f7a4) (d1 := d - 1) [.int (iZ (q : Int))] _ dJ5_ensureCapacityInternal_d00df_24 rfl s1 wm_AbstractStringBuilder_104 jbJ5_newCapacity_0f7a4 jtJ5_newCapacity_0f7a4 rfl (Nat.le_of_ble_eq_true rfl) (Nat.le_of_ble_eq_true rfl) (by omega) ⟨Nat.zero_le _, Nat.zero_le _⟩ (zDo_of (jb_newCap h9 (by omega) (by omega) (by omega))) (fun v M' hh => ?_)
    obtain ⟨rfl, hM1⟩ := hh
    rw [hM1]
    clear hM1
    refine gz_aload_n dJ5_ensureCapacityInternal_d00df_27 rfl ?_
    refine gz_getf 1 dJ5_ensureCapacityInternal_d00df_28 s1 rfl wf_AbstractStringBuilder_22 (by omega) f1 ?_
    refine gz_ishl dJ5_ensureCapacityInternal_d00df_31 ?_
    rw [str_shl]
    have hge : cap < zCap q cap := Nat.lt_of_lt_of_le (by omega) (hcb.2 (by omega))
    refine gs_2 (J := mJ7_copyOf_9075b) (d1 := d - 1) dJ5_ensureCapacityInternal_d00df_32 wm_AbstractStringBuilder_108 jzJ7_copyOf_9075b (Nat.le_of_ble_eq_true rfl) (Nat.le_of_ble_eq_true rfl) (by omega) ⟨by omega, by omega⟩ (ja_copyOf b1 b3 (fun j hj => zSB_fit h9 hj) hge (by omega) (by omega) (by omega)) ?_
    have hne : a ≠ M.2.1 := by omega
    have hne2 : b ≠ M.2.1 := by omega
    have g1 : ∀ x, x < M.2.1 → (zCO M b cap (zCap q cap)).1 x = M.1 x := fun x hx => if_neg (by omega)
    have g2 : ∀ x, x < M.2.1 → (zCO M b cap (zCap q cap)).2.2 x = M.2.2 x := fun x hx => (zk_upC_n (by omega)).trans (if_neg (by omega))
    have g3 : (zCO M b cap (zCap q cap)).2.2 M.2.1 = zk_cpy (M.2.2 b) (fun _ => .int 0) 0 0 cap := zk_upC_a
    have g4 : (zCO M b cap (zCap q cap)).1 M.2.1 = (103, zCap q cap) := if_pos rfl
    have g5 : (zCO M b cap (zCap q cap)).2.1 = M.2.1 + 1 := rfl
    refine gz_putf (T := TJ4) (N := 4) 0 dJ5_ensureCapacityInternal_d00df_35 ((g1 a s3).trans s1) rfl wf_AbstractStringBuilder_15 (by omega) s2 jo_StringBuilder ju_StringBuilder rfl tyJ4 tyJ4_ok nmJ4 rfl (fun _ => ⟨rfl, rfl⟩) ?_
    refine gz_return_ dJ5_ensureCapacityInternal_d00df_38 rfl ?_
    have k1 : ∀ x, x ≠ a → zk_up (zCO M b cap (zCap q cap)).2.2 a 0 (.ref M.2.1) x = (zCO M b cap (zCap q cap)).2.2 x := fun x hx => zk_up_ne hx
    refine hq _ _ ⟨rfl, M.2.1, ⟨⟨(g1 a s3).trans s1, s2, by show a < M.2.1 + 1; omega⟩, ⟨g4, by omega, by show M.2.1 < M.2.1 + 1; omega⟩, ⟨zk_up_a2, ?_, ?_⟩, by omega, hcb.1, fun j hj => ?_, fun j hj => ?_, c5⟩, by show M.2.1 ≤ M.2.1 + 1; omega, fun c hc => g1 c hc, fun c hc q1 q2 => (k1 c q1).trans (g2 c hc), Or.inr (Nat.le_refl _)⟩
    · show zk_up _ a 0 _ a 1 = _
      rw [zk_up_n2 (Or.inr (by decide)), g2 a s3]; exact f1
    · show zk_up _ a 0 _ a 3 = _
      rw [zk_up_n2 (Or.inr (by decide)), g2 a s3]; exact f3
    · show ∃ z, zk_up _ a 0 _ M.2.1 j = _ ∧ _
      rw [k1 _ (Ne.symm hne), g3]
      unfold zk_cpy
      by_cases k : j < cap
      · rw [if_pos ⟨by omega, by omega⟩]
        have e : 0 + (j - 0) = j := by omega
        rw [e]
        exact c3 j k
      · rw [if_neg (by omega)]
        exact ⟨0, rfl, by omega, by omega⟩
    · show zk_up _ a 0 _ M.2.1 j = _
      rw [k1 _ (Ne.symm hne), g3]
      unfold zk_cpy
      rw [if_pos ⟨by omega, by omega⟩, show 0 + (j - 0) = j by omega]
      exact c4 j hj
end
end

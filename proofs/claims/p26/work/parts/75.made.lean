/-! THE OBJECT IS MADE -/
section
variable {l : Launch} {Γ : zk_G} {d : Nat} {F : Heap → Prop}
theorem wa_int : Cond.arrayClass (newarray.typeOf .int) ∈ zk_tg := zk_in 51 (by decide +kernel) rfl
theorem wa_long : Cond.arrayClass (newarray.typeOf .long) ∈ zk_tg := zk_in 82 (by decide +kernel) rfl
theorem wa_boolean : Cond.arrayClass (newarray.typeOf .boolean) ∈ zk_tg := zk_in 269 (by decide +kernel) rfl
theorem zk_dv (ty : FieldType) (x : Nat) : defaultValue ty ≠ .ref x := by cases ty <;> exact fun q => by cases q
section
variable {I : zk_MI} {kc ks : Nat} {Q : Option Value → zk_M → (Heap → Prop) → Prop} {pc : Nat} {L : List (Option Value)} {st : List Value} {M : zk_M}
/-- a final field is written by its class's constructor -/
theorem gz_putfF {i a k len N : Nat} {C : String} {T : u_T} {v : Value} (j : Nat) (hd : decode I.2.1 pc = .ok (.putfield i, 3)) (hs : M.1 a = (k, len)) (hk : zk_cs[k]? = some (C, T, N)) (hw : Cond.fieldLink I.1.cls i (T j).1 (T j).2.1 (T j).2.2.1 ∈ zk_tg) (hj : j < len) (ha : zk_N ≤ a)
    (hi : Cond.instantiable C N ∈ zk_tg) (hws : ∀ w ∈ u_ws C T N, w ∈ zk_tg) (hf : (T j).2.2.2 = true) (hdc : (T j).1 = I.1.cls) (hin : I.1.name = "<init>") {ty : FieldType} (tys : Nat → FieldType) (htys : ∀ k, k < N → parseFieldDescriptor (T k).2.2.1 = some (tys k)) (hnm : ∀ a, a < N → ∀ b, b < N → a ≠ b → (T a).2.1 ≠ (T b).2.1) (hty : tys j = ty) (hv : ∀ ρ, narrow ty (zk_v ρ v) = zk_v ρ v ∧ fits ty (zk_v ρ v) = true)
    (kk : zk_Go l Γ I d kc ks Q (pc + 3) L st (M.1, M.2.1, zk_up M.2.2 a j v) F) : zk_Go l Γ I d kc ks Q pc L (v :: .ref a :: st) M F := by
  intro p e R s m args below meth c H locs cells slots Qf A ρ ls hc hr hs9 hR hA hS hL hW hE
  have hk100 : k < 100 := by
    have := (List.getElem?_eq_some_iff.mp hk).1
    have e : zk_cs.length = 11 := rfl
    omega
  obtain ⟨⟨r, hr1, hr2⟩, cell, h1, h2, h3, h4, h5, h6⟩ := hR.obj hW.2.1 hs hk100
  have er : r = (C, T, N) := Option.some.inj (hr1.symm.trans hk)
  subst er
  have hjN : j < N := Nat.lt_of_lt_of_le hj hr2
  obtain ⟨hfc, hfl⟩ := hc.2.2.2.2.2.2.2.2.1 k _ hk
  obtain ⟨cf, kf, fi, f, g1, g2, g3⟩ := hfl j hjN
  obtain ⟨cC, kC, q1, q2, q3, -⟩ := Cond.instantiable_spec (hc.2.2.2.2.1 _ hi)
  have ec : cC = Γ.1.1 k := Option.some.inj (q1.symm.trans hfc)
  subst ec
  have hlay := hc.2.2.2.2.1 _ (hws _ (u_in_lay hjN))
  unfold u_lay at hlay
  rw [if_pos hf] at hlay
  have hvv := hv ρ
  have hcf : m.cls = cf := by
    obtain ⟨_, _, c', _, _, _, -, -, hf', -, -, -, hown2, -⟩ := Cond.laysFinal_spec hlay
    have e1 : c' = cf := by have := g1.symm.trans hf'; simp at this; exact this.1.symm
    rw [hdc] at hown2
    rw [← e1]; exact Option.some.inj (hc.2.2.2.1.symm.trans hown2)
  have hS6 := u_fits q1 q2 q3 (Or.inr hlay) g1 (hty ▸ htys j hjN) hvv.1 hvv.2
  have hvm := h5 ha
  refine W.putFinK hc.1 hc.2.1 hc.2.2.2.1 (hc.2.2.2.2.1 _ hw) g1 g2 hcf (hc.2.2.2.2.2.2.2.1 hin) (by rw [h2]; exact hS6) h1 hvm (by rw [g3]; exact k2_hasslot (h6 j hj)) rfl rfl hd fun H' e1 e2 e3 => ?_
  have hR' : zk_Rl Γ ρ (M.1, M.2.1, zk_up M.2.2 a j v) F H' := by
    refine hR.put ha hW.2.1 (by rw [hs]; show k < 1000; omega) hW.1 e2 e3 ?_
    rw [hs]
    refine ⟨fun _ => ⟨⟨_, hk, hr2⟩, _, e1, h2, h3, h4, h5, fun y hy => ?_⟩, fun q => absurd (show 100 ≤ k from q) (by omega)⟩
    dsimp only
    by_cases e9 : y = j
    · subst e9
      rw [if_pos rfl, ← g3]
      have := k2_hasslot (h6 y hy)
      rw [← g3] at this
      simp [Cell.setSlot, Array.getElem?_setIfInBounds, this]
    · rw [if_neg e9, ← h6 y hy]
      obtain ⟨cf2, kf2, fi2, f2, g1', g2', g3'⟩ := hfl y (Nat.lt_of_lt_of_le hy hr2)
      have hne : f.slot ≠ f2.slot := by
        refine u_apart (u_lays (fun w hw => hc.2.2.2.2.1 w hw) hws hjN) (u_lays (fun w hw => hc.2.2.2.2.1 w hw) hws (Nat.lt_of_lt_of_le hy hr2)) g1 g1' ?_
        rw [(State.fieldFound?_type g1 (htys j hjN)).1, (State.fieldFound?_type g1' (htys y (Nat.lt_of_lt_of_le hy hr2))).1]
        exact hnm j hjN y (Nat.lt_of_lt_of_le hy hr2) (Ne.symm e9)
      rw [← g3']
      simp [Cell.setSlot, Array.getElem?_setIfInBounds, hne]
  exact kk p e R s m args below meth c H' _ cells slots Qf A ρ ls hc hr hs9 hR' hA (hS.put e2 e3 (hA.1 a ha hW.2.1 (by rw [hs]; show k < 1000; omega))) hL hW.2.2 (hE.put e2)
/-- a memory as a list of cells behind the old ones -/
def zm (l : List ((Nat × Nat) × (Nat → Value))) : zk_M := (fun a => if a < 320 then zo_s a else ((l[a - 320]?).map (·.1)).getD (1000, 0), 320 + l.length, fun a => if a < 320 then zo_v a else ((l[a - 320]?).map (·.2)).getD (fun _ => .null))
def zk_upf (f : Nat → Value) (j : Nat) (v : Value) : Nat → Value := fun y => if y = j then v else f y
/-- one cell of them is being made, others were made behind -/
def zo (X : List ((Nat × Nat) × (Nat → Value))) (i : Nat) (kl : Nat × Nat) (f : Nat → Value) (t : List ((Nat × Nat) × (Nat → Value))) : zk_M := zm (X.set i (kl, f) ++ t)
theorem zm_add (X : List ((Nat × Nat) × (Nat → Value))) (kl : Nat × Nat) (f : Nat → Value) : zk_add (zm X) kl f = zm (X ++ [(kl, f)]) := by
  unfold zk_add zm
  refine Prod.ext (funext fun a => ?_) (Prod.ext (by simp only [List.length_append, List.length_cons, List.length_nil]; omega) (funext fun a => ?_))
  · dsimp only
    by_cases q : a = 320 + X.length
    · rw [if_pos q, if_neg (by omega), q, Nat.add_sub_cancel_left, List.getElem?_append_right (Nat.le_refl _), Nat.sub_self]
      rfl
    · rw [if_neg q]
      by_cases q2 : a < 320
      · rw [if_pos q2, if_pos q2]
      · rw [if_neg q2, if_neg q2]
        by_cases q3 : a - 320 < X.length
        · rw [List.getElem?_append_left q3]
        · rw [List.getElem?_eq_none (by omega), List.getElem?_eq_none (by rw [List.length_append]; show X.length + 1 ≤ _; omega)]
  · dsimp only
    by_cases q : a = 320 + X.length
    · rw [if_pos q, if_neg (by omega), q, Nat.add_sub_cancel_left, List.getElem?_append_right (Nat.le_refl _), Nat.sub_self]
      rfl
    · rw [if_neg q]
      by_cases q2 : a < 320
      · rw [if_pos q2, if_pos q2]
      · rw [if_neg q2, if_neg q2]
        by_cases q3 : a - 320 < X.length
        · rw [List.getElem?_append_left q3]
        · rw [List.getElem?_eq_none (by omega), List.getElem?_eq_none (by rw [List.length_append]; show X.length + 1 ≤ _; omega)]
theorem zm_at {X : List ((Nat × Nat) × (Nat → Value))} {i : Nat} {kl : Nat × Nat} {f : Nat → Value} (h : X[i]? = some (kl, f)) : (zm X).1 (320 + i) = kl ∧ (zm X).2.2 (320 + i) = f := by
  constructor
  · show (if 320 + i < 320 then _ else _) = _
    rw [if_neg (by omega), Nat.add_sub_cancel_left, h]
    rfl
  · show (if 320 + i < 320 then _ else _) = _
    rw [if_neg (by omega), Nat.add_sub_cancel_left, h]
    rfl
theorem zm_up {X : List ((Nat × Nat) × (Nat → Value))} {i j : Nat} {kl : Nat × Nat} {f : Nat → Value} {v : Value} (h : X[i]? = some (kl, f)) : ((zm X).1, (zm X).2.1, zk_up (zm X).2.2 (320 + i) j v) = zm (X.set i (kl, zk_upf f j v)) := by
  have hi : i < X.length := (List.getElem?_eq_some_iff.mp h).1
  refine Prod.ext (funext fun a => ?_) (Prod.ext (by show 320 + X.length = 320 + _; rw [List.length_set]) (funext fun a => ?_))
  · show (if a < 320 then _ else _) = (if a < 320 then _ else _)
    by_cases q : a < 320
    · rw [if_pos q, if_pos q]
    · rw [if_neg q, if_neg q]
      by_cases q2 : i = a - 320
      · rw [← q2, h, List.getElem?_set_self hi]
        rfl
      · rw [List.getElem?_set_ne q2]
  · by_cases q : a = 320 + i
    · rw [q]
      show zk_up _ _ _ _ _ = (if 320 + i < 320 then _ else _)
      rw [if_neg (by omega), Nat.add_sub_cancel_left, List.getElem?_set_self hi, zk_up_at, (zm_at h).2]
      rfl
    · show zk_up _ _ _ _ _ = (if a < 320 then _ else _)
      rw [zk_up_ne q]
      show (if a < 320 then _ else _) = _
      by_cases q1 : a < 320
      · rw [if_pos q1, if_pos q1]
      · rw [if_neg q1, if_neg q1, List.getElem?_set_ne (by omega)]
variable {X t : List ((Nat × Nat) × (Nat → Value))} {i : Nat} {kl : Nat × Nat} {f : Nat → Value}
theorem zo_has (hi : i < X.length) : (X.set i (kl, f) ++ t)[i]? = some (kl, f) := by
  rw [List.getElem?_append_left (by rw [List.length_set]; exact hi), List.getElem?_set_self hi]
theorem zo_up (hi : i < X.length) {j : Nat} {v : Value} : ((zo X i kl f t).1, (zo X i kl f t).2.1, zk_up (zo X i kl f t).2.2 (320 + i) j v) = zo X i kl (zk_upf f j v) t := by
  have := zm_up (j := j) (v := v) (zo_has (kl := kl) (f := f) (t := t) hi)
  rw [List.set_append_left _ _ (by rw [List.length_set]; exact hi), List.set_set] at this
  exact this
theorem zo_add {kl2 : Nat × Nat} {f2 : Nat → Value} : zk_add (zo X i kl f t) kl2 f2 = zo X i kl f (t ++ [(kl2, f2)]) := by
  unfold zo
  rw [zm_add, List.append_assoc]
theorem zo_n {k : Nat} (ht : t.length = k) : (zo X i kl f t).2.1 = 320 + (X.length + k) := by
  show 320 + _ = _
  rw [List.length_append, List.length_set, ht]
theorem zo_start (hX : X[i]? = some (kl, f)) : zm X = zo X i kl f [] := by
  have hi : i < X.length := (List.getElem?_eq_some_iff.mp hX).1
  unfold zo
  rw [List.append_nil]
  congr 1
  refine List.ext_getElem? fun n => ?_
  by_cases q : i = n
  · rw [← q, List.getElem?_set_self hi, hX]
  · rw [List.getElem?_set_ne q]
theorem gm_newa {atype : ArrayType} {k : Nat} (c : Nat) (ht : t.length = k) {len : Nat} {z : Int} (hd : decode I.2.1 pc = .ok (.newarray atype, 2)) (hty : newarray.typeOf atype = zk_ty c) (hk6 : c < 6) (hw : Cond.arrayClass (newarray.typeOf atype) ∈ zk_tg) (hz : z = (len : Int)) (hlen : len ≤ 1000000) (hcb : componentBytes (newarray.typeOf atype) ≤ 8) (hk1 : 1 ≤ kc ∧ len ≤ ks)
    (kk : zk_Go l Γ I d (kc - 1) (ks - len) Q (pc + 2) L (.ref (320 + (X.length + k)) :: st) (zo X i kl f (t ++ [((100 + c, len), fun _ => defaultValue (zk_ty c))])) F) : zk_Go l Γ I d kc ks Q pc L (.int (iZ z) :: st) (zo X i kl f t) F := by
  refine gz_newa (k := c) hd hty hk6 hw hz hlen hcb (by rw [hty]) (fun x => zk_dv _ x) hk1 ?_
  rw [zo_add, zo_n ht]
  exact kk
theorem gm_anewK {idx k : Nat} (ht : t.length = k) {len : Nat} {z : Int} (hd : decode I.2.1 pc = .ok (.anewarray idx, 3)) (hw : Cond.classLink I.1.cls idx "Heliographs$Kind" ∈ zk_tg) (hz : z = (len : Int)) (hlen : len ≤ 1000000) (hk1 : 1 ≤ kc ∧ len ≤ ks)
    (kk : zk_Go l Γ I d (kc - 1) (ks - len) Q (pc + 3) L (.ref (320 + (X.length + k)) :: st) (zo X i kl f (t ++ [((104, len), fun _ => .null)])) F) : zk_Go l Γ I d kc ks Q pc L (.int (iZ z) :: st) (zo X i kl f t) F := by
  refine gz_anewK hd hw hz hlen hk1 ?_
  rw [zo_add, zo_n ht]
  exact kk
theorem gm_new {k idx c N : Nat} {C : String} {T : u_T} (ht : t.length = k) (hd : decode I.2.1 pc = .ok (.new idx, 3)) (hk : zk_cs[c]? = some (C, T, N)) (hcl : Cond.classLink I.1.cls idx C ∈ zk_tg) (hi : Cond.instantiable C N ∈ zk_tg) (hin : Cond.initialized C ∈ zk_tg) (hws : ∀ w ∈ u_ws C T N, w ∈ zk_tg) (tys : Nat → FieldType) (htys : ∀ k, k < N → parseFieldDescriptor (T k).2.2.1 = some (tys k)) (hk1 : 1 ≤ kc ∧ N ≤ ks)
    (kk : zk_Go l Γ I d (kc - 1) (ks - N) Q (pc + 3) L (.ref (320 + (X.length + k)) :: st) (zo X i kl f (t ++ [((c, N), fun j => defaultValue (tys j))])) F) : zk_Go l Γ I d kc ks Q pc L st (zo X i kl f t) F := by
  refine gz_new hd hk hcl hi hin hws tys htys (f := fun j => defaultValue (tys j)) (fun _ _ => rfl) (fun j x => zk_dv _ x) hk1 ?_
  rw [zo_add, zo_n ht]
  exact kk
theorem gm_putf {idx k len N : Nat} {C : String} {T : u_T} {v : Value} (hi9 : i < X.length) (j : Nat) (hd : decode I.2.1 pc = .ok (.putfield idx, 3)) (hk : zk_cs[k]? = some (C, T, N)) (hw : Cond.fieldLink I.1.cls idx (T j).1 (T j).2.1 (T j).2.2.1 ∈ zk_tg) (hj : j < len)
    (hi : Cond.instantiable C N ∈ zk_tg) (hws : ∀ w ∈ u_ws C T N, w ∈ zk_tg) (hf : (T j).2.2.2 = false) {ty : FieldType} (tys : Nat → FieldType) (htys : ∀ k, k < N → parseFieldDescriptor (T k).2.2.1 = some (tys k)) (hnm : ∀ a, a < N → ∀ b, b < N → a ≠ b → (T a).2.1 ≠ (T b).2.1) (hty : tys j = ty) (hv : ∀ ρ, narrow ty (zk_v ρ v) = zk_v ρ v ∧ fits ty (zk_v ρ v) = true)
    (kk : zk_Go l Γ I d kc ks Q (pc + 3) L st (zo X i (k, len) (zk_upf f j v) t) F) : zk_Go l Γ I d kc ks Q pc L (v :: .ref (320 + i) :: st) (zo X i (k, len) f t) F := by
  refine gz_putf (M := zo X i (k, len) f t) j hd (zm_at (zo_has hi9)).1 hk hw hj (Nat.le_add_right _ _) hi hws hf tys htys hnm hty hv ?_
  rw [zo_up hi9]
  exact kk
theorem gm_putfF {idx k len N : Nat} {C : String} {T : u_T} {v : Value} (hi9 : i < X.length) (j : Nat) (hd : decode I.2.1 pc = .ok (.putfield idx, 3)) (hk : zk_cs[k]? = some (C, T, N)) (hw : Cond.fieldLink I.1.cls idx (T j).1 (T j).2.1 (T j).2.2.1 ∈ zk_tg) (hj : j < len)
    (hi : Cond.instantiable C N ∈ zk_tg) (hws : ∀ w ∈ u_ws C T N, w ∈ zk_tg) (hf : (T j).2.2.2 = true) (hdc : (T j).1 = I.1.cls) (hin : I.1.name = "<init>") {ty : FieldType} (tys : Nat → FieldType) (htys : ∀ k, k < N → parseFieldDescriptor (T k).2.2.1 = some (tys k)) (hnm : ∀ a, a < N → ∀ b, b < N → a ≠ b → (T a).2.1 ≠ (T b).2.1) (hty : tys j = ty) (hv : ∀ ρ, narrow ty (zk_v ρ v) = zk_v ρ v ∧ fits ty (zk_v ρ v) = true)
    (kk : zk_Go l Γ I d kc ks Q (pc + 3) L st (zo X i (k, len) (zk_upf f j v) t) F) : zk_Go l Γ I d kc ks Q pc L (v :: .ref (320 + i) :: st) (zo X i (k, len) f t) F := by
  refine gz_putfF (M := zo X i (k, len) f t) j hd (zm_at (zo_has hi9)).1 hk hw hj (Nat.le_add_right _ _) hi hws hf hdc hin tys htys hnm hty hv ?_
  rw [zo_up hi9]
  exact kk
theorem gm_getf {idx k len N : Nat} {C : String} {T : u_T} {v : Value} (hi9 : i < X.length) (j : Nat) (hd : decode I.2.1 pc = .ok (.getfield idx, 3)) (hk : zk_cs[k]? = some (C, T, N)) (hw : Cond.fieldLink I.1.cls idx (T j).1 (T j).2.1 (T j).2.2.1 ∈ zk_tg) (hj : j < len) (hv : f j = v)
    (kk : zk_Go l Γ I d kc ks Q (pc + 3) L (v :: st) (zo X i (k, len) f t) F) : zk_Go l Γ I d kc ks Q pc L (.ref (320 + i) :: st) (zo X i (k, len) f t) F := by
  refine gz_getf (M := zo X i (k, len) f t) j hd (zm_at (zo_has hi9)).1 hk hw hj ?_ kk
  rw [show (zo X i (k, len) f t).2.2 (320 + i) = f from (zm_at (zo_has hi9)).2]
  exact hv
theorem gm_init {J : zk_MI} {d1 kc1 ks1 k : Nat} {x0 y : (Nat × Nat) × (Nat → Value)} (hk : t.length = k) {t2 : List ((Nat × Nat) × (Nat → Value))} {idx n : Nat} (As st : List Value) {st0 : List Value} (hd : decode I.2.1 pc = .ok (.invokespecial idx, 3)) (hst : st0 = As.reverse ++ .ref (320 + (X.length + k)) :: st)
    (hw : Cond.methodLink I.1.cls idx J.1 ∈ zk_tg ∨ ∃ host, (I.1.cls, idx, J.1, host) ∈ zk_nm) (hin : Cond.instanceMethod J.1 ∈ zk_tg) (hini : Cond.initialized J.1.cls ∈ zk_tg) (hcode : Cond.code J.1 J.2.1 J.2.2.1 none ∈ zk_tg) (hret : J.2.2.2 = none) (hy1 : J.1.name = "<init>")
    (hpl : plainName J.1.cls = true ∧ J.1.cls ≠ "java/lang/invoke/MethodHandle" ∧ J.1.cls ≠ "java/lang/invoke/VarHandle" ∧ (parseMethodDescriptor J.1.desc).map (fun d => d.parameters.length) = some n) (hn : As.length = n) (hm : J.2.2.1 ≤ 45 ∧ (zk_es (.ref (320 + (X.length + k)) :: As)).length ≤ J.2.2.1) (hsum : (st.map fun v => v.category).sum ≤ 8)
    (hd1 : d1 + 1 ≤ d) (hkk : kc1 ≤ kc ∧ ks1 ≤ ks) (hdo : zk_Does l Γ J d1 kc1 ks1 (.ref (320 + (X.length + k)) :: As) (zm (X.set i (kl, f) ++ (t ++ [x0]))) F none (zm ((X.set i (kl, f) ++ (t ++ [x0])).set (X.length + k) y ++ t2)) F)
    (kk : zk_Go l Γ I d (kc - kc1) (ks - ks1) Q (pc + 3) L st (zo X i kl f (t ++ [y] ++ t2)) F) : zk_Go l Γ I d kc ks Q pc L st0 (zo X i kl f (t ++ [x0])) F := by
  refine gz_invi (Q1 := fun v M' F' => v = none ∧ M' = zo X i kl f (t ++ [y] ++ t2) ∧ F' = F) As st hd hst hw hin hini hcode hret hy1 hpl hn hm hsum hd1 hkk (hdo _ ⟨rfl, ?_, rfl⟩) (fun v M' F' h => by obtain ⟨rfl, rfl, rfl⟩ := h; exact kk)
  unfold zo
  subst hk
  rw [List.set_append_right _ _ (by rw [List.length_set]; omega), List.length_set, Nat.add_sub_cancel_left, List.set_append_right _ _ (Nat.le_refl _), Nat.sub_self, List.append_assoc]
  rfl
end
theorem zo_len {X t : List ((Nat × Nat) × (Nat → Value))} {i k : Nat} {x x0 : (Nat × Nat) × (Nat → Value)} (h : t.length = k) : (X.set i x ++ (t ++ [x0])).length = X.length + (k + 1) := by
  rw [List.length_append, List.length_set, List.length_append, h]
  rfl
theorem zo_at {X t : List ((Nat × Nat) × (Nat → Value))} {i k : Nat} {x y : (Nat × Nat) × (Nat → Value)} (h : t.length = k) : (X.set i x ++ (t ++ [y]))[X.length + k]? = some y := by
  subst h
  rw [List.getElem?_append_right (by rw [List.length_set]; omega), List.length_set, Nat.add_sub_cancel_left, List.getElem?_append_right (Nat.le_refl _), Nat.sub_self]
  rfl
def X5_init_t (n : Nat) : List ((Nat × Nat) × (Nat → Value)) := [] ++ [((100 + 0, 2000), fun _ => defaultValue (zk_ty 0))]
def X5_init_f (n : Nat) : Nat → Value := (zk_upf (fun j => defaultValue (tyX5 j)) 0 (.ref (320 + (n + 0))))
theorem X5_init_tl (n : Nat) : (X5_init_t n).length = 1 := by unfold X5_init_t; simp only [List.length_append, List.length_cons, List.length_nil, Nat.reduceAdd]
theorem do_X5_init {X : List ((Nat × Nat) × (Nat → Value))} {i n : Nat} (hd : 1 ≤ d) (hn : X.length = n) (hX : X[i]? = some ((5, 2), fun j => defaultValue (tyX5 j))) : zk_Does l Γ mX5_init d 1 2000 [.ref (320 + i)] (zm X) F none (zm (X.set i ((5, 2), X5_init_f n) ++ X5_init_t n)) F := by
  intro Q hq
  subst hn
  have hi : i < X.length := (List.getElem?_eq_some_iff.mp hX).1
  rw [zo_start hX]
  refine gz_aload_n dX5_init_0 rfl ?_
  refine gz_objInit dX5_init_1 wm_Heliographs_Tape_3 (Nat.le_of_ble_eq_true rfl) (by omega) ?_
  refine gz_aload_n dX5_init_4 rfl ?_
  refine zz_sipush (x := 2000) dX5_init_5 rfl ?_
  refine gm_newa (k := 0) 0 (by simp only [List.length_append, List.length_cons, List.length_nil, Nat.reduceAdd]) (len := 2000) dX5_init_8 rfl (Nat.le_of_ble_eq_true rfl) wa_int rfl (Nat.le_of_ble_eq_true rfl) (Nat.le_of_ble_eq_true rfl) ⟨Nat.le_of_ble_eq_true rfl, Nat.le_of_ble_eq_true rfl⟩ ?_
  refine gm_putfF hi 0 dX5_init_10 rfl wf_Heliographs_Tape_9 (Nat.le_of_ble_eq_true rfl) jo_Heliographs_Tape ju_Heliographs_Tape rfl rfl rfl tyX5 tyX5_ok nmX5 rfl (fun _ => ⟨rfl, rfl⟩) ?_
  refine gz_return_ dX5_init_13 rfl ?_
  exact hq
def X6_init_t (n : Nat) : List ((Nat × Nat) × (Nat → Value)) := [] ++ [((104, 401), fun _ => .null)] ++ [((100 + 0, 401), fun _ => defaultValue (zk_ty 0))] ++ [((100 + 1, 401), fun _ => defaultValue (zk_ty 1))]
def X6_init_f (n : Nat) : Nat → Value := (zk_upf (zk_upf (zk_upf (fun j => defaultValue (tyX6 j)) 0 (.ref (320 + (n + 0)))) 1 (.ref (320 + (n + 1)))) 2 (.ref (320 + (n + 2))))
theorem X6_init_tl (n : Nat) : (X6_init_t n).length = 3 := by unfold X6_init_t; simp only [List.length_append, List.length_cons, List.length_nil, Nat.reduceAdd, X5_init_tl]
theorem do_X6_init {X : List ((Nat × Nat) × (Nat → Value))} {i n : Nat} (hd : 1 ≤ d) (hn : X.length = n) (hX : X[i]? = some ((6, 7), fun j => defaultValue (tyX6 j))) : zk_Does l Γ mX6_init d 3 1203 [.ref (320 + i)] (zm X) F none (zm (X.set i ((6, 7), X6_init_f n) ++ X6_init_t n)) F := by
  intro Q hq
  subst hn
  have hi : i < X.length := (List.getElem?_eq_some_iff.mp hX).1
  rw [zo_start hX]
  refine gz_aload_n dX6_init_0 rfl ?_
  refine gz_objInit dX6_init_1 wm_Heliographs_Tokens_3 (Nat.le_of_ble_eq_true rfl) (by omega) ?_
  refine gz_aload_n dX6_init_4 rfl ?_
  refine zz_sipush (x := 401) dX6_init_5 rfl ?_
  refine gm_anewK (k := 0) (by simp only [List.length_append, List.length_cons, List.length_nil, Nat.reduceAdd, X5_init_tl]) (len := 401) dX6_init_8 wc_Heliographs_Tokens_9 rfl (Nat.le_of_ble_eq_true rfl) ⟨Nat.le_of_ble_eq_true rfl, Nat.le_of_ble_eq_true rfl⟩ ?_
  refine gm_putfF hi 0 dX6_init_11 rfl wf_Heliographs_Tokens_11 (Nat.le_of_ble_eq_true rfl) jo_Heliographs_Tokens ju_Heliographs_Tokens rfl rfl rfl tyX6 tyX6_ok nmX6 rfl (fun _ => ⟨rfl, rfl⟩) ?_
  refine gz_aload_n dX6_init_14 rfl ?_
  refine zz_sipush (x := 401) dX6_init_15 rfl ?_
  refine gm_newa (k := 1) 0 (by simp only [List.length_append, List.length_cons, List.length_nil, Nat.reduceAdd, X5_init_tl]) (len := 401) dX6_init_18 rfl (Nat.le_of_ble_eq_true rfl) wa_int rfl (Nat.le_of_ble_eq_true rfl) (Nat.le_of_ble_eq_true rfl) ⟨Nat.le_of_ble_eq_true rfl, Nat.le_of_ble_eq_true rfl⟩ ?_
  refine gm_putfF hi 1 dX6_init_20 rfl wf_Heliographs_Tokens_17 (Nat.le_of_ble_eq_true rfl) jo_Heliographs_Tokens ju_Heliographs_Tokens rfl rfl rfl tyX6 tyX6_ok nmX6 rfl (fun _ => ⟨rfl, rfl⟩) ?_
  refine gz_aload_n dX6_init_23 rfl ?_
  refine zz_sipush (x := 401) dX6_init_24 rfl ?_
  refine gm_newa (k := 2) 1 (by simp only [List.length_append, List.length_cons, List.length_nil, Nat.reduceAdd, X5_init_tl]) (len := 401) dX6_init_27 rfl (Nat.le_of_ble_eq_true rfl) wa_long rfl (Nat.le_of_ble_eq_true rfl) (Nat.le_of_ble_eq_true rfl) ⟨Nat.le_of_ble_eq_true rfl, Nat.le_of_ble_eq_true rfl⟩ ?_
  refine gm_putfF hi 2 dX6_init_29 rfl wf_Heliographs_Tokens_21 (Nat.le_of_ble_eq_true rfl) jo_Heliographs_Tokens ju_Heliographs_Tokens rfl rfl rfl tyX6 tyX6_ok nmX6 rfl (fun _ => ⟨rfl, rfl⟩) ?_
  refine gz_return_ dX6_init_32 rfl ?_
  exact hq
def X2_init_t (n : Nat) : List ((Nat × Nat) × (Nat → Value)) := [] ++ [((100 + 0, 12), fun _ => defaultValue (zk_ty 0))] ++ [((100 + 0, 12), fun _ => defaultValue (zk_ty 0))] ++ [((100 + 0, 400), fun _ => defaultValue (zk_ty 0))] ++ [((100 + 0, 400), fun _ => defaultValue (zk_ty 0))] ++ [((100 + 0, 400), fun _ => defaultValue (zk_ty 0))]
def X2_init_f (n : Nat) : Nat → Value := (zk_upf (zk_upf (zk_upf (zk_upf (zk_upf (fun j => defaultValue (tyX2 j)) 1 (.ref (320 + (n + 0)))) 2 (.ref (320 + (n + 1)))) 3 (.ref (320 + (n + 2)))) 4 (.ref (320 + (n + 3)))) 6 (.ref (320 + (n + 4))))
theorem X2_init_tl (n : Nat) : (X2_init_t n).length = 5 := by unfold X2_init_t; simp only [List.length_append, List.length_cons, List.length_nil, Nat.reduceAdd, X5_init_tl, X6_init_tl]
theorem do_X2_init {X : List ((Nat × Nat) × (Nat → Value))} {i n : Nat} (hd : 1 ≤ d) (hn : X.length = n) (hX : X[i]? = some ((2, 8), fun j => defaultValue (tyX2 j))) : zk_Does l Γ mX2_init d 5 1224 [.ref (320 + i)] (zm X) F none (zm (X.set i ((2, 8), X2_init_f n) ++ X2_init_t n)) F := by
  intro Q hq
  subst hn
  have hi : i < X.length := (List.getElem?_eq_some_iff.mp hX).1
  rw [zo_start hX]
  refine gz_aload_n dX2_init_0 rfl ?_
  refine gz_objInit dX2_init_1 wm_Heliographs_Orders_3 (Nat.le_of_ble_eq_true rfl) (by omega) ?_
  refine gz_aload_n dX2_init_4 rfl ?_
  refine zz_bipush (x := 12) dX2_init_5 rfl ?_
  refine gm_newa (k := 0) 0 (by simp only [List.length_append, List.length_cons, List.length_nil, Nat.reduceAdd, X5_init_tl, X6_init_tl]) (len := 12) dX2_init_7 rfl (Nat.le_of_ble_eq_true rfl) wa_int rfl (Nat.le_of_ble_eq_true rfl) (Nat.le_of_ble_eq_true rfl) ⟨Nat.le_of_ble_eq_true rfl, Nat.le_of_ble_eq_true rfl⟩ ?_
  refine gm_putfF hi 1 dX2_init_9 rfl wf_Heliographs_Orders_9 (Nat.le_of_ble_eq_true rfl) jo_Heliographs_Orders ju_Heliographs_Orders rfl rfl rfl tyX2 tyX2_ok nmX2 rfl (fun _ => ⟨rfl, rfl⟩) ?_
  refine gz_aload_n dX2_init_12 rfl ?_
  refine zz_bipush (x := 12) dX2_init_13 rfl ?_
  refine gm_newa (k := 1) 0 (by simp only [List.length_append, List.length_cons, List.length_nil, Nat.reduceAdd, X5_init_tl, X6_init_tl]) (len := 12) dX2_init_15 rfl (Nat.le_of_ble_eq_true rfl) wa_int rfl (Nat.le_of_ble_eq_true rfl) (Nat.le_of_ble_eq_true rfl) ⟨Nat.le_of_ble_eq_true rfl, Nat.le_of_ble_eq_true rfl⟩ ?_
  refine gm_putfF hi 2 dX2_init_17 rfl wf_Heliographs_Orders_15 (Nat.le_of_ble_eq_true rfl) jo_Heliographs_Orders ju_Heliographs_Orders rfl rfl rfl tyX2 tyX2_ok nmX2 rfl (fun _ => ⟨rfl, rfl⟩) ?_
  refine gz_aload_n dX2_init_20 rfl ?_
  refine zz_sipush (x := 400) dX2_init_21 rfl ?_
  refine gm_newa (k := 2) 0 (by simp only [List.length_append, List.length_cons, List.length_nil, Nat.reduceAdd, X5_init_tl, X6_init_tl]) (len := 400) dX2_init_24 rfl (Nat.le_of_ble_eq_true rfl) wa_int rfl (Nat.le_of_ble_eq_true rfl) (Nat.le_of_ble_eq_true rfl) ⟨Nat.le_of_ble_eq_true rfl, Nat.le_of_ble_eq_true rfl⟩ ?_
  refine gm_putfF hi 3 dX2_init_26 rfl wf_Heliographs_Orders_18 (Nat.le_of_ble_eq_true rfl) jo_Heliographs_Orders ju_Heliographs_Orders rfl rfl rfl tyX2 tyX2_ok nmX2 rfl (fun _ => ⟨rfl, rfl⟩) ?_
  refine gz_aload_n dX2_init_29 rfl ?_
  refine zz_sipush (x := 400) dX2_init_30 rfl ?_
  refine gm_newa (k := 3) 0 (by simp only [List.length_append, List.length_cons, List.length_nil, Nat.reduceAdd, X5_init_tl, X6_init_tl]) (len := 400) dX2_init_33 rfl (Nat.le_of_ble_eq_true rfl) wa_int rfl (Nat.le_of_ble_eq_true rfl) (Nat.le_of_ble_eq_true rfl) ⟨Nat.le_of_ble_eq_true rfl, Nat.le_of_ble_eq_true rfl⟩ ?_
  refine gm_putfF hi 4 dX2_init_35 rfl wf_Heliographs_Orders_21 (Nat.le_of_ble_eq_true rfl) jo_Heliographs_Orders ju_Heliographs_Orders rfl rfl rfl tyX2 tyX2_ok nmX2 rfl (fun _ => ⟨rfl, rfl⟩) ?_
  refine gz_aload_n dX2_init_38 rfl ?_
  refine zz_sipush (x := 400) dX2_init_39 rfl ?_
  refine gm_newa (k := 4) 0 (by simp only [List.length_append, List.length_cons, List.length_nil, Nat.reduceAdd, X5_init_tl, X6_init_tl]) (len := 400) dX2_init_42 rfl (Nat.le_of_ble_eq_true rfl) wa_int rfl (Nat.le_of_ble_eq_true rfl) (Nat.le_of_ble_eq_true rfl) ⟨Nat.le_of_ble_eq_true rfl, Nat.le_of_ble_eq_true rfl⟩ ?_
  refine gm_putfF hi 6 dX2_init_44 rfl wf_Heliographs_Orders_24 (Nat.le_of_ble_eq_true rfl) jo_Heliographs_Orders ju_Heliographs_Orders rfl rfl rfl tyX2 tyX2_ok nmX2 rfl (fun _ => ⟨rfl, rfl⟩) ?_
  refine gz_return_ dX2_init_47 rfl ?_
  exact hq
def X3_init_t (n : Nat) : List ((Nat × Nat) × (Nat → Value)) := [] ++ [((100 + 0, 8), fun _ => defaultValue (zk_ty 0))] ++ [((100 + 0, 8), fun _ => defaultValue (zk_ty 0))] ++ [((100 + 0, 8), fun _ => defaultValue (zk_ty 0))] ++ [((100 + 0, 12), fun _ => defaultValue (zk_ty 0))] ++ [((100 + 0, 12), fun _ => defaultValue (zk_ty 0))] ++ [((100 + 0, 12), fun _ => defaultValue (zk_ty 0))] ++ [((100 + 0, 8), fun _ => defaultValue (zk_ty 0))] ++ [((100 + 0, 8), fun _ => defaultValue (zk_ty 0))] ++ [((100 + 0, 8), fun _ => defaultValue (zk_ty 0))] ++ [((100 + 0, 8), fun _ => defaultValue (zk_ty 0))] ++ [((2, 8), X2_init_f (n + 11))] ++ X2_init_t (n + 11) ++ [((100 + 0, 8), fun _ => defaultValue (zk_ty 0))] ++ [((100 + 0, 8), fun _ => defaultValue (zk_ty 0))] ++ [((100 + 0, 8), fun _ => defaultValue (zk_ty 0))] ++ [((100 + 0, 8), fun _ => defaultValue (zk_ty 0))]
def X3_init_f (n : Nat) : Nat → Value := (zk_upf (zk_upf (zk_upf (zk_upf (zk_upf (zk_upf (zk_upf (zk_upf (zk_upf (zk_upf (zk_upf (zk_upf (zk_upf (zk_upf (zk_upf (fun j => defaultValue (tyX3 j)) 4 (.ref (320 + (n + 0)))) 5 (.ref (320 + (n + 1)))) 6 (.ref (320 + (n + 2)))) 7 (.ref (320 + (n + 3)))) 8 (.ref (320 + (n + 4)))) 9 (.ref (320 + (n + 5)))) 10 (.ref (320 + (n + 6)))) 11 (.ref (320 + (n + 7)))) 12 (.ref (320 + (n + 8)))) 13 (.ref (320 + (n + 9)))) 14 (.ref (320 + (n + 10)))) 15 (.ref (320 + (n + 16)))) 16 (.ref (320 + (n + 17)))) 17 (.ref (320 + (n + 18)))) 18 (.ref (320 + (n + 19))))
theorem X3_init_tl (n : Nat) : (X3_init_t n).length = 20 := by unfold X3_init_t; simp only [List.length_append, List.length_cons, List.length_nil, Nat.reduceAdd, X5_init_tl, X6_init_tl, X2_init_tl]
theorem do_X3_init {X : List ((Nat × Nat) × (Nat → Value))} {i n : Nat} (hd : 2 ≤ d) (hn : X.length = n) (hX : X[i]? = some ((3, 19), fun j => defaultValue (tyX3 j))) : zk_Does l Γ mX3_init d 20 1356 [.ref (320 + i)] (zm X) F none (zm (X.set i ((3, 19), X3_init_f n) ++ X3_init_t n)) F := by
  intro Q hq
  subst hn
  have hi : i < X.length := (List.getElem?_eq_some_iff.mp hX).1
  rw [zo_start hX]
  refine gz_aload_n dX3_init_0 rfl ?_
  refine gz_objInit dX3_init_1 wm_Heliographs_Plan_3 (Nat.le_of_ble_eq_true rfl) (by omega) ?_
  refine gz_aload_n dX3_init_4 rfl ?_
  refine zz_bipush (x := 8) dX3_init_5 rfl ?_
  refine gm_newa (k := 0) 0 (by simp only [List.length_append, List.length_cons, List.length_nil, Nat.reduceAdd, X5_init_tl, X6_init_tl, X2_init_tl]) (len := 8) dX3_init_7 rfl (Nat.le_of_ble_eq_true rfl) wa_int rfl (Nat.le_of_ble_eq_true rfl) (Nat.le_of_ble_eq_true rfl) ⟨Nat.le_of_ble_eq_true rfl, Nat.le_of_ble_eq_true rfl⟩ ?_
  refine gm_putfF hi 4 dX3_init_9 rfl wf_Heliographs_Plan_9 (Nat.le_of_ble_eq_true rfl) jo_Heliographs_Plan ju_Heliographs_Plan rfl rfl rfl tyX3 tyX3_ok nmX3 rfl (fun _ => ⟨rfl, rfl⟩) ?_
  refine gz_aload_n dX3_init_12 rfl ?_
  refine zz_bipush (x := 8) dX3_init_13 rfl ?_
  refine gm_newa (k := 1) 0 (by simp only [List.length_append, List.length_cons, List.length_nil, Nat.reduceAdd, X5_init_tl, X6_init_tl, X2_init_tl]) (len := 8) dX3_init_15 rfl (Nat.le_of_ble_eq_true rfl) wa_int rfl (Nat.le_of_ble_eq_true rfl) (Nat.le_of_ble_eq_true rfl) ⟨Nat.le_of_ble_eq_true rfl, Nat.le_of_ble_eq_true rfl⟩ ?_
  refine gm_putfF hi 5 dX3_init_17 rfl wf_Heliographs_Plan_15 (Nat.le_of_ble_eq_true rfl) jo_Heliographs_Plan ju_Heliographs_Plan rfl rfl rfl tyX3 tyX3_ok nmX3 rfl (fun _ => ⟨rfl, rfl⟩) ?_
  refine gz_aload_n dX3_init_20 rfl ?_
  refine zz_bipush (x := 8) dX3_init_21 rfl ?_
  refine gm_newa (k := 2) 0 (by simp only [List.length_append, List.length_cons, List.length_nil, Nat.reduceAdd, X5_init_tl, X6_init_tl, X2_init_tl]) (len := 8) dX3_init_23 rfl (Nat.le_of_ble_eq_true rfl) wa_int rfl (Nat.le_of_ble_eq_true rfl) (Nat.le_of_ble_eq_true rfl) ⟨Nat.le_of_ble_eq_true rfl, Nat.le_of_ble_eq_true rfl⟩ ?_
  refine gm_putfF hi 6 dX3_init_25 rfl wf_Heliographs_Plan_18 (Nat.le_of_ble_eq_true rfl) jo_Heliographs_Plan ju_Heliographs_Plan rfl rfl rfl tyX3 tyX3_ok nmX3 rfl (fun _ => ⟨rfl, rfl⟩) ?_
  refine gz_aload_n dX3_init_28 rfl ?_
  refine zz_bipush (x := 12) dX3_init_29 rfl ?_
  refine gm_newa (k := 3) 0 (by simp only [List.length_append, List.length_cons, List.length_nil, Nat.reduceAdd, X5_init_tl, X6_init_tl, X2_init_tl]) (len := 12) dX3_init_31 rfl (Nat.le_of_ble_eq_true rfl) wa_int rfl (Nat.le_of_ble_eq_true rfl) (Nat.le_of_ble_eq_true rfl) ⟨Nat.le_of_ble_eq_true rfl, Nat.le_of_ble_eq_true rfl⟩ ?_
  refine gm_putfF hi 7 dX3_init_33 rfl wf_Heliographs_Plan_21 (Nat.le_of_ble_eq_true rfl) jo_Heliographs_Plan ju_Heliographs_Plan rfl rfl rfl tyX3 tyX3_ok nmX3 rfl (fun _ => ⟨rfl, rfl⟩) ?_
  refine gz_aload_n dX3_init_36 rfl ?_
  refine zz_bipush (x := 12) dX3_init_37 rfl ?_
  refine gm_newa (k := 4) 0 (by simp only [List.length_append, List.length_cons, List.length_nil, Nat.reduceAdd, X5_init_tl, X6_init_tl, X2_init_tl]) (len := 12) dX3_init_39 rfl (Nat.le_of_ble_eq_true rfl) wa_int rfl (Nat.le_of_ble_eq_true rfl) (Nat.le_of_ble_eq_true rfl) ⟨Nat.le_of_ble_eq_true rfl, Nat.le_of_ble_eq_true rfl⟩ ?_
  refine gm_putfF hi 8 dX3_init_41 rfl wf_Heliographs_Plan_24 (Nat.le_of_ble_eq_true rfl) jo_Heliographs_Plan ju_Heliographs_Plan rfl rfl rfl tyX3 tyX3_ok nmX3 rfl (fun _ => ⟨rfl, rfl⟩) ?_
  refine gz_aload_n dX3_init_44 rfl ?_
  refine zz_bipush (x := 12) dX3_init_45 rfl ?_
  refine gm_newa (k := 5) 0 (by simp only [List.length_append, List.length_cons, List.length_nil, Nat.reduceAdd, X5_init_tl, X6_init_tl, X2_init_tl]) (len := 12) dX3_init_47 rfl (Nat.le_of_ble_eq_true rfl) wa_int rfl (Nat.le_of_ble_eq_true rfl) (Nat.le_of_ble_eq_true rfl) ⟨Nat.le_of_ble_eq_true rfl, Nat.le_of_ble_eq_true rfl⟩ ?_
  refine gm_putfF hi 9 dX3_init_49 rfl wf_Heliographs_Plan_27 (Nat.le_of_ble_eq_true rfl) jo_Heliographs_Plan ju_Heliographs_Plan rfl rfl rfl tyX3 tyX3_ok nmX3 rfl (fun _ => ⟨rfl, rfl⟩) ?_
  refine gz_aload_n dX3_init_52 rfl ?_
  refine zz_bipush (x := 8) dX3_init_53 rfl ?_
  refine gm_newa (k := 6) 0 (by simp only [List.length_append, List.length_cons, List.length_nil, Nat.reduceAdd, X5_init_tl, X6_init_tl, X2_init_tl]) (len := 8) dX3_init_55 rfl (Nat.le_of_ble_eq_true rfl) wa_int rfl (Nat.le_of_ble_eq_true rfl) (Nat.le_of_ble_eq_true rfl) ⟨Nat.le_of_ble_eq_true rfl, Nat.le_of_ble_eq_true rfl⟩ ?_
  refine gm_putfF hi 10 dX3_init_57 rfl wf_Heliographs_Plan_30 (Nat.le_of_ble_eq_true rfl) jo_Heliographs_Plan ju_Heliographs_Plan rfl rfl rfl tyX3 tyX3_ok nmX3 rfl (fun _ => ⟨rfl, rfl⟩) ?_
  refine gz_aload_n dX3_init_60 rfl ?_
  refine zz_bipush (x := 8) dX3_init_61 rfl ?_
  refine gm_newa (k := 7) 0 (by simp only [List.length_append, List.length_cons, List.length_nil, Nat.reduceAdd, X5_init_tl, X6_init_tl, X2_init_tl]) (len := 8) dX3_init_63 rfl (Nat.le_of_ble_eq_true rfl) wa_int rfl (Nat.le_of_ble_eq_true rfl) (Nat.le_of_ble_eq_true rfl) ⟨Nat.le_of_ble_eq_true rfl, Nat.le_of_ble_eq_true rfl⟩ ?_
  refine gm_putfF hi 11 dX3_init_65 rfl wf_Heliographs_Plan_33 (Nat.le_of_ble_eq_true rfl) jo_Heliographs_Plan ju_Heliographs_Plan rfl rfl rfl tyX3 tyX3_ok nmX3 rfl (fun _ => ⟨rfl, rfl⟩) ?_
  refine gz_aload_n dX3_init_68 rfl ?_
  refine zz_bipush (x := 8) dX3_init_69 rfl ?_
  refine gm_newa (k := 8) 0 (by simp only [List.length_append, List.length_cons, List.length_nil, Nat.reduceAdd, X5_init_tl, X6_init_tl, X2_init_tl]) (len := 8) dX3_init_71 rfl (Nat.le_of_ble_eq_true rfl) wa_int rfl (Nat.le_of_ble_eq_true rfl) (Nat.le_of_ble_eq_true rfl) ⟨Nat.le_of_ble_eq_true rfl, Nat.le_of_ble_eq_true rfl⟩ ?_
  refine gm_putfF hi 12 dX3_init_73 rfl wf_Heliographs_Plan_36 (Nat.le_of_ble_eq_true rfl) jo_Heliographs_Plan ju_Heliographs_Plan rfl rfl rfl tyX3 tyX3_ok nmX3 rfl (fun _ => ⟨rfl, rfl⟩) ?_
  refine gz_aload_n dX3_init_76 rfl ?_
  refine zz_bipush (x := 8) dX3_init_77 rfl ?_
  refine gm_newa (k := 9) 0 (by simp only [List.length_append, List.length_cons, List.length_nil, Nat.reduceAdd, X5_init_tl, X6_init_tl, X2_init_tl]) (len := 8) dX3_init_79 rfl (Nat.le_of_ble_eq_true rfl) wa_int rfl (Nat.le_of_ble_eq_true rfl) (Nat.le_of_ble_eq_true rfl) ⟨Nat.le_of_ble_eq_true rfl, Nat.le_of_ble_eq_true rfl⟩ ?_
  refine gm_putfF hi 13 dX3_init_81 rfl wf_Heliographs_Plan_39 (Nat.le_of_ble_eq_true rfl) jo_Heliographs_Plan ju_Heliographs_Plan rfl rfl rfl tyX3 tyX3_ok nmX3 rfl (fun _ => ⟨rfl, rfl⟩) ?_
  refine gz_aload_n dX3_init_84 rfl ?_
  refine gm_new (k := 10) (c := 2) (by simp only [List.length_append, List.length_cons, List.length_nil, Nat.reduceAdd, X5_init_tl, X6_init_tl, X2_init_tl]) dX3_init_85 rfl wc_Heliographs_Plan_42 jo_Heliographs_Orders jn_Heliographs_Orders ju_Heliographs_Orders tyX2 tyX2_ok ⟨Nat.le_of_ble_eq_true rfl, Nat.le_of_ble_eq_true rfl⟩ ?_
  refine gz_dup dX3_init_88 rfl ?_
  refine gm_init (J := mX2_init) (d1 := d - 1) (k := 10) (by simp only [List.length_append, List.length_cons, List.length_nil, Nat.reduceAdd, X5_init_tl, X6_init_tl, X2_init_tl]) [] _ dX3_init_89 rfl (Or.inr ⟨"Heliographs", by decide⟩) jiX2_init jn_Heliographs_Orders jcX2_init rfl rfl jpX2_init rfl ⟨Nat.le_of_ble_eq_true rfl, Nat.le_of_ble_eq_true rfl⟩ (Nat.le_of_ble_eq_true rfl) (by omega) ⟨Nat.le_of_ble_eq_true rfl, Nat.le_of_ble_eq_true rfl⟩ (do_X2_init (n := X.length + 11) (by omega) (zo_len (by simp only [List.length_append, List.length_cons, List.length_nil, Nat.reduceAdd, X5_init_tl, X6_init_tl, X2_init_tl])) (zo_at (by simp only [List.length_append, List.length_cons, List.length_nil, Nat.reduceAdd, X5_init_tl, X6_init_tl, X2_init_tl]))) ?_
  refine gm_putfF hi 14 dX3_init_92 rfl wf_Heliographs_Plan_45 (Nat.le_of_ble_eq_true rfl) jo_Heliographs_Plan ju_Heliographs_Plan rfl rfl rfl tyX3 tyX3_ok nmX3 rfl (fun _ => ⟨rfl, rfl⟩) ?_
  refine gz_aload_n dX3_init_95 rfl ?_
  refine zz_bipush (x := 8) dX3_init_96 rfl ?_
  refine gm_newa (k := 16) 0 (by simp only [List.length_append, List.length_cons, List.length_nil, Nat.reduceAdd, X5_init_tl, X6_init_tl, X2_init_tl]) (len := 8) dX3_init_98 rfl (Nat.le_of_ble_eq_true rfl) wa_int rfl (Nat.le_of_ble_eq_true rfl) (Nat.le_of_ble_eq_true rfl) ⟨Nat.le_of_ble_eq_true rfl, Nat.le_of_ble_eq_true rfl⟩ ?_
  refine gm_putfF hi 15 dX3_init_100 rfl wf_Heliographs_Plan_49 (Nat.le_of_ble_eq_true rfl) jo_Heliographs_Plan ju_Heliographs_Plan rfl rfl rfl tyX3 tyX3_ok nmX3 rfl (fun _ => ⟨rfl, rfl⟩) ?_
  refine gz_aload_n dX3_init_103 rfl ?_
  refine zz_bipush (x := 8) dX3_init_104 rfl ?_
  refine gm_newa (k := 17) 0 (by simp only [List.length_append, List.length_cons, List.length_nil, Nat.reduceAdd, X5_init_tl, X6_init_tl, X2_init_tl]) (len := 8) dX3_init_106 rfl (Nat.le_of_ble_eq_true rfl) wa_int rfl (Nat.le_of_ble_eq_true rfl) (Nat.le_of_ble_eq_true rfl) ⟨Nat.le_of_ble_eq_true rfl, Nat.le_of_ble_eq_true rfl⟩ ?_
  refine gm_putfF hi 16 dX3_init_108 rfl wf_Heliographs_Plan_52 (Nat.le_of_ble_eq_true rfl) jo_Heliographs_Plan ju_Heliographs_Plan rfl rfl rfl tyX3 tyX3_ok nmX3 rfl (fun _ => ⟨rfl, rfl⟩) ?_
  refine gz_aload_n dX3_init_111 rfl ?_
  refine zz_bipush (x := 8) dX3_init_112 rfl ?_
  refine gm_newa (k := 18) 0 (by simp only [List.length_append, List.length_cons, List.length_nil, Nat.reduceAdd, X5_init_tl, X6_init_tl, X2_init_tl]) (len := 8) dX3_init_114 rfl (Nat.le_of_ble_eq_true rfl) wa_int rfl (Nat.le_of_ble_eq_true rfl) (Nat.le_of_ble_eq_true rfl) ⟨Nat.le_of_ble_eq_true rfl, Nat.le_of_ble_eq_true rfl⟩ ?_
  refine gm_putfF hi 17 dX3_init_116 rfl wf_Heliographs_Plan_55 (Nat.le_of_ble_eq_true rfl) jo_Heliographs_Plan ju_Heliographs_Plan rfl rfl rfl tyX3 tyX3_ok nmX3 rfl (fun _ => ⟨rfl, rfl⟩) ?_
  refine gz_aload_n dX3_init_119 rfl ?_
  refine zz_bipush (x := 8) dX3_init_120 rfl ?_
  refine gm_newa (k := 19) 0 (by simp only [List.length_append, List.length_cons, List.length_nil, Nat.reduceAdd, X5_init_tl, X6_init_tl, X2_init_tl]) (len := 8) dX3_init_122 rfl (Nat.le_of_ble_eq_true rfl) wa_int rfl (Nat.le_of_ble_eq_true rfl) (Nat.le_of_ble_eq_true rfl) ⟨Nat.le_of_ble_eq_true rfl, Nat.le_of_ble_eq_true rfl⟩ ?_
  refine gm_putfF hi 18 dX3_init_124 rfl wf_Heliographs_Plan_58 (Nat.le_of_ble_eq_true rfl) jo_Heliographs_Plan ju_Heliographs_Plan rfl rfl rfl tyX3 tyX3_ok nmX3 rfl (fun _ => ⟨rfl, rfl⟩) ?_
  refine gz_return_ dX3_init_127 rfl ?_
  exact hq
def X0_init_t (n : Nat) : List ((Nat × Nat) × (Nat → Value)) := [] ++ [((100 + 0, 8), fun _ => defaultValue (zk_ty 0))] ++ [((100 + 0, 8), fun _ => defaultValue (zk_ty 0))] ++ [((100 + 0, 8), fun _ => defaultValue (zk_ty 0))] ++ [((100 + 0, 8), fun _ => defaultValue (zk_ty 0))] ++ [((100 + 0, 8), fun _ => defaultValue (zk_ty 0))] ++ [((100 + 0, 8), fun _ => defaultValue (zk_ty 0))] ++ [((100 + 0, 8), fun _ => defaultValue (zk_ty 0))] ++ [((100 + 0, 8), fun _ => defaultValue (zk_ty 0))] ++ [((100 + 0, 8), fun _ => defaultValue (zk_ty 0))] ++ [((100 + 0, 12), fun _ => defaultValue (zk_ty 0))] ++ [((100 + 2, 12), fun _ => defaultValue (zk_ty 2))] ++ [((100 + 0, 8), fun _ => defaultValue (zk_ty 0))]
def X0_init_f (n : Nat) (v0 : Nat) : Nat → Value := (zk_upf (zk_upf (zk_upf (zk_upf (zk_upf (zk_upf (zk_upf (zk_upf (zk_upf (zk_upf (zk_upf (zk_upf (zk_upf (zk_upf (fun j => defaultValue (tyX0 j)) 2 (.int (iZ (-1)))) 3 (.ref (320 + (n + 0)))) 4 (.ref (320 + (n + 1)))) 5 (.ref (320 + (n + 2)))) 6 (.ref (320 + (n + 3)))) 7 (.ref (320 + (n + 4)))) 8 (.ref (320 + (n + 5)))) 9 (.ref (320 + (n + 6)))) 10 (.ref (320 + (n + 7)))) 11 (.ref (320 + (n + 8)))) 12 (.ref (320 + (n + 9)))) 14 (.ref (320 + (n + 10)))) 15 (.ref (320 + (n + 11)))) 0 (.ref v0))
theorem X0_init_tl (n : Nat) : (X0_init_t n).length = 12 := by unfold X0_init_t; simp only [List.length_append, List.length_cons, List.length_nil, Nat.reduceAdd, X5_init_tl, X6_init_tl, X2_init_tl, X3_init_tl]
theorem do_X0_init {X : List ((Nat × Nat) × (Nat → Value))} {i n : Nat} {v0 : Nat} (hd : 1 ≤ d) (hn : X.length = n) (hX : X[i]? = some ((1, 16), fun j => defaultValue (tyX0 j))) : zk_Does l Γ mX0_init d 12 104 [.ref (320 + i), .ref v0] (zm X) F none (zm (X.set i ((1, 16), X0_init_f n (v0)) ++ X0_init_t n)) F := by
  intro Q hq
  subst hn
  have hi : i < X.length := (List.getElem?_eq_some_iff.mp hX).1
  rw [zo_start hX]
  refine gz_aload_n dX0_init_0 rfl ?_
  refine gz_objInit dX0_init_1 wm_Heliographs_Chain_3 (Nat.le_of_ble_eq_true rfl) (by omega) ?_
  refine gz_aload_n dX0_init_4 rfl ?_
  refine zz_iconst dX0_init_5 ?_
  refine gm_putf hi 2 dX0_init_6 rfl wf_Heliographs_Chain_9 (Nat.le_of_ble_eq_true rfl) jo_Heliographs_Chain ju_Heliographs_Chain rfl tyX0 tyX0_ok nmX0 rfl (fun _ => ⟨rfl, rfl⟩) ?_
  refine gz_aload_n dX0_init_9 rfl ?_
  refine zz_bipush (x := 8) dX0_init_10 rfl ?_
  refine gm_newa (k := 0) 0 (by simp only [List.length_append, List.length_cons, List.length_nil, Nat.reduceAdd, X5_init_tl, X6_init_tl, X2_init_tl, X3_init_tl]) (len := 8) dX0_init_12 rfl (Nat.le_of_ble_eq_true rfl) wa_int rfl (Nat.le_of_ble_eq_true rfl) (Nat.le_of_ble_eq_true rfl) ⟨Nat.le_of_ble_eq_true rfl, Nat.le_of_ble_eq_true rfl⟩ ?_
  refine gm_putfF hi 3 dX0_init_14 rfl wf_Heliographs_Chain_15 (Nat.le_of_ble_eq_true rfl) jo_Heliographs_Chain ju_Heliographs_Chain rfl rfl rfl tyX0 tyX0_ok nmX0 rfl (fun _ => ⟨rfl, rfl⟩) ?_
  refine gz_aload_n dX0_init_17 rfl ?_
  refine zz_bipush (x := 8) dX0_init_18 rfl ?_
  refine gm_newa (k := 1) 0 (by simp only [List.length_append, List.length_cons, List.length_nil, Nat.reduceAdd, X5_init_tl, X6_init_tl, X2_init_tl, X3_init_tl]) (len := 8) dX0_init_20 rfl (Nat.le_of_ble_eq_true rfl) wa_int rfl (Nat.le_of_ble_eq_true rfl) (Nat.le_of_ble_eq_true rfl) ⟨Nat.le_of_ble_eq_true rfl, Nat.le_of_ble_eq_true rfl⟩ ?_
  refine gm_putfF hi 4 dX0_init_22 rfl wf_Heliographs_Chain_19 (Nat.le_of_ble_eq_true rfl) jo_Heliographs_Chain ju_Heliographs_Chain rfl rfl rfl tyX0 tyX0_ok nmX0 rfl (fun _ => ⟨rfl, rfl⟩) ?_
  refine gz_aload_n dX0_init_25 rfl ?_
  refine zz_bipush (x := 8) dX0_init_26 rfl ?_
  refine gm_newa (k := 2) 0 (by simp only [List.length_append, List.length_cons, List.length_nil, Nat.reduceAdd, X5_init_tl, X6_init_tl, X2_init_tl, X3_init_tl]) (len := 8) dX0_init_28 rfl (Nat.le_of_ble_eq_true rfl) wa_int rfl (Nat.le_of_ble_eq_true rfl) (Nat.le_of_ble_eq_true rfl) ⟨Nat.le_of_ble_eq_true rfl, Nat.le_of_ble_eq_true rfl⟩ ?_
  refine gm_putfF hi 5 dX0_init_30 rfl wf_Heliographs_Chain_22 (Nat.le_of_ble_eq_true rfl) jo_Heliographs_Chain ju_Heliographs_Chain rfl rfl rfl tyX0 tyX0_ok nmX0 rfl (fun _ => ⟨rfl, rfl⟩) ?_
  refine gz_aload_n dX0_init_33 rfl ?_
  refine zz_bipush (x := 8) dX0_init_34 rfl ?_
  refine gm_newa (k := 3) 0 (by simp only [List.length_append, List.length_cons, List.length_nil, Nat.reduceAdd, X5_init_tl, X6_init_tl, X2_init_tl, X3_init_tl]) (len := 8) dX0_init_36 rfl (Nat.le_of_ble_eq_true rfl) wa_int rfl (Nat.le_of_ble_eq_true rfl) (Nat.le_of_ble_eq_true rfl) ⟨Nat.le_of_ble_eq_true rfl, Nat.le_of_ble_eq_true rfl⟩ ?_
  refine gm_putfF hi 6 dX0_init_38 rfl wf_Heliographs_Chain_25 (Nat.le_of_ble_eq_true rfl) jo_Heliographs_Chain ju_Heliographs_Chain rfl rfl rfl tyX0 tyX0_ok nmX0 rfl (fun _ => ⟨rfl, rfl⟩) ?_
  refine gz_aload_n dX0_init_41 rfl ?_
  refine zz_bipush (x := 8) dX0_init_42 rfl ?_
  refine gm_newa (k := 4) 0 (by simp only [List.length_append, List.length_cons, List.length_nil, Nat.reduceAdd, X5_init_tl, X6_init_tl, X2_init_tl, X3_init_tl]) (len := 8) dX0_init_44 rfl (Nat.le_of_ble_eq_true rfl) wa_int rfl (Nat.le_of_ble_eq_true rfl) (Nat.le_of_ble_eq_true rfl) ⟨Nat.le_of_ble_eq_true rfl, Nat.le_of_ble_eq_true rfl⟩ ?_
  refine gm_putfF hi 7 dX0_init_46 rfl wf_Heliographs_Chain_28 (Nat.le_of_ble_eq_true rfl) jo_Heliographs_Chain ju_Heliographs_Chain rfl rfl rfl tyX0 tyX0_ok nmX0 rfl (fun _ => ⟨rfl, rfl⟩) ?_
  refine gz_aload_n dX0_init_49 rfl ?_
  refine zz_bipush (x := 8) dX0_init_50 rfl ?_
  refine gm_newa (k := 5) 0 (by simp only [List.length_append, List.length_cons, List.length_nil, Nat.reduceAdd, X5_init_tl, X6_init_tl, X2_init_tl, X3_init_tl]) (len := 8) dX0_init_52 rfl (Nat.le_of_ble_eq_true rfl) wa_int rfl (Nat.le_of_ble_eq_true rfl) (Nat.le_of_ble_eq_true rfl) ⟨Nat.le_of_ble_eq_true rfl, Nat.le_of_ble_eq_true rfl⟩ ?_
  refine gm_putfF hi 8 dX0_init_54 rfl wf_Heliographs_Chain_31 (Nat.le_of_ble_eq_true rfl) jo_Heliographs_Chain ju_Heliographs_Chain rfl rfl rfl tyX0 tyX0_ok nmX0 rfl (fun _ => ⟨rfl, rfl⟩) ?_
  refine gz_aload_n dX0_init_57 rfl ?_
  refine zz_bipush (x := 8) dX0_init_58 rfl ?_
  refine gm_newa (k := 6) 0 (by simp only [List.length_append, List.length_cons, List.length_nil, Nat.reduceAdd, X5_init_tl, X6_init_tl, X2_init_tl, X3_init_tl]) (len := 8) dX0_init_60 rfl (Nat.le_of_ble_eq_true rfl) wa_int rfl (Nat.le_of_ble_eq_true rfl) (Nat.le_of_ble_eq_true rfl) ⟨Nat.le_of_ble_eq_true rfl, Nat.le_of_ble_eq_true rfl⟩ ?_
  refine gm_putfF hi 9 dX0_init_62 rfl wf_Heliographs_Chain_34 (Nat.le_of_ble_eq_true rfl) jo_Heliographs_Chain ju_Heliographs_Chain rfl rfl rfl tyX0 tyX0_ok nmX0 rfl (fun _ => ⟨rfl, rfl⟩) ?_
  refine gz_aload_n dX0_init_65 rfl ?_
  refine zz_bipush (x := 8) dX0_init_66 rfl ?_
  refine gm_newa (k := 7) 0 (by simp only [List.length_append, List.length_cons, List.length_nil, Nat.reduceAdd, X5_init_tl, X6_init_tl, X2_init_tl, X3_init_tl]) (len := 8) dX0_init_68 rfl (Nat.le_of_ble_eq_true rfl) wa_int rfl (Nat.le_of_ble_eq_true rfl) (Nat.le_of_ble_eq_true rfl) ⟨Nat.le_of_ble_eq_true rfl, Nat.le_of_ble_eq_true rfl⟩ ?_
  refine gm_putfF hi 10 dX0_init_70 rfl wf_Heliographs_Chain_37 (Nat.le_of_ble_eq_true rfl) jo_Heliographs_Chain ju_Heliographs_Chain rfl rfl rfl tyX0 tyX0_ok nmX0 rfl (fun _ => ⟨rfl, rfl⟩) ?_
  refine gz_aload_n dX0_init_73 rfl ?_
  refine zz_bipush (x := 8) dX0_init_74 rfl ?_
  refine gm_newa (k := 8) 0 (by simp only [List.length_append, List.length_cons, List.length_nil, Nat.reduceAdd, X5_init_tl, X6_init_tl, X2_init_tl, X3_init_tl]) (len := 8) dX0_init_76 rfl (Nat.le_of_ble_eq_true rfl) wa_int rfl (Nat.le_of_ble_eq_true rfl) (Nat.le_of_ble_eq_true rfl) ⟨Nat.le_of_ble_eq_true rfl, Nat.le_of_ble_eq_true rfl⟩ ?_
  refine gm_putfF hi 11 dX0_init_78 rfl wf_Heliographs_Chain_40 (Nat.le_of_ble_eq_true rfl) jo_Heliographs_Chain ju_Heliographs_Chain rfl rfl rfl tyX0 tyX0_ok nmX0 rfl (fun _ => ⟨rfl, rfl⟩) ?_
  refine gz_aload_n dX0_init_81 rfl ?_
  refine zz_bipush (x := 12) dX0_init_82 rfl ?_
  refine gm_newa (k := 9) 0 (by simp only [List.length_append, List.length_cons, List.length_nil, Nat.reduceAdd, X5_init_tl, X6_init_tl, X2_init_tl, X3_init_tl]) (len := 12) dX0_init_84 rfl (Nat.le_of_ble_eq_true rfl) wa_int rfl (Nat.le_of_ble_eq_true rfl) (Nat.le_of_ble_eq_true rfl) ⟨Nat.le_of_ble_eq_true rfl, Nat.le_of_ble_eq_true rfl⟩ ?_
  refine gm_putfF hi 12 dX0_init_86 rfl wf_Heliographs_Chain_43 (Nat.le_of_ble_eq_true rfl) jo_Heliographs_Chain ju_Heliographs_Chain rfl rfl rfl tyX0 tyX0_ok nmX0 rfl (fun _ => ⟨rfl, rfl⟩) ?_
  refine gz_aload_n dX0_init_89 rfl ?_
  refine zz_bipush (x := 12) dX0_init_90 rfl ?_
  refine gm_newa (k := 10) 2 (by simp only [List.length_append, List.length_cons, List.length_nil, Nat.reduceAdd, X5_init_tl, X6_init_tl, X2_init_tl, X3_init_tl]) (len := 12) dX0_init_92 rfl (Nat.le_of_ble_eq_true rfl) wa_boolean rfl (Nat.le_of_ble_eq_true rfl) (Nat.le_of_ble_eq_true rfl) ⟨Nat.le_of_ble_eq_true rfl, Nat.le_of_ble_eq_true rfl⟩ ?_
  refine gm_putfF hi 14 dX0_init_94 rfl wf_Heliographs_Chain_46 (Nat.le_of_ble_eq_true rfl) jo_Heliographs_Chain ju_Heliographs_Chain rfl rfl rfl tyX0 tyX0_ok nmX0 rfl (fun _ => ⟨rfl, rfl⟩) ?_
  refine gz_aload_n dX0_init_97 rfl ?_
  refine zz_bipush (x := 8) dX0_init_98 rfl ?_
  refine gm_newa (k := 11) 0 (by simp only [List.length_append, List.length_cons, List.length_nil, Nat.reduceAdd, X5_init_tl, X6_init_tl, X2_init_tl, X3_init_tl]) (len := 8) dX0_init_100 rfl (Nat.le_of_ble_eq_true rfl) wa_int rfl (Nat.le_of_ble_eq_true rfl) (Nat.le_of_ble_eq_true rfl) ⟨Nat.le_of_ble_eq_true rfl, Nat.le_of_ble_eq_true rfl⟩ ?_
  refine gm_putfF hi 15 dX0_init_102 rfl wf_Heliographs_Chain_50 (Nat.le_of_ble_eq_true rfl) jo_Heliographs_Chain ju_Heliographs_Chain rfl rfl rfl tyX0 tyX0_ok nmX0 rfl (fun _ => ⟨rfl, rfl⟩) ?_
  refine gz_aload_n dX0_init_105 rfl ?_
  refine gz_aload_n dX0_init_106 rfl ?_
  refine gm_putf hi 0 dX0_init_107 rfl wf_Heliographs_Chain_53 (Nat.le_of_ble_eq_true rfl) jo_Heliographs_Chain ju_Heliographs_Chain rfl tyX0 tyX0_ok nmX0 rfl (fun _ => ⟨rfl, rfl⟩) ?_
  refine gz_return_ dX0_init_110 rfl ?_
  exact hq
def X4_init_t (n : Nat) : List ((Nat × Nat) × (Nat → Value)) := [] ++ [((100 + 1, 8), fun _ => defaultValue (zk_ty 1))] ++ [((100 + 1, 12), fun _ => defaultValue (zk_ty 1))] ++ [((100 + 1, 8), fun _ => defaultValue (zk_ty 1))]
def X4_init_f (n : Nat) (v0 : Nat) (v1 : Nat) : Nat → Value := (zk_upf (zk_upf (zk_upf (zk_upf (zk_upf (fun j => defaultValue (tyX4 j)) 0 (.ref (320 + (n + 0)))) 1 (.ref (320 + (n + 1)))) 2 (.ref (320 + (n + 2)))) 3 (.ref v0)) 4 (.ref v1))
theorem X4_init_tl (n : Nat) : (X4_init_t n).length = 3 := by unfold X4_init_t; simp only [List.length_append, List.length_cons, List.length_nil, Nat.reduceAdd, X5_init_tl, X6_init_tl, X2_init_tl, X3_init_tl, X0_init_tl]
theorem do_X4_init {X : List ((Nat × Nat) × (Nat → Value))} {i n : Nat} {v0 : Nat} {v1 : Nat} (hd : 1 ≤ d) (hn : X.length = n) (hX : X[i]? = some ((4, 7), fun j => defaultValue (tyX4 j))) : zk_Does l Γ mX4_init d 3 28 [.ref (320 + i), .ref v0, .ref v1] (zm X) F none (zm (X.set i ((4, 7), X4_init_f n (v0) (v1)) ++ X4_init_t n)) F := by
  intro Q hq
  subst hn
  have hi : i < X.length := (List.getElem?_eq_some_iff.mp hX).1
  rw [zo_start hX]
  refine gz_aload_n dX4_init_0 rfl ?_
  refine gz_objInit dX4_init_1 wm_Heliographs_Reader_3 (Nat.le_of_ble_eq_true rfl) (by omega) ?_
  refine gz_aload_n dX4_init_4 rfl ?_
  refine zz_bipush (x := 8) dX4_init_5 rfl ?_
  refine gm_newa (k := 0) 1 (by simp only [List.length_append, List.length_cons, List.length_nil, Nat.reduceAdd, X5_init_tl, X6_init_tl, X2_init_tl, X3_init_tl, X0_init_tl]) (len := 8) dX4_init_7 rfl (Nat.le_of_ble_eq_true rfl) wa_long rfl (Nat.le_of_ble_eq_true rfl) (Nat.le_of_ble_eq_true rfl) ⟨Nat.le_of_ble_eq_true rfl, Nat.le_of_ble_eq_true rfl⟩ ?_
  refine gm_putfF hi 0 dX4_init_9 rfl wf_Heliographs_Reader_9 (Nat.le_of_ble_eq_true rfl) jo_Heliographs_Reader ju_Heliographs_Reader rfl rfl rfl tyX4 tyX4_ok nmX4 rfl (fun _ => ⟨rfl, rfl⟩) ?_
  refine gz_aload_n dX4_init_12 rfl ?_
  refine zz_bipush (x := 12) dX4_init_13 rfl ?_
  refine gm_newa (k := 1) 1 (by simp only [List.length_append, List.length_cons, List.length_nil, Nat.reduceAdd, X5_init_tl, X6_init_tl, X2_init_tl, X3_init_tl, X0_init_tl]) (len := 12) dX4_init_15 rfl (Nat.le_of_ble_eq_true rfl) wa_long rfl (Nat.le_of_ble_eq_true rfl) (Nat.le_of_ble_eq_true rfl) ⟨Nat.le_of_ble_eq_true rfl, Nat.le_of_ble_eq_true rfl⟩ ?_
  refine gm_putfF hi 1 dX4_init_17 rfl wf_Heliographs_Reader_15 (Nat.le_of_ble_eq_true rfl) jo_Heliographs_Reader ju_Heliographs_Reader rfl rfl rfl tyX4 tyX4_ok nmX4 rfl (fun _ => ⟨rfl, rfl⟩) ?_
  refine gz_aload_n dX4_init_20 rfl ?_
  refine zz_bipush (x := 8) dX4_init_21 rfl ?_
  refine gm_newa (k := 2) 1 (by simp only [List.length_append, List.length_cons, List.length_nil, Nat.reduceAdd, X5_init_tl, X6_init_tl, X2_init_tl, X3_init_tl, X0_init_tl]) (len := 8) dX4_init_23 rfl (Nat.le_of_ble_eq_true rfl) wa_long rfl (Nat.le_of_ble_eq_true rfl) (Nat.le_of_ble_eq_true rfl) ⟨Nat.le_of_ble_eq_true rfl, Nat.le_of_ble_eq_true rfl⟩ ?_
  refine gm_putfF hi 2 dX4_init_25 rfl wf_Heliographs_Reader_18 (Nat.le_of_ble_eq_true rfl) jo_Heliographs_Reader ju_Heliographs_Reader rfl rfl rfl tyX4 tyX4_ok nmX4 rfl (fun _ => ⟨rfl, rfl⟩) ?_
  refine gz_aload_n dX4_init_28 rfl ?_
  refine gz_aload_n dX4_init_29 rfl ?_
  refine gm_putfF hi 3 dX4_init_30 rfl wf_Heliographs_Reader_21 (Nat.le_of_ble_eq_true rfl) jo_Heliographs_Reader ju_Heliographs_Reader rfl rfl rfl tyX4 tyX4_ok nmX4 rfl (fun _ => ⟨rfl, rfl⟩) ?_
  refine gz_aload_n dX4_init_33 rfl ?_
  refine gz_aload_n dX4_init_34 rfl ?_
  refine gm_putf hi 4 dX4_init_35 rfl wf_Heliographs_Reader_25 (Nat.le_of_ble_eq_true rfl) jo_Heliographs_Reader ju_Heliographs_Reader rfl tyX4 tyX4_ok nmX4 rfl (fun _ => ⟨rfl, rfl⟩) ?_
  refine gz_return_ dX4_init_38 rfl ?_
  exact hq
def X7_init_t (n : Nat) : List ((Nat × Nat) × (Nat → Value)) := [] ++ [((5, 2), X5_init_f (n + 1))] ++ X5_init_t (n + 1) ++ [((6, 7), X6_init_f (n + 3))] ++ X6_init_t (n + 3) ++ [((3, 19), X3_init_f (n + 7))] ++ X3_init_t (n + 7) ++ [((3, 19), X3_init_f (n + 28))] ++ X3_init_t (n + 28) ++ [((1, 16), X0_init_f (n + 49) ((320 + (n + 27))))] ++ X0_init_t (n + 49) ++ [((1, 16), X0_init_f (n + 62) ((320 + (n + 27))))] ++ X0_init_t (n + 62) ++ [((4, 7), X4_init_f (n + 75) ((320 + (n + 2))) ((320 + (n + 6))))] ++ X4_init_t (n + 75)
def X7_init_f (n : Nat) : Nat → Value := (zk_upf (zk_upf (zk_upf (zk_upf (zk_upf (zk_upf (zk_upf (fun j => defaultValue (tyX7 j)) 0 (.ref (320 + (n + 0)))) 1 (.ref (320 + (n + 2)))) 5 (.ref (320 + (n + 6)))) 6 (.int (iZ (-1)))) 3 (.ref (320 + (n + 48)))) 4 (.ref (320 + (n + 61)))) 2 (.ref (320 + (n + 74))))
theorem X7_init_tl (n : Nat) : (X7_init_t n).length = 78 := by unfold X7_init_t; simp only [List.length_append, List.length_cons, List.length_nil, Nat.reduceAdd, X5_init_tl, X6_init_tl, X2_init_tl, X3_init_tl, X0_init_tl, X4_init_tl]
theorem do_X7_init {X : List ((Nat × Nat) × (Nat → Value))} {i n : Nat} (hd : 3 ≤ d) (hn : X.length = n) (hX : X[i]? = some ((0, 7), fun j => defaultValue (tyX7 j))) : zk_Does l Γ mX7_init d 78 6237 [.ref (320 + i)] (zm X) F none (zm (X.set i ((0, 7), X7_init_f n) ++ X7_init_t n)) F := by
  intro Q hq
  subst hn
  have hi : i < X.length := (List.getElem?_eq_some_iff.mp hX).1
  rw [zo_start hX]
  refine gz_aload_n dX7_init_0 rfl ?_
  refine gz_objInit dX7_init_1 wm_Heliographs_1 (Nat.le_of_ble_eq_true rfl) (by omega) ?_
  refine gz_aload_n dX7_init_4 rfl ?_
  refine gm_new (k := 0) (c := 5) (by simp only [List.length_append, List.length_cons, List.length_nil, Nat.reduceAdd, X5_init_tl, X6_init_tl, X2_init_tl, X3_init_tl, X0_init_tl, X4_init_tl]) dX7_init_5 rfl wc_Heliographs_7 jo_Heliographs_Tape jn_Heliographs_Tape ju_Heliographs_Tape tyX5 tyX5_ok ⟨Nat.le_of_ble_eq_true rfl, Nat.le_of_ble_eq_true rfl⟩ ?_
  refine gz_dup dX7_init_8 rfl ?_
  refine gm_init (J := mX5_init) (d1 := d - 1) (k := 0) (by simp only [List.length_append, List.length_cons, List.length_nil, Nat.reduceAdd, X5_init_tl, X6_init_tl, X2_init_tl, X3_init_tl, X0_init_tl, X4_init_tl]) [] _ dX7_init_9 rfl (Or.inr ⟨"Heliographs", by decide⟩) jiX5_init jn_Heliographs_Tape jcX5_init rfl rfl jpX5_init rfl ⟨Nat.le_of_ble_eq_true rfl, Nat.le_of_ble_eq_true rfl⟩ (Nat.le_of_ble_eq_true rfl) (by omega) ⟨Nat.le_of_ble_eq_true rfl, Nat.le_of_ble_eq_true rfl⟩ (do_X5_init (n := X.length + 1) (by omega) (zo_len (by simp only [List.length_append, List.length_cons, List.length_nil, Nat.reduceAdd, X5_init_tl, X6_init_tl, X2_init_tl, X3_init_tl, X0_init_tl, X4_init_tl])) (zo_at (by simp only [List.length_append, List.length_cons, List.length_nil, Nat.reduceAdd, X5_init_tl, X6_init_tl, X2_init_tl, X3_init_tl, X0_init_tl, X4_init_tl]))) ?_
  refine gm_putfF hi 0 dX7_init_12 rfl wf_Heliographs_10 (Nat.le_of_ble_eq_true rfl) jo_Heliographs ju_Heliographs rfl rfl rfl tyX7 tyX7_ok nmX7 rfl (fun _ => ⟨rfl, rfl⟩) ?_
  refine gz_aload_n dX7_init_15 rfl ?_
  refine gm_new (k := 2) (c := 6) (by simp only [List.length_append, List.length_cons, List.length_nil, Nat.reduceAdd, X5_init_tl, X6_init_tl, X2_init_tl, X3_init_tl, X0_init_tl, X4_init_tl]) dX7_init_16 rfl wc_Heliographs_16 jo_Heliographs_Tokens jn_Heliographs_Tokens ju_Heliographs_Tokens tyX6 tyX6_ok ⟨Nat.le_of_ble_eq_true rfl, Nat.le_of_ble_eq_true rfl⟩ ?_
  refine gz_dup dX7_init_19 rfl ?_
  refine gm_init (J := mX6_init) (d1 := d - 1) (k := 2) (by simp only [List.length_append, List.length_cons, List.length_nil, Nat.reduceAdd, X5_init_tl, X6_init_tl, X2_init_tl, X3_init_tl, X0_init_tl, X4_init_tl]) [] _ dX7_init_20 rfl (Or.inr ⟨"Heliographs", by decide⟩) jiX6_init jn_Heliographs_Tokens jcX6_init rfl rfl jpX6_init rfl ⟨Nat.le_of_ble_eq_true rfl, Nat.le_of_ble_eq_true rfl⟩ (Nat.le_of_ble_eq_true rfl) (by omega) ⟨Nat.le_of_ble_eq_true rfl, Nat.le_of_ble_eq_true rfl⟩ (do_X6_init (n := X.length + 3) (by omega) (zo_len (by simp only [List.length_append, List.length_cons, List.length_nil, Nat.reduceAdd, X5_init_tl, X6_init_tl, X2_init_tl, X3_init_tl, X0_init_tl, X4_init_tl])) (zo_at (by simp only [List.length_append, List.length_cons, List.length_nil, Nat.reduceAdd, X5_init_tl, X6_init_tl, X2_init_tl, X3_init_tl, X0_init_tl, X4_init_tl]))) ?_
  refine gm_putfF hi 1 dX7_init_23 rfl wf_Heliographs_19 (Nat.le_of_ble_eq_true rfl) jo_Heliographs ju_Heliographs rfl rfl rfl tyX7 tyX7_ok nmX7 rfl (fun _ => ⟨rfl, rfl⟩) ?_
  refine gz_aload_n dX7_init_26 rfl ?_
  refine gm_new (k := 6) (c := 3) (by simp only [List.length_append, List.length_cons, List.length_nil, Nat.reduceAdd, X5_init_tl, X6_init_tl, X2_init_tl, X3_init_tl, X0_init_tl, X4_init_tl]) dX7_init_27 rfl wc_Heliographs_23 jo_Heliographs_Plan jn_Heliographs_Plan ju_Heliographs_Plan tyX3 tyX3_ok ⟨Nat.le_of_ble_eq_true rfl, Nat.le_of_ble_eq_true rfl⟩ ?_
  refine gz_dup dX7_init_30 rfl ?_
  refine gm_init (J := mX3_init) (d1 := d - 1) (k := 6) (by simp only [List.length_append, List.length_cons, List.length_nil, Nat.reduceAdd, X5_init_tl, X6_init_tl, X2_init_tl, X3_init_tl, X0_init_tl, X4_init_tl]) [] _ dX7_init_31 rfl (Or.inr ⟨"Heliographs", by decide⟩) jiX3_init jn_Heliographs_Plan jcX3_init rfl rfl jpX3_init rfl ⟨Nat.le_of_ble_eq_true rfl, Nat.le_of_ble_eq_true rfl⟩ (Nat.le_of_ble_eq_true rfl) (by omega) ⟨Nat.le_of_ble_eq_true rfl, Nat.le_of_ble_eq_true rfl⟩ (do_X3_init (n := X.length + 7) (by omega) (zo_len (by simp only [List.length_append, List.length_cons, List.length_nil, Nat.reduceAdd, X5_init_tl, X6_init_tl, X2_init_tl, X3_init_tl, X0_init_tl, X4_init_tl])) (zo_at (by simp only [List.length_append, List.length_cons, List.length_nil, Nat.reduceAdd, X5_init_tl, X6_init_tl, X2_init_tl, X3_init_tl, X0_init_tl, X4_init_tl]))) ?_
  refine gm_putf hi 5 dX7_init_34 rfl wf_Heliographs_26 (Nat.le_of_ble_eq_true rfl) jo_Heliographs ju_Heliographs rfl tyX7 tyX7_ok nmX7 rfl (fun _ => ⟨rfl, rfl⟩) ?_
  refine gz_aload_n dX7_init_37 rfl ?_
  refine zz_iconst dX7_init_38 ?_
  refine gm_putf hi 6 dX7_init_39 rfl wf_Heliographs_30 (Nat.le_of_ble_eq_true rfl) jo_Heliographs ju_Heliographs rfl tyX7 tyX7_ok nmX7 rfl (fun _ => ⟨rfl, rfl⟩) ?_
  refine gm_new (k := 27) (c := 3) (by simp only [List.length_append, List.length_cons, List.length_nil, Nat.reduceAdd, X5_init_tl, X6_init_tl, X2_init_tl, X3_init_tl, X0_init_tl, X4_init_tl]) dX7_init_42 rfl wc_Heliographs_23 jo_Heliographs_Plan jn_Heliographs_Plan ju_Heliographs_Plan tyX3 tyX3_ok ⟨Nat.le_of_ble_eq_true rfl, Nat.le_of_ble_eq_true rfl⟩ ?_
  refine gz_dup dX7_init_45 rfl ?_
  refine gm_init (J := mX3_init) (d1 := d - 1) (k := 27) (by simp only [List.length_append, List.length_cons, List.length_nil, Nat.reduceAdd, X5_init_tl, X6_init_tl, X2_init_tl, X3_init_tl, X0_init_tl, X4_init_tl]) [] _ dX7_init_46 rfl (Or.inr ⟨"Heliographs", by decide⟩) jiX3_init jn_Heliographs_Plan jcX3_init rfl rfl jpX3_init rfl ⟨Nat.le_of_ble_eq_true rfl, Nat.le_of_ble_eq_true rfl⟩ (Nat.le_of_ble_eq_true rfl) (by omega) ⟨Nat.le_of_ble_eq_true rfl, Nat.le_of_ble_eq_true rfl⟩ (do_X3_init (n := X.length + 28) (by omega) (zo_len (by simp only [List.length_append, List.length_cons, List.length_nil, Nat.reduceAdd, X5_init_tl, X6_init_tl, X2_init_tl, X3_init_tl, X0_init_tl, X4_init_tl])) (zo_at (by simp only [List.length_append, List.length_cons, List.length_nil, Nat.reduceAdd, X5_init_tl, X6_init_tl, X2_init_tl, X3_init_tl, X0_init_tl, X4_init_tl]))) ?_
  refine gz_astore_n dX7_init_49 (Nat.le_of_ble_eq_true rfl) rfl ?_
  refine gz_aload_n dX7_init_50 rfl ?_
  refine gm_new (k := 48) (c := 1) (by simp only [List.length_append, List.length_cons, List.length_nil, Nat.reduceAdd, X5_init_tl, X6_init_tl, X2_init_tl, X3_init_tl, X0_init_tl, X4_init_tl]) dX7_init_51 rfl wc_Heliographs_34 jo_Heliographs_Chain jn_Heliographs_Chain ju_Heliographs_Chain tyX0 tyX0_ok ⟨Nat.le_of_ble_eq_true rfl, Nat.le_of_ble_eq_true rfl⟩ ?_
  refine gz_dup dX7_init_54 rfl ?_
  refine gz_aload_n dX7_init_55 rfl ?_
  refine gm_init (J := mX0_init) (d1 := d - 1) (k := 48) (by simp only [List.length_append, List.length_cons, List.length_nil, Nat.reduceAdd, X5_init_tl, X6_init_tl, X2_init_tl, X3_init_tl, X0_init_tl, X4_init_tl]) [.ref (320 + (X.length + 27))] _ dX7_init_56 rfl (Or.inl wm_Heliographs_36) jiX0_init jn_Heliographs_Chain jcX0_init rfl rfl jpX0_init rfl ⟨Nat.le_of_ble_eq_true rfl, Nat.le_of_ble_eq_true rfl⟩ (Nat.le_of_ble_eq_true rfl) (by omega) ⟨Nat.le_of_ble_eq_true rfl, Nat.le_of_ble_eq_true rfl⟩ (do_X0_init (n := X.length + 49) (v0 := (320 + (X.length + 27))) (by omega) (zo_len (by simp only [List.length_append, List.length_cons, List.length_nil, Nat.reduceAdd, X5_init_tl, X6_init_tl, X2_init_tl, X3_init_tl, X0_init_tl, X4_init_tl])) (zo_at (by simp only [List.length_append, List.length_cons, List.length_nil, Nat.reduceAdd, X5_init_tl, X6_init_tl, X2_init_tl, X3_init_tl, X0_init_tl, X4_init_tl]))) ?_
  refine gm_putfF hi 3 dX7_init_59 rfl wf_Heliographs_39 (Nat.le_of_ble_eq_true rfl) jo_Heliographs ju_Heliographs rfl rfl rfl tyX7 tyX7_ok nmX7 rfl (fun _ => ⟨rfl, rfl⟩) ?_
  refine gz_aload_n dX7_init_62 rfl ?_
  refine gm_new (k := 61) (c := 1) (by simp only [List.length_append, List.length_cons, List.length_nil, Nat.reduceAdd, X5_init_tl, X6_init_tl, X2_init_tl, X3_init_tl, X0_init_tl, X4_init_tl]) dX7_init_63 rfl wc_Heliographs_34 jo_Heliographs_Chain jn_Heliographs_Chain ju_Heliographs_Chain tyX0 tyX0_ok ⟨Nat.le_of_ble_eq_true rfl, Nat.le_of_ble_eq_true rfl⟩ ?_
  refine gz_dup dX7_init_66 rfl ?_
  refine gz_aload_n dX7_init_67 rfl ?_
  refine gm_init (J := mX0_init) (d1 := d - 1) (k := 61) (by simp only [List.length_append, List.length_cons, List.length_nil, Nat.reduceAdd, X5_init_tl, X6_init_tl, X2_init_tl, X3_init_tl, X0_init_tl, X4_init_tl]) [.ref (320 + (X.length + 27))] _ dX7_init_68 rfl (Or.inl wm_Heliographs_36) jiX0_init jn_Heliographs_Chain jcX0_init rfl rfl jpX0_init rfl ⟨Nat.le_of_ble_eq_true rfl, Nat.le_of_ble_eq_true rfl⟩ (Nat.le_of_ble_eq_true rfl) (by omega) ⟨Nat.le_of_ble_eq_true rfl, Nat.le_of_ble_eq_true rfl⟩ (do_X0_init (n := X.length + 62) (v0 := (320 + (X.length + 27))) (by omega) (zo_len (by simp only [List.length_append, List.length_cons, List.length_nil, Nat.reduceAdd, X5_init_tl, X6_init_tl, X2_init_tl, X3_init_tl, X0_init_tl, X4_init_tl])) (zo_at (by simp only [List.length_append, List.length_cons, List.length_nil, Nat.reduceAdd, X5_init_tl, X6_init_tl, X2_init_tl, X3_init_tl, X0_init_tl, X4_init_tl]))) ?_
  refine gm_putfF hi 4 dX7_init_71 rfl wf_Heliographs_43 (Nat.le_of_ble_eq_true rfl) jo_Heliographs ju_Heliographs rfl rfl rfl tyX7 tyX7_ok nmX7 rfl (fun _ => ⟨rfl, rfl⟩) ?_
  refine gz_aload_n dX7_init_74 rfl ?_
  refine gm_new (k := 74) (c := 4) (by simp only [List.length_append, List.length_cons, List.length_nil, Nat.reduceAdd, X5_init_tl, X6_init_tl, X2_init_tl, X3_init_tl, X0_init_tl, X4_init_tl]) dX7_init_75 rfl wc_Heliographs_46 jo_Heliographs_Reader jn_Heliographs_Reader ju_Heliographs_Reader tyX4 tyX4_ok ⟨Nat.le_of_ble_eq_true rfl, Nat.le_of_ble_eq_true rfl⟩ ?_
  refine gz_dup dX7_init_78 rfl ?_
  refine gz_aload_n dX7_init_79 rfl ?_
  refine gm_getf hi 1 dX7_init_80 rfl wf_Heliographs_19 (Nat.le_of_ble_eq_true rfl) rfl ?_
  refine gz_aload_n dX7_init_83 rfl ?_
  refine gm_getf hi 5 dX7_init_84 rfl wf_Heliographs_26 (Nat.le_of_ble_eq_true rfl) rfl ?_
  refine gm_init (J := mX4_init) (d1 := d - 1) (k := 74) (by simp only [List.length_append, List.length_cons, List.length_nil, Nat.reduceAdd, X5_init_tl, X6_init_tl, X2_init_tl, X3_init_tl, X0_init_tl, X4_init_tl]) [.ref (320 + (X.length + 2)), .ref (320 + (X.length + 6))] _ dX7_init_87 rfl (Or.inl wm_Heliographs_48) jiX4_init jn_Heliographs_Reader jcX4_init rfl rfl jpX4_init rfl ⟨Nat.le_of_ble_eq_true rfl, Nat.le_of_ble_eq_true rfl⟩ (Nat.le_of_ble_eq_true rfl) (by omega) ⟨Nat.le_of_ble_eq_true rfl, Nat.le_of_ble_eq_true rfl⟩ (do_X4_init (n := X.length + 75) (v0 := (320 + (X.length + 2))) (v1 := (320 + (X.length + 6))) (by omega) (zo_len (by simp only [List.length_append, List.length_cons, List.length_nil, Nat.reduceAdd, X5_init_tl, X6_init_tl, X2_init_tl, X3_init_tl, X0_init_tl, X4_init_tl])) (zo_at (by simp only [List.length_append, List.length_cons, List.length_nil, Nat.reduceAdd, X5_init_tl, X6_init_tl, X2_init_tl, X3_init_tl, X0_init_tl, X4_init_tl]))) ?_
  refine gm_putfF hi 2 dX7_init_90 rfl wf_Heliographs_51 (Nat.le_of_ble_eq_true rfl) jo_Heliographs ju_Heliographs rfl rfl rfl tyX7 tyX7_ok nmX7 rfl (fun _ => ⟨rfl, rfl⟩) ?_
  refine gz_return_ dX7_init_93 rfl ?_
  exact hq
end

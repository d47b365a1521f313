/-! WHAT IS KNOWN OF THE TABLES AT THE START -/
section
variable {b : Nat} {s : State}
theorem lw_in {w : Cond} (k : Nat) (h : tables_1[k]? = some w) : w ∈ lw_tbl := List.mem_append_right _ (List.mem_of_getElem? h)
/-- the words at the start -/
def oTs (b : Nat) (s : State) : Prop := ∀ w ∈ lw_tbl, w.before #[Value.ref b] s = true
theorem oTs.g (hT : oTs b s) : ∀ w ∈ zk_tg, w.before #[Value.ref b] s = true := fun w hw => hT w (List.mem_filter.mp hw).1
/-- a field's place -/
def oSl (s : State) (r : String × u_T × Nat) (j : Nat) : Nat := match s.fieldFound? (r.2.1 j).1 (r.2.1 j).2.1 (r.2.1 j).2.2.1 with
  | some x => x.2.2.2.slot
  | none => 0
theorem oSl_of {r : String × u_T × Nat} {j : Nat} {cf : ClassId} {kf : Class} {fi : Nat} {f : Field} (h : s.fieldFound? (r.2.1 j).1 (r.2.1 j).2.1 (r.2.1 j).2.2.1 = some (cf, kf, fi, f)) : oSl s r j = f.slot := by
  unfold oSl
  rw [h]
/-- what is known at the start -/
def oGa (b : Nat) (s : State) : zk_G := ((fun k => (s.vm.findClass (((zk_cs[k]?).map (fun r => r.1)).getD "")).getD 0, fun k j => ((zk_cs[k]?).map (fun r => oSl s r j)).getD 0), s.heap, fun k a => if a < 320 then ((s.heap[oR b s a]?).map (fun c => c.cls)).getD 0 else (s.vm.findClass ("[" ++ (zk_ty k).toString)).getD 0, oR b s, fun _ => False)
theorem oGa_old {k a : Nat} {cell : Cell} (ha : a < 320) (h : s.heap[oR b s a]? = some cell) : (oGa b s).2.2.1 k a = cell.cls := by
  show (if a < 320 then ((s.heap[oR b s a]?).map (fun c => c.cls)).getD 0 else (s.vm.findClass ("[" ++ (zk_ty k).toString)).getD 0) = cell.cls
  rw [if_pos ha, h]
  rfl
theorem oGa_new {k a : Nat} {c : ClassId} (ha : 320 ≤ a) (h : s.vm.findClass ("[" ++ (zk_ty k).toString) = some c) : (oGa b s).2.2.1 k a = c := by
  show (if a < 320 then ((s.heap[oR b s a]?).map (fun c => c.cls)).getD 0 else (s.vm.findClass ("[" ++ (zk_ty k).toString)).getD 0) = c
  rw [if_neg (by omega), h]
  rfl
theorem oGa_cls {k : Nat} {r : String × u_T × Nat} {c : ClassId} (hk : zk_cs[k]? = some r) (h : s.vm.findClass r.1 = some c) : (oGa b s).1.1 k = c := by
  show (s.vm.findClass (((zk_cs[k]?).map (fun r => r.1)).getD "")).getD 0 = c
  have e : ((zk_cs[k]?).map (fun r => r.1)).getD "" = r.1 := by rw [hk]; rfl
  rw [e, h]
  rfl
theorem oGa_sl {k j : Nat} {r : String × u_T × Nat} (hk : zk_cs[k]? = some r) : (oGa b s).1.2 k j = oSl s r j := by
  show ((zk_cs[k]?).map (fun r => oSl s r j)).getD 0 = oSl s r j
  rw [hk]
  rfl
theorem o_cls {C : String} {T : u_T} {n m : Nat} (hts : ∀ w ∈ zk_tg, w.before #[Value.ref b] s = true) (hin : ∀ w ∈ u_ws C T n, w ∈ zk_tg) (hi : Cond.instantiable C m ∈ zk_tg) : (∃ c : ClassId, s.vm.findClass C = some c) ∧ ∀ j, j < n → ∃ (cf : ClassId) (kf : Class) (fi : Nat) (f : Field), s.fieldFound? (T j).1 (T j).2.1 (T j).2.2.1 = some (cf, kf, fi, f) ∧ f.isStatic = false := by
  obtain ⟨c, k, h1, h2, -⟩ := Cond.instantiable_spec (hts _ hi)
  refine ⟨⟨c, h1⟩, fun j hj => ?_⟩
  rcases u_lays hts hin hj with q | q
  · obtain ⟨c', k', cf, kf, fi, f, r1, r2, r3, r4, -⟩ := Cond.lays_spec q
    exact ⟨cf, kf, fi, f, r3, r4⟩
  · obtain ⟨c', k', cf, kf, fi, f, r1, r2, r3, r4, -⟩ := Cond.laysFinal_spec q
    exact ⟨cf, kf, fi, f, r3, r4⟩
theorem o_text (h : oGv b s) {i : Nat} (hi : i < 48) : ∃ t : Nat, zo_v i 0 = .ref t ∧ ev #[Value.ref b] s (.field (oK i) "Heliographs$Kind" "text" "Ljava/lang/String;") = some (.ref (oR b s t)) := by
  obtain ⟨q, cell, h1, h2, h3, h4, h5, h6⟩ := o_kind h hi
  obtain ⟨x, hx, e1, e2, e3⟩ := o_kt ⟨i, hi⟩
  have g := o_rep h hx
  rw [e1, e2] at g
  exact ⟨x.2.2.2, e3, ev_ref h6 g⟩
theorem o_all (hT : oTs b s) (h : oGv b s) : ∀ r ∈ zk_cs, (∃ c : ClassId, s.vm.findClass r.1 = some c) ∧ ∀ j, j < r.2.2 → ∃ (cf : ClassId) (kf : Class) (fi : Nat) (f : Field), s.fieldFound? (r.2.1 j).1 (r.2.1 j).2.1 (r.2.1 j).2.2.1 = some (cf, kf, fi, f) ∧ f.isStatic = false := by
  intro r hr
  simp only [zk_cs, List.mem_cons, List.mem_nil_iff, or_false] at hr
  rcases hr with rfl | rfl | rfl | rfl | rfl | rfl | rfl | rfl | rfl | rfl | rfl
  · exact o_cls hT.g ju_Heliographs jo_Heliographs
  · exact o_cls hT.g ju_Heliographs_Chain jo_Heliographs_Chain
  · exact o_cls hT.g ju_Heliographs_Orders jo_Heliographs_Orders
  · exact o_cls hT.g ju_Heliographs_Plan jo_Heliographs_Plan
  · exact o_cls hT.g ju_Heliographs_Reader jo_Heliographs_Reader
  · exact o_cls hT.g ju_Heliographs_Tape jo_Heliographs_Tape
  · exact o_cls hT.g ju_Heliographs_Tokens jo_Heliographs_Tokens
  · exact o_cls hT.g ju_HeliographsLaw_Sim jo_HeliographsLaw_Sim
  · exact o_cls hT.g ju_String jo_String
  · exact o_cls hT.g ju_StringBuilder jo_StringBuilder
  · obtain ⟨q, cell, h1, h2, h3, h4, h5, h6⟩ := o_kind h (i := 0) (by omega)
    refine ⟨⟨_, h3⟩, fun j hj => ?_⟩
    obtain ⟨t, -, g⟩ := o_text h (i := 0) (by omega)
    exact ev_ff g
theorem o_kc (hT : oTs b s) (h : oGv b s) : zk_Kc (oGa b s) s := by
  intro k r hk
  obtain ⟨⟨c, h1⟩, h2⟩ := o_all hT h r (List.mem_of_getElem? hk)
  refine ⟨?_, fun j hj => ?_⟩
  · rw [oGa_cls hk h1]
    exact h1
  · obtain ⟨cf, kf, fi, f, g1, g2⟩ := h2 j hj
    exact ⟨cf, kf, fi, f, g1, g2, by rw [oGa_sl hk, oSl_of g1]⟩
theorem o_arrT {c : ClassId} {k : Class} {comp : ClassId} {ty : FieldType} (hk : s.vm.classes[c]? = some k) (hkind : k.kind = .array comp ty) : ArrOfT s c ty := fun n z => ⟨fun x hx => (by unfold arrV at hx; cases hx), k, hk, comp, hkind⟩
theorem o_arrC {cell : Cell} {ty : FieldType} (h : s.isArrayOf cell ty) : ArrOfT s cell.cls ty := by
  obtain ⟨-, k, hk, comp, hkind⟩ := h
  exact o_arrT hk hkind
theorem o_prim {ty : FieldType} (h : (Cond.arrayClass ty).before #[Value.ref b] s = true) : ∃ c : ClassId, s.vm.findClass ("[" ++ ty.toString) = some c ∧ ArrOfT s c ty := by
  obtain ⟨c, k, comp, h1, h2, h3⟩ := Cond.arrayClass_spec h
  exact ⟨c, h1, o_arrT h2 h3⟩
theorem o_new (hT : oTs b s) : ∀ k, k < 6 → ∃ c : ClassId, s.vm.findClass ("[" ++ (zk_ty k).toString) = some c ∧ ArrOfT s c (zk_ty k) ∧ va_RA s c (zk_ty k) := by
  intro k hk
  rcases (show k = 0 ∨ k = 1 ∨ k = 2 ∨ k = 3 ∨ k = 4 ∨ k = 5 by omega) with rfl | rfl | rfl | rfl | rfl | rfl
  · obtain ⟨c, h1, h2⟩ := o_prim (ty := .int) (hT _ (lw_in 51 (by decide +kernel)))
    exact ⟨c, h1, h2, h1⟩
  · obtain ⟨c, h1, h2⟩ := o_prim (ty := .long) (hT _ (lw_in 82 (by decide +kernel)))
    exact ⟨c, h1, h2, h1⟩
  · obtain ⟨c, h1, h2⟩ := o_prim (ty := .boolean) (hT _ (lw_in 269 (by decide +kernel)))
    exact ⟨c, h1, h2, h1⟩
  · obtain ⟨c, h1, h2⟩ := o_prim (ty := .byte) (hT _ (lw_in 392 (by decide +kernel)))
    exact ⟨c, h1, h2, h1⟩
  · obtain ⟨comp, c, kc, h1, -, h3, h4, h5⟩ := Cond.arrayOver_spec (n := "Heliographs$Kind") (hT _ (lw_in 59 (by decide +kernel)))
    exact ⟨c, h5, o_arrT h3 h4, kc, comp, h3, h4, h1, h5⟩
  · obtain ⟨comp, c, kc, h1, -, h3, h4, h5⟩ := arrayOverA_spec (t := .int) (hT _ (lw_in 699 (by decide +kernel)))
    exact ⟨c, h5, o_arrT h3 h4, h5⟩
theorem o_fin : ∀ a : Fin 96, (zo_s (a.val + 60) = (8, 2) ∧ zo_v (a.val + 60) 0 = .ref (a.val + 160) ∧ zo_v (a.val + 60) 1 = .int (iZ 0)) ∧ (zo_s (a.val + 160)).1 = 103 ∧ (zo_s (a.val + 160)).2 < 1000 ∧ (a.val + 160, 3) ∈ zk_oa := by decide +kernel
theorem o_digs : zo_s 48 = (104, 48) ∧ zo_s 49 = (103, 100) ∧ zo_s 50 = (103, 100) := by decide +kernel
/-- a row of bytes -/
theorem o_byte (h : oGv b s) {a : Nat} (ha : a = 49 ∨ a = 50 ∨ (160 ≤ a ∧ a < 256)) : ∃ cell : Cell, s.heap[oR b s a]? = some cell ∧ cell.vm ≠ .unknown ∧ cell.vm.isStatics = false ∧ s.isArrayOf cell .byte ∧ cell.slots.size = (zo_s a).2 ∧ ∀ j, j < (zo_s a).2 → cell.slots[j]? = some (.int (oZ (zo_v a j))) := by
  rcases ha with rfl | rfl | ⟨h1, h2⟩
  · obtain ⟨v, vc, g1, g2⟩ := o_dig (fun w hw => h.d1 hw)
    have e : oR b s 49 = v := oR_of g1
    rw [e, o_digs.2.1]
    exact ⟨vc, g2⟩
  · obtain ⟨v, vc, g1, g2⟩ := o_dig (fun w hw => h.d2 hw)
    have e : oR b s 50 = v := oR_of g1
    rw [e, o_digs.2.2]
    exact ⟨vc, g2⟩
  · obtain ⟨q, hq, e1, -, e2⟩ := o_sr ⟨a - 160, by omega⟩
    obtain ⟨x, cell, v, vc, -, -, -, -, -, g, g2⟩ := o_str h hq
    have e3 : (⟨a - 160, by omega⟩ : Fin 96).val + 160 = a := by show a - 160 + 160 = a; omega
    have e4 : q.2.2.2 + 100 = a := by
      rw [e1]
      show a - 160 + 60 + 100 = a
      omega
    rw [e3] at e2
    rw [e4] at g2
    have e : oR b s a = v := oR_of (by rw [e2]; exact g)
    rw [e]
    exact ⟨vc, g2⟩
theorem o_oa : ∀ q ∈ zk_oa, (q.1 = 48 ∧ q.2 = 4) ∨ ((q.1 = 49 ∨ q.1 = 50 ∨ (160 ≤ q.1 ∧ q.1 < 256)) ∧ q.2 = 3) ∨ (q.1 = 56 ∧ q.2 = 0) := by decide +kernel
theorem o_ka (hT : oTs b s) (h : oGv b s) {L : Nat} {xs : Nat → Int32} (hX : va_X b L xs s s.heap) : zk_Ka (oGa b s) s := by
  refine ⟨fun k a hk ha => ?_, fun q hq => ?_⟩
  · obtain ⟨c, h1, h2, h3⟩ := o_new hT k hk
    rw [oGa_new (show 320 ≤ a from ha) h1]
    exact ⟨h1, h2, h3⟩
  · obtain ⟨a, k⟩ := q
    rcases o_oa _ hq with ⟨e1, e2⟩ | ⟨e1, e2⟩ | ⟨e1, e2⟩
    · dsimp only at e1 e2
      subst e1 e2
      obtain ⟨v, vc, g1, g2, -, -, g5, -⟩ := o_kinds h
      have e : oR b s 48 = v := oR_of g1
      show ArrOfT s ((oGa b s).2.2.1 4 48) (.object "Heliographs$Kind")
      rw [oGa_old (cell := vc) (by omega) (by rw [e]; exact g2)]
      exact o_arrC g5
    · dsimp only at e1 e2
      subst e2
      obtain ⟨cell, g1, -, -, g4, -⟩ := o_byte h e1
      show ArrOfT s ((oGa b s).2.2.1 3 a) .byte
      rw [oGa_old (cell := cell) (by omega) g1]
      exact o_arrC g4
    · dsimp only at e1 e2
      subst e1 e2
      obtain ⟨scr, g1, g2, -⟩ := hX
      show ArrOfT s ((oGa b s).2.2.1 0 56) .int
      rw [oGa_old (cell := scr) (by omega) (by rw [o_arg]; exact g1)]
      exact o_arrC g2
set_option maxRecDepth 100000 in
theorem o_srw : List.Sublist (zk_sr.map fun q => Cond.stringRef q.1 q.2.1 q.2.2.1) tables_1 := by decide +kernel
theorem o_kr (hT : oTs b s) (h : oGv b s) : zk_Kr (oGa b s) s := by
  intro q hq
  exact vk_R.of (hT _ (List.mem_append_right _ (o_srw.subset (List.mem_map.mpr ⟨q, hq, rfl⟩)))) (o_rep h hq)
theorem o_st : ∀ q ∈ zk_st, (∃ i ∈ List.range 48, q = ("Heliographs$Kind", oN i, "LHeliographs$Kind;", .ref i)) ∨ q ∈ ([("Heliographs", "KINDS", "[LHeliographs$Kind;", .ref 48), ("java/lang/String", "COMPACT_STRINGS", "Z", .int 1), ("java/lang/Integer", "DigitOnes", "[B", .ref 49), ("java/lang/Integer", "DigitTens", "[B", .ref 50)] : List (String × String × String × Value)) := by decide +kernel
theorem o_stw : ∀ q ∈ zk_st, Cond.laysStatic q.1 q.2.1 q.2.2.1 ∈ tables_1 ∧ Cond.initialized q.1 ∈ tables_1 := by decide +kernel
theorem o_ks (hT : oTs b s) (h : oGv b s) : zk_Ks (oGa b s) s := by
  intro q hq
  refine va_Zof (args := #[Value.ref b]) (hT _ (List.mem_append_right _ (o_stw q hq).1)) (hT _ (List.mem_append_right _ (o_stw q hq).2)) ?_ (fun a ha => by show ¬ s.heap.size ≤ a; omega)
  rcases o_st q hq with ⟨i, hi, rfl⟩ | hq
  · have hi2 : i < 48 := List.mem_range.mp hi
    have g := o_ev h (a := i) (Or.inl (by omega))
    rw [oT_k hi2] at g
    exact g
  · simp only [List.mem_cons, List.mem_nil_iff, or_false] at hq
    rcases hq with rfl | rfl | rfl | rfl
    · exact o_ev h (a := 48) (Or.inl (by omega))
    · exact va_eqi (h _ (oW_x _ (by first | decide +kernel | simp)))
    · exact o_ev h (a := 49) (Or.inl (by omega))
    · exact o_ev h (a := 50) (Or.inl (by omega))
theorem o_kz (hT : oTs b s) (h : oGv b s) : zk_Kz (oGa b s) s := by
  have hA : ∀ a : Nat, a < s.heap.size → ¬ (fun x => (oGa b s).2.1.size ≤ x) a := fun a ha => by show ¬ s.heap.size ≤ a; omega
  refine ⟨vx_Zqof (args := #[Value.ref b]) (hT _ (lw_in 352 (by decide +kernel))) (hT _ (lw_in 20 (by decide +kernel))) (h _ (oW_x _ (by first | decide +kernel | simp))) hA, vx_Zqof (args := #[Value.ref b]) (hT _ (lw_in 354 (by decide +kernel))) (hT _ (lw_in 20 (by decide +kernel))) (h _ (oW_x _ (by first | decide +kernel | simp))) hA, ?_⟩
  rcases va_Zqof (args := #[Value.ref b]) (C := "jdk/internal/util/Preconditions") (n := "SIOOBE_FORMATTER") (d := "Ljava/util/function/BiFunction;") (hT _ (lw_in 784 (by decide +kernel))) (hT _ (lw_in 10 (by decide +kernel))) (h _ (oW_x (.isRef oF) (by first | decide +kernel | simp))) hA with q | ⟨t, q⟩
  · exact ⟨.null, Or.inl rfl, q⟩
  · refine ⟨.ref 51, Or.inr rfl, ?_⟩
    have e : oR b s 51 = t := by
      obtain ⟨cf, kf, fi, f, a, cell, h1, h2, h3, h4, h5, h6, h7, -⟩ := q
      refine oR_of ?_
      show (Term.static _ _ _).eval _ _ _ _ _ = _
      simp [Term.eval, State.fieldNamed?, h1, h2, h4, h5, h6, h7]
    show va_Z _ _ _ (.ref (oR b s 51)) _ _ _
    rw [e]
    exact q
theorem o_kx (hT : oTs b s) : zk_Kx s := by
  refine ⟨fun q hq => ?_, fun q hq => ?_, va_AO.of (hT _ (lw_in 59 (by decide +kernel))), (show (Cond.arrayOver (.array .int)).before #[Value.ref b] s = true from (hT _ (lw_in 699 (by decide +kernel)))), fun w hw => ?_⟩
  · simp only [zk_nf, List.mem_cons, List.mem_nil_iff, or_false] at hq
    subst hq
    exact (va_Nw.of rfl (hT _ (lw_in 869 (by decide +kernel))))
  · simp only [zk_nm, List.mem_cons, List.mem_nil_iff, or_false] at hq
    rcases hq with rfl | rfl | rfl | rfl | rfl
    · exact (va_Nw.of rfl (hT _ (lw_in 38 (by decide +kernel))))
    · exact (va_Nw.of rfl (hT _ (lw_in 54 (by decide +kernel))))
    · exact (va_Nw.of rfl (hT _ (lw_in 85 (by decide +kernel))))
    · exact (va_Nw.of rfl (hT _ (lw_in 91 (by decide +kernel))))
    · exact (va_Nw.of rfl (hT _ (lw_in 1145 (by decide +kernel))))
  · simp only [zk_xw, List.mem_cons, List.mem_nil_iff, or_false] at hw
    rcases hw with rfl | rfl | rfl | rfl | rfl | rfl | rfl | rfl | rfl
    · exact (va_Nw.of rfl (hT _ (lw_in 333 (by decide +kernel))))
    · exact (va_Nw.of rfl (hT _ (lw_in 331 (by decide +kernel))))
    · exact (va_Nw.of rfl (hT _ (lw_in 329 (by decide +kernel))))
    · exact (va_Nw.of rfl (hT _ (lw_in 813 (by decide +kernel))))
    · exact (va_Nw.of rfl (hT _ (lw_in 1221 (by decide +kernel))))
    · exact va_Nw.of rfl (zs_private (C := "java/lang/StringBuilder") (x0 := ({ cls := "java/lang/AbstractStringBuilder", name := "isLatin1", desc := "()Z" } : Jvm.MethodName)) (y0 := ({ cls := "java/lang/AbstractStringBuilder", name := "isLatin1", desc := "()Z" } : Jvm.MethodName)) (n := 4) hT ⟨by decide +kernel, by decide +kernel⟩ (lw_in 1339 (by decide +kernel)) (lw_in 1195 (by decide +kernel)) (lw_in 1196 (by decide +kernel)) (lw_in 1230 (by decide +kernel)) rfl)
    · exact va_Nw.of rfl (zs_private (C := "java/lang/StringBuilder") (x0 := ({ cls := "java/lang/AbstractStringBuilder", name := "isLatin1", desc := "()Z" } : Jvm.MethodName)) (y0 := ({ cls := "java/lang/AbstractStringBuilder", name := "isLatin1", desc := "()Z" } : Jvm.MethodName)) (n := 4) hT ⟨by decide +kernel, by decide +kernel⟩ (lw_in 1339 (by decide +kernel)) (lw_in 1199 (by decide +kernel)) (lw_in 1200 (by decide +kernel)) (lw_in 1230 (by decide +kernel)) rfl)
    · exact va_Nw.of rfl (zs_private (C := "java/lang/StringBuilder") (x0 := ({ cls := "java/lang/AbstractStringBuilder", name := "isLatin1", desc := "()Z" } : Jvm.MethodName)) (y0 := ({ cls := "java/lang/AbstractStringBuilder", name := "isLatin1", desc := "()Z" } : Jvm.MethodName)) (n := 4) hT ⟨by decide +kernel, by decide +kernel⟩ (lw_in 1339 (by decide +kernel)) (lw_in 1250 (by decide +kernel)) (lw_in 1251 (by decide +kernel)) (lw_in 1230 (by decide +kernel)) rfl)
    · exact va_Nw.of rfl (zs_private (C := "java/lang/StringBuilder") (x0 := ({ cls := "java/lang/AbstractStringBuilder", name := "isLatin1", desc := "()Z" } : Jvm.MethodName)) (y0 := ({ cls := "java/lang/AbstractStringBuilder", name := "isLatin1", desc := "()Z" } : Jvm.MethodName)) (n := 4) hT ⟨by decide +kernel, by decide +kernel⟩ (lw_in 1339 (by decide +kernel)) (lw_in 1254 (by decide +kernel)) (lw_in 1255 (by decide +kernel)) (lw_in 1230 (by decide +kernel)) rfl)
theorem o_kn (hT : oTs b s) (h : oGv b s) {L : Nat} {xs : Nat → Int32} (hX : va_X b L xs s s.heap) : zk_Kn (oGa b s) s := ⟨o_kc hT h, o_ka hT h hX, o_ks hT h, o_kr hT h, o_kz hT h, o_kx hT⟩
end

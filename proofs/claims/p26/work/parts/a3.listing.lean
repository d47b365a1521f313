/-! THE LIST: rules; a new chain by hand; the lines -/
section
variable {l : Launch} {Γ : zk_G} {d : Nat} {F : Heap → Prop}
/-- all that the list is made in: old cells, script, chain by hand, builder -/
def zLQ (len : Nat) (s : Nat → Int32) (M : zk_M) (S : Nat) (tk c n : Nat → Nat) (r : Nat → Nat → Nat) (V : Nat → Nat → Nat → Int) (a b cap : Nat) (T : List Int) : Prop := zOl0 len s M ∧ zLI M S tk c n r V ∧ zSB M a b cap T ∧ cap ≤ 4100
section
variable {len : Nat} {s : Nat → Int32} {M M' : zk_M} {S : Nat} {tk c n : Nat → Nat} {r : Nat → Nat → Nat} {V : Nat → Nat → Nat → Int} {a b cap : Nat} {T : List Int}
theorem zLQ.ol (h : zLQ len s M S tk c n r V a b cap T) (e : zOl M M') : zLQ len s M' S tk c n r V a b cap T := ⟨h.1.ol e, h.2.1.ol e, e.sb h.2.2.1, h.2.2.2⟩
theorem zLQ.push {W : Nat → Int} {k q j : Nat} (h : zLQ len s M S tk c n r V a b cap T) (e : zOl M M') (hk : k < 5) (hj : n k = j) (hq : M.2.1 ≤ q ∧ q < M'.2.1) (hq1 : M'.1 q = (100, zG_w k)) (hq2 : ∀ i, i < zG_w k → M'.2.2 q i = .int (iZ (W i))) :
    zLQ len s (M'.1, M'.2.1, zk_up M'.2.2 (tk k) j (.ref q)) S tk c (fu n k (j + 1)) (fu r k (fu (r k) j q)) (fu V k (fu (V k) j W)) a b cap T := by
  subst hj
  have h320 := h.1.1
  have ht := (h.2.1.2.2.1 k hk).1
  refine ⟨(h.1.ol e).up ht.2.1, h.2.1.push e hk hq hq1 hq2 (by omega), (e.sb h.2.2.1).up ⟨fun w => ?_, fun w => ?_⟩, h.2.2.2⟩
  · have := h.2.2.1.1.1
    rw [← w, ht.1] at this
    cases this
  · have := h.2.2.1.2.1.1
    rw [← w, ht.1] at this
    cases this
theorem zLQ.table {k q N : Nat} (h : zLQ len s M S tk c n r V a b cap T) (e : zOl M M') (hk : k < 5) (hq : M.2.1 ≤ q ∧ q < M'.2.1) (hq1 : M'.1 q = (105, N)) : zLQ len s (M'.1, M'.2.1, zk_up M'.2.2 S (3 + k) (.ref q)) S (fu tk k q) (fu c k N) (fu n k 0) r V a b cap T := by
  have h320 := h.1.1
  have hS := h.2.1.1
  refine ⟨(h.1.ol e).up hS.2.1, h.2.1.table e hk hq hq1 (by omega), (e.sb h.2.2.1).up ⟨fun w => ?_, fun w => ?_⟩, h.2.2.2⟩
  · have := h.2.2.1.1.1
    rw [← w, hS.1] at this
    cases this
  · have := h.2.2.1.2.1.1
    rw [← w, hS.1] at this
    cases this
theorem zLQ.kp {b' cap' : Nat} {T' : List Int} (h : zLQ len s M S tk c n r V a b cap T) (g : zSB M' a b' cap' T') (hc : cap' ≤ 4100) (e : zKp M M' a b b') : zLQ len s M' S tk c n r V a b' cap' T' := ⟨h.1.kp ⟨h.2.2.1.1.2.1, h.2.2.1.2.1.2.1⟩ e, h.2.1.kp h.2.2.1 e, g, hc⟩
section
variable {I : zk_MI} {kc ks : Nat} {Q : Option Value → zk_M → (Heap → Prop) → Prop} {pc idx : Nat} {L : List (Option Value)} {st : List Value}
theorem zk_Go.le {kc2 ks2 : Nat} (h : zk_Go l Γ I d kc ks Q pc L st M F) (h1 : kc ≤ kc2) (h2 : ks ≤ ks2) : zk_Go l Γ I d kc2 ks2 Q pc L st M F := by
  intro p e R9 s m args below meth c H locs cells slots Qf A ρ ls hc hr hs hR hA hS hL hW hE
  exact h p e R9 s m args below meth c H locs cells slots Qf A ρ ls hc hr ⟨by omega, by omega⟩ hR hA hS hL hW (hE.later zk_ext.refl (by omega) (by omega))
theorem gq_S (i : Nat) {g : List Int} (hd : decode I.2.1 pc = .ok (.invokevirtual idx, 3)) (hw : Cond.methodLink I.1.cls idx yJ4_append_15ec4 ∈ zk_tg) (hs : zSg M i (i + 100) g) (hi : i + 100 < 320) (hP : zLQ len s M S tk c n r V a b cap T) (hl : (T ++ g).length ≤ 2000) (hsum : (st.map fun v => v.category).sum ≤ 8) (hd1 : 6 ≤ d)
    (kk : ∀ M' b' cap', zLQ len s M' S tk c n r V a b' cap' (T ++ g) → zk_Go l Γ I d kc ks Q (pc + 3) L (.ref a :: st) M' F) : zk_Go l Γ I d (kc + 1) (ks + 4100) Q pc L (.ref i :: .ref a :: st) M F :=
  gl_appS (sb := i + 100) hd hw hP.2.2.1 hs ⟨by have := hP.1.1; omega, by have := hP.1.1; omega, by have := hP.2.2.1.2.1.2.1; omega⟩ hl hP.2.2.2 ⟨by omega, by omega⟩ hsum hd1 (fun M' b' cap' h1 h2 h3 => (kk M' b' cap' (hP.kp h1 h2 h3)).le (by omega) (by omega))
theorem gq_I {x : Nat} (hd : decode I.2.1 pc = .ok (.invokevirtual idx, 3)) (hw : Cond.methodLink I.1.cls idx yJ4_append_bf812 ∈ zk_tg) (hP : zLQ len s M S tk c n r V a b cap T) (hx : x < 1000) (hl : (T ++ zDec x).length ≤ 2000) (hsum : (st.map fun v => v.category).sum ≤ 8) (hd1 : 6 ≤ d)
    (kk : ∀ M' b' cap', zLQ len s M' S tk c n r V a b' cap' (T ++ zDec x) → zk_Go l Γ I d kc ks Q (pc + 3) L (.ref a :: st) M' F) : zk_Go l Γ I d (kc + 1) (ks + 4100) Q pc L (.int (iZ (x : Int)) :: .ref a :: st) M F :=
  gl_appI hd hw hP.2.2.1 hP.1.dig hP.1.1 hx hl hP.2.2.2 ⟨by omega, by omega⟩ hsum hd1 (fun M' b' cap' h1 h2 h3 => (kk M' b' cap' (hP.kp h1 h2 h3)).le (by omega) (by omega))
theorem gq_newa {N : Nat} {z : Int} (hd : decode I.2.1 pc = .ok (.newarray .int, 2)) (hz : z = (N : Int)) (hN : N ≤ 1000) (kk : ∀ A : zk_M, zOl M A → A.2.1 = M.2.1 + 1 → A.1 M.2.1 = (100, N) → A.2.2 M.2.1 = (fun _ => .int 0) → zk_Go l Γ I d kc ks Q (pc + 2) L (.ref M.2.1 :: st) A F) : zk_Go l Γ I d (kc + 1) (ks + N) Q pc L (.int (iZ z) :: st) M F :=
  gz_newa (k := 0) (len := N) (v0 := .int 0) hd rfl (by decide) wa_int hz (by omega) (Nat.le_of_ble_eq_true rfl) rfl (fun x q => nomatch q) ⟨by omega, by omega⟩ ((kk _ zOl.add rfl zk_add_at.1 zk_add_at.2).le (by omega) (by omega))
theorem gq_anew {N : Nat} {z : Int} (hd : decode I.2.1 pc = .ok (.anewarray idx, 3)) (hw : Cond.classLink I.1.cls idx "[I" ∈ zk_tg) (hz : z = (N : Int)) (hN : N ≤ 1000) (kk : ∀ A : zk_M, zOl M A → A.2.1 = M.2.1 + 1 → A.1 M.2.1 = (105, N) → A.2.2 M.2.1 = (fun _ => .null) → zk_Go l Γ I d kc ks Q (pc + 3) L (.ref M.2.1 :: st) A F) : zk_Go l Γ I d (kc + 1) (ks + N) Q pc L (.int (iZ z) :: st) M F :=
  gz_anewI (len := N) hd hw hz (by omega) ⟨by omega, by omega⟩ ((kk _ zOl.add rfl zk_add_at.1 zk_add_at.2).le (by omega) (by omega))
/-- a row's number is read -/
theorem gq_row {k j i : Nat} {z : Int} {x : Int} (hd : decode I.2.1 pc = .ok (.iaload, 1)) (hP : zLQ len s M S tk c n r V a b cap T) (hk : k < 5) (hj : j < n k) (hz : z = (i : Int)) (hi : i < zG_w k) (hx : V k j i = x) (kk : zk_Go l Γ I d kc ks Q (pc + 1) L (.int (iZ x) :: st) M F) : zk_Go l Γ I d kc ks Q pc L (.int (iZ z) :: .ref (r k j) :: st) M F :=
  gz_iald (n := i) hd ((hP.2.1.2.2.1 k hk).2 j hj).2.1 hz hi ((((hP.2.1.2.2.1 k hk).2 j hj).2.2.2.2 i hi).trans (by rw [hx])) kk
theorem gq_tab {k j : Nat} {z : Int} (hd : decode I.2.1 pc = .ok (.aaload, 1)) (hP : zLQ len s M S tk c n r V a b cap T) (hk : k < 5) (hz : z = (j : Int)) (hj : j < n k ∧ j < c k) (kk : zk_Go l Γ I d kc ks Q (pc + 1) L (.ref (r k j) :: st) M F) : zk_Go l Γ I d kc ks Q pc L (.int (iZ z) :: .ref (tk k) :: st) M F :=
  gz_aald (k := 5) (n := j) hd (hP.2.1.2.2.1 k hk).1.1 (Or.inr rfl) hz hj.2 ((hP.2.1.2.2.1 k hk).2 j hj.1).1 kk
theorem gq_len {k : Nat} (hd : decode I.2.1 pc = .ok (.arraylength, 1)) (hP : zLQ len s M S tk c n r V a b cap T) (hk : k < 5) (kk : zk_Go l Γ I d kc ks Q (pc + 1) L (.int (iZ (c k : Int)) :: st) M F) : zk_Go l Γ I d kc ks Q pc L (.ref (tk k) :: st) M F :=
  gz_alen (k := 5) hd (hP.2.1.2.2.1 k hk).1.1 (by decide) kk
end
/-- a new chain by hand -/
theorem zS_init (h1 : M.1 S = (7, 8)) (h2 : 320 ≤ S ∧ S < M.2.1) (h3 : M.2.2 S = fun j => defaultValue (tyX8 j)) (hn : 320 ≤ M.2.1) (hd : 1 ≤ d) : zDo l Γ mX8_init d 5 0 [.ref S] M F (fun v M' => v = none ∧ zLI M' S (fun k => M.2.1 + k) (fun _ => 0) (fun _ => 0) (fun _ _ => 0) (fun _ _ _ => 0) ∧ M'.2.1 = M.2.1 + 5 ∧ (∀ x, x < M.2.1 → M'.1 x = M.1 x) ∧ ∀ x, x < M.2.1 → x ≠ S → M'.2.2 x = M.2.2 x) := by
  intro Q hq
  refine gz_aload_n dX8_init_0 rfl ?_
  refine gz_objInit dX8_init_1 wm_HeliographsLaw_Sim_1 (Nat.le_of_ble_eq_true rfl) (by omega) ?_
  refine gz_aload_n dX8_init_4 rfl ?_
  refine zz_iconst dX8_init_5 ?_
  refine gz_putf (T := TX8) (N := 8) 2 dX8_init_6 h1 rfl wf_HeliographsLaw_Sim_7 (by omega) h2.1 jo_HeliographsLaw_Sim ju_HeliographsLaw_Sim rfl tyX8 tyX8_ok nmX8 rfl (fun _ => ⟨rfl, rfl⟩) ?_
  obtain ⟨A0, hA0⟩ : ∃ X : zk_M, X = (M.1, M.2.1, zk_up M.2.2 S 2 (.int (iZ (-1)))) := ⟨_, rfl⟩
  have e0 : A0.2.1 = M.2.1 ∧ A0.1 = M.1 ∧ (∀ x, x ≠ S → A0.2.2 x = M.2.2 x) ∧ (∀ j, A0.2.2 S j = if j = 2 then .int (iZ (-1)) else M.2.2 S j) := by
    rw [hA0]
    refine ⟨rfl, rfl, fun x hx => zk_up_ne hx, fun j => ?_⟩
    show zk_up _ S 2 _ S j = _
    by_cases q : j = 2
    · rw [q, zk_up_a2, if_pos rfl]
    · rw [zk_up_n2 (Or.inr q), if_neg q]
  rw [← hA0]
  refine gz_aload_n dX8_init_9 rfl ?_
  refine zz_iconst dX8_init_10 ?_
  refine gq_anew (N := 0) (kc := 4) (ks := 0) dX8_init_11 wc_HeliographsLaw_Sim_13 rfl (by omega) (fun B0 o0 z0 t0 _ => ?_)
  refine gz_putf (T := TX8) (N := 8) 3 dX8_init_14 ((o0.2.1 S (by omega)).trans ((congrFun e0.2.1 S).trans h1)) rfl wf_HeliographsLaw_Sim_15 (by omega) h2.1 jo_HeliographsLaw_Sim ju_HeliographsLaw_Sim rfl tyX8 tyX8_ok nmX8 rfl (fun _ => ⟨rfl, rfl⟩) ?_
  obtain ⟨A1, hA1⟩ : ∃ X : zk_M, X = (B0.1, B0.2.1, zk_up B0.2.2 S 3 (.ref A0.2.1)) := ⟨_, rfl⟩
  have e1 : A1.2.1 = M.2.1 + 1 ∧ A1.1 S = M.1 S ∧ (∀ x, x < M.2.1 → A1.1 x = M.1 x ∧ (x ≠ S → A1.2.2 x = M.2.2 x)) ∧ (∀ j, A1.2.2 S j = if j = 3 then .ref (M.2.1 + 0) else A0.2.2 S j) ∧ A1.1 (M.2.1 + 0) = (105, 0) ∧ ∀ x, x < M.2.1 + 0 → A1.1 x = A0.1 x := by
    have w0 := e0.1
    rw [hA1]
    refine ⟨by show B0.2.1 = _; omega, (o0.2.1 S (by omega)).trans (congrFun e0.2.1 S), fun x hx => ⟨(o0.2.1 x (by omega)).trans (congrFun e0.2.1 x), fun hxS => (zk_up_ne hxS).trans ((o0.2.2 x (by omega)).trans (e0.2.2.1 x hxS))⟩, fun j => ?_, ?_, fun x hx => o0.2.1 x (by omega)⟩
    · show zk_up _ S 3 _ S j = _
      by_cases q : j = 3
      · rw [q, zk_up_a2, if_pos rfl, w0]
        rfl
      · rw [zk_up_n2 (Or.inr q), if_neg q, o0.2.2 S (by omega)]
    · show B0.1 _ = _
      exact (congrArg B0.1 w0.symm).trans t0
  rw [← hA1]
  refine gz_aload_n dX8_init_17 rfl ?_
  refine zz_iconst dX8_init_18 ?_
  refine gq_anew (N := 0) (kc := 3) (ks := 0) dX8_init_19 wc_HeliographsLaw_Sim_13 rfl (by omega) (fun B1 o1 z1 t1 _ => ?_)
  refine gz_putf (T := TX8) (N := 8) 4 dX8_init_22 ((o1.2.1 S (by omega)).trans (e1.2.1.trans h1)) rfl wf_HeliographsLaw_Sim_19 (by omega) h2.1 jo_HeliographsLaw_Sim ju_HeliographsLaw_Sim rfl tyX8 tyX8_ok nmX8 rfl (fun _ => ⟨rfl, rfl⟩) ?_
  obtain ⟨A2, hA2⟩ : ∃ X : zk_M, X = (B1.1, B1.2.1, zk_up B1.2.2 S 4 (.ref A1.2.1)) := ⟨_, rfl⟩
  have e2 : A2.2.1 = M.2.1 + 2 ∧ A2.1 S = M.1 S ∧ (∀ x, x < M.2.1 → A2.1 x = M.1 x ∧ (x ≠ S → A2.2.2 x = M.2.2 x)) ∧ (∀ j, A2.2.2 S j = if j = 4 then .ref (M.2.1 + 1) else A1.2.2 S j) ∧ A2.1 (M.2.1 + 1) = (105, 0) ∧ ∀ x, x < M.2.1 + 1 → A2.1 x = A1.1 x := by
    have w0 := e1.1
    rw [hA2]
    refine ⟨by show B1.2.1 = _; omega, (o1.2.1 S (by omega)).trans e1.2.1, fun x hx => ⟨(o1.2.1 x (by omega)).trans (e1.2.2.1 x hx).1, fun hxS => (zk_up_ne hxS).trans ((o1.2.2 x (by omega)).trans ((e1.2.2.1 x hx).2 hxS))⟩, fun j => ?_, ?_, fun x hx => o1.2.1 x (by omega)⟩
    · show zk_up _ S 4 _ S j = _
      by_cases q : j = 4
      · rw [q, zk_up_a2, if_pos rfl, w0]
      · rw [zk_up_n2 (Or.inr q), if_neg q, o1.2.2 S (by omega)]
    · show B1.1 _ = _
      exact (congrArg B1.1 w0.symm).trans t1
  rw [← hA2]
  refine gz_aload_n dX8_init_25 rfl ?_
  refine zz_iconst dX8_init_26 ?_
  refine gq_anew (N := 0) (kc := 2) (ks := 0) dX8_init_27 wc_HeliographsLaw_Sim_13 rfl (by omega) (fun B2 o2 z2 t2 _ => ?_)
  refine gz_putf (T := TX8) (N := 8) 5 dX8_init_30 ((o2.2.1 S (by omega)).trans (e2.2.1.trans h1)) rfl wf_HeliographsLaw_Sim_22 (by omega) h2.1 jo_HeliographsLaw_Sim ju_HeliographsLaw_Sim rfl tyX8 tyX8_ok nmX8 rfl (fun _ => ⟨rfl, rfl⟩) ?_
  obtain ⟨A3, hA3⟩ : ∃ X : zk_M, X = (B2.1, B2.2.1, zk_up B2.2.2 S 5 (.ref A2.2.1)) := ⟨_, rfl⟩
  have e3 : A3.2.1 = M.2.1 + 3 ∧ A3.1 S = M.1 S ∧ (∀ x, x < M.2.1 → A3.1 x = M.1 x ∧ (x ≠ S → A3.2.2 x = M.2.2 x)) ∧ (∀ j, A3.2.2 S j = if j = 5 then .ref (M.2.1 + 2) else A2.2.2 S j) ∧ A3.1 (M.2.1 + 2) = (105, 0) ∧ ∀ x, x < M.2.1 + 2 → A3.1 x = A2.1 x := by
    have w0 := e2.1
    rw [hA3]
    refine ⟨by show B2.2.1 = _; omega, (o2.2.1 S (by omega)).trans e2.2.1, fun x hx => ⟨(o2.2.1 x (by omega)).trans (e2.2.2.1 x hx).1, fun hxS => (zk_up_ne hxS).trans ((o2.2.2 x (by omega)).trans ((e2.2.2.1 x hx).2 hxS))⟩, fun j => ?_, ?_, fun x hx => o2.2.1 x (by omega)⟩
    · show zk_up _ S 5 _ S j = _
      by_cases q : j = 5
      · rw [q, zk_up_a2, if_pos rfl, w0]
      · rw [zk_up_n2 (Or.inr q), if_neg q, o2.2.2 S (by omega)]
    · show B2.1 _ = _
      exact (congrArg B2.1 w0.symm).trans t2
  rw [← hA3]
  refine gz_aload_n dX8_init_33 rfl ?_
  refine zz_iconst dX8_init_34 ?_
  refine gq_anew (N := 0) (kc := 1) (ks := 0) dX8_init_35 wc_HeliographsLaw_Sim_13 rfl (by omega) (fun B3 o3 z3 t3 _ => ?_)
  refine gz_putf (T := TX8) (N := 8) 6 dX8_init_38 ((o3.2.1 S (by omega)).trans (e3.2.1.trans h1)) rfl wf_HeliographsLaw_Sim_25 (by omega) h2.1 jo_HeliographsLaw_Sim ju_HeliographsLaw_Sim rfl tyX8 tyX8_ok nmX8 rfl (fun _ => ⟨rfl, rfl⟩) ?_
  obtain ⟨A4, hA4⟩ : ∃ X : zk_M, X = (B3.1, B3.2.1, zk_up B3.2.2 S 6 (.ref A3.2.1)) := ⟨_, rfl⟩
  have e4 : A4.2.1 = M.2.1 + 4 ∧ A4.1 S = M.1 S ∧ (∀ x, x < M.2.1 → A4.1 x = M.1 x ∧ (x ≠ S → A4.2.2 x = M.2.2 x)) ∧ (∀ j, A4.2.2 S j = if j = 6 then .ref (M.2.1 + 3) else A3.2.2 S j) ∧ A4.1 (M.2.1 + 3) = (105, 0) ∧ ∀ x, x < M.2.1 + 3 → A4.1 x = A3.1 x := by
    have w0 := e3.1
    rw [hA4]
    refine ⟨by show B3.2.1 = _; omega, (o3.2.1 S (by omega)).trans e3.2.1, fun x hx => ⟨(o3.2.1 x (by omega)).trans (e3.2.2.1 x hx).1, fun hxS => (zk_up_ne hxS).trans ((o3.2.2 x (by omega)).trans ((e3.2.2.1 x hx).2 hxS))⟩, fun j => ?_, ?_, fun x hx => o3.2.1 x (by omega)⟩
    · show zk_up _ S 6 _ S j = _
      by_cases q : j = 6
      · rw [q, zk_up_a2, if_pos rfl, w0]
      · rw [zk_up_n2 (Or.inr q), if_neg q, o3.2.2 S (by omega)]
    · show B3.1 _ = _
      exact (congrArg B3.1 w0.symm).trans t3
  rw [← hA4]
  refine gz_aload_n dX8_init_41 rfl ?_
  refine zz_iconst dX8_init_42 ?_
  refine gq_anew (N := 0) (kc := 0) (ks := 0) dX8_init_43 wc_HeliographsLaw_Sim_13 rfl (by omega) (fun B4 o4 z4 t4 _ => ?_)
  refine gz_putf (T := TX8) (N := 8) 7 dX8_init_46 ((o4.2.1 S (by omega)).trans (e4.2.1.trans h1)) rfl wf_HeliographsLaw_Sim_28 (by omega) h2.1 jo_HeliographsLaw_Sim ju_HeliographsLaw_Sim rfl tyX8 tyX8_ok nmX8 rfl (fun _ => ⟨rfl, rfl⟩) ?_
  obtain ⟨A5, hA5⟩ : ∃ X : zk_M, X = (B4.1, B4.2.1, zk_up B4.2.2 S 7 (.ref A4.2.1)) := ⟨_, rfl⟩
  have e5 : A5.2.1 = M.2.1 + 5 ∧ A5.1 S = M.1 S ∧ (∀ x, x < M.2.1 → A5.1 x = M.1 x ∧ (x ≠ S → A5.2.2 x = M.2.2 x)) ∧ (∀ j, A5.2.2 S j = if j = 7 then .ref (M.2.1 + 4) else A4.2.2 S j) ∧ A5.1 (M.2.1 + 4) = (105, 0) ∧ ∀ x, x < M.2.1 + 4 → A5.1 x = A4.1 x := by
    have w0 := e4.1
    rw [hA5]
    refine ⟨by show B4.2.1 = _; omega, (o4.2.1 S (by omega)).trans e4.2.1, fun x hx => ⟨(o4.2.1 x (by omega)).trans (e4.2.2.1 x hx).1, fun hxS => (zk_up_ne hxS).trans ((o4.2.2 x (by omega)).trans ((e4.2.2.1 x hx).2 hxS))⟩, fun j => ?_, ?_, fun x hx => o4.2.1 x (by omega)⟩
    · show zk_up _ S 7 _ S j = _
      by_cases q : j = 7
      · rw [q, zk_up_a2, if_pos rfl, w0]
      · rw [zk_up_n2 (Or.inr q), if_neg q, o4.2.2 S (by omega)]
    · show B4.1 _ = _
      exact (congrArg B4.1 w0.symm).trans t4
  rw [← hA5]
  refine gz_return_ dX8_init_49 rfl ?_
  have f3 : M.2.2 S 0 = .int (iZ 0) ∧ M.2.2 S 1 = .int (iZ 0) := by rw [h3]; exact ⟨rfl, rfl⟩
  have g : ∀ j, A5.2.2 S j = if j = 7 then .ref (M.2.1 + 4) else if j = 6 then .ref (M.2.1 + 3) else if j = 5 then .ref (M.2.1 + 2) else if j = 4 then .ref (M.2.1 + 1) else if j = 3 then .ref (M.2.1 + 0) else if j = 2 then .int (iZ (-1)) else M.2.2 S j := fun j => by
    rw [e5.2.2.2.1, e4.2.2.2.1, e3.2.2.2.1, e2.2.2.2.1, e1.2.2.2.1, e0.2.2.2]
  have tb : ∀ k, k < 5 → A5.1 (M.2.1 + k) = (105, 0) := fun k hk => by
    rcases (show k = 0 ∨ k = 1 ∨ k = 2 ∨ k = 3 ∨ k = 4 by omega) with rfl | rfl | rfl | rfl | rfl
    · rw [e5.2.2.2.2.2 _ (by omega), e4.2.2.2.2.2 _ (by omega), e3.2.2.2.2.2 _ (by omega), e2.2.2.2.2.2 _ (by omega)]; exact e1.2.2.2.2.1
    · rw [e5.2.2.2.2.2 _ (by omega), e4.2.2.2.2.2 _ (by omega), e3.2.2.2.2.2 _ (by omega)]; exact e2.2.2.2.2.1
    · rw [e5.2.2.2.2.2 _ (by omega), e4.2.2.2.2.2 _ (by omega)]; exact e3.2.2.2.2.1
    · rw [e5.2.2.2.2.2 _ (by omega)]; exact e4.2.2.2.2.1
    · exact e5.2.2.2.2.1
  refine hq _ A5 ⟨rfl, ⟨⟨e5.2.1.trans h1, h2.1, by rw [e5.1]; omega⟩, ⟨by rw [g]; exact f3.1, by rw [g]; exact f3.2, by rw [g]; rfl, fun k hk => ?_⟩, fun k hk => ⟨⟨tb k hk, by show 320 ≤ M.2.1 + k; omega, by show M.2.1 + k < A5.2.1; rw [e5.1]; omega⟩, fun j hj => absurd (show j < 0 from hj) (by omega)⟩, fun k k' hk hk' he => by have he' : M.2.1 + k = M.2.1 + k' := he; omega, fun k k' j j' _ _ hj _ _ => absurd (show j < 0 from hj) (by omega)⟩, e5.1, fun x hx => (e5.2.2.1 x hx).1, fun x hx q => (e5.2.2.1 x hx).2 q⟩
  rcases (show k = 0 ∨ k = 1 ∨ k = 2 ∨ k = 3 ∨ k = 4 by omega) with rfl | rfl | rfl | rfl | rfl <;> (rw [g]; rfl)
end
end

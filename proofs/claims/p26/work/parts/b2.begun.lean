/-! THE LAW BEGINS -/
section
variable {l : Launch} {Γ : zk_G} {d : Nat} {F : Heap → Prop}
/-- the law itself -/
abbrev mL_law : zk_MI := (yL_law, cL_law, 28, some FieldType.boolean)
theorem zk_vw.trans {ι κ : Nat → Nat} {M2 M1 M : zk_M} (h : zk_vw ι M2 M1) (g : zk_vw κ M1 M) : zk_vw (fun b => κ (ι b)) M2 M := by
  obtain ⟨h1, h2, h3, h4, h5, h6⟩ := h
  obtain ⟨g1, g2, g3, g4, g5, g6⟩ := g
  have lv : ∀ a, a < M2.2.1 → (M2.1 a).1 < 1000 → (M1.1 (ι a)).1 < 1000 := fun a ha hl => by rw [(h4 a ha hl).1]; exact hl
  refine ⟨fun a ha => ⟨?_, ?_⟩, h2, fun a ha => g3 _ (h3 a ha), fun a ha hl => ?_, fun a b ha hb la lb e => ?_, h6⟩
  · show κ (ι a) = a
    rw [(h1 a ha).1, (g1 a ha).1]
  · by_cases q : (M2.1 a).1 < 1000
    · have k1 := (h4 a (by omega) q).1
      have k2 := lv a (by omega) q
      rw [(h1 a ha).1] at k1 k2
      rcases (g1 a ha).2 with w | w
      · exact Or.inl (w.trans k1)
      · omega
    · exact Or.inr (by omega)
  · obtain ⟨q1, q2, q3⟩ := h4 a ha hl
    obtain ⟨k1, k2, k3⟩ := g4 (ι a) (h3 a ha) (lv a ha hl)
    refine ⟨k1.trans q1, fun w => k2 (q2 w), fun j hj => ?_⟩
    rw [k3 j (by rw [q1]; exact hj), q3 j hj]
    cases M2.2.2 a j <;> rfl
  · exact h5 a b ha hb la lb (g5 _ _ (h3 a ha) (h3 b hb) (lv a ha la) (lv b hb lb) e)
theorem zk_v_nr {ι : Nat → Nat} {v : Value} (h : ∀ x, v ≠ .ref x) : zk_v ι v = v := by
  cases v with
  | ref x => exact absurd rfl (h x)
  | _ => rfl
theorem zo_live : ∀ a, a < 320 → a ≠ 56 → (zo_s a).1 ≠ 7 ∧ (zo_s a).1 ≠ 105 ∧ (zo_s a).1 ≠ 100 := by decide +kernel
/-- the object as it is allotted, seen in the memory -/
def zh1 (q : Nat) (a : Nat) : Nat := if a < 320 then a else q
abbrev zh0 : List ((Nat × Nat) × (Nat → Value)) := [((0, 7), fun j => defaultValue (tyX7 j))]
theorem zh_raw {len : Nat} {s : Nat → Int32} {M : zk_M} (h : zOl0 len s M) : zk_vw (zh1 M.2.1) (zm zh0) (zk_add M (0, 7) (fun j => defaultValue (tyX7 j))) := by
  obtain ⟨h1, h2, h3, h4⟩ := h
  have n1 : (zm zh0).2.1 = 321 := rfl
  have e0 : ∀ a, a < 320 → (zm zh0).1 a = zo_s a ∧ (zm zh0).2.2 a = zo_v a := fun a ha => ⟨if_pos ha, if_pos ha⟩
  have e1 := zm_at (X := zh0) (i := 0) rfl
  have d56 : 1000 ≤ (zo_s 56).1 := by decide
  have i0 : ∀ a, a < 320 → zh1 M.2.1 a = a := fun a ha => if_pos ha
  have i1 : zh1 M.2.1 320 = M.2.1 := if_neg (by omega)
  refine ⟨fun a ha => ⟨i0 a ha, ?_⟩, by rw [n1]; omega, fun a ha => ?_, fun a ha hl => ?_, fun a b ha hb la lb e => ?_, fun a j x ha hj hx => ?_⟩
  · by_cases q : a = 56
    · refine Or.inr ?_
      rw [(e0 a ha).1, q]
      exact d56
    · refine Or.inl ?_
      rw [(zk_add_lt (show a < M.2.1 by omega)).1, (h2 a ha q).1, (e0 a ha).1]
  · show _ < M.2.1 + 1
    unfold zh1
    split <;> omega
  · by_cases q : a < 320
    · have q56 : a ≠ 56 := fun k => by rw [(e0 a q).1, k] at hl; omega
      rw [i0 a q, (e0 a q).1, (e0 a q).2, (zk_add_lt (show a < M.2.1 by omega)).1, (zk_add_lt (show a < M.2.1 by omega)).2, (h2 a q q56).1, (h2 a q q56).2]
      refine ⟨rfl, fun w => by omega, fun j hj => ?_⟩
      cases hv : zo_v a j with
      | ref x => exact congrArg Value.ref (i0 x (zo_r q hj hv)).symm
      | _ => rfl
    · have e : a = 320 := by rw [n1] at ha; omega
      subst e
      rw [i1, e1.1, e1.2, (zk_add_at (M := M)).1, (zk_add_at (M := M)).2]
      exact ⟨rfl, fun _ => h1, fun j _ => (zk_v_nr (fun x => zk_dv _ x)).symm⟩
  · rw [n1] at ha hb
    unfold zh1 at e
    split at e <;> split at e <;> omega
  · by_cases q : a < 320
    · rw [(e0 a q).1] at hj
      rw [(e0 a q).2] at hx
      rw [n1]
      exact Nat.lt_trans (zo_r q hj hx) (by decide)
    · have e : a = 320 := by rw [n1] at ha; omega
      subst e
      rw [e1.2] at hx
      exact absurd hx (zk_dv _ x)
/-- the block's cells in the law's first memory; q: how many cells there were -/
def zκ (q : Nat) (b : Nat) : Nat := zk_io (zh1 q) 321 (q + 1) (zH_i b)
theorem zκ_old {q a : Nat} (h : a < 320) : zκ q a = a := by
  have e : zH_i a = a := if_pos h
  unfold zκ
  rw [e, zk_io_lt (by omega)]
  exact if_pos h
theorem zκ_new {q b : Nat} (h : b < 424) (h2 : 320 ≤ b) : q ≤ zκ q b := by
  have e := (zH_b b h).2 h2
  unfold zκ
  by_cases w : zH_i b < 321
  · rw [zk_io_lt w]
    unfold zh1
    rw [if_neg (by omega)]
    exact Nat.le_refl _
  · rw [zk_io_ge (by omega)]
    omega
theorem zκ_320 {q : Nat} : zκ q 320 = q := by
  have e : zH_i 320 = 320 := rfl
  unfold zκ
  rw [e, zk_io_lt (by omega)]
  exact if_neg (by omega)
/-- which table a row is of -/
def lwK (a : Nat) : Nat := if a < 440 then 0 else if a < 452 then 1 else if a < 460 then 2 else if a < 468 then 3 else 4
def lwE (C : Nat → Int32) (len : Nat) (a : Nat) : Nat × Nat := if a = 56 then (100, len) else if a < 424 then zb_s a else if a = 424 then (7, 8) else if a < 430 then (105, cnt C (a - 425)) else if 432 ≤ a ∧ a - zG_b (lwK a) < cnt C (lwK a) then (100, zG_w (lwK a)) else (1000, 0)
def lwW (C : Nat → Int32) (s : Nat → Int32) (a j : Nat) : Int := if a = 56 then (s j).toInt else if a = 424 then (if j = 2 then -1 else 0) else (dat C (lwK a) (a - zG_b (lwK a))).getD j 0
def lwI (q S : Nat) (tk : Nat → Nat) (r : Nat → Nat → Nat) (a : Nat) : Nat := if a < 424 then zκ q a else if a = 424 then S else if a < 430 then tk (a - 425) else r (lwK a) (a - zG_b (lwK a))
theorem cnt_bd (C : Nat → Int32) : cnt C 0 ≤ 8 ∧ cnt C 1 ≤ 12 ∧ cnt C 2 ≤ 8 ∧ cnt C 3 ≤ 8 ∧ cnt C 4 ≤ 12 := by
  have q := q_bd C
  show qP C ≤ 8 ∧ qW C ≤ 12 ∧ qC C ≤ 8 ∧ qM C ≤ 8 ∧ qH C ≤ 12
  omega
theorem lwK_b {C : Nat → Int32} {k j : Nat} (hk : k < 5) (hj : j < cnt C k) : lwK (zG_b k + j) = k ∧ zG_b k + j - zG_b k = j ∧ 432 ≤ zG_b k + j ∧ zG_b k + j < 480 := by
  have b := cnt_bd C
  rcases (show k = 0 ∨ k = 1 ∨ k = 2 ∨ k = 3 ∨ k = 4 by omega) with rfl | rfl | rfl | rfl | rfl <;> simp only [zG_b] <;> unfold lwK <;> (repeat' split) <;> omega
theorem lwE_0 {C : Nat → Int32} {len a : Nat} (h : a < 424) (h2 : a ≠ 56) : lwE C len a = zb_s a := by unfold lwE; rw [if_neg h2, if_pos h]
theorem lwE_1 {C : Nat → Int32} {len : Nat} : lwE C len 424 = (7, 8) := rfl
theorem lwE_2 {C : Nat → Int32} {len k : Nat} (h : k < 5) : lwE C len (425 + k) = (105, cnt C k) := by
  unfold lwE
  rw [if_neg (by omega), if_neg (by omega), if_neg (by omega), if_pos (by omega), Nat.add_sub_cancel_left]
theorem lwE_3 {C : Nat → Int32} {len k j : Nat} (h : k < 5) (hj : j < cnt C k) : lwE C len (zG_b k + j) = (100, zG_w k) := by
  obtain ⟨e1, e2, e3, e4⟩ := lwK_b h hj
  unfold lwE
  rw [if_neg (by omega), if_neg (by omega), if_neg (by omega), if_neg (by omega), e1, e2, if_pos ⟨e3, hj⟩]
theorem lwE_c {C : Nat → Int32} {len a : Nat} (h : 424 ≤ a) (hl : (lwE C len a).1 < 1000) : a = 424 ∨ (∃ k, k < 5 ∧ a = 425 + k) ∨ ∃ k j, k < 5 ∧ j < cnt C k ∧ a = zG_b k + j := by
  unfold lwE at hl
  rw [if_neg (by omega), if_neg (by omega)] at hl
  by_cases e : a = 424
  · exact Or.inl e
  rw [if_neg e] at hl
  by_cases e2 : a < 430
  · exact Or.inr (Or.inl ⟨a - 425, by omega, by omega⟩)
  rw [if_neg e2] at hl
  by_cases e3 : 432 ≤ a ∧ a - zG_b (lwK a) < cnt C (lwK a)
  · refine Or.inr (Or.inr ⟨lwK a, a - zG_b (lwK a), ?_, e3.2, ?_⟩)
    · unfold lwK
      (repeat' split) <;> omega
    · have : zG_b (lwK a) ≤ a := by
        unfold lwK
        (repeat' split) <;> simp only [zG_b] <;> omega
      omega
  · rw [if_neg e3] at hl
    exact absurd hl (by show ¬ 1000 < 1000; omega)
theorem lwE_E (C : Nat → Int32) (len : Nat) : zE (lwE C len) 480 (cnt C) := ⟨rfl, fun k hk => lwE_2 hk, fun k hk j hj => lwE_3 hk hj, Nat.le_refl _, cnt_bd C⟩
section
variable {q S : Nat} {tk : Nat → Nat} {r : Nat → Nat → Nat} {C : Nat → Int32} {len : Nat} {s : Nat → Int32}
theorem lwI_0 {a : Nat} (h : a < 424) : lwI q S tk r a = zκ q a := if_pos h
theorem lwI_1 : lwI q S tk r 424 = S := rfl
theorem lwI_2 {k : Nat} (h : k < 5) : lwI q S tk r (425 + k) = tk k := by
  unfold lwI
  rw [if_neg (by omega), if_neg (by omega), if_pos (by omega), Nat.add_sub_cancel_left]
theorem lwI_3 {k j : Nat} (h : k < 5) (hj : j < cnt C k) : lwI q S tk r (zG_b k + j) = r k j := by
  obtain ⟨e1, e2, e3, e4⟩ := lwK_b h hj
  unfold lwI
  rw [if_neg (by omega), if_neg (by omega), if_neg (by omega), e1, e2]
theorem lwW_3 {k j i : Nat} (h : k < 5) (hj : j < cnt C k) : lwW C s (zG_b k + j) i = (dat C k j).getD i 0 := by
  obtain ⟨e1, e2, e3, e4⟩ := lwK_b h hj
  unfold lwW
  rw [if_neg (by omega), if_neg (by omega), e1, e2]
/-- the memory at the law's first minute, by its cells' new numbers -/
theorem lw_at {M : zk_M} {Z : zV} {n : Nat → Nat} {V : Nat → Nat → Nat → Int} (hv : zk_vw (zκ q) (zb_M Z) M) (hL : zLI M S tk (cnt C) n r V) (hP : zPr C n V (cnt C)) (h5 : M.1 56 = (100, len)) (h5v : ∀ j, j < len → M.2.2 56 j = .int (s j)) (h9 : 320 ≤ q) :
    ∀ a, a < 480 → (lwE C len a).1 < 1000 → lwI q S tk r a < M.2.1 ∧ M.1 (lwI q S tk r a) = lwE C len a ∧ (320 ≤ a → 320 ≤ lwI q S tk r a) ∧ ∀ j, j < (lwE C len a).2 → M.2.2 (lwI q S tk r a) j = zk_v (lwI q S tk r) (zG_v (lwE C len) (zL Z (lwW C s)) a j) := by
  obtain ⟨v1, v2, v3, v4, v5, v6⟩ := hv
  obtain ⟨⟨s1, s2, s3⟩, ⟨s4, s5, s6, s7⟩, t1, t2, t3⟩ := hL
  intro a ha hl
  by_cases c1 : a < 424
  · rw [lwI_0 c1]
    by_cases c2 : a = 56
    · subst c2
      rw [zκ_old (by omega)]
      have e : lwE C len 56 = (100, len) := if_pos rfl
      rw [e]
      refine ⟨by have := v3 56 (by show 56 < 424; omega); rw [zκ_old (by omega)] at this; exact this, h5, fun w => by omega, fun j hj => ?_⟩
      rw [h5v j hj]
      have e9 : zG_v (lwE C len) (zL Z (lwW C s)) 56 j = .int (iZ (zL Z (lwW C s) 56 j)) := if_pos rfl
      have e8 : zL Z (lwW C s) 56 j = (s j).toInt := by
        unfold zL
        rw [if_neg (by omega)]
        exact if_pos rfl
      rw [e9, e8, iZ_of]
      rfl
    · rw [lwE_0 c1 c2] at hl ⊢
      obtain ⟨k1, k2, k3⟩ := v4 a c1 hl
      refine ⟨v3 a c1, k1, k2, fun j hj => ?_⟩
      rw [k3 j hj]
      have e9 : zG_v (lwE C len) (zL Z (lwW C s)) a j = zb_v Z a j := by
        unfold zG_v zL
        rw [if_neg c2, if_pos c1, if_pos ⟨c1, c2⟩]
        rfl
      rw [e9]
      show zk_v (zκ q) (zb_v Z a j) = _
      cases hw : zb_v Z a j with
      | ref x => exact congrArg Value.ref (lwI_0 (v6 a j x c1 hj hw)).symm
      | _ => rfl
  · rcases lwE_c (by omega) hl with rfl | ⟨k, hk, rfl⟩ | ⟨k, i, hk, hi, rfl⟩
    · rw [lwI_1, lwE_1]
      refine ⟨s3, s1, fun _ => s2, fun j hj => ?_⟩
      have e9 : ∀ j, zG_v (lwE C len) (zL Z (lwW C s)) 424 j = (match j with | 3 => .ref 425 | 4 => .ref 426 | 5 => .ref 427 | 6 => .ref 428 | 7 => .ref 429 | _ => .int (iZ (zL Z (lwW C s) 424 j))) := fun j => rfl
      rw [e9]
      match j, hj with
      | 0, _ => exact s4
      | 1, _ => exact s5
      | 2, _ => exact s6
      | 3, _ => exact s7 0 (by decide)
      | 4, _ => exact s7 1 (by decide)
      | 5, _ => exact s7 2 (by decide)
      | 6, _ => exact s7 3 (by decide)
      | 7, _ => exact s7 4 (by decide)
      | j + 8, h => exact absurd h (by show ¬ j + 8 < 8; omega)
    · obtain ⟨⟨q1, q2, q3⟩, q4⟩ := t1 k hk
      rw [lwI_2 hk, lwE_2 hk]
      refine ⟨q3, q1, fun _ => q2, fun j hj => ?_⟩
      have hj' : j < cnt C k := hj
      rw [zG_ref (by omega) (by rw [lwE_2 hk]), zG_rb hk]
      show _ = Value.ref (lwI q S tk r (zG_b k + j))
      rw [lwI_3 hk hj']
      exact (q4 j (by rw [(hP k hk).1]; exact hj')).1
    · obtain ⟨⟨q1, q2, q3⟩, q4⟩ := t1 k hk
      obtain ⟨p1, p2, p3, p4, p5⟩ := q4 i (by rw [(hP k hk).1]; exact hi)
      have g := zG_ge k
      rw [lwI_3 hk hi, lwE_3 hk hi]
      refine ⟨p4, p2, fun _ => p3, fun j hj => ?_⟩
      rw [zG_int (by omega) (by rw [lwE_3 hk hi]; show 100 ≠ 105; decide), p5 j hj, (hP k hk).2 i hi]
      have e8 : zL Z (lwW C s) (zG_b k + i) j = (dat C k i).getD j 0 := by
        unfold zL
        rw [if_neg (by omega), lwW_3 hk hi]
      rw [e8]
      rfl
theorem lw_inj {M : zk_M} {Z : zV} {n : Nat → Nat} {V : Nat → Nat → Nat → Int} (hv : zk_vw (zκ q) (zb_M Z) M) (hL : zLI M S tk (cnt C) n r V) (hP : zPr C n V (cnt C)) (hlo : S < q ∧ (∀ k, k < 5 → tk k < q) ∧ ∀ k j, k < 5 → j < cnt C k → r k j < q) :
    ∀ a b, a < 480 → b < 480 → (lwE C len a).1 < 1000 → (lwE C len b).1 < 1000 → lwI q S tk r a = lwI q S tk r b → a = b := by
  obtain ⟨v1, v2, v3, v4, v5, v6⟩ := hv
  obtain ⟨⟨s1, s2, s3⟩, -, t1, t2, t3⟩ := hL
  have hi : ∀ a, 424 ≤ a → (lwE C len a).1 < 1000 → 320 ≤ lwI q S tk r a ∧ lwI q S tk r a < q := fun a ha hl => by
    rcases lwE_c ha hl with rfl | ⟨k, hk, rfl⟩ | ⟨k, i, hk, hi, rfl⟩
    · exact ⟨s2, hlo.1⟩
    · rw [lwI_2 hk]
      exact ⟨(t1 k hk).1.2.1, hlo.2.1 k hk⟩
    · rw [lwI_3 hk hi]
      exact ⟨((t1 k hk).2 i (by rw [(hP k hk).1]; exact hi)).2.2.1, hlo.2.2 k i hk hi⟩
  have lo : ∀ a, a < 424 → lwI q S tk r a < 320 ∨ q ≤ lwI q S tk r a := fun a ha => by
    rw [lwI_0 ha]
    by_cases w : a < 320
    · rw [zκ_old w]; exact Or.inl w
    · exact Or.inr (zκ_new ha (by omega))
  have sh : ∀ a, 424 ≤ a → (lwE C len a).1 < 1000 → M.1 (lwI q S tk r a) = lwE C len a := fun a ha hl => by
    rcases lwE_c ha hl with rfl | ⟨k, hk, rfl⟩ | ⟨k, i, hk, hi, rfl⟩
    · exact s1
    · rw [lwI_2 hk, lwE_2 hk]
      exact (t1 k hk).1.1
    · rw [lwI_3 hk hi, lwE_3 hk hi]
      exact ((t1 k hk).2 i (by rw [(hP k hk).1]; exact hi)).2.1
  intro a b ha hb la lb e
  by_cases ca : a < 424
  · by_cases cb : b < 424
    · by_cases a5 : a = 56
      · rw [lwI_0 ca, lwI_0 cb, a5, zκ_old (by omega)] at e
        by_cases cb2 : b < 320
        · rw [zκ_old cb2] at e; omega
        · exfalso
          by_cases b5 : b = 56
          · omega
          · rw [lwE_0 cb b5] at lb
            have k := (v4 b cb lb).2.1 (by omega)
            omega
      · by_cases b5 : b = 56
        · rw [lwI_0 ca, lwI_0 cb, b5, zκ_old (by omega : 56 < 320)] at e
          by_cases ca2 : a < 320
          · rw [zκ_old ca2] at e; omega
          · exfalso
            rw [lwE_0 ca a5] at la
            have k := (v4 a ca la).2.1 (by omega)
            omega
        · rw [lwE_0 ca a5] at la
          rw [lwE_0 cb b5] at lb
          rw [lwI_0 ca, lwI_0 cb] at e
          exact v5 a b ca cb la lb e
    · have := lo a ca
      have := hi b (by omega) lb
      omega
  · by_cases cb : b < 424
    · have := lo b cb
      have := hi a (by omega) la
      omega
    · have e9 := (sh a (by omega) la).symm.trans ((congrArg M.1 e).trans (sh b (by omega) lb))
      rcases lwE_c (by omega) la with rfl | ⟨k, hk, rfl⟩ | ⟨k, i, hk, hi1, rfl⟩ <;> rcases lwE_c (by omega) lb with rfl | ⟨k', hk', rfl⟩ | ⟨k', i', hk', hi', rfl⟩
      · rfl
      · rw [lwE_1, lwE_2 hk'] at e9; cases e9
      · rw [lwE_1, lwE_3 hk' hi'] at e9; cases e9
      · rw [lwE_1, lwE_2 hk] at e9; cases e9
      · rw [lwI_2 hk, lwI_2 hk'] at e
        rw [t2 k k' hk hk' e]
      · rw [lwE_2 hk, lwE_3 hk' hi'] at e9; cases e9
      · rw [lwE_1, lwE_3 hk hi1] at e9; cases e9
      · rw [lwE_2 hk', lwE_3 hk hi1] at e9; cases e9
      · rw [lwI_3 hk hi1, lwI_3 hk' hi'] at e
        obtain ⟨k1, k2⟩ := t3 k k' i i' hk hk' (by rw [(hP k hk).1]; exact hi1) (by rw [(hP k' hk').1]; exact hi') e
        rw [k1, k2]
theorem lw_refs {Z : zV} (hz : zin Z) : ∀ a j x, a < 480 → j < (lwE C len a).2 → zG_v (lwE C len) (zL Z (lwW C s)) a j = .ref x → x < 480 := by
  intro a j x ha hj hx
  by_cases c1 : a < 424
  · by_cases c2 : a = 56
    · rw [c2] at hx
      have e9 : zG_v (lwE C len) (zL Z (lwW C s)) 56 j = .int (iZ (zL Z (lwW C s) 56 j)) := if_pos rfl
      rw [e9] at hx
      cases hx
    · rw [lwE_0 c1 c2] at hj
      have e9 : zG_v (lwE C len) (zL Z (lwW C s)) a j = zb_v Z a j := by
        unfold zG_v zL
        rw [if_neg c2, if_pos c1, if_pos ⟨c1, c2⟩]
        rfl
      rw [e9] at hx
      exact Nat.lt_trans (hz a j x c1 hj hx) (by decide)
  · by_cases hl : (lwE C len a).1 < 1000
    · rcases lwE_c (by omega) hl with rfl | ⟨k, hk, rfl⟩ | ⟨k, i, hk, hi, rfl⟩
      · have e9 : ∀ j, zG_v (lwE C len) (zL Z (lwW C s)) 424 j = (match j with | 3 => .ref 425 | 4 => .ref 426 | 5 => .ref 427 | 6 => .ref 428 | 7 => .ref 429 | _ => .int (iZ (zL Z (lwW C s) 424 j))) := fun j => rfl
        rw [e9] at hx
        split at hx <;> cases hx <;> exact Nat.le_of_ble_eq_true rfl
      · rw [zG_ref (by omega) (by rw [lwE_2 hk]), zG_rb hk] at hx
        rw [lwE_2 hk] at hj
        cases hx
        exact (lwK_b hk hj).2.2.2
      · have g := zG_ge k
        rw [zG_int (by omega) (by rw [lwE_3 hk hi]; show 100 ≠ 105; decide)] at hx
        cases hx
    · have e9 : (lwE C len a).2 = 0 := by
        unfold lwE at hl ⊢
        rw [if_neg (by omega), if_neg (by omega)] at hl ⊢
        by_cases e : a = 424
        · rw [if_pos e] at hl; exact absurd hl (by show ¬ ¬ 7 < 1000; omega)
        rw [if_neg e] at hl ⊢
        by_cases e2 : a < 430
        · rw [if_pos e2] at hl; exact absurd hl (by show ¬ ¬ 105 < 1000; omega)
        rw [if_neg e2] at hl ⊢
        split
        · rename_i e3
          rw [if_pos e3] at hl
          exact absurd hl (by show ¬ ¬ 100 < 1000; omega)
        · rfl
      omega
end
end

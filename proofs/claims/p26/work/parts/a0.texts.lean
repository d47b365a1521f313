/-! THE BUILDER OF TEXTS: its beginning and its text -/
section
variable {l : Launch} {Γ : zk_G} {d : Nat} {F : Heap → Prop}
theorem zk_add_lt {M : zk_M} {kl : Nat × Nat} {f : Nat → Value} {c : Nat} (h : c < M.2.1) : (zk_add M kl f).1 c = M.1 c ∧ (zk_add M kl f).2.2 c = M.2.2 c := ⟨if_neg (by omega), if_neg (by omega)⟩
theorem zk_add_at {M : zk_M} {kl : Nat × Nat} {f : Nat → Value} : (zk_add M kl f).1 M.2.1 = kl ∧ (zk_add M kl f).2.2 M.2.1 = f := ⟨if_pos rfl, if_pos rfl⟩
/-- all that was there stands as it stood -/
def zOl (M M' : zk_M) : Prop := M.2.1 ≤ M'.2.1 ∧ (∀ c, c < M.2.1 → M'.1 c = M.1 c) ∧ ∀ c, c < M.2.1 → M'.2.2 c = M.2.2 c
theorem zOl.trans {M M1 M2 : zk_M} (h : zOl M M1) (g : zOl M1 M2) : zOl M M2 := ⟨Nat.le_trans h.1 g.1, fun c hc => (g.2.1 c (Nat.lt_of_lt_of_le hc h.1)).trans (h.2.1 c hc), fun c hc => (g.2.2 c (Nat.lt_of_lt_of_le hc h.1)).trans (h.2.2 c hc)⟩
theorem zOl.add {M : zk_M} {kl : Nat × Nat} {f : Nat → Value} : zOl M (zk_add M kl f) := ⟨Nat.le_succ _, fun c hc => (zk_add_lt hc).1, fun c hc => (zk_add_lt hc).2⟩
theorem zOl.sb {M M' : zk_M} {a b cap : Nat} {t : List Int} (h : zOl M M') (g : zSB M a b cap t) : zSB M' a b cap t := by
  obtain ⟨⟨s1, s2, s3⟩, ⟨b1, b2, b3⟩, r⟩ := g
  obtain ⟨h1, h2, h3⟩ := h
  refine ⟨⟨(h2 a s3).trans s1, s2, by omega⟩, ⟨(h2 b b3).trans b1, b2, by omega⟩, ?_⟩
  rw [h3 a s3, h3 b b3]
  exact r
theorem zOl.sg {M M' : zk_M} {s sb : Nat} {g : List Int} (h : zOl M M') (hs : s < M.2.1 ∧ sb < M.2.1) (q : zSg M s sb g) : zSg M' s sb g := zStr_keep q ⟨h.2.1 s hs.1, h.2.1 sb hs.2⟩ ⟨h.2.2 s hs.1, h.2.2 sb hs.2⟩
theorem zKp.sg {M M' : zk_M} {a b b' s sb : Nat} {g : List Int} (h : zKp M M' a b b') (hs : s < M.2.1 ∧ sb < M.2.1) (n1 : s ≠ a ∧ sb ≠ a ∧ s ≠ b ∧ sb ≠ b) (q : zSg M s sb g) : zSg M' s sb g := zStr_keep q ⟨h.2.1 s hs.1, h.2.1 sb hs.2⟩ ⟨h.2.2.1 s hs.1 n1.1 n1.2.2.1, h.2.2.1 sb hs.2 n1.2.1 n1.2.2.2⟩
theorem jb_lengthS : zBs mJ5_length_8abf5 → True := fun _ => trivial
section
variable {M : zk_M} {a b cap : Nat} {t : List Int}
theorem jb_init (h1 : M.1 a = (9, 4)) (h2 : 320 ≤ a ∧ a < M.2.1) (h3 : M.2.2 a 1 = .int (iZ 0) ∧ M.2.2 a 3 = .int (iZ 0)) (hd : 1 ≤ d) : zDo l Γ mJ5_init_d00df d 1 16 [.ref a, .int (iZ 16)] M F (fun v M' => v = none ∧ zSB M' a M.2.1 16 [] ∧ M'.2.1 = M.2.1 + 1 ∧ (∀ c, c < M.2.1 → M'.1 c = M.1 c) ∧ ∀ c, c < M.2.1 → c ≠ a → M'.2.2 c = M.2.2 c) := by
  intro Q hq
  refine gz_aload_n dJ5_init_d00df_0 rfl ?_
  refine gz_objInit dJ5_init_d00df_1 wm_AbstractStringBuilder_3 (Nat.le_of_ble_eq_true rfl) (by omega) ?_
  refine gz_gets (v := .int 1) dJ5_init_d00df_4 (by decide) wf_AbstractStringBuilder_18 (by first | exact True.intro | (show _ < _; decide)) ?_
  refine zz_if_eq (x := 1) (tgt := 25) dJ5_init_d00df_7 rfl (by omega) (fun b3 => ?_) (fun b3 => ?_)
  · exact absurd b3 (by omega)
  refine gz_aload_n dJ5_init_d00df_10 rfl ?_
  refine gz_iload_n dJ5_init_d00df_11 rfl ?_
  refine gz_newa (k := 3) (len := 16) (v0 := .int 0) dJ5_init_d00df_12 rfl (by decide) wa_byte rfl (by omega) (Nat.le_of_ble_eq_true rfl) rfl (fun x q => nomatch q) ⟨Nat.le_refl _, Nat.le_refl _⟩ ?_
  obtain ⟨A1, hA1⟩ : ∃ X, X = zk_add M (100 + 3, 16) (fun _ => .int 0) := ⟨_, rfl⟩
  have a1 : ∀ c, c < M.2.1 → A1.1 c = M.1 c ∧ A1.2.2 c = M.2.2 c := fun c hc => by rw [hA1]; exact zk_add_lt hc
  have a2 : A1.1 M.2.1 = (103, 16) ∧ A1.2.2 M.2.1 = (fun _ => .int 0) := by rw [hA1]; exact zk_add_at
  have a3 : A1.2.1 = M.2.1 + 1 := by rw [hA1]; rfl
  rw [← hA1]
  refine gz_putf (T := TJ4) (N := 4) 0 dJ5_init_d00df_14 ((a1 a h2.2).1.trans h1) rfl wf_AbstractStringBuilder_15 (by omega) h2.1 jo_StringBuilder ju_StringBuilder rfl tyJ4 tyJ4_ok nmJ4 rfl (fun _ => ⟨rfl, rfl⟩) ?_
  refine gz_aload_n dJ5_init_d00df_17 rfl ?_
  refine zz_iconst dJ5_init_d00df_18 ?_
  refine gz_putf (T := TJ4) (N := 4) 1 dJ5_init_d00df_19 ((a1 a h2.2).1.trans h1) rfl wf_AbstractStringBuilder_22 (by omega) h2.1 jo_StringBuilder ju_StringBuilder rfl tyJ4 tyJ4_ok nmJ4 rfl (fun _ => ⟨rfl, rfl⟩) ?_
  refine gz_goto (tgt := 38) dJ5_init_d00df_22 rfl ?_
  refine gz_return_ dJ5_init_d00df_38 rfl ?_
  have na : M.2.1 ≠ a := by omega
  refine hq _ _ ⟨rfl, ⟨⟨(a1 a h2.2).1.trans h1, h2.1, by show a < A1.2.1; omega⟩, ⟨a2.1, by omega, by show M.2.1 < A1.2.1; omega⟩, ⟨?_, zk_up_a2, ?_⟩, by show 0 ≤ 16; omega, by omega, fun j hj => ⟨0, ?_, by omega, by omega⟩, fun j hj => absurd hj (by show ¬ j < 0; omega), fun c hc => absurd hc List.not_mem_nil⟩, a3, fun c hc => (a1 c hc).1, fun c hc q => ?_⟩
  · show zk_up _ a 1 _ a 0 = _
    rw [zk_up_n2 (Or.inr (by decide))]
    exact zk_up_a2
  · show zk_up _ a 1 _ a 3 = _
    rw [zk_up_n2 (Or.inr (by decide))]
    show zk_up _ a 0 _ a 3 = _
    rw [zk_up_n2 (Or.inr (by decide)), (a1 a h2.2).2]
    exact h3.2
  · show zk_up _ a 1 _ M.2.1 j = _
    rw [zk_up_ne na]
    show zk_up _ a 0 _ M.2.1 j = _
    rw [zk_up_ne na, a2.2]
    rfl
  · show zk_up _ a 1 _ c = _
    rw [zk_up_ne q]
    show zk_up _ a 0 _ c = _
    rw [zk_up_ne q]
    exact (a1 c hc).2
theorem js_init (h1 : M.1 a = (9, 4)) (h2 : 320 ≤ a ∧ a < M.2.1) (h3 : M.2.2 a 1 = .int (iZ 0) ∧ M.2.2 a 3 = .int (iZ 0)) (hd : 2 ≤ d) : zDo l Γ mJ4_init_da8c8 d 1 16 [.ref a] M F (fun v M' => v = none ∧ zSB M' a M.2.1 16 [] ∧ M'.2.1 = M.2.1 + 1 ∧ (∀ c, c < M.2.1 → M'.1 c = M.1 c) ∧ ∀ c, c < M.2.1 → c ≠ a → M'.2.2 c = M.2.2 c) := by
  intro Q hq
  refine gz_aload_n dJ4_init_da8c8_0 rfl ?_
  refine zz_bipush (x := 16) dJ4_init_da8c8_1 rfl ?_
  refine gz_invi (J := mJ5_init_d00df) (d1 := d - 1) (kc1 := 1) (ks1 := 16) (n := 1) (Q1 := fun v M' F' => (v = none ∧ zSB M' a M.2.1 16 [] ∧ M'.2.1 = M.2.1 + 1 ∧ (∀ c, c < M.2.1 → M'.1 c = M.1 c) ∧ ∀ c, c < M.2.1 → c ≠ a → M'.2.2 c = M.2.2 c) ∧ F' = F) [.int (iZ 16)] _ dJ4_init_da8c8_3 rfl (Or.inl wm_StringBuilder_1) jiJ5_init_d00df jn_AbstractStringBuilder jcJ5_init_d00df rfl rfl jpJ5_init_d00df rfl ⟨by decide, Nat.le_of_ble_eq_true rfl⟩ (Nat.le_of_ble_eq_true rfl) (by omega) ⟨Nat.le_refl _, Nat.le_refl _⟩ (jb_init h1 h2 h3 (by omega) _ (fun v M' h => ⟨h, rfl⟩)) (fun v M' F' h => ?_)
  obtain ⟨⟨rfl, hh⟩, rfl⟩ := h
  refine gz_return_ dJ4_init_da8c8_6 rfl ?_
  exact hq _ _ ⟨rfl, hh⟩
/-- new StringBuilder() -/
def zNewR (M : zk_M) (v : Nat) (M' : zk_M) : Prop := v = M.2.1 ∧ zSB M' M.2.1 (M.2.1 + 1) 16 [] ∧ M'.2.1 = M.2.1 + 2 ∧ zOl M M'
theorem gz_newSB {I : zk_MI} {kc ks : Nat} {Q : Option Value → zk_M → (Heap → Prop) → Prop} {pc i i2 : Nat} {L : List (Option Value)} {st : List Value} (hd0 : decode I.2.1 pc = .ok (.new i, 3)) (hd1 : decode I.2.1 (pc + 3) = .ok (.dup, 1)) (hd2 : decode I.2.1 (pc + 3 + 1) = .ok (.invokespecial i2, 3)) (hcl : Cond.classLink I.1.cls i "java/lang/StringBuilder" ∈ zk_tg) (hw : Cond.methodLink I.1.cls i2 yJ4_init_da8c8 ∈ zk_tg) (hn : 320 ≤ M.2.1) (hsum : (st.map fun v => v.category).sum + 1 ≤ 8) (hk : 2 ≤ kc ∧ 20 ≤ ks) (hd : 3 ≤ d)
    (kk : ∀ M', zSB M' M.2.1 (M.2.1 + 1) 16 [] → M'.2.1 = M.2.1 + 2 → zOl M M' → zk_Go l Γ I d (kc - 2) (ks - 20) Q (pc + 3 + 1 + 3) L (.ref M.2.1 :: st) M' F) : zk_Go l Γ I d kc ks Q pc L st M F := by
  refine gz_new (k := 9) (f := fun j => defaultValue (tyJ4 j)) hd0 rfl hcl jo_StringBuilder jn_StringBuilder ju_StringBuilder tyJ4 tyJ4_ok (fun _ _ => rfl) (fun j => zk_dv _) ⟨by omega, by omega⟩ ?_
  refine gz_dup hd1 rfl ?_
  obtain ⟨A1, hA1⟩ : ∃ X, X = zk_add M (9, 4) (fun j => defaultValue (tyJ4 j)) := ⟨_, rfl⟩
  have a1 : ∀ c, c < M.2.1 → A1.1 c = M.1 c ∧ A1.2.2 c = M.2.2 c := fun c hc => by rw [hA1]; exact zk_add_lt hc
  have a2 : A1.1 M.2.1 = (9, 4) ∧ A1.2.2 M.2.1 = (fun j => defaultValue (tyJ4 j)) := by rw [hA1]; exact zk_add_at
  have a3 : A1.2.1 = M.2.1 + 1 := by rw [hA1]; rfl
  rw [← hA1]
  refine gz_invi (J := mJ4_init_da8c8) (d1 := d - 1) (kc1 := 1) (ks1 := 16) (n := 0) (Q1 := fun v M' F' => (v = none ∧ zSB M' M.2.1 A1.2.1 16 [] ∧ M'.2.1 = A1.2.1 + 1 ∧ (∀ c, c < A1.2.1 → M'.1 c = A1.1 c) ∧ ∀ c, c < A1.2.1 → c ≠ M.2.1 → M'.2.2 c = A1.2.2 c) ∧ F' = F) [] _ hd2 rfl (Or.inl hw) jiJ4_init_da8c8 jn_StringBuilder jcJ4_init_da8c8 rfl rfl jpJ4_init_da8c8 rfl ⟨by decide, Nat.le_of_ble_eq_true rfl⟩ (by rw [List.map_cons, List.sum_cons]; show 1 + _ ≤ 8; omega) (by omega) ⟨by omega, by omega⟩ (js_init a2.1 ⟨hn, by omega⟩ ⟨by rw [a2.2]; rfl, by rw [a2.2]; rfl⟩ (by omega) _ (fun v M' h => ⟨h, rfl⟩)) (fun v M' F' h => ?_)
  obtain ⟨⟨rfl, q1, q2, q3, q4⟩, rfl⟩ := h
  have hgo := kk M' (by rw [← a3]; exact q1) (by omega) ⟨by omega, fun c hc => (q3 c (by omega)).trans (a1 c hc).1, fun c hc => (q4 c (by omega) (by omega)).trans (a1 c hc).2⟩
  have e1 : kc - 1 - 1 = kc - 2 := by omega
  have e2 : ks - 4 - 16 = ks - 20 := by omega
  rw [e1, e2]
  exact hgo
theorem ja_checkLen {n : Nat} (hn : n < 100000) : zk_Does l Γ mJ7_checkLength_df160 d 0 0 [.int (iZ 0), .int (iZ (n : Int))] M F none M F := by
  intro Q hq
  refine gz_iload_n dJ7_checkLength_df160_0 rfl ?_
  refine gz_iload_n dJ7_checkLength_df160_1 rfl ?_
  refine zz_icmp_ge (tgt := 37) dJ7_checkLength_df160_2 rfl (by omega) (fun b2 => ?_) (fun b2 => ?_)
  rotate_left
  · exact absurd b2 (by omega)
  refine gz_return_ dJ7_checkLength_df160_37 rfl ?_
  exact hq
def zCR (M : zk_M) (b n : Nat) (v : Option Value) (M' : zk_M) : Prop := v = some (.ref M.2.1) ∧ M'.2.1 = M.2.1 + 1 ∧ zOl M M' ∧ M'.1 M.2.1 = (103, n) ∧ ∀ j, j < n → M'.2.2 M.2.1 j = M.2.2 b j
theorem ja_rangeB {n : Nat} (hb : M.1 b = (103, cap)) (hbn : b < M.2.1) (hfit : ∀ j, j < cap → fits .byte (M.2.2 b j) = true ∧ ∀ x, M.2.2 b j ≠ .ref x) (hnc : n ≤ cap) (hc : cap < 100000) (hn : 320 ≤ M.2.1) (hd : 1 ≤ d) : zDo l Γ mJ7_copyOfRangeByte_39247 d 1 n [.ref b, .int (iZ 0), .int (iZ (n : Int))] M F (zCR M b n) := by
  intro Q hq
  refine gz_iload_n dJ7_copyOfRangeByte_39247_0 rfl ?_
  refine gz_iload_n dJ7_copyOfRangeByte_39247_1 rfl ?_
  refine gs_2 (J := mJ7_checkLength_df160) (d1 := d - 1) dJ7_copyOfRangeByte_39247_2 wm_Arrays_343 jzJ7_checkLength_df160 (Nat.le_of_ble_eq_true rfl) (Nat.le_of_ble_eq_true rfl) (by omega) ⟨Nat.zero_le _, Nat.zero_le _⟩ (ja_checkLen (by omega)) ?_
  refine gz_iload_n dJ7_copyOfRangeByte_39247_5 rfl ?_
  refine gz_iload_n dJ7_copyOfRangeByte_39247_6 rfl ?_
  refine zz_isub dJ7_copyOfRangeByte_39247_7 ?_
  rw [show (n : Int) - 0 = (n : Int) by omega]
  refine gz_istore_n dJ7_copyOfRangeByte_39247_8 (Nat.le_of_ble_eq_true rfl) rfl ?_
  refine gz_iload_n dJ7_copyOfRangeByte_39247_9 rfl ?_
  refine gz_newa (k := 3) (len := n) (v0 := .int 0) dJ7_copyOfRangeByte_39247_10 rfl (by decide) wa_byte rfl (by omega) (Nat.le_of_ble_eq_true rfl) rfl (fun x q => nomatch q) ⟨Nat.le_refl _, Nat.le_refl _⟩ ?_
  obtain ⟨A1, hA1⟩ : ∃ X, X = zk_add M (100 + 3, n) (fun _ => .int 0) := ⟨_, rfl⟩
  have a1 : ∀ c, c < M.2.1 → A1.1 c = M.1 c ∧ A1.2.2 c = M.2.2 c := fun c hc => by rw [hA1]; exact zk_add_lt hc
  have a2 : A1.1 M.2.1 = (103, n) ∧ A1.2.2 M.2.1 = (fun _ => .int 0) := by rw [hA1]; exact zk_add_at
  have a3 : A1.2.1 = M.2.1 + 1 := by rw [hA1]; rfl
  rw [← hA1]
  refine gz_astore dJ7_copyOfRangeByte_39247_12 (Nat.le_of_ble_eq_true rfl) rfl ?_
  refine gz_aload_n dJ7_copyOfRangeByte_39247_14 rfl ?_
  refine gz_iload_n dJ7_copyOfRangeByte_39247_15 rfl ?_
  refine gz_aload dJ7_copyOfRangeByte_39247_16 rfl ?_
  refine zz_iconst dJ7_copyOfRangeByte_39247_18 ?_
  refine gz_aload_n dJ7_copyOfRangeByte_39247_19 rfl ?_
  refine gz_alen (k := 3) dJ7_copyOfRangeByte_39247_20 ((a1 b hbn).1.trans hb) (by decide) ?_
  refine gz_iload_n dJ7_copyOfRangeByte_39247_21 rfl ?_
  refine zz_isub dJ7_copyOfRangeByte_39247_22 ?_
  refine gz_iload_n dJ7_copyOfRangeByte_39247_23 rfl ?_
  refine gz_min (z := (n : Int)) dJ7_copyOfRangeByte_39247_24 wm_Arrays_304 ⟨by omega, by omega⟩ (by split <;> omega) (Nat.le_of_ble_eq_true rfl) hd ?_
  refine gz_copy (k := 3) (n0 := cap) (n1 := n) (sp := 0) (dp := 0) (n := n) dJ7_copyOfRangeByte_39247_27 wm_Arrays_150 jn_System (by decide) ((a1 b hbn).1.trans hb) a2.1 hn rfl rfl rfl (by omega) (by omega) (fun i hi => by rw [Nat.zero_add, (a1 b hbn).2]; exact hfit i (by omega)) (Nat.le_of_ble_eq_true rfl) hd ?_
  refine gz_aload dJ7_copyOfRangeByte_39247_30 rfl ?_
  refine gz_areturn dJ7_copyOfRangeByte_39247_32 rfl (Or.inr ⟨_, rfl⟩) ?_
  refine hq _ _ ⟨rfl, a3, ⟨by show M.2.1 ≤ A1.2.1; omega, fun c hc => (a1 c hc).1, fun c hc => ?_⟩, a2.1, fun j hj => ?_⟩
  · exact (zk_upC_n (by omega)).trans (a1 c hc).2
  · show zk_upC _ M.2.1 _ M.2.1 j = _
    rw [zk_upC_a, (a1 b hbn).2]
    unfold zk_cpy
    rw [if_pos ⟨by omega, by omega⟩, show 0 + (j - 0) = j by omega]
theorem ja_range {n : Nat} (hb : M.1 b = (103, cap)) (hb2 : 320 ≤ b) (hbn : b < M.2.1) (hfit : ∀ j, j < cap → fits .byte (M.2.2 b j) = true ∧ ∀ x, M.2.2 b j ≠ .ref x) (hnc : n ≤ cap) (hc : cap < 100000) (hn : 320 ≤ M.2.1) (hd : 2 ≤ d) : zDo l Γ mJ7_copyOfRange_39247 d 1 n [.ref b, .int (iZ 0), .int (iZ (n : Int))] M F (zCR M b n) := by
  intro Q hq
  refine gz_iload_n dJ7_copyOfRange_39247_0 rfl ?_
  refine zz_if_ne (tgt := 10) dJ7_copyOfRange_39247_1 rfl (by omega) (fun b1 => ?_) (fun b1 => ?_)
  · exact absurd rfl b1
  refine gz_iload_n dJ7_copyOfRange_39247_4 rfl ?_
  refine gz_aload_n dJ7_copyOfRange_39247_5 rfl ?_
  refine gz_alen (k := 3) dJ7_copyOfRange_39247_6 hb (by decide) ?_
  refine zz_icmp_eq (tgt := 17) dJ7_copyOfRange_39247_7 rfl (by omega) (fun b7 => ?_) (fun b7 => ?_)
  · have e : n = cap := by omega
    subst e
    refine gz_aload_n dJ7_copyOfRange_39247_17 rfl ?_
    refine gz_clone dJ7_copyOfRange_39247_18 wm_Arrays_310 hb hb2 hfit ⟨Nat.le_refl _, Nat.le_refl _⟩ (Nat.le_of_ble_eq_true rfl) (by omega) ?_
    obtain ⟨A1, hA1⟩ : ∃ X, X = zk_add M (103, n) (fun j => if j < n then M.2.2 b j else .null) := ⟨_, rfl⟩
    have a1 : ∀ c, c < M.2.1 → A1.1 c = M.1 c ∧ A1.2.2 c = M.2.2 c := fun c hc => by rw [hA1]; exact zk_add_lt hc
    have a2 : A1.1 M.2.1 = (103, n) ∧ A1.2.2 M.2.1 = (fun j => if j < n then M.2.2 b j else .null) := by rw [hA1]; exact zk_add_at
    have a3 : A1.2.1 = M.2.1 + 1 := by rw [hA1]; rfl
    rw [← hA1]
    refine gz_castB dJ7_copyOfRange_39247_21 wc_Arrays_311 a2.1 hn ?_
    refine gz_areturn dJ7_copyOfRange_39247_24 rfl (Or.inr ⟨_, rfl⟩) ?_
    refine hq _ _ ⟨rfl, a3, ⟨by omega, fun c hc => (a1 c hc).1, fun c hc => (a1 c hc).2⟩, a2.1, fun j hj => ?_⟩
    rw [a2.2]
    exact if_pos hj
  · refine gz_aload_n dJ7_copyOfRange_39247_10 rfl ?_
    refine gz_iload_n dJ7_copyOfRange_39247_11 rfl ?_
    refine gz_iload_n dJ7_copyOfRange_39247_12 rfl ?_
    refine gb_s (J := mJ7_copyOfRangeByte_39247) (d1 := d - 1) [.ref b, .int (iZ 0), .int (iZ (n : Int))] _ dJ7_copyOfRange_39247_13 rfl wm_Arrays_339 jzJ7_copyOfRangeByte_39247 rfl (Nat.le_of_ble_eq_true rfl) (Nat.le_of_ble_eq_true rfl) (by omega) ⟨Nat.le_refl _, Nat.le_refl _⟩ (ja_rangeB hb hbn hfit hnc hc hn (by omega)) (fun v M1 hh => ?_)
    obtain ⟨rfl, hh⟩ := hh
    refine gz_areturn dJ7_copyOfRange_39247_16 rfl (Or.inr ⟨_, rfl⟩) ?_
    exact hq _ _ ⟨rfl, hh⟩
theorem jb_getValue (h : zSB M a b cap t) : zk_Does l Γ mJ5_getValue_6d5f1 d 0 0 [.ref a] M F (some (.ref b)) M F := by
  intro Q hq
  obtain ⟨⟨s1, s2, s3⟩, ⟨b1, b2, b3⟩, ⟨f0, f1, f3⟩, c1, c2, c3, c4, c5⟩ := h
  refine gz_aload_n dJ5_getValue_6d5f1_0 rfl ?_
  refine gz_getf 0 dJ5_getValue_6d5f1_1 s1 rfl wf_AbstractStringBuilder_15 (by omega) f0 ?_
  refine gz_areturn dJ5_getValue_6d5f1_4 rfl (Or.inr ⟨_, rfl⟩) ?_
  exact hq
theorem jb_length (h : zSB M a b cap t) : zk_Does l Γ mJ5_length_8abf5 d 0 0 [.ref a] M F (some (.int (iZ (t.length : Int)))) M F := by
  intro Q hq
  obtain ⟨⟨s1, s2, s3⟩, ⟨b1, b2, b3⟩, ⟨f0, f1, f3⟩, c1, c2, c3, c4, c5⟩ := h
  refine gz_aload_n dJ5_length_8abf5_0 rfl ?_
  refine gz_getf 3 dJ5_length_8abf5_1 s1 rfl wf_AbstractStringBuilder_79 (by omega) f3 ?_
  refine gz_ireturn dJ5_length_8abf5_4 rfl rfl ?_
  exact hq
theorem js_lengthB (h : zSB M a b cap t) (hd : 1 ≤ d) : zDo l Γ mJ4_length_8abf5 d 0 0 [.ref a] M F (fun v M' => v = some (.int (iZ (t.length : Int))) ∧ M' = M) := by
  intro Q hq
  refine gz_aload_n dJ4_length_8abf5_0 rfl ?_
  refine gb_super (J := mJ5_length_8abf5) (d1 := d - 1) [] _ dJ4_length_8abf5_1 rfl h.1.1 wm_StringBuilder_343 wz_super (by decide) jbJ5_length_8abf5 rfl (Nat.le_of_ble_eq_true rfl) (Nat.le_of_ble_eq_true rfl) (by omega) ⟨Nat.le_refl _, Nat.le_refl _⟩ (zDo_of (jb_length h)) (fun v M1 hh => ?_)
  obtain ⟨rfl, hh⟩ := hh
  refine gz_ireturn dJ4_length_8abf5_4 rfl rfl ?_
  exact hq _ _ ⟨rfl, hh⟩
/-- a text that was made: a string at s, its letters behind it -/
def zTxR (M : zk_M) (s : Nat) (t : List Int) (M' : zk_M) : Prop := zSg M' s M.2.1 t ∧ M'.2.1 = M.2.1 + 1 ∧ (∀ c, c < M.2.1 → M'.1 c = M.1 c) ∧ ∀ c, c < M.2.1 → c ≠ s → M'.2.2 c = M.2.2 c
theorem jt_init2 {s : Nat} (h : zSB M a b cap t) (h1 : M.1 s = (8, 4)) (h2 : 320 ≤ s ∧ s < M.2.1) (hn : 320 ≤ M.2.1) (hd : 4 ≤ d) : zDo l Γ mJ0_init_db425 d 1 t.length [.ref s, .ref a, .null] M F (fun v M' => v = none ∧ zTxR M s t M') := by
  intro Q hq
  have h9 := h
  obtain ⟨⟨s1, s2, s3⟩, ⟨b1, b2, b3⟩, ⟨f0, f1, f3⟩, c1, c2, c3, c4, c5⟩ := h
  have nas : a ≠ s := fun e => by rw [e, h1] at s1; cases s1
  have nbs : b ≠ s := fun e => by rw [e, h1] at b1; cases b1
  refine gz_aload_n dJ0_init_db425_0 rfl ?_
  refine gz_objInit dJ0_init_db425_1 wm_String_1 (Nat.le_of_ble_eq_true rfl) (by omega) ?_
  refine gz_aload_n dJ0_init_db425_4 rfl ?_
  refine gb_up (J := mJ5_getValue_6d5f1) (d1 := d - 1) [] _ dJ0_init_db425_5 rfl s1 wm_String_552 jbJ5_getValue_6d5f1 jtJ5_getValue_6d5f1 rfl (Nat.le_of_ble_eq_true rfl) (Nat.le_of_ble_eq_true rfl) (by omega) ⟨Nat.zero_le _, Nat.zero_le _⟩ (zDo_of (jb_getValue h9)) (fun v M1 hh => ?_)
  obtain ⟨rfl, hM1⟩ := hh
  rw [hM1]
  clear hM1
  refine gz_astore_n dJ0_init_db425_8 (Nat.le_of_ble_eq_true rfl) rfl ?_
  refine gz_aload_n dJ0_init_db425_9 rfl ?_
  refine gz_up (J := mJ4_length_8abf5) (x := yJ5_length_8abf5) (C := "java/lang/StringBuilder") (d1 := d - 1) (kc1 := 0) (ks1 := 0) (n := 0) (Q1 := fun v M' F' => (v = some (.int (iZ (t.length : Int))) ∧ M' = M) ∧ F' = F) [] _ dJ0_init_db425_10 rfl s1 (by decide) rfl wm_String_549 (zk_in 1380 (by decide +kernel) rfl) jiJ5_length_8abf5 jcJ5_length_8abf5 (Or.inl (zk_in 1381 (by decide +kernel) rfl)) jiJ4_length_8abf5 jn_StringBuilder jcJ4_length_8abf5 jpJ4_length_8abf5.1 jpJ5_length_8abf5.2 rfl ⟨by decide, Nat.le_of_ble_eq_true rfl⟩ (Nat.le_of_ble_eq_true rfl) (by omega) ⟨Nat.zero_le _, Nat.zero_le _⟩ (by decide) (js_lengthB h9 (by omega) _ (fun v M' h => ⟨h, rfl⟩)) (fun v M1 F' hh => ?_)
  obtain ⟨⟨rfl, hM1⟩, rfl⟩ := hh
  rw [hM1]
  clear hM1
  refine gz_istore dJ0_init_db425_13 (Nat.le_of_ble_eq_true rfl) rfl ?_
  refine gz_aload_n dJ0_init_db425_15 rfl ?_
  refine gb_up (J := mJ5_isLatin1_aae02) (d1 := d - 1) [] _ dJ0_init_db425_16 rfl s1 wm_String_1047 jbJ5_isLatin1_aae02 jtJ5_isLatin1_aae02 rfl (Nat.le_of_ble_eq_true rfl) (Nat.le_of_ble_eq_true rfl) (by omega) ⟨Nat.zero_le _, Nat.zero_le _⟩ (zDo_of (jb_latin h9)) (fun v M1 hh => ?_)
  obtain ⟨rfl, hM1⟩ := hh
  rw [hM1]
  clear hM1
  refine zz_if_eq (x := 1) (tgt := 41) dJ0_init_db425_19 rfl (by omega) (fun b19 => ?_) (fun b19 => ?_)
  · exact absurd b19 (by omega)
  refine gz_aload_n dJ0_init_db425_22 rfl ?_
  refine zz_iconst dJ0_init_db425_23 ?_
  refine gz_putfF (T := TJ0) (N := 4) 1 dJ0_init_db425_24 h1 rfl wf_String_15 (by omega) h2.1 jo_String ju_String rfl rfl rfl tyJ0 tyJ0_ok nmJ0 rfl (fun _ => ⟨rfl, rfl⟩) ?_
  refine gz_aload_n dJ0_init_db425_27 rfl ?_
  refine gz_aload_n dJ0_init_db425_28 rfl ?_
  refine zz_iconst dJ0_init_db425_29 ?_
  refine gz_iload dJ0_init_db425_30 rfl ?_
  obtain ⟨A1, hA1⟩ : ∃ X : zk_M, X = (M.1, M.2.1, zk_up M.2.2 s 1 (.int (iZ 0))) := ⟨_, rfl⟩
  have a1 : ∀ c, c ≠ s → A1.2.2 c = M.2.2 c := fun c hc => by rw [hA1]; exact zk_up_ne hc
  have a2 : A1.1 = M.1 ∧ A1.2.1 = M.2.1 := by rw [hA1]; exact ⟨rfl, rfl⟩
  have a3 : A1.2.2 s 1 = .int (iZ 0) := by rw [hA1]; exact zk_up_a2
  rw [← hA1]
  refine gb_s (J := mJ7_copyOfRange_39247) (d1 := d - 1) [.ref b, .int (iZ 0), .int (iZ (t.length : Int))] _ dJ0_init_db425_32 rfl wm_String_54 jzJ7_copyOfRange_39247 rfl (Nat.le_of_ble_eq_true rfl) (Nat.le_of_ble_eq_true rfl) (by omega) ⟨Nat.le_refl _, Nat.le_refl _⟩ (ja_range (cap := cap) (by rw [a2.1]; exact b1) b2 (by rw [a2.2]; exact b3) (fun j hj => by rw [a1 b nbs]; exact zSB_fit h9 hj) c1 c2 (by rw [a2.2]; exact hn) (by omega)) (fun v M2 hh => ?_)
  obtain ⟨rfl, q1, q2, q3, q4⟩ := hh
  rw [a2.2] at q1 q3 q4 ⊢
  have o1 : ∀ c, c < M.2.1 → M2.1 c = M.1 c := fun c hc => (q2.2.1 c (by rw [a2.2]; exact hc)).trans (by rw [a2.1])
  have o2 : ∀ c, c < M.2.1 → M2.2.2 c = A1.2.2 c := fun c hc => q2.2.2 c (by rw [a2.2]; exact hc)
  refine gz_putfF (T := TJ0) (N := 4) 0 dJ0_init_db425_35 ((o1 s h2.2).trans h1) rfl wf_String_9 (by omega) h2.1 jo_String ju_String rfl rfl rfl tyJ0 tyJ0_ok nmJ0 rfl (fun _ => ⟨rfl, rfl⟩) ?_
  refine gz_goto (tgt := 97) dJ0_init_db425_38 rfl ?_
  refine gz_return_ dJ0_init_db425_97 rfl ?_
  have ns : M.2.1 ≠ s := by omega
  refine hq _ _ ⟨rfl, ⟨4, (o1 s h2.2).trans h1, by omega, zk_up_a2, ?_, q3, by omega, fun j hj => ?_⟩, q1, fun c hc => o1 c hc, fun c hc q => ?_⟩
  · show zk_up _ s 0 _ s 1 = _
    rw [zk_up_n2 (Or.inr (by decide)), o2 s h2.2]
    exact a3
  · have hm : t.getD j 0 ∈ t := by
      rw [List.getD_eq_getElem?_getD, List.getElem?_eq_getElem hj]
      exact List.getElem_mem hj
    refine ⟨?_, (c5 _ hm).1, (c5 _ hm).2⟩
    show zk_up _ s 0 _ M.2.1 j = _
    rw [zk_up_ne ns, q4 j hj, a1 b nbs]
    exact c4 j hj
  · show zk_up _ s 0 _ c = _
    rw [zk_up_ne q, o2 c hc, a1 c q]
theorem jt_init {s : Nat} (h : zSB M a b cap t) (h1 : M.1 s = (8, 4)) (h2 : 320 ≤ s ∧ s < M.2.1) (hn : 320 ≤ M.2.1) (hd : 5 ≤ d) : zDo l Γ mJ0_init_81219 d 1 t.length [.ref s, .ref a] M F (fun v M' => v = none ∧ zTxR M s t M') := by
  intro Q hq
  refine gz_aload_n dJ0_init_81219_0 rfl ?_
  refine gz_aload_n dJ0_init_81219_1 rfl ?_
  refine gz_null dJ0_init_81219_2 ?_
  refine gz_invi (J := mJ0_init_db425) (d1 := d - 1) (kc1 := 1) (ks1 := t.length) (n := 2) (Q1 := fun v M' F' => (v = none ∧ zTxR M s t M') ∧ F' = F) [.ref a, .null] _ dJ0_init_81219_3 rfl (Or.inl wm_String_489) jiJ0_init_db425 jn_String jcJ0_init_db425 rfl rfl jpJ0_init_db425 rfl ⟨by decide, Nat.le_of_ble_eq_true rfl⟩ (Nat.le_of_ble_eq_true rfl) (by omega) ⟨Nat.le_refl _, Nat.le_refl _⟩ (jt_init2 h h1 h2 hn (by omega) _ (fun v M' h => ⟨h, rfl⟩)) (fun v M' F' hh => ?_)
  obtain ⟨⟨rfl, hh⟩, rfl⟩ := hh
  refine gz_return_ dJ0_init_81219_6 rfl ?_
  exact hq _ _ ⟨rfl, hh⟩
theorem js_toString (h : zSB M a b cap t) (hn : 320 ≤ M.2.1) (hd : 6 ≤ d) : zDo l Γ mJ4_toString_0e30d d 2 (4 + t.length) [.ref a] M F (fun v M' => v = some (.ref M.2.1) ∧ zSg M' M.2.1 (M.2.1 + 1) t ∧ M'.2.1 = M.2.1 + 2 ∧ zOl M M') := by
  intro Q hq
  refine gz_new (k := 8) (f := fun j => defaultValue (tyJ0 j)) dJ4_toString_0e30d_0 rfl wc_StringBuilder_18 jo_String jn_String ju_String tyJ0 tyJ0_ok (fun _ _ => rfl) (fun j => zk_dv _) ⟨by omega, by omega⟩ ?_
  obtain ⟨A1, hA1⟩ : ∃ X, X = zk_add M (8, 4) (fun j => defaultValue (tyJ0 j)) := ⟨_, rfl⟩
  have a1 : zOl M A1 := by rw [hA1]; exact zOl.add
  have a2 : A1.1 M.2.1 = (8, 4) := by rw [hA1]; exact zk_add_at.1
  have a3 : A1.2.1 = M.2.1 + 1 := by rw [hA1]; rfl
  rw [← hA1]
  refine gz_dup dJ4_toString_0e30d_3 rfl ?_
  refine gz_aload_n dJ4_toString_0e30d_4 rfl ?_
  refine gz_invi (J := mJ0_init_81219) (d1 := d - 1) (kc1 := 1) (ks1 := t.length) (n := 1) (Q1 := fun v M' F' => (v = none ∧ zTxR A1 M.2.1 t M') ∧ F' = F) [.ref a] _ dJ4_toString_0e30d_5 rfl (Or.inl wm_StringBuilder_137) jiJ0_init_81219 jn_String jcJ0_init_81219 rfl rfl jpJ0_init_81219 rfl ⟨by decide, Nat.le_of_ble_eq_true rfl⟩ (Nat.le_of_ble_eq_true rfl) (by omega) ⟨by omega, by omega⟩ (jt_init (a1.sb h) a2 ⟨hn, by omega⟩ (by omega) (by omega) _ (fun v M' h => ⟨h, rfl⟩)) (fun v M' F' hh => ?_)
  obtain ⟨⟨rfl, q1, q2, q3, q4⟩, rfl⟩ := hh
  refine gz_areturn dJ4_toString_0e30d_8 rfl (Or.inl ⟨_, rfl⟩) ?_
  exact hq _ _ ⟨rfl, by rw [← a3]; exact q1, by omega, by omega, fun c hc => (q3 c (by omega)).trans (a1.2.1 c hc), fun c hc => (q4 c (by omega) (by omega)).trans (a1.2.2 c hc)⟩
end
end

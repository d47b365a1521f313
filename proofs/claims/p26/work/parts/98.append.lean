/-! THE BUILDER OF TEXTS: append -/
section
variable {l : Launch} {Γ : zk_G} {d : Nat} {F : Heap → Prop}
/-- the string at s, its letters at sb, reads g -/
abbrev zSg (M : zk_M) (s sb : Nat) (g : List Int) : Prop := zStr M s sb g.length (fun j => g.getD j 0)
theorem zStr_keep {M M' : zk_M} {s sb n : Nat} {f : Nat → Int} (h : zStr M s sb n f) (h1 : M'.1 s = M.1 s ∧ M'.1 sb = M.1 sb) (h2 : M'.2.2 s = M.2.2 s ∧ M'.2.2 sb = M.2.2 sb) : zStr M' s sb n f := by
  unfold zStr at h ⊢
  rw [h1.1, h1.2, h2.1, h2.2]
  exact h
theorem getD_app1 {t g : List Int} {j : Nat} (h : j < t.length) : (t ++ g).getD j 0 = t.getD j 0 := by
  rw [List.getD_eq_getElem?_getD, List.getD_eq_getElem?_getD, List.getElem?_append_left h]
theorem getD_app2 {t g : List Int} {j : Nat} (h : t.length ≤ j) : (t ++ g).getD j 0 = g.getD (j - t.length) 0 := by
  rw [List.getD_eq_getElem?_getD, List.getD_eq_getElem?_getD, List.getElem?_append_right h]
theorem zSg_mem {M : zk_M} {s sb : Nat} {g : List Int} (h : zSg M s sb g) : ∀ c ∈ g, 0 ≤ c ∧ c < 128 := fun c hc => by
  obtain ⟨i, hi, e⟩ := List.getElem_of_mem hc
  have q := (h.choose_spec.2.2.2.2.2.2 i hi).2
  dsimp only at q
  rw [List.getD_eq_getElem?_getD, List.getElem?_eq_getElem hi, e] at q
  exact q
section
variable {M : zk_M} {a b cap : Nat} {t : List Int}
theorem jb_inflate {s sb n : Nat} {f : Nat → Int} (h : zSB M a b cap t) (hs : zStr M s sb n f) (hd : 1 ≤ d) : zk_Does l Γ mJ5_inflateIfNeededFor_a7421 d 0 0 [.ref a, .ref s] M F none M F := by
  intro Q hq
  obtain ⟨⟨s1, s2, s3⟩, ⟨b1, b2, b3⟩, ⟨f0, f1, f3⟩, c1, c2, c3, c4, c5⟩ := h
  obtain ⟨len, t1, t2⟩ := id hs
  refine gz_gets (v := .int 1) dJ5_inflateIfNeededFor_a7421_0 (by decide) wf_AbstractStringBuilder_18 (by first | exact True.intro | (show _ < _; decide)) ?_
  refine zz_if_eq (x := 1) (tgt := 21) dJ5_inflateIfNeededFor_a7421_3 rfl (by omega) (fun b3 => ?_) (fun b3 => ?_)
  · exact absurd b3 (by omega)
  refine gz_aload_n dJ5_inflateIfNeededFor_a7421_6 rfl ?_
  refine gz_getf 1 dJ5_inflateIfNeededFor_a7421_7 s1 rfl wf_AbstractStringBuilder_22 (by omega) f1 ?_
  refine gz_aload_n dJ5_inflateIfNeededFor_a7421_10 rfl ?_
  refine gv_0 (J := mJ0_coder_7d493) (d1 := d - 1) dJ5_inflateIfNeededFor_a7421_11 wm_AbstractStringBuilder_40 t1 jzJ0_coder_7d493 (Nat.le_of_ble_eq_true rfl) (Nat.le_of_ble_eq_true rfl) (by omega) ⟨Nat.le_refl _, Nat.le_refl _⟩ (js_coder hs) ?_
  refine zz_icmp_eq (tgt := 21) dJ5_inflateIfNeededFor_a7421_14 rfl (by omega) (fun b14 => ?_) (fun b14 => ?_)
  rotate_left
  · exact absurd rfl b14
  refine gz_return_ dJ5_inflateIfNeededFor_a7421_21 rfl ?_
  exact hq
/-- the row with a string's letters in it -/
def zGB (M : zk_M) (b sb k n : Nat) : zk_M := (M.1, M.2.1, zk_upC M.2.2 b (zk_cpy (M.2.2 sb) (M.2.2 b) 0 k n))
theorem js_getBytes {s sb n k : Nat} {f : Nat → Int} (hs : zStr M s sb n f) (hb : M.1 b = (103, cap)) (hb2 : 320 ≤ b) (hc : cap < 100000) (hk : k + n ≤ cap) (hd : 1 ≤ d) : zk_Does l Γ mJ0_getBytes_840e7 d 0 0 [.ref s, .ref b, .int (iZ (k : Int)), .int (iZ 0)] M F none (zGB M b sb k n) F := by
  intro Q hq
  obtain ⟨len, t1, t2, t3, t4, t5, t6, t7⟩ := id hs
  refine gz_aload_n dJ0_getBytes_840e7_0 rfl ?_
  refine gv_0 (J := mJ0_coder_7d493) (d1 := d - 1) dJ0_getBytes_840e7_1 wm_String_335 t1 jzJ0_coder_7d493 (Nat.le_of_ble_eq_true rfl) (Nat.le_of_ble_eq_true rfl) (by omega) ⟨Nat.le_refl _, Nat.le_refl _⟩ (js_coder hs) ?_
  refine gz_iload_n dJ0_getBytes_840e7_4 rfl ?_
  refine zz_icmp_ne (tgt := 28) dJ0_getBytes_840e7_5 rfl (by omega) (fun b5 => ?_) (fun b5 => ?_)
  · exact absurd rfl b5
  refine gz_aload_n dJ0_getBytes_840e7_8 rfl ?_
  refine gz_getf 0 dJ0_getBytes_840e7_9 t1 rfl wf_String_9 (by omega) t3 ?_
  refine zz_iconst dJ0_getBytes_840e7_12 ?_
  refine gz_aload_n dJ0_getBytes_840e7_13 rfl ?_
  refine gz_iload_n dJ0_getBytes_840e7_14 rfl ?_
  refine gz_iload_n dJ0_getBytes_840e7_15 rfl ?_
  refine gz_ishl dJ0_getBytes_840e7_16 ?_
  rw [str_shl]
  refine gz_aload_n dJ0_getBytes_840e7_17 rfl ?_
  refine gz_getf 0 dJ0_getBytes_840e7_18 t1 rfl wf_String_9 (by omega) t3 ?_
  refine gz_alen (k := 3) dJ0_getBytes_840e7_21 t5 (by decide) ?_
  refine gz_copy (k := 3) (n0 := n) (n1 := cap) (sp := 0) (dp := k) (n := n) dJ0_getBytes_840e7_22 wm_String_212 jn_System (by decide) t5 hb hb2 rfl rfl rfl (by omega) (by omega) (fun i hi => by
    rw [Nat.zero_add, (t7 i hi).1]
    exact ⟨(nar_byte (t7 i hi).2).2, fun x q => by cases q⟩) (Nat.le_of_ble_eq_true rfl) hd ?_
  refine gz_goto (tgt := 43) dJ0_getBytes_840e7_25 rfl ?_
  refine gz_return_ dJ0_getBytes_840e7_43 rfl ?_
  exact hq
theorem jb_putStr {s sb n k : Nat} {f : Nat → Int} (h : zSB M a b cap t) (hs : zStr M s sb n f) (hk : k + n ≤ cap) (hd : 2 ≤ d) : zk_Does l Γ mJ5_putStringAt_47b60 d 0 0 [.ref a, .int (iZ (k : Int)), .ref s] M F none (zGB M b sb k n) F := by
  intro Q hq
  have h9 := h
  obtain ⟨⟨s1, s2, s3⟩, ⟨b1, b2, b3⟩, ⟨f0, f1, f3⟩, c1, c2, c3, c4, c5⟩ := h
  obtain ⟨len, t1, t2⟩ := id hs
  refine gz_aload_n dJ5_putStringAt_47b60_0 rfl ?_
  refine gz_aload_n dJ5_putStringAt_47b60_1 rfl ?_
  refine gb_up (J := mJ5_inflateIfNeededFor_a7421) (d1 := d - 1) [.ref s] _ dJ5_putStringAt_47b60_2 rfl s1 wm_AbstractStringBuilder_397 jbJ5_inflateIfNeededFor_a7421 jtJ5_inflateIfNeededFor_a7421 rfl (Nat.le_of_ble_eq_true rfl) (Nat.le_of_ble_eq_true rfl) (by omega) ⟨Nat.zero_le _, Nat.zero_le _⟩ (zDo_of (jb_inflate h9 hs (by omega))) (fun v M' hh => ?_)
  obtain ⟨rfl, hM1⟩ := hh
  rw [hM1]
  clear hM1
  refine gz_aload_n dJ5_putStringAt_47b60_5 rfl ?_
  refine gz_aload_n dJ5_putStringAt_47b60_6 rfl ?_
  refine gz_getf 0 dJ5_putStringAt_47b60_7 s1 rfl wf_AbstractStringBuilder_15 (by omega) f0 ?_
  refine gz_iload_n dJ5_putStringAt_47b60_10 rfl ?_
  refine gz_aload_n dJ5_putStringAt_47b60_11 rfl ?_
  refine gz_getf 1 dJ5_putStringAt_47b60_12 s1 rfl wf_AbstractStringBuilder_22 (by omega) f1 ?_
  refine gv_3 (J := mJ0_getBytes_840e7) (d1 := d - 1) dJ5_putStringAt_47b60_15 wm_AbstractStringBuilder_399 t1 jzJ0_getBytes_840e7 (Nat.le_of_ble_eq_true rfl) (Nat.le_of_ble_eq_true rfl) (by omega) ⟨Nat.le_refl _, Nat.le_refl _⟩ (js_getBytes hs b1 b2 c2 hk (by omega)) ?_
  refine gz_return_ dJ5_putStringAt_47b60_18 rfl ?_
  exact hq
/-- letters behind those that there are, and the new count -/
theorem zSB_more {M1 : zk_M} {G : Nat → Nat → Value} {b' cap' : Nat} {g : List Int} (h : zSB M1 a b' cap' t) (hg : ∀ c ∈ g, 0 ≤ c ∧ c < 128) (hl : (t ++ g).length ≤ cap') (ga : ∀ j, j ≠ 3 → G a j = M1.2.2 a j) (ga3 : G a 3 = .int (iZ ((t ++ g).length : Int)))
    (gb : ∀ j, G b' j = if t.length ≤ j ∧ j < t.length + g.length then .int (iZ (g.getD (j - t.length) 0)) else M1.2.2 b' j) : zSB (M1.1, M1.2.1, G) a b' cap' (t ++ g) := by
  obtain ⟨⟨s1, s2, s3⟩, ⟨b1, b2, b3⟩, ⟨f0, f1, f3⟩, c1, c2, c3, c4, c5⟩ := h
  have hgd : ∀ i, i < g.length → 0 ≤ g.getD i 0 ∧ g.getD i 0 < 128 := fun i hi => by
    have e : g.getD i 0 = g[i] := by rw [List.getD_eq_getElem?_getD, List.getElem?_eq_getElem hi]; rfl
    rw [e]
    exact hg _ (List.getElem_mem hi)
  refine ⟨⟨s1, s2, s3⟩, ⟨b1, b2, b3⟩, ⟨(ga 0 (by decide)).trans f0, (ga 1 (by decide)).trans f1, ga3⟩, hl, c2, fun j hj => ?_, fun j hj => ?_, fun c hc => ?_⟩
  · show ∃ z, G b' j = _ ∧ _
    rw [gb]
    by_cases q : t.length ≤ j ∧ j < t.length + g.length
    · rw [if_pos q]
      exact ⟨_, rfl, hgd _ (by omega)⟩
    · rw [if_neg q]
      exact c3 j hj
  · show G b' j = _
    rw [List.length_append] at hj
    rw [gb]
    by_cases q : t.length ≤ j
    · rw [if_pos ⟨q, hj⟩, getD_app2 q]
    · rw [if_neg (fun k => q k.1), getD_app1 (by omega)]
      exact c4 j (by omega)
  · rcases List.mem_append.mp hc with q | q
    · exact c5 c q
    · exact hg c q
theorem jb_appStr {s sb : Nat} {g : List Int} (h : zSB M a b cap t) (hs : zSg M s sb g) (hs9 : s < M.2.1 ∧ sb < M.2.1 ∧ sb ≠ b) (hb9 : (t ++ g).length < 40000 ∧ cap < 40000) (hd : 4 ≤ d) : zDo l Γ mJ5_append_cf1ce d 1 (zCap (t ++ g).length cap) [.ref a, .ref s] M F (fun v M' => v = some (.ref a) ∧ ∃ b', zSB M' a b' (zCap (t ++ g).length cap) (t ++ g) ∧ zKp M M' a b b') := by
  intro Q hq
  have h9 := h
  have hla := List.length_append (as := t) (bs := g)
  obtain ⟨⟨s1, s2, s3⟩, ⟨b1, b2, b3⟩, ⟨f0, f1, f3⟩, c1, c2, c3, c4, c5⟩ := h
  obtain ⟨len, t1, t2, t3, t4, t5, t6, t7⟩ := id hs
  have nsa : s ≠ a := fun e => by rw [e, s1] at t1; cases t1
  have nsb : s ≠ b := fun e => by rw [e, b1] at t1; cases t1
  have nba : sb ≠ a := fun e => by rw [e, s1] at t5; cases t5
  have nab : a ≠ b := fun e => by rw [e, b1] at s1; cases s1
  refine gz_aload_n dJ5_append_cf1ce_0 rfl ?_
  refine gz_ifnonnull (tgt := 9) dJ5_append_cf1ce_1 rfl ?_
  refine gz_aload_n dJ5_append_cf1ce_9 rfl ?_
  refine gv_0 (J := mJ0_length_8abf5) (d1 := d - 1) dJ5_append_cf1ce_10 wm_AbstractStringBuilder_32 t1 jzJ0_length_8abf5 (Nat.le_of_ble_eq_true rfl) (Nat.le_of_ble_eq_true rfl) (by omega) ⟨Nat.zero_le _, Nat.zero_le _⟩ (js_length hs (by omega)) ?_
  refine gz_istore_n dJ5_append_cf1ce_13 (Nat.le_of_ble_eq_true rfl) rfl ?_
  refine gz_aload_n dJ5_append_cf1ce_14 rfl ?_
  refine gz_aload_n dJ5_append_cf1ce_15 rfl ?_
  refine gz_getf 3 dJ5_append_cf1ce_16 s1 rfl wf_AbstractStringBuilder_79 (by omega) f3 ?_
  refine gz_iload_n dJ5_append_cf1ce_19 rfl ?_
  refine zz_iadd dJ5_append_cf1ce_20 ?_
  rw [show (t.length : Int) + (g.length : Int) = (((t ++ g).length : Nat) : Int) by rw [hla]; omega]
  refine gb_up (J := mJ5_ensureCapacityInternal_d00df) (d1 := d - 1) [.int (iZ (((t ++ g).length : Nat) : Int))] _ dJ5_append_cf1ce_21 rfl s1 wm_AbstractStringBuilder_100 jbJ5_ensureCapacityInternal_d00df jtJ5_ensureCapacityInternal_d00df rfl (Nat.le_of_ble_eq_true rfl) (Nat.le_of_ble_eq_true rfl) (by omega) ⟨Nat.le_refl _, Nat.le_refl _⟩ (jb_ensure h9 hb9.1 hb9.2 (by omega)) (fun v M1 hh => ?_)
  obtain ⟨rfl, b', h1, hk⟩ := hh
  have h19 := h1
  obtain ⟨⟨s1', s2', s3'⟩, ⟨b1', b2', b3'⟩, ⟨f0', f1', f3'⟩, c1', c2', c3', c4', c5'⟩ := h1
  obtain ⟨k1, k2, k3, k4⟩ := hk
  have hcap : (t ++ g).length ≤ zCap (t ++ g).length cap := by unfold zCap; (repeat' split) <;> omega
  have hs1 : zSg M1 s sb g := zStr_keep hs ⟨k2 s hs9.1, k2 sb hs9.2.1⟩ ⟨k3 s hs9.1 nsa nsb, k3 sb hs9.2.1 nba hs9.2.2⟩
  have nab' : a ≠ b' := fun e => by rw [e, b1'] at s1'; cases s1'
  refine gz_aload_n dJ5_append_cf1ce_24 rfl ?_
  refine gz_aload_n dJ5_append_cf1ce_25 rfl ?_
  refine gz_getf 3 dJ5_append_cf1ce_26 s1' rfl wf_AbstractStringBuilder_79 (by omega) f3' ?_
  refine gz_aload_n dJ5_append_cf1ce_29 rfl ?_
  refine gb_up (J := mJ5_putStringAt_47b60) (d1 := d - 1) [.int (iZ (t.length : Int)), .ref s] _ dJ5_append_cf1ce_30 rfl s1' wm_AbstractStringBuilder_208 jbJ5_putStringAt_47b60 jtJ5_putStringAt_47b60 rfl (Nat.le_of_ble_eq_true rfl) (Nat.le_of_ble_eq_true rfl) (by omega) ⟨Nat.zero_le _, Nat.zero_le _⟩ (zDo_of (jb_putStr h19 hs1 (by omega) (by omega))) (fun v M2 hh => ?_)
  obtain ⟨rfl, hM2⟩ := hh
  rw [hM2]
  clear hM2
  have g3 : ∀ x, x ≠ b' → (zGB M1 b' sb t.length g.length).2.2 x = M1.2.2 x := fun x hx => zk_upC_n hx
  have g4 : (zGB M1 b' sb t.length g.length).2.2 b' = zk_cpy (M1.2.2 sb) (M1.2.2 b') 0 t.length g.length := zk_upC_a
  refine gz_aload_n dJ5_append_cf1ce_33 rfl ?_
  refine gz_dup dJ5_append_cf1ce_34 rfl ?_
  refine gz_getf 3 dJ5_append_cf1ce_35 s1' rfl wf_AbstractStringBuilder_79 (by omega) ((congrFun (g3 a nab') 3).trans f3') ?_
  refine gz_iload_n dJ5_append_cf1ce_38 rfl ?_
  refine zz_iadd dJ5_append_cf1ce_39 ?_
  rw [show (t.length : Int) + (g.length : Int) = (((t ++ g).length : Nat) : Int) by rw [hla]; omega]
  refine gz_putf (T := TJ4) (N := 4) 3 dJ5_append_cf1ce_40 s1' rfl wf_AbstractStringBuilder_79 (by omega) s2 jo_StringBuilder ju_StringBuilder rfl tyJ4 tyJ4_ok nmJ4 rfl (fun _ => ⟨rfl, rfl⟩) ?_
  refine gz_aload_n dJ5_append_cf1ce_43 rfl ?_
  refine gz_areturn dJ5_append_cf1ce_44 rfl (Or.inl ⟨_, rfl⟩) ?_
  have kb : b' ≠ b → M.2.1 ≤ b' := fun q => k4.resolve_left q
  refine hq _ _ ⟨rfl, b', zSB_more (M1 := M1) h19 (zSg_mem hs) hcap (fun j hj => ?_) zk_up_a2 (fun j => ?_), k1, k2, fun c hc q1 q2 => ?_, k4⟩
  · show zk_up _ a 3 _ a j = _
    rw [zk_up_n2 (Or.inr hj), g3 a nab']
  · show zk_up _ a 3 _ b' j = _
    rw [zk_up_ne (Ne.symm nab'), g4]
    unfold zk_cpy
    by_cases q : t.length ≤ j ∧ j < t.length + g.length
    · rw [if_pos q, if_pos q, Nat.zero_add]
      obtain ⟨len1, u1, u2, u3, u4, u5, u6, u7⟩ := hs1
      exact (u7 _ (by omega)).1
    · rw [if_neg q, if_neg q]
  · show zk_up _ a 3 _ c = _
    rw [zk_up_ne q1, g3 c (fun e => by
      by_cases w : b' = b
      · exact q2 (e.trans w)
      · have := kb w
        omega)]
    exact k3 c hc q1 q2
theorem js_append {s sb : Nat} {g : List Int} (h : zSB M a b cap t) (hs : zSg M s sb g) (hs9 : s < M.2.1 ∧ sb < M.2.1 ∧ sb ≠ b) (hb9 : (t ++ g).length < 40000 ∧ cap < 40000) (hd : 5 ≤ d) : zDo l Γ mJ4_append_15ec4 d 1 (zCap (t ++ g).length cap) [.ref a, .ref s] M F (fun v M' => v = some (.ref a) ∧ ∃ b', zSB M' a b' (zCap (t ++ g).length cap) (t ++ g) ∧ zKp M M' a b b') := by
  intro Q hq
  refine gz_aload_n dJ4_append_15ec4_0 rfl ?_
  refine gz_aload_n dJ4_append_15ec4_1 rfl ?_
  refine gb_super (J := mJ5_append_cf1ce) (d1 := d - 1) [.ref s] _ dJ4_append_15ec4_2 rfl h.1.1 wm_StringBuilder_29 wz_super (by decide) jbJ5_append_cf1ce rfl (Nat.le_of_ble_eq_true rfl) (Nat.le_of_ble_eq_true rfl) (by omega) ⟨Nat.le_refl _, Nat.le_refl _⟩ (jb_appStr h hs hs9 hb9 (by omega)) (fun v M1 hh => ?_)
  obtain ⟨rfl, hh⟩ := hh
  refine gz_pop dJ4_append_15ec4_5 rfl ?_
  refine gz_aload_n dJ4_append_15ec4_6 rfl ?_
  refine gz_areturn dJ4_append_15ec4_7 rfl (Or.inl ⟨_, rfl⟩) ?_
  exact hq _ _ ⟨rfl, hh⟩
end
end

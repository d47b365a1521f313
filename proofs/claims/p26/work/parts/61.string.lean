/-! STRINGS OF ONE-BYTE LETTERS, in any small memory -/
section
variable {l : Launch} {Γ : zk_G} {d : Nat} {Z : Nat → Nat → Int} {F : Heap → Prop}
/-- at a stands a string whose bytes, at b, are the n numbers that f says -/
def zStr (M : zk_M) (a b n : Nat) (f : Nat → Int) : Prop := ∃ len, M.1 a = (8, len) ∧ 2 ≤ len ∧ M.2.2 a 0 = .ref b ∧ M.2.2 a 1 = .int (iZ 0) ∧ M.1 b = (103, n) ∧ n < 100000 ∧ ∀ j, j < n → M.2.2 b j = .int (iZ (f j)) ∧ 0 ≤ f j ∧ f j < 128
theorem str_and : ∀ x : Fin 128, iZ ((x.val : Nat) : Int) &&& iZ 255 = iZ ((x.val : Nat) : Int) ∧ ((iZ ((x.val : Nat) : Int)).toUInt32 % 65536).toInt32 = iZ ((x.val : Nat) : Int) := by decide +kernel
theorem str_and2 {x : Int} (h : 0 ≤ x ∧ x < 128) : iZ x &&& iZ 255 = iZ x ∧ ((iZ x).toUInt32 % 65536).toInt32 = iZ x := by
  have q := str_and ⟨x.toNat, by omega⟩
  rw [show (((⟨x.toNat, by omega⟩ : Fin 128).val : Nat) : Int) = x from by show ((x.toNat : Nat) : Int) = x; omega] at q
  exact q
theorem str_nar0 : ∀ x : Fin 128, narrow .char (.int (iZ ((x.val : Nat) : Int))) = .int (iZ ((x.val : Nat) : Int)) := by decide +kernel
theorem str_nar {x : Int} (h : 0 ≤ x ∧ x < 128) : narrow .char (.int (iZ x)) = .int (iZ x) := by
  have q := str_nar0 ⟨x.toNat, by omega⟩
  rw [show (((⟨x.toNat, by omega⟩ : Fin 128).val : Nat) : Int) = x from by show ((x.toNat : Nat) : Int) = x; omega] at q
  exact q
theorem str_shr (n : Int32) : n >>> (iZ 0 &&& 31) = n := by
  rw [show iZ 0 &&& (31 : Int32) = 0 from rfl]
  exact Int32.shiftRight_zero
theorem js_coder {M : zk_M} {a b n : Nat} {f : Nat → Int} (hs : zStr M a b n f) : zk_Does l Γ mJ0_coder_7d493 d 0 0 [.ref a] M F (some (.int (iZ 0))) M F := by
  intro Q hq
  obtain ⟨len, s1, s2, s3, s4, s5, s6, s7⟩ := hs
  refine gz_gets (v := .int 1) dJ0_coder_7d493_0 (by decide) wf_String_38 (by first | exact True.intro | (show _ < _; decide)) ?_
  refine zz_if_eq (x := 1) (tgt := 13) dJ0_coder_7d493_3 rfl (by omega) (fun b3 => ?_) (fun b3 => ?_)
  · exact absurd b3 (by omega)
  refine gz_aload_n dJ0_coder_7d493_6 rfl ?_
  refine gz_getf 1 dJ0_coder_7d493_7 s1 rfl wf_String_15 (by omega) s4 ?_
  refine gz_goto (tgt := 14) dJ0_coder_7d493_10 rfl ?_
  refine gz_ireturn dJ0_coder_7d493_14 rfl rfl ?_
  (first | exact hq | (rw [if_pos (by omega)] at hq; exact hq) | (rw [if_neg (by omega)] at hq; exact hq))
theorem js_latin {M : zk_M} {a b n : Nat} {f : Nat → Int} (hs : zStr M a b n f) : zk_Does l Γ mJ0_isLatin1_aae02 d 0 0 [.ref a] M F (some (.int (iZ 1))) M F := by
  intro Q hq
  obtain ⟨len, s1, s2, s3, s4, s5, s6, s7⟩ := hs
  refine gz_gets (v := .int 1) dJ0_isLatin1_aae02_0 (by decide) wf_String_38 (by first | exact True.intro | (show _ < _; decide)) ?_
  refine zz_if_eq (x := 1) (tgt := 17) dJ0_isLatin1_aae02_3 rfl (by omega) (fun b3 => ?_) (fun b3 => ?_)
  · exact absurd b3 (by omega)
  refine gz_aload_n dJ0_isLatin1_aae02_6 rfl ?_
  refine gz_getf 1 dJ0_isLatin1_aae02_7 s1 rfl wf_String_15 (by omega) s4 ?_
  refine zz_if_ne (tgt := 17) dJ0_isLatin1_aae02_10 rfl (by omega) (fun b10 => ?_) (fun b10 => ?_)
  · exact absurd b10 (by omega)
  refine zz_iconst dJ0_isLatin1_aae02_13 ?_
  refine gz_goto (tgt := 18) dJ0_isLatin1_aae02_14 rfl ?_
  refine gz_ireturn dJ0_isLatin1_aae02_18 rfl rfl ?_
  (first | exact hq | (rw [if_pos (by omega)] at hq; exact hq) | (rw [if_neg (by omega)] at hq; exact hq))
theorem js_length {M : zk_M} {a b n : Nat} {f : Nat → Int} (hs : zStr M a b n f) (hd : 1 ≤ d) : zk_Does l Γ mJ0_length_8abf5 d 0 0 [.ref a] M F (some (.int (iZ (n : Int)))) M F := by
  intro Q hq
  have hs2 := hs
  obtain ⟨len, s1, s2, s3, s4, s5, s6, s7⟩ := hs
  refine gz_aload_n dJ0_length_8abf5_0 rfl ?_
  refine gz_getf 0 dJ0_length_8abf5_1 s1 rfl wf_String_9 (by omega) s3 ?_
  refine gz_alen (k := 3) dJ0_length_8abf5_4 s5 (by decide) ?_
  refine gz_aload_n dJ0_length_8abf5_5 rfl ?_
  refine gv_0 (J := mJ0_coder_7d493) (d1 := d - 1) dJ0_length_8abf5_6 wm_String_335 s1 jzJ0_coder_7d493 (Nat.le_of_ble_eq_true rfl) (Nat.le_of_ble_eq_true rfl) (by omega) ⟨Nat.le_refl _, Nat.le_refl _⟩ (js_coder hs2) ?_
  refine gz_ishr dJ0_length_8abf5_9 ?_
  refine gz_ireturn dJ0_length_8abf5_10 rfl rfl ?_
  rw [str_shr]
  exact hq
/-- a static that holds a reference or null: cell 51, or null -/
theorem gz_getsQ {I : zk_MI} {kc ks pc : Nat} {L : List (Option Value)} {st : List Value} {M : zk_M} {Q : Option Value → zk_M → (Heap → Prop) → Prop} {i : Nat} (hd : decode I.2.1 pc = .ok (.getstatic i, 3)) (hw : Cond.fieldLink I.1.cls i "jdk/internal/util/Preconditions" "SIOOBE_FORMATTER" "Ljava/util/function/BiFunction;" ∈ zk_tg)
    (kk : ∀ v : Value, v = .null ∨ v = .ref 51 → zk_Go l Γ I d kc ks Q (pc + 3) L (v :: st) M F) : zk_Go l Γ I d kc ks Q pc L st M F := by
  intro p e R s m args below meth c H locs cells slots Qf A ρ ls hc hr hs9 hR hA hS hL hW hE
  obtain ⟨v, hv2, cf, kf, fi, f, q, cell, h1, h2, h3, h4, h5, h6, h7, h8⟩ := hc.2.2.2.2.2.2.2.2.2.2.2.2.1.2.2
  have hv : zk_in_n zk_N v := by
    rcases hv2 with rfl | rfl
    · trivial
    · show 51 < 320
      decide
  have hlt : q < Γ.2.1.size := (Array.getElem?_eq_some_iff.mp h5).1
  have ev : zk_v0 Γ v = zk_v ρ v := by
    unfold zk_v0 zk_v
    cases v with
    | ref x => exact congrArg Value.ref (hR.1.2.2.2.2.1 x hv).symm
    | _ => rfl
  have hwf : zk_in_n M.2.1 v := by
    cases v with
    | ref x => exact Nat.lt_of_lt_of_le hv hR.1.2.2.2.2.2.2
    | _ => trivial
  refine W.gets hc.1 hc.2.1 hc.2.2.2.1 (hc.2.2.2.2.1 _ hw) h1 h2 h3 h4 (cell₁ := cell) (by rw [hR.1.2.2.1.1 q hlt]; exact h5) (fun e => by rw [e] at h6; cases h6) (v := zk_v ρ v) (by rw [← ev]; exact h7) rfl hd ?_
  exact kk v hv2 p e R s m args below meth c H locs cells slots Qf A ρ ls hc hr hs9 hR hA hS hL ⟨hwf, hW⟩ hE
theorem js_pre {M : zk_M} {vq : Value} (hvq : vq = .null ∨ vq = .ref 51) {i n : Nat} (hi : i < n) (hn : n < 100000) : zk_Does l Γ mJ3_checkIndex_8e157 d 0 0 [.int (iZ (i : Int)), .int (iZ (n : Int)), vq] M F (some (.int (iZ (i : Int)))) M F := by
  intro Q hq
  rcases hvq with rfl | rfl <;> (
    refine gz_iload_n dJ3_checkIndex_8e157_0 rfl ?_
    refine zz_if_lt (tgt := 9) dJ3_checkIndex_8e157_1 rfl (by omega) (fun b1 => ?_) (fun b1 => ?_)
    · exact absurd b1 (by omega)
    refine gz_iload_n dJ3_checkIndex_8e157_4 rfl ?_
    refine gz_iload_n dJ3_checkIndex_8e157_5 rfl ?_
    refine zz_icmp_lt (tgt := 16) dJ3_checkIndex_8e157_6 rfl (by omega) (fun b6 => ?_) (fun b6 => ?_)
    rotate_left
    · exact absurd b6 (by omega)
    refine gz_iload_n dJ3_checkIndex_8e157_16 rfl ?_
    refine gz_ireturn dJ3_checkIndex_8e157_17 rfl rfl ?_
    (first | exact hq | (rw [if_pos (by omega)] at hq; exact hq) | (rw [if_neg (by omega)] at hq; exact hq))
  )
theorem js_check {M : zk_M} {i n : Nat} (hi : i < n) (hn : n < 100000) (hd : 1 ≤ d) : zk_Does l Γ mJ0_checkIndex_df160 d 0 0 [.int (iZ (i : Int)), .int (iZ (n : Int))] M F none M F := by
  intro Q hq
  refine gz_iload_n dJ0_checkIndex_df160_0 rfl ?_
  refine gz_iload_n dJ0_checkIndex_df160_1 rfl ?_
  refine gz_getsQ dJ0_checkIndex_df160_2 wf_String_1053 (fun vq hvq => ?_)
  rcases hvq with rfl | rfl <;> (
    refine gs_3 (J := mJ3_checkIndex_8e157) (d1 := d - 1) dJ0_checkIndex_df160_5 wm_String_1059 jzJ3_checkIndex_8e157 (Nat.le_of_ble_eq_true rfl) (Nat.le_of_ble_eq_true rfl) (by omega) ⟨Nat.le_refl _, Nat.le_refl _⟩ (js_pre (by first | exact Or.inl rfl | exact Or.inr rfl) hi hn) ?_
    refine gz_pop dJ0_checkIndex_df160_8 rfl ?_
    refine gz_return_ dJ0_checkIndex_df160_9 rfl ?_
    exact hq)
theorem js_latinAt {M : zk_M} {b n : Nat} {f : Nat → Int} (s5 : M.1 b = (103, n)) (s6 : n < 100000) (s7 : ∀ j, j < n → M.2.2 b j = .int (iZ (f j)) ∧ 0 ≤ f j ∧ f j < 128) {i : Nat} (hi : i < n) (hd : 2 ≤ d) : zk_Does l Γ mJ1_charAt_3b067 d 0 0 [.ref b, .int (iZ (i : Int))] M F (some (.int (iZ (f i)))) M F := by
  intro Q hq
  refine gz_iload_n dJ1_charAt_3b067_0 rfl ?_
  refine gz_aload_n dJ1_charAt_3b067_1 rfl ?_
  refine gz_alen (k := 3) dJ1_charAt_3b067_2 s5 (by decide) ?_
  refine gs_2 (J := mJ0_checkIndex_df160) (d1 := d - 1) dJ1_charAt_3b067_3 wm_StringLatin1_9 jzJ0_checkIndex_df160 (Nat.le_of_ble_eq_true rfl) (Nat.le_of_ble_eq_true rfl) (by omega) ⟨Nat.le_refl _, Nat.le_refl _⟩ (js_check hi s6 (by omega)) ?_
  refine gz_aload_n dJ1_charAt_3b067_6 rfl ?_
  refine gz_iload_n dJ1_charAt_3b067_7 rfl ?_
  refine gz_bald (n := i) dJ1_charAt_3b067_8 s5 rfl (by omega) (s7 i hi).1 ?_
  refine zz_sipush (x := 255) dJ1_charAt_3b067_9 rfl ?_
  refine gz_iand dJ1_charAt_3b067_12 ?_
  rw [(str_and2 (s7 i hi).2).1]
  refine gz_i2c dJ1_charAt_3b067_13 (str_and2 (s7 i hi).2).2 ?_
  refine gz_ireturn dJ1_charAt_3b067_14 rfl (str_nar (s7 i hi).2) ?_
  (first | exact hq | (rw [if_pos (by omega)] at hq; exact hq) | (rw [if_neg (by omega)] at hq; exact hq))
theorem js_charAt {M : zk_M} {a b n : Nat} {f : Nat → Int} (hs : zStr M a b n f) {i : Nat} (hi : i < n) (hd : 3 ≤ d) : zk_Does l Γ mJ0_charAt_5068e d 0 0 [.ref a, .int (iZ (i : Int))] M F (some (.int (iZ (f i)))) M F := by
  intro Q hq
  have hs2 := hs
  obtain ⟨len, s1, s2, s3, s4, s5, s6, s7⟩ := hs
  refine gz_aload_n dJ0_charAt_5068e_0 rfl ?_
  refine gv_0 (J := mJ0_isLatin1_aae02) (d1 := d - 1) dJ0_charAt_5068e_1 wm_String_492 s1 jzJ0_isLatin1_aae02 (Nat.le_of_ble_eq_true rfl) (Nat.le_of_ble_eq_true rfl) (by omega) ⟨Nat.le_refl _, Nat.le_refl _⟩ (js_latin hs2) ?_
  refine zz_if_eq (tgt := 16) dJ0_charAt_5068e_4 rfl (by omega) (fun b4 => ?_) (fun b4 => ?_)
  · exact absurd b4 (by omega)
  refine gz_aload_n dJ0_charAt_5068e_7 rfl ?_
  refine gz_getf 0 dJ0_charAt_5068e_8 s1 rfl wf_String_9 (by omega) s3 ?_
  refine gz_iload_n dJ0_charAt_5068e_11 rfl ?_
  refine gs_2 (J := mJ1_charAt_3b067) (d1 := d - 1) dJ0_charAt_5068e_12 wm_String_495 jzJ1_charAt_3b067 (Nat.le_of_ble_eq_true rfl) (Nat.le_of_ble_eq_true rfl) (by omega) ⟨Nat.le_refl _, Nat.le_refl _⟩ (js_latinAt s5 s6 s7 hi (by omega)) ?_
  refine gz_ireturn dJ0_charAt_5068e_15 rfl (str_nar (s7 i hi).2) ?_
  (first | exact hq | (rw [if_pos (by omega)] at hq; exact hq) | (rw [if_neg (by omega)] at hq; exact hq))
end

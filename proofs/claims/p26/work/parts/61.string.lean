/-! STRINGS OF ONE-BYTE LETTERS, in any small memory -/
section
variable {l : Launch} {Γ : zk_G} {d : Nat} {Z : Nat → Nat → Int} {F : Heap → Prop}
/-- at a stands a string whose bytes, at b, are the n numbers that f says -/
def zStr (M : zk_M) (a b n : Nat) (f : Nat → Int) : Prop := ∃ len, M.1 a = (8, len) ∧ 2 ≤ len ∧ M.2.2 a 0 = .ref b ∧ M.2.2 a 1 = .int (iZ 0) ∧ M.1 b = (103, n) ∧ n < 100000 ∧ ∀ j, j < n → M.2.2 b j = .int (iZ (f j)) ∧ 0 ≤ f j ∧ f j < 128
theorem str_and : ∀ x : Fin 128, iZ ((x.val : Nat) : Int) &&& iZ 255 = iZ ((x.val : Nat) : Int) ∧ ((iZ ((x.val : Nat) : Int)).toUInt32 % 65536).toInt32 = iZ ((x.val : Nat) : Int) := by decide +kernel
theorem str_and2 {x : Int} (h : 0 ≤ x ∧ x < 128) : iZ x &&& iZ 255 = iZ x ∧ ((iZ x).toUInt32 % 65536).toInt32 = iZ x := by
  have q := str_and ⟨x.toNat, by omega⟩
  rw [show (((⟨x.toNat, by omega⟩ : Fin 128).val : Nat) : Int) = x from by show ((x.toNat : Nat) : Int) = x; omega] at q
  exact q
theorem str_shr (n : Int32) : n >>> (iZ 0 &&& 31) = n := by
  rw [show iZ 0 &&& (31 : Int32) = 0 from rfl]
  exact Int32.shiftRight_zero
theorem js_coder {M : zk_M} {a b n : Nat} {f : Nat → Int} (hs : zStr M a b n f) : zk_Does l Γ mJ0_coder_7d493 d 0 0 [.ref a] M F (some (.int (iZ 0))) M F := by
  intro Q hq
  obtain ⟨len, s1, s2, s3, s4, s5, s6, s7⟩ := hs
  refine gz_gets (v := .int 1) dJ0_coder_7d493_0 (by decide) wf_String_38 (by first | exact True.intro | exact Nat.lt_of_ble_eq_true rfl) ?_
  refine zz_if_eq (x := 1) (tgt := 13) dJ0_coder_7d493_3 rfl (by omega) (fun b3 => ?_) (fun b3 => ?_)
  · exact absurd b3 (by omega)
  refine gz_aload_n dJ0_coder_7d493_6 rfl ?_
  refine gz_getf 1 dJ0_coder_7d493_7 s1 rfl wf_String_15 (by omega) s4 ?_
  refine gz_goto (tgt := 14) dJ0_coder_7d493_10 rfl ?_
  refine gz_ireturn dJ0_coder_7d493_14 rfl rfl ?_
  (first | exact hq | (rw [if_pos (by omega)] at hq; exact hq) | (rw [if_neg (by omega)] at hq; exact hq))
theorem js_latin {M : zk_M} {a b n : Nat} {f : Nat → Int} (hs : zStr M a b n f) : zk_Does l Γ mJ0_isLatin1_aae02 d 0 0 [.ref a] M F (some (.int (iZ 1))) M F := by
  intro Q hq
  obtain ⟨len, s1, s2, s3, s4, s5, s6, s7⟩ := hs
  refine gz_gets (v := .int 1) dJ0_isLatin1_aae02_0 (by decide) wf_String_38 (by first | exact True.intro | exact Nat.lt_of_ble_eq_true rfl) ?_
  refine zz_if_eq (x := 1) (tgt := 17) dJ0_isLatin1_aae02_3 rfl (by omega) (fun b3 => ?_) (fun b3 => ?_)
  · exact absurd b3 (by omega)
  refine gz_aload_n dJ0_isLatin1_aae02_6 rfl ?_
  refine gz_getf 1 dJ0_isLatin1_aae02_7 s1 rfl wf_String_15 (by omega) s4 ?_
  refine zz_if_ne (tgt := 17) dJ0_isLatin1_aae02_10 rfl (by omega) (fun b10 => ?_) (fun b10 => ?_)
  · exact absurd b10 (by omega)
  refine zz_iconst dJ0_isLatin1_aae02_13 ?_
  refine gz_goto (tgt := 18) dJ0_isLatin1_aae02_14 rfl ?_
  refine gz_ireturn dJ0_isLatin1_aae02_18 rfl rfl ?_
  (first | exact hq | (rw [if_pos (by omega)] at hq; exact hq) | (rw [if_neg (by omega)] at hq; exact hq))
theorem js_length {M : zk_M} {a b n : Nat} {f : Nat → Int} (hs : zStr M a b n f) (hd : 1 ≤ d) : zk_Does l Γ mJ0_length_8abf5 d 0 0 [.ref a] M F (some (.int (iZ (n : Int)))) M F := by
  intro Q hq
  have hs2 := hs
  obtain ⟨len, s1, s2, s3, s4, s5, s6, s7⟩ := hs
  refine gz_aload_n dJ0_length_8abf5_0 rfl ?_
  refine gz_getf 0 dJ0_length_8abf5_1 s1 rfl wf_String_9 (by omega) s3 ?_
  refine gz_alen (k := 3) dJ0_length_8abf5_4 s5 (by decide) ?_
  refine gz_aload_n dJ0_length_8abf5_5 rfl ?_
  refine gv_0 (J := mJ0_coder_7d493) (d1 := d - 1) dJ0_length_8abf5_6 wm_String_335 s1 jzJ0_coder_7d493 (Nat.le_of_ble_eq_true rfl) (Nat.le_of_ble_eq_true rfl) (by omega) ⟨Nat.le_refl _, Nat.le_refl _⟩ (js_coder hs2) ?_
  refine gz_ishr dJ0_length_8abf5_9 ?_
  refine gz_ireturn dJ0_length_8abf5_10 rfl rfl ?_
  rw [str_shr]
  exact hq
end

/-! THE TOKENS: words, numbers, symbols -/
section
variable {l : Launch} {Γ : zk_G} {d : Nat} {Z : Nat → Nat → Int} {F : Heap → Prop}
theorem zv_l {a b : Int} (h : a = b) : Value.long (lZ a) = Value.long (lZ b) := by rw [h]
/-- next and value alone may differ -/
def ztk (Z Z' : zV) : Prop := ∀ a j, ¬ (a = 323 ∧ (j = 5 ∨ j = 6)) → Z' a j = Z a j
theorem ztk.refl (Z : zV) : ztk Z Z := fun _ _ _ => rfl
theorem ztk.trans {Z Z1 Z2 : zV} (h : ztk Z Z1) (h2 : ztk Z1 Z2) : ztk Z Z2 := fun a j q => (h2 a j q).trans (h a j q)
theorem ztk.u {Z : zV} {j : Nat} {z : Int} (h : j = 5 ∨ j = 6) : ztk Z (zb_u Z 323 j z) := fun a i q => zb_u_no _ _ (fun e => q ⟨e.1, by rw [e.2]; exact h⟩)
theorem ztk.tp {Z Z' : zV} (h : ztk Z Z') {q : Nat} {s : List Int} (hs : hTp Z q s) : hTp Z' q s := hTp_to (h _ _ (by omega)) (fun _ => h _ _ (by omega)) hs
def isW (c : Int) : Bool := isL c || isD c
def wCd (c : Int) : Int := if isL c = true then c - 97 + 1 else c - 48 + 27
def wVal : Int → List Int → Int
  | v, [] => v
  | v, c :: w => wVal (v * 37 + wCd c) w
def nVal : Int → List Int → Int
  | v, [] => v
  | v, c :: w => nVal (v * 10 + (c - 48)) w
theorem isL_i {c : Int} : isL c = true ↔ 97 ≤ c ∧ c ≤ 122 := by unfold isL; exact decide_eq_true_iff
theorem isD_i {c : Int} : isD c = true ↔ 48 ≤ c ∧ c ≤ 57 := by unfold isD; exact decide_eq_true_iff
theorem isW_i {c : Int} : isW c = true ↔ (97 ≤ c ∧ c ≤ 122) ∨ (48 ≤ c ∧ c ≤ 57) := by unfold isW; rw [Bool.or_eq_true, isL_i, isD_i]
theorem wCd_bd {c : Int} (h : isW c = true) : 0 ≤ wCd c ∧ wCd c ≤ 36 := by
  rw [isW_i] at h
  unfold wCd
  split
  · rename_i e
    rw [isL_i] at e
    omega
  · rename_i e
    rw [isL_i] at e
    omega
theorem zs_word_step {c : Int} {s : List Int} {q : Nat} {v b : Int} {L3 : Option Value} (hc : isW c = true) (h5 : Z 323 5 = (q : Int)) (h6 : Z 323 6 = v) (h : hTp Z q (c :: s)) (hd : 1 ≤ d) {Q : Option Value → zk_M → (Heap → Prop) → Prop} (hk : zk_Go l Γ mX6_scanWord d 0 0 Q 5 [some (.ref 323), some (.ref 321), some (.int (iZ b)), some (.int (iZ c))] [] (zb_M (zb_u (zb_u Z 323 6 (v * 37 + wCd c)) 323 5 ((q : Int) + 1))) F) : zk_Go l Γ mX6_scanWord d 0 0 Q 44 [some (.ref 323), some (.ref 321), some (.int (iZ b)), L3] [] (zb_M Z) F := by
  have hl := hTp_len h
  have hcb := h.2.1
  have e0 : sHead (c :: s) = c := rfl
  refine gz_aload_n dX6_scanWord_44 rfl ?_
  refine gz_aload_n dX6_scanWord_45 rfl ?_
  refine gz_getf 5 dX6_scanWord_46 rfl rfl wf_Heliographs_Tokens_32 (by decide) (zv_i h5) ?_
  refine gv_1 (J := mX5_byteAt) (d1 := d - 1) dX6_scanWord_49 wm_Heliographs_Tokens_59 rfl jzX5_byteAt (Nat.le_of_ble_eq_true rfl) (Nat.le_of_ble_eq_true rfl) (by omega) ⟨Nat.le_refl _, Nat.le_refl _⟩ (zs_byteAt h) ?_
  refine gz_istore_n dX6_scanWord_52 (Nat.le_of_ble_eq_true rfl) rfl ?_
  refine gz_aload_n dX6_scanWord_53 rfl ?_
  refine gz_aload_n dX6_scanWord_54 rfl ?_
  refine gz_getf 6 dX6_scanWord_55 rfl rfl wf_Heliographs_Tokens_63 (by decide) (zv_l h6) ?_
  refine zz_ldc2 (z := 37) dX6_scanWord_58 wk_Heliographs_Tokens_84 rfl ?_
  refine zz_lmul dX6_scanWord_61 ?_
  refine gz_iload_n dX6_scanWord_62 rfl ?_
  refine gs_1 (J := mX6_isLetter) (d1 := d - 1) dX6_scanWord_63 wm_Heliographs_Tokens_67 jzX6_isLetter (Nat.le_of_ble_eq_true rfl) (Nat.le_of_ble_eq_true rfl) (by omega) ⟨Nat.le_refl _, Nat.le_refl _⟩ (zs_isLetter (x := c) (by omega)) ?_
  refine zz_if_eqB (tgt := 78) dX6_scanWord_66 rfl (fun b66 => ?_) (fun b66 => ?_)
  ·
    refine gz_iload_n dX6_scanWord_78 rfl ?_
    refine zz_bipush (x := 48) dX6_scanWord_79 rfl ?_
    refine zz_isub dX6_scanWord_81 ?_
    refine zz_bipush (x := 27) dX6_scanWord_82 rfl ?_
    refine zz_iadd dX6_scanWord_84 ?_
    refine zz_i2l dX6_scanWord_85 (by omega) ?_
    refine zz_ladd dX6_scanWord_86 ?_
    refine zc_putf 6 dX6_scanWord_87 rfl rfl wf_Heliographs_Tokens_63 (by decide) (by decide) jo_Heliographs_Tokens ju_Heliographs_Tokens rfl tyX6 tyX6_ok nmX6 rfl (fun _ => ⟨rfl, rfl⟩) rfl ?_
    refine gz_aload_n dX6_scanWord_90 rfl ?_
    refine gz_dup dX6_scanWord_91 rfl ?_
    refine gz_getf 5 dX6_scanWord_92 rfl rfl wf_Heliographs_Tokens_32 (by decide) (zv_i ((zb_u_j _ _ (by decide)).trans h5)) ?_
    refine zz_iconst dX6_scanWord_95 ?_
    refine zz_iadd dX6_scanWord_96 ?_
    refine zc_putf 5 dX6_scanWord_97 rfl rfl wf_Heliographs_Tokens_32 (by decide) (by decide) jo_Heliographs_Tokens ju_Heliographs_Tokens rfl tyX6 tyX6_ok nmX6 rfl (fun _ => ⟨rfl, rfl⟩) rfl ?_
    refine gz_goto (tgt := 5) dX6_scanWord_100 rfl ?_
    first
      | (rw [show wCd c = c - 97 + 1 from if_pos b66] at hk; exact hk)
      | (rw [show wCd c = c - 48 + 27 from if_neg b66] at hk; exact hk)
  ·
    refine gz_iload_n dX6_scanWord_69 rfl ?_
    refine zz_bipush (x := 97) dX6_scanWord_70 rfl ?_
    refine zz_isub dX6_scanWord_72 ?_
    refine zz_iconst dX6_scanWord_73 ?_
    refine zz_iadd dX6_scanWord_74 ?_
    refine gz_goto (tgt := 85) dX6_scanWord_75 rfl ?_
    refine zz_i2l dX6_scanWord_85 (by omega) ?_
    refine zz_ladd dX6_scanWord_86 ?_
    refine zc_putf 6 dX6_scanWord_87 rfl rfl wf_Heliographs_Tokens_63 (by decide) (by decide) jo_Heliographs_Tokens ju_Heliographs_Tokens rfl tyX6 tyX6_ok nmX6 rfl (fun _ => ⟨rfl, rfl⟩) rfl ?_
    refine gz_aload_n dX6_scanWord_90 rfl ?_
    refine gz_dup dX6_scanWord_91 rfl ?_
    refine gz_getf 5 dX6_scanWord_92 rfl rfl wf_Heliographs_Tokens_32 (by decide) (zv_i ((zb_u_j _ _ (by decide)).trans h5)) ?_
    refine zz_iconst dX6_scanWord_95 ?_
    refine zz_iadd dX6_scanWord_96 ?_
    refine zc_putf 5 dX6_scanWord_97 rfl rfl wf_Heliographs_Tokens_32 (by decide) (by decide) jo_Heliographs_Tokens ju_Heliographs_Tokens rfl tyX6 tyX6_ok nmX6 rfl (fun _ => ⟨rfl, rfl⟩) rfl ?_
    refine gz_goto (tgt := 5) dX6_scanWord_100 rfl ?_
    first
      | (rw [show wCd c = c - 97 + 1 from if_pos b66] at hk; exact hk)
      | (rw [show wCd c = c - 48 + 27 from if_neg b66] at hk; exact hk)
theorem zs_word_loop {s : List Int} {b : Int} (hs : ¬ isW (sHead s) = true) (hd : 1 ≤ d) {Q : Option Value → zk_M → (Heap → Prop) → Prop} : ∀ (n : Nat) (w : List Int) (q : Nat) (v : Int) (Z : zV) (L3 : Option Value), w.length = n → (∀ c, c ∈ w → isW c = true) → Z 323 5 = (q : Int) → Z 323 6 = v → hTp Z q (w ++ s) → (∀ (Z1 : zV) (L4 : Option Value), ztk Z Z1 → Z1 323 5 = ((q + n : Nat) : Int) → Z1 323 6 = wVal v w → zk_Go l Γ mX6_scanWord d 0 0 Q 103 [some (.ref 323), some (.ref 321), some (.int (iZ b)), L4] [] (zb_M Z1) F) → zk_Go l Γ mX6_scanWord d 0 0 Q 5 [some (.ref 323), some (.ref 321), some (.int (iZ b)), L3] [] (zb_M Z) F := by
  intro n
  induction n with
  | zero =>
    intro w q v Z L3 hn hw h5 h6 h hk
    cases w with
    | cons c w => exact absurd hn (by show ¬ w.length + 1 = 0; omega)
    | nil =>
    have hl := hTp_len h
    simp only [List.nil_append] at h hl
    have hb0 : -1 ≤ sHead s ∧ sHead s < 128 := by
      cases s with
      | nil => exact ⟨by decide, by decide⟩
      | cons c s => have := h.2.1; show -1 ≤ c ∧ c < 128; omega
    refine gz_aload_n dX6_scanWord_5 rfl ?_
    refine gz_getf 5 dX6_scanWord_6 rfl rfl wf_Heliographs_Tokens_32 (by decide) (zv_i h5) ?_
    refine gz_aload_n dX6_scanWord_9 rfl ?_
    refine gz_getf 1 dX6_scanWord_10 rfl rfl wf_Heliographs_Tokens_43 (by decide) (zv_i hl.1) ?_
    refine zz_icmp_ge (tgt := 103) dX6_scanWord_13 rfl (by omega) (fun b13 => ?_) (fun b13 => ?_)
    ·
      exact hk Z L3 (ztk.refl Z) h5 h6
    ·
      refine gz_aload_n dX6_scanWord_16 rfl ?_
      refine gz_aload_n dX6_scanWord_17 rfl ?_
      refine gz_getf 5 dX6_scanWord_18 rfl rfl wf_Heliographs_Tokens_32 (by decide) (zv_i h5) ?_
      refine gv_1 (J := mX5_byteAt) (d1 := d - 1) dX6_scanWord_21 wm_Heliographs_Tokens_59 rfl jzX5_byteAt (Nat.le_of_ble_eq_true rfl) (Nat.le_of_ble_eq_true rfl) (by omega) ⟨Nat.le_refl _, Nat.le_refl _⟩ (zs_byteAt h) ?_
      refine gs_1 (J := mX6_isLetter) (d1 := d - 1) dX6_scanWord_24 wm_Heliographs_Tokens_67 jzX6_isLetter (Nat.le_of_ble_eq_true rfl) (Nat.le_of_ble_eq_true rfl) (by omega) ⟨Nat.le_refl _, Nat.le_refl _⟩ (zs_isLetter (x := sHead s) (by omega)) ?_
      refine zz_if_neB (tgt := 44) dX6_scanWord_27 rfl (fun b27 => ?_) (fun b27 => ?_)
      · exact absurd (by unfold isW; rw [b27]; rfl) hs
      refine gz_aload_n dX6_scanWord_30 rfl ?_
      refine gz_aload_n dX6_scanWord_31 rfl ?_
      refine gz_getf 5 dX6_scanWord_32 rfl rfl wf_Heliographs_Tokens_32 (by decide) (zv_i h5) ?_
      refine gv_1 (J := mX5_byteAt) (d1 := d - 1) dX6_scanWord_35 wm_Heliographs_Tokens_59 rfl jzX5_byteAt (Nat.le_of_ble_eq_true rfl) (Nat.le_of_ble_eq_true rfl) (by omega) ⟨Nat.le_refl _, Nat.le_refl _⟩ (zs_byteAt h) ?_
      refine gs_1 (J := mX6_isDigit) (d1 := d - 1) dX6_scanWord_38 wm_Heliographs_Tokens_75 jzX6_isDigit (Nat.le_of_ble_eq_true rfl) (Nat.le_of_ble_eq_true rfl) (by omega) ⟨Nat.le_refl _, Nat.le_refl _⟩ (zs_isDigit (x := sHead s) (by omega)) ?_
      refine zz_if_eqB (tgt := 103) dX6_scanWord_41 rfl (fun b41 => ?_) (fun b41 => ?_)
      rotate_left
      · exact absurd (by unfold isW; rw [b41, Bool.or_true]) hs
      exact hk Z L3 (ztk.refl Z) h5 h6
  | succ n ih =>
    intro w q v Z L3 hn hw h5 h6 h hk
    have hl := hTp_len h
    cases w with
    | nil => exact absurd hn (by show ¬ 0 = n + 1; omega)
    | cons c w2 =>
    have hn2 : w2.length = n := by have : (c :: w2).length = w2.length + 1 := rfl; omega
    have e0 : sHead (c :: w2 ++ s) = c := rfl
    have hcb := h.2.1
    have hcw := hw c List.mem_cons_self
    have el : (c :: w2 ++ s).length = (w2 ++ s).length + 1 := rfl
    rw [el] at hl
    have hstep : ∀ L3, zk_Go l Γ mX6_scanWord d 0 0 Q 44 [some (.ref 323), some (.ref 321), some (.int (iZ b)), L3] [] (zb_M Z) F := fun L3 => zs_word_step hcw h5 h6 h hd (ih w2 (q + 1) (v * 37 + wCd c) _ _ hn2 (fun x hx => hw x (List.mem_cons_of_mem _ hx)) (by rw [zb_u_at]; omega) ((zb_u_j _ _ (by decide)).trans (zb_u_at _ _ _ _)) (ztk.tp ((ztk.u (Or.inr rfl)).trans (ztk.u (Or.inl rfl))) h.2.2) (fun Z1 L4 g1 g2 g3 => hk Z1 L4 (((ztk.u (Or.inr rfl)).trans (ztk.u (Or.inl rfl))).trans g1) (by rw [g2]; omega) g3))
    refine gz_aload_n dX6_scanWord_5 rfl ?_
    refine gz_getf 5 dX6_scanWord_6 rfl rfl wf_Heliographs_Tokens_32 (by decide) (zv_i h5) ?_
    refine gz_aload_n dX6_scanWord_9 rfl ?_
    refine gz_getf 1 dX6_scanWord_10 rfl rfl wf_Heliographs_Tokens_43 (by decide) (zv_i hl.1) ?_
    refine zz_icmp_ge (tgt := 103) dX6_scanWord_13 rfl (by omega) (fun b13 => ?_) (fun b13 => ?_)
    · exact absurd b13 (by omega)
    refine gz_aload_n dX6_scanWord_16 rfl ?_
    refine gz_aload_n dX6_scanWord_17 rfl ?_
    refine gz_getf 5 dX6_scanWord_18 rfl rfl wf_Heliographs_Tokens_32 (by decide) (zv_i h5) ?_
    refine gv_1 (J := mX5_byteAt) (d1 := d - 1) dX6_scanWord_21 wm_Heliographs_Tokens_59 rfl jzX5_byteAt (Nat.le_of_ble_eq_true rfl) (Nat.le_of_ble_eq_true rfl) (by omega) ⟨Nat.le_refl _, Nat.le_refl _⟩ (zs_byteAt h) ?_
    refine gs_1 (J := mX6_isLetter) (d1 := d - 1) dX6_scanWord_24 wm_Heliographs_Tokens_67 jzX6_isLetter (Nat.le_of_ble_eq_true rfl) (Nat.le_of_ble_eq_true rfl) (by omega) ⟨Nat.le_refl _, Nat.le_refl _⟩ (zs_isLetter (x := c) (by omega)) ?_
    refine zz_if_neB (tgt := 44) dX6_scanWord_27 rfl (fun b27 => ?_) (fun b27 => ?_)
    ·
      exact hstep _
    ·
      refine gz_aload_n dX6_scanWord_30 rfl ?_
      refine gz_aload_n dX6_scanWord_31 rfl ?_
      refine gz_getf 5 dX6_scanWord_32 rfl rfl wf_Heliographs_Tokens_32 (by decide) (zv_i h5) ?_
      refine gv_1 (J := mX5_byteAt) (d1 := d - 1) dX6_scanWord_35 wm_Heliographs_Tokens_59 rfl jzX5_byteAt (Nat.le_of_ble_eq_true rfl) (Nat.le_of_ble_eq_true rfl) (by omega) ⟨Nat.le_refl _, Nat.le_refl _⟩ (zs_byteAt h) ?_
      refine gs_1 (J := mX6_isDigit) (d1 := d - 1) dX6_scanWord_38 wm_Heliographs_Tokens_75 jzX6_isDigit (Nat.le_of_ble_eq_true rfl) (Nat.le_of_ble_eq_true rfl) (by omega) ⟨Nat.le_refl _, Nat.le_refl _⟩ (zs_isDigit (x := c) (by omega)) ?_
      refine zz_if_eqB (tgt := 103) dX6_scanWord_41 rfl (fun b41 => ?_) (fun b41 => ?_)
      · exact absurd hcw (by unfold isW; simp only [Bool.or_eq_true]; exact fun q3 => q3.elim b27 b41)
      exact hstep _
def wKind (w : List Int) : Nat := if sKd w 0 48 = 47 then 44 else sKd w 0 48
theorem zs_scanWord {w s : List Int} {q : Nat} (h5 : Z 323 5 = (q : Int)) (h6 : Z 323 6 = 0) (hw : ∀ c, c ∈ w → isW c = true) (hwl : w.length ≤ 10) (hs : ¬ isW (sHead s) = true) (h : hTp Z q (w ++ s)) (hd : 6 ≤ d) : zk_DoesR l Γ mX6_scanWord d [.ref 323, .ref 321] Z F (some (.ref (wKind w))) (fun Z' => ztk Z Z' ∧ Z' 323 5 = ((q + w.length : Nat) : Int) ∧ Z' 323 6 = wVal 0 w) := by
  intro Q hq
  have hlq := (hTp_len h).2
  rw [List.length_append] at hlq
  refine gz_aload_n dX6_scanWord_0 rfl ?_
  refine gz_getf 5 dX6_scanWord_1 rfl rfl wf_Heliographs_Tokens_32 (by decide) (zv_i h5) ?_
  refine gz_istore_n dX6_scanWord_4 (Nat.le_of_ble_eq_true rfl) rfl ?_
  refine zs_word_loop hs (by omega) w.length w q 0 Z _ rfl hw h5 h6 h (fun Z1 L4 g1 g2 g3 => ?_)
  have hgo := hq Z1 ⟨g1, g2, g3⟩
  have h1 := g1.tp h

  have hk48 : sKd w 0 48 < 48 := sKd_lt w 48 0 rfl
  have hka : (zb_s (sKd w 0 48)).1 < 1000 := by rw [(kind_text (Z := Z) hk48).1]; decide
  refine gz_aload_n dX6_scanWord_103 rfl ?_
  refine gz_getf 5 dX6_scanWord_104 rfl rfl wf_Heliographs_Tokens_32 (by decide) (zv_i g2) ?_
  refine gz_iload_n dX6_scanWord_107 rfl ?_
  refine zz_isub dX6_scanWord_108 ?_
  refine zz_bipush (x := 10) dX6_scanWord_109 rfl ?_
  refine zz_icmp_le (tgt := 118) dX6_scanWord_111 rfl (by omega) (fun b111 => ?_) (fun b111 => ?_)
  rotate_left
  · exact absurd b111 (by omega)
  refine gz_aload_n dX6_scanWord_118 rfl ?_
  refine gz_iload_n dX6_scanWord_119 rfl ?_
  refine gz_aload_n dX6_scanWord_120 rfl ?_
  refine gz_getf 5 dX6_scanWord_121 rfl rfl wf_Heliographs_Tokens_32 (by decide) (zv_i g2) ?_
  refine gs_3 (J := mX6_kindOf) (d1 := d - 1) dX6_scanWord_124 wm_Heliographs_Tokens_86 jzX6_kindOf (Nat.le_of_ble_eq_true rfl) (Nat.le_of_ble_eq_true rfl) (by omega) ⟨Nat.le_refl _, Nat.le_refl _⟩ (zs_kindOf h1 (e := q + w.length) rfl (by omega)) ?_
  refine gz_astore_n dX6_scanWord_127 (Nat.le_of_ble_eq_true rfl) rfl ?_
  refine gz_aload_n dX6_scanWord_128 rfl ?_
  refine gz_gets (v := .ref 47) dX6_scanWord_129 (by decide) wf_Heliographs_Tokens_48 (by first | exact True.intro | (show _ < _; decide)) ?_
  refine gz_acmp_ne (tgt := 141) dX6_scanWord_132 rfl hka (by show (zb_s _).1 < 1000; decide) ⟨hk48, by decide⟩ (fun b132 => ?_) (fun b132 => ?_)
  ·
    refine gz_aload_n dX6_scanWord_141 rfl ?_
    refine gz_areturn dX6_scanWord_142 rfl (Or.inl ⟨_, rfl⟩) ?_
    first
      | (rw [show wKind w = sKd w 0 48 from if_neg b132] at hgo; exact hgo)
      | (rw [show wKind w = 44 from if_pos b132] at hgo; exact hgo)
  ·
    refine gz_gets (v := .ref 44) dX6_scanWord_135 (by decide) wf_Heliographs_Tokens_90 (by first | exact True.intro | (show _ < _; decide)) ?_
    refine gz_goto (tgt := 142) dX6_scanWord_138 rfl ?_
    refine gz_areturn dX6_scanWord_142 rfl (Or.inl ⟨_, rfl⟩) ?_
    first
      | (rw [show wKind w = sKd w 0 48 from if_neg b132] at hgo; exact hgo)
      | (rw [show wKind w = 44 from if_pos b132] at hgo; exact hgo)
theorem zs_num_loop {s : List Int} {b : Int} (hs : ¬ isD (sHead s) = true) (hd : 1 ≤ d) {Q : Option Value → zk_M → (Heap → Prop) → Prop} : ∀ (n : Nat) (w : List Int) (q : Nat) (v : Int) (Z : zV), w.length = n → (∀ c, c ∈ w → isD c = true) → Z 323 5 = (q : Int) → Z 323 6 = v → hTp Z q (w ++ s) → (∀ Z1 : zV, ztk Z Z1 → Z1 323 5 = ((q + n : Nat) : Int) → Z1 323 6 = nVal v w → zk_Go l Γ mX6_scanNumber d 0 0 Q 68 [some (.ref 323), some (.ref 321), some (.int (iZ b))] [] (zb_M Z1) F) → zk_Go l Γ mX6_scanNumber d 0 0 Q 5 [some (.ref 323), some (.ref 321), some (.int (iZ b))] [] (zb_M Z) F := by
  intro n
  induction n with
  | zero =>
    intro w q v Z hn hw h5 h6 h hk
    cases w with
    | cons c w => exact absurd hn (by show ¬ w.length + 1 = 0; omega)
    | nil =>
    have hl := hTp_len h
    simp only [List.nil_append] at h hl
    have hb0 : -1 ≤ sHead s ∧ sHead s < 128 := by
      cases s with
      | nil => exact ⟨by decide, by decide⟩
      | cons c s => have := h.2.1; show -1 ≤ c ∧ c < 128; omega
    refine gz_aload_n dX6_scanNumber_5 rfl ?_
    refine gz_getf 5 dX6_scanNumber_6 rfl rfl wf_Heliographs_Tokens_32 (by decide) (zv_i h5) ?_
    refine gz_aload_n dX6_scanNumber_9 rfl ?_
    refine gz_getf 1 dX6_scanNumber_10 rfl rfl wf_Heliographs_Tokens_43 (by decide) (zv_i hl.1) ?_
    refine zz_icmp_ge (tgt := 68) dX6_scanNumber_13 rfl (by omega) (fun b13 => ?_) (fun b13 => ?_)
    ·
      exact hk Z (ztk.refl Z) h5 h6
    ·
      refine gz_aload_n dX6_scanNumber_16 rfl ?_
      refine gz_aload_n dX6_scanNumber_17 rfl ?_
      refine gz_getf 5 dX6_scanNumber_18 rfl rfl wf_Heliographs_Tokens_32 (by decide) (zv_i h5) ?_
      refine gv_1 (J := mX5_byteAt) (d1 := d - 1) dX6_scanNumber_21 wm_Heliographs_Tokens_59 rfl jzX5_byteAt (Nat.le_of_ble_eq_true rfl) (Nat.le_of_ble_eq_true rfl) (by omega) ⟨Nat.le_refl _, Nat.le_refl _⟩ (zs_byteAt h) ?_
      refine gs_1 (J := mX6_isDigit) (d1 := d - 1) dX6_scanNumber_24 wm_Heliographs_Tokens_75 jzX6_isDigit (Nat.le_of_ble_eq_true rfl) (Nat.le_of_ble_eq_true rfl) (by omega) ⟨Nat.le_refl _, Nat.le_refl _⟩ (zs_isDigit (x := sHead s) (by omega)) ?_
      refine zz_if_eqB (tgt := 68) dX6_scanNumber_27 rfl (fun b27 => ?_) (fun b27 => ?_)
      rotate_left
      · exact absurd b27 hs
      exact hk Z (ztk.refl Z) h5 h6
  | succ n ih =>
    intro w q v Z hn hw h5 h6 h hk
    have hl := hTp_len h
    cases w with
    | nil => exact absurd hn (by show ¬ 0 = n + 1; omega)
    | cons c w2 =>
    have hn2 : w2.length = n := by have : (c :: w2).length = w2.length + 1 := rfl; omega
    have e0 : sHead (c :: w2 ++ s) = c := rfl
    have hcb := h.2.1
    have hcw := hw c List.mem_cons_self
    have el : (c :: w2 ++ s).length = (w2 ++ s).length + 1 := rfl
    rw [el] at hl
    refine gz_aload_n dX6_scanNumber_5 rfl ?_
    refine gz_getf 5 dX6_scanNumber_6 rfl rfl wf_Heliographs_Tokens_32 (by decide) (zv_i h5) ?_
    refine gz_aload_n dX6_scanNumber_9 rfl ?_
    refine gz_getf 1 dX6_scanNumber_10 rfl rfl wf_Heliographs_Tokens_43 (by decide) (zv_i hl.1) ?_
    refine zz_icmp_ge (tgt := 68) dX6_scanNumber_13 rfl (by omega) (fun b13 => ?_) (fun b13 => ?_)
    · exact absurd b13 (by omega)
    refine gz_aload_n dX6_scanNumber_16 rfl ?_
    refine gz_aload_n dX6_scanNumber_17 rfl ?_
    refine gz_getf 5 dX6_scanNumber_18 rfl rfl wf_Heliographs_Tokens_32 (by decide) (zv_i h5) ?_
    refine gv_1 (J := mX5_byteAt) (d1 := d - 1) dX6_scanNumber_21 wm_Heliographs_Tokens_59 rfl jzX5_byteAt (Nat.le_of_ble_eq_true rfl) (Nat.le_of_ble_eq_true rfl) (by omega) ⟨Nat.le_refl _, Nat.le_refl _⟩ (zs_byteAt h) ?_
    refine gs_1 (J := mX6_isDigit) (d1 := d - 1) dX6_scanNumber_24 wm_Heliographs_Tokens_75 jzX6_isDigit (Nat.le_of_ble_eq_true rfl) (Nat.le_of_ble_eq_true rfl) (by omega) ⟨Nat.le_refl _, Nat.le_refl _⟩ (zs_isDigit (x := c) (by omega)) ?_
    refine zz_if_eqB (tgt := 68) dX6_scanNumber_27 rfl (fun b27 => ?_) (fun b27 => ?_)
    · exact absurd hcw b27
    refine gz_aload_n dX6_scanNumber_30 rfl ?_
    refine gz_aload_n dX6_scanNumber_31 rfl ?_
    refine gz_getf 6 dX6_scanNumber_32 rfl rfl wf_Heliographs_Tokens_63 (by decide) (zv_l h6) ?_
    refine zz_ldc2 (z := 10) dX6_scanNumber_35 wk_Heliographs_Tokens_93 rfl ?_
    refine zz_lmul dX6_scanNumber_38 ?_
    refine gz_aload_n dX6_scanNumber_39 rfl ?_
    refine gz_aload_n dX6_scanNumber_40 rfl ?_
    refine gz_getf 5 dX6_scanNumber_41 rfl rfl wf_Heliographs_Tokens_32 (by decide) (zv_i h5) ?_
    refine gv_1 (J := mX5_byteAt) (d1 := d - 1) dX6_scanNumber_44 wm_Heliographs_Tokens_59 rfl jzX5_byteAt (Nat.le_of_ble_eq_true rfl) (Nat.le_of_ble_eq_true rfl) (by omega) ⟨Nat.le_refl _, Nat.le_refl _⟩ (zs_byteAt h) ?_
    refine zz_bipush (x := 48) dX6_scanNumber_47 rfl ?_
    refine zz_isub dX6_scanNumber_49 ?_
    refine zz_i2l dX6_scanNumber_50 (by omega) ?_
    refine zz_ladd dX6_scanNumber_51 ?_
    refine zc_putf 6 dX6_scanNumber_52 rfl rfl wf_Heliographs_Tokens_63 (by decide) (by decide) jo_Heliographs_Tokens ju_Heliographs_Tokens rfl tyX6 tyX6_ok nmX6 rfl (fun _ => ⟨rfl, rfl⟩) rfl ?_
    refine gz_aload_n dX6_scanNumber_55 rfl ?_
    refine gz_dup dX6_scanNumber_56 rfl ?_
    refine gz_getf 5 dX6_scanNumber_57 rfl rfl wf_Heliographs_Tokens_32 (by decide) (zv_i ((zb_u_j _ _ (by decide)).trans h5)) ?_
    refine zz_iconst dX6_scanNumber_60 ?_
    refine zz_iadd dX6_scanNumber_61 ?_
    refine zc_putf 5 dX6_scanNumber_62 rfl rfl wf_Heliographs_Tokens_32 (by decide) (by decide) jo_Heliographs_Tokens ju_Heliographs_Tokens rfl tyX6 tyX6_ok nmX6 rfl (fun _ => ⟨rfl, rfl⟩) rfl ?_
    refine gz_goto (tgt := 5) dX6_scanNumber_65 rfl ?_
    exact ih w2 (q + 1) (v * 10 + (c - 48)) _ hn2 (fun x hx => hw x (List.mem_cons_of_mem _ hx)) (by rw [zb_u_at]; omega) ((zb_u_j _ _ (by decide)).trans (zb_u_at _ _ _ _)) (ztk.tp ((ztk.u (Or.inr rfl)).trans (ztk.u (Or.inl rfl))) h.2.2) (fun Z1 g1 g2 g3 => hk Z1 (((ztk.u (Or.inr rfl)).trans (ztk.u (Or.inl rfl))).trans g1) (by rw [g2]; omega) g3)
theorem zs_scanNumber {w s : List Int} {q : Nat} (h5 : Z 323 5 = (q : Int)) (h6 : Z 323 6 = 0) (hw : ∀ c, c ∈ w → isD c = true) (hwl : w.length ≤ 6) (hs : ¬ isD (sHead s) = true) (h : hTp Z q (w ++ s)) (hd : 6 ≤ d) : zk_DoesR l Γ mX6_scanNumber d [.ref 323, .ref 321] Z F (some (.ref 45)) (fun Z' => ztk Z Z' ∧ Z' 323 5 = ((q + w.length : Nat) : Int) ∧ Z' 323 6 = nVal 0 w) := by
  intro Q hq
  have hlq := (hTp_len h).2
  rw [List.length_append] at hlq
  refine gz_aload_n dX6_scanNumber_0 rfl ?_
  refine gz_getf 5 dX6_scanNumber_1 rfl rfl wf_Heliographs_Tokens_32 (by decide) (zv_i h5) ?_
  refine gz_istore_n dX6_scanNumber_4 (Nat.le_of_ble_eq_true rfl) rfl ?_
  refine zs_num_loop hs (by omega) w.length w q 0 Z rfl hw h5 h6 h (fun Z1 g1 g2 g3 => ?_)
  have hgo := hq Z1 ⟨g1, g2, g3⟩
  refine gz_aload_n dX6_scanNumber_68 rfl ?_
  refine gz_getf 5 dX6_scanNumber_69 rfl rfl wf_Heliographs_Tokens_32 (by decide) (zv_i g2) ?_
  refine gz_iload_n dX6_scanNumber_72 rfl ?_
  refine zz_isub dX6_scanNumber_73 ?_
  refine zz_bipush (x := 6) dX6_scanNumber_74 rfl ?_
  refine zz_icmp_le (tgt := 85) dX6_scanNumber_76 rfl (by omega) (fun b76 => ?_) (fun b76 => ?_)
  rotate_left
  · exact absurd b76 (by omega)
  refine gz_gets (v := .ref 45) dX6_scanNumber_85 (by decide) wf_Heliographs_Tokens_95 (by first | exact True.intro | (show _ < _; decide)) ?_
  refine gz_areturn dX6_scanNumber_88 rfl (Or.inl ⟨_, rfl⟩) ?_
  exact hgo
theorem zs_scanSymbol1 {c : Int} {s : List Int} {q : Nat} (h5 : Z 323 5 = (q : Int)) (hno : ¬ ((c = 60 ∨ c = 62) ∧ sHead s = 61)) (h : hTp Z q (c :: s)) (hd : 6 ≤ d) : zk_DoesR l Γ mX6_scanSymbol d [.ref 323, .ref 321] Z F (some (.ref (sKd [c] 0 48))) (fun Z' => ztk Z Z' ∧ Z' 323 5 = ((q + 1 : Nat) : Int) ∧ Z' 323 6 = Z 323 6) := by
  intro Q hq
  have hlq := (hTp_len h).2
  have hcb := h.2.1
  have e0 : sHead (c :: s) = c := rfl
  have hb0 : -1 ≤ sHead s ∧ sHead s < 128 := by
    cases s with
    | nil => exact ⟨by decide, by decide⟩
    | cons c2 s2 => have := h.2.2.2.1; show -1 ≤ c2 ∧ c2 < 128; omega
  have h1 : hTp (zb_u Z 323 5 ((q : Int) + 1)) q ([c] ++ s) := (ztk.u (Or.inl rfl)).tp h
  have hgo := hq _ ⟨ztk.u (Or.inl rfl), zb_u_at Z 323 5 ((q : Int) + 1), zb_u_j _ _ (by decide)⟩
  refine gz_aload_n dX6_scanSymbol_0 rfl ?_
  refine gz_getf 5 dX6_scanSymbol_1 rfl rfl wf_Heliographs_Tokens_32 (by decide) (zv_i h5) ?_
  refine gz_istore_n dX6_scanSymbol_4 (Nat.le_of_ble_eq_true rfl) rfl ?_
  refine gz_aload_n dX6_scanSymbol_5 rfl ?_
  refine gz_iload_n dX6_scanSymbol_6 rfl ?_
  refine gv_1 (J := mX5_byteAt) (d1 := d - 1) dX6_scanSymbol_7 wm_Heliographs_Tokens_59 rfl jzX5_byteAt (Nat.le_of_ble_eq_true rfl) (Nat.le_of_ble_eq_true rfl) (by omega) ⟨Nat.le_refl _, Nat.le_refl _⟩ (zs_byteAt h) ?_
  refine gz_istore_n dX6_scanSymbol_10 (Nat.le_of_ble_eq_true rfl) rfl ?_
  refine gz_iload_n dX6_scanSymbol_11 rfl ?_
  refine zz_bipush (x := 60) dX6_scanSymbol_12 rfl ?_
  refine zz_icmp_eq (tgt := 23) dX6_scanSymbol_14 rfl (by omega) (fun b14 => ?_) (fun b14 => ?_)
  ·
    refine gz_aload_n dX6_scanSymbol_23 rfl ?_
    refine gz_iload_n dX6_scanSymbol_24 rfl ?_
    refine zz_iconst dX6_scanSymbol_25 ?_
    refine zz_iadd dX6_scanSymbol_26 ?_
    refine gv_1 (J := mX5_byteAt) (d1 := d - 1) dX6_scanSymbol_27 wm_Heliographs_Tokens_59 rfl jzX5_byteAt (Nat.le_of_ble_eq_true rfl) (Nat.le_of_ble_eq_true rfl) (by omega) ⟨Nat.le_refl _, Nat.le_refl _⟩ (zs_byteAt (q := q + 1) h.2.2) ?_
    refine zz_bipush (x := 61) dX6_scanSymbol_30 rfl ?_
    refine zz_icmp_ne (tgt := 39) dX6_scanSymbol_32 rfl (by omega) (fun b32 => ?_) (fun b32 => ?_)
    rotate_left
    · exact absurd (⟨by omega, by omega⟩ : (c = 60 ∨ c = 62) ∧ sHead s = 61) hno
    refine zz_iconst dX6_scanSymbol_39 ?_
    refine gz_istore dX6_scanSymbol_40 (Nat.le_of_ble_eq_true rfl) rfl ?_
    refine gz_aload_n dX6_scanSymbol_42 rfl ?_
    refine gz_iload_n dX6_scanSymbol_43 rfl ?_
    refine gz_iload dX6_scanSymbol_44 rfl ?_
    refine zz_if_eq (tgt := 53) dX6_scanSymbol_46 rfl (by omega) (fun b46 => ?_) (fun b46 => ?_)
    rotate_left
    · exact absurd b46 (by omega)
    refine zz_iconst dX6_scanSymbol_53 ?_
    refine zz_iadd dX6_scanSymbol_54 ?_
    refine zc_putf 5 dX6_scanSymbol_55 rfl rfl wf_Heliographs_Tokens_32 (by decide) (by decide) jo_Heliographs_Tokens ju_Heliographs_Tokens rfl tyX6 tyX6_ok nmX6 rfl (fun _ => ⟨rfl, rfl⟩) rfl ?_
    refine gz_aload_n dX6_scanSymbol_58 rfl ?_
    refine gz_iload_n dX6_scanSymbol_59 rfl ?_
    refine gz_aload_n dX6_scanSymbol_60 rfl ?_
    refine gz_getf (v := .int (iZ (((q + 1 : Nat) : Int)))) 5 dX6_scanSymbol_61 rfl rfl wf_Heliographs_Tokens_32 (by decide) (zv_i (by rw [zb_u_at]; omega)) ?_
    refine gs_3 (J := mX6_kindOf) (d1 := d - 1) dX6_scanSymbol_64 wm_Heliographs_Tokens_86 jzX6_kindOf (Nat.le_of_ble_eq_true rfl) (Nat.le_of_ble_eq_true rfl) (by omega) ⟨Nat.le_refl _, Nat.le_refl _⟩ (zs_kindOf (w := [c]) h1 (e := q + 1) rfl (by omega)) ?_
    refine gz_areturn dX6_scanSymbol_67 rfl (Or.inl ⟨_, rfl⟩) ?_
    exact hgo
  ·
    refine gz_iload_n dX6_scanSymbol_17 rfl ?_
    refine zz_bipush (x := 62) dX6_scanSymbol_18 rfl ?_
    refine zz_icmp_ne (tgt := 39) dX6_scanSymbol_20 rfl (by omega) (fun b20 => ?_) (fun b20 => ?_)
    ·
      refine zz_iconst dX6_scanSymbol_39 ?_
      refine gz_istore dX6_scanSymbol_40 (Nat.le_of_ble_eq_true rfl) rfl ?_
      refine gz_aload_n dX6_scanSymbol_42 rfl ?_
      refine gz_iload_n dX6_scanSymbol_43 rfl ?_
      refine gz_iload dX6_scanSymbol_44 rfl ?_
      refine zz_if_eq (tgt := 53) dX6_scanSymbol_46 rfl (by omega) (fun b46 => ?_) (fun b46 => ?_)
      rotate_left
      · exact absurd b46 (by omega)
      refine zz_iconst dX6_scanSymbol_53 ?_
      refine zz_iadd dX6_scanSymbol_54 ?_
      refine zc_putf 5 dX6_scanSymbol_55 rfl rfl wf_Heliographs_Tokens_32 (by decide) (by decide) jo_Heliographs_Tokens ju_Heliographs_Tokens rfl tyX6 tyX6_ok nmX6 rfl (fun _ => ⟨rfl, rfl⟩) rfl ?_
      refine gz_aload_n dX6_scanSymbol_58 rfl ?_
      refine gz_iload_n dX6_scanSymbol_59 rfl ?_
      refine gz_aload_n dX6_scanSymbol_60 rfl ?_
      refine gz_getf (v := .int (iZ (((q + 1 : Nat) : Int)))) 5 dX6_scanSymbol_61 rfl rfl wf_Heliographs_Tokens_32 (by decide) (zv_i (by rw [zb_u_at]; omega)) ?_
      refine gs_3 (J := mX6_kindOf) (d1 := d - 1) dX6_scanSymbol_64 wm_Heliographs_Tokens_86 jzX6_kindOf (Nat.le_of_ble_eq_true rfl) (Nat.le_of_ble_eq_true rfl) (by omega) ⟨Nat.le_refl _, Nat.le_refl _⟩ (zs_kindOf (w := [c]) h1 (e := q + 1) rfl (by omega)) ?_
      refine gz_areturn dX6_scanSymbol_67 rfl (Or.inl ⟨_, rfl⟩) ?_
      exact hgo
    ·
      refine gz_aload_n dX6_scanSymbol_23 rfl ?_
      refine gz_iload_n dX6_scanSymbol_24 rfl ?_
      refine zz_iconst dX6_scanSymbol_25 ?_
      refine zz_iadd dX6_scanSymbol_26 ?_
      refine gv_1 (J := mX5_byteAt) (d1 := d - 1) dX6_scanSymbol_27 wm_Heliographs_Tokens_59 rfl jzX5_byteAt (Nat.le_of_ble_eq_true rfl) (Nat.le_of_ble_eq_true rfl) (by omega) ⟨Nat.le_refl _, Nat.le_refl _⟩ (zs_byteAt (q := q + 1) h.2.2) ?_
      refine zz_bipush (x := 61) dX6_scanSymbol_30 rfl ?_
      refine zz_icmp_ne (tgt := 39) dX6_scanSymbol_32 rfl (by omega) (fun b32 => ?_) (fun b32 => ?_)
      rotate_left
      · exact absurd (⟨by omega, by omega⟩ : (c = 60 ∨ c = 62) ∧ sHead s = 61) hno
      refine zz_iconst dX6_scanSymbol_39 ?_
      refine gz_istore dX6_scanSymbol_40 (Nat.le_of_ble_eq_true rfl) rfl ?_
      refine gz_aload_n dX6_scanSymbol_42 rfl ?_
      refine gz_iload_n dX6_scanSymbol_43 rfl ?_
      refine gz_iload dX6_scanSymbol_44 rfl ?_
      refine zz_if_eq (tgt := 53) dX6_scanSymbol_46 rfl (by omega) (fun b46 => ?_) (fun b46 => ?_)
      rotate_left
      · exact absurd b46 (by omega)
      refine zz_iconst dX6_scanSymbol_53 ?_
      refine zz_iadd dX6_scanSymbol_54 ?_
      refine zc_putf 5 dX6_scanSymbol_55 rfl rfl wf_Heliographs_Tokens_32 (by decide) (by decide) jo_Heliographs_Tokens ju_Heliographs_Tokens rfl tyX6 tyX6_ok nmX6 rfl (fun _ => ⟨rfl, rfl⟩) rfl ?_
      refine gz_aload_n dX6_scanSymbol_58 rfl ?_
      refine gz_iload_n dX6_scanSymbol_59 rfl ?_
      refine gz_aload_n dX6_scanSymbol_60 rfl ?_
      refine gz_getf (v := .int (iZ (((q + 1 : Nat) : Int)))) 5 dX6_scanSymbol_61 rfl rfl wf_Heliographs_Tokens_32 (by decide) (zv_i (by rw [zb_u_at]; omega)) ?_
      refine gs_3 (J := mX6_kindOf) (d1 := d - 1) dX6_scanSymbol_64 wm_Heliographs_Tokens_86 jzX6_kindOf (Nat.le_of_ble_eq_true rfl) (Nat.le_of_ble_eq_true rfl) (by omega) ⟨Nat.le_refl _, Nat.le_refl _⟩ (zs_kindOf (w := [c]) h1 (e := q + 1) rfl (by omega)) ?_
      refine gz_areturn dX6_scanSymbol_67 rfl (Or.inl ⟨_, rfl⟩) ?_
      exact hgo
theorem zs_scanSymbol2 {c : Int} {s : List Int} {q : Nat} (h5 : Z 323 5 = (q : Int)) (hc : c = 60 ∨ c = 62) (h : hTp Z q (c :: 61 :: s)) (hd : 6 ≤ d) : zk_DoesR l Γ mX6_scanSymbol d [.ref 323, .ref 321] Z F (some (.ref (sKd [c, 61] 0 48))) (fun Z' => ztk Z Z' ∧ Z' 323 5 = ((q + 2 : Nat) : Int) ∧ Z' 323 6 = Z 323 6) := by
  intro Q hq
  have hlq := (hTp_len h).2
  have hcb := h.2.1
  have e0 : sHead (c :: 61 :: s) = c := rfl
  have e1 : sHead (61 :: s) = 61 := rfl
  have h1 : hTp (zb_u Z 323 5 ((q : Int) + 2)) q ([c, 61] ++ s) := (ztk.u (Or.inl rfl)).tp h
  have hgo := hq _ ⟨ztk.u (Or.inl rfl), zb_u_at Z 323 5 ((q : Int) + 2), zb_u_j _ _ (by decide)⟩
  refine gz_aload_n dX6_scanSymbol_0 rfl ?_
  refine gz_getf 5 dX6_scanSymbol_1 rfl rfl wf_Heliographs_Tokens_32 (by decide) (zv_i h5) ?_
  refine gz_istore_n dX6_scanSymbol_4 (Nat.le_of_ble_eq_true rfl) rfl ?_
  refine gz_aload_n dX6_scanSymbol_5 rfl ?_
  refine gz_iload_n dX6_scanSymbol_6 rfl ?_
  refine gv_1 (J := mX5_byteAt) (d1 := d - 1) dX6_scanSymbol_7 wm_Heliographs_Tokens_59 rfl jzX5_byteAt (Nat.le_of_ble_eq_true rfl) (Nat.le_of_ble_eq_true rfl) (by omega) ⟨Nat.le_refl _, Nat.le_refl _⟩ (zs_byteAt h) ?_
  refine gz_istore_n dX6_scanSymbol_10 (Nat.le_of_ble_eq_true rfl) rfl ?_
  refine gz_iload_n dX6_scanSymbol_11 rfl ?_
  refine zz_bipush (x := 60) dX6_scanSymbol_12 rfl ?_
  refine zz_icmp_eq (tgt := 23) dX6_scanSymbol_14 rfl (by omega) (fun b14 => ?_) (fun b14 => ?_)
  ·
    refine gz_aload_n dX6_scanSymbol_23 rfl ?_
    refine gz_iload_n dX6_scanSymbol_24 rfl ?_
    refine zz_iconst dX6_scanSymbol_25 ?_
    refine zz_iadd dX6_scanSymbol_26 ?_
    refine gv_1 (J := mX5_byteAt) (d1 := d - 1) dX6_scanSymbol_27 wm_Heliographs_Tokens_59 rfl jzX5_byteAt (Nat.le_of_ble_eq_true rfl) (Nat.le_of_ble_eq_true rfl) (by omega) ⟨Nat.le_refl _, Nat.le_refl _⟩ (zs_byteAt (q := q + 1) h.2.2) ?_
    refine zz_bipush (x := 61) dX6_scanSymbol_30 rfl ?_
    refine zz_icmp_ne (tgt := 39) dX6_scanSymbol_32 rfl (by omega) (fun b32 => ?_) (fun b32 => ?_)
    · exact absurd b32 (by omega)
    refine zz_iconst dX6_scanSymbol_35 ?_
    refine gz_goto (tgt := 40) dX6_scanSymbol_36 rfl ?_
    refine gz_istore dX6_scanSymbol_40 (Nat.le_of_ble_eq_true rfl) rfl ?_
    refine gz_aload_n dX6_scanSymbol_42 rfl ?_
    refine gz_iload_n dX6_scanSymbol_43 rfl ?_
    refine gz_iload dX6_scanSymbol_44 rfl ?_
    refine zz_if_eq (tgt := 53) dX6_scanSymbol_46 rfl (by omega) (fun b46 => ?_) (fun b46 => ?_)
    · exact absurd b46 (by omega)
    refine zz_iconst dX6_scanSymbol_49 ?_
    refine gz_goto (tgt := 54) dX6_scanSymbol_50 rfl ?_
    refine zz_iadd dX6_scanSymbol_54 ?_
    refine zc_putf 5 dX6_scanSymbol_55 rfl rfl wf_Heliographs_Tokens_32 (by decide) (by decide) jo_Heliographs_Tokens ju_Heliographs_Tokens rfl tyX6 tyX6_ok nmX6 rfl (fun _ => ⟨rfl, rfl⟩) rfl ?_
    refine gz_aload_n dX6_scanSymbol_58 rfl ?_
    refine gz_iload_n dX6_scanSymbol_59 rfl ?_
    refine gz_aload_n dX6_scanSymbol_60 rfl ?_
    refine gz_getf (v := .int (iZ (((q + 2 : Nat) : Int)))) 5 dX6_scanSymbol_61 rfl rfl wf_Heliographs_Tokens_32 (by decide) (zv_i (by rw [zb_u_at]; omega)) ?_
    refine gs_3 (J := mX6_kindOf) (d1 := d - 1) dX6_scanSymbol_64 wm_Heliographs_Tokens_86 jzX6_kindOf (Nat.le_of_ble_eq_true rfl) (Nat.le_of_ble_eq_true rfl) (by omega) ⟨Nat.le_refl _, Nat.le_refl _⟩ (zs_kindOf (w := [c, 61]) h1 (e := q + 2) rfl (by omega)) ?_
    refine gz_areturn dX6_scanSymbol_67 rfl (Or.inl ⟨_, rfl⟩) ?_
    exact hgo
  ·
    refine gz_iload_n dX6_scanSymbol_17 rfl ?_
    refine zz_bipush (x := 62) dX6_scanSymbol_18 rfl ?_
    refine zz_icmp_ne (tgt := 39) dX6_scanSymbol_20 rfl (by omega) (fun b20 => ?_) (fun b20 => ?_)
    · exact absurd b20 (by omega)
    refine gz_aload_n dX6_scanSymbol_23 rfl ?_
    refine gz_iload_n dX6_scanSymbol_24 rfl ?_
    refine zz_iconst dX6_scanSymbol_25 ?_
    refine zz_iadd dX6_scanSymbol_26 ?_
    refine gv_1 (J := mX5_byteAt) (d1 := d - 1) dX6_scanSymbol_27 wm_Heliographs_Tokens_59 rfl jzX5_byteAt (Nat.le_of_ble_eq_true rfl) (Nat.le_of_ble_eq_true rfl) (by omega) ⟨Nat.le_refl _, Nat.le_refl _⟩ (zs_byteAt (q := q + 1) h.2.2) ?_
    refine zz_bipush (x := 61) dX6_scanSymbol_30 rfl ?_
    refine zz_icmp_ne (tgt := 39) dX6_scanSymbol_32 rfl (by omega) (fun b32 => ?_) (fun b32 => ?_)
    · exact absurd b32 (by omega)
    refine zz_iconst dX6_scanSymbol_35 ?_
    refine gz_goto (tgt := 40) dX6_scanSymbol_36 rfl ?_
    refine gz_istore dX6_scanSymbol_40 (Nat.le_of_ble_eq_true rfl) rfl ?_
    refine gz_aload_n dX6_scanSymbol_42 rfl ?_
    refine gz_iload_n dX6_scanSymbol_43 rfl ?_
    refine gz_iload dX6_scanSymbol_44 rfl ?_
    refine zz_if_eq (tgt := 53) dX6_scanSymbol_46 rfl (by omega) (fun b46 => ?_) (fun b46 => ?_)
    · exact absurd b46 (by omega)
    refine zz_iconst dX6_scanSymbol_49 ?_
    refine gz_goto (tgt := 54) dX6_scanSymbol_50 rfl ?_
    refine zz_iadd dX6_scanSymbol_54 ?_
    refine zc_putf 5 dX6_scanSymbol_55 rfl rfl wf_Heliographs_Tokens_32 (by decide) (by decide) jo_Heliographs_Tokens ju_Heliographs_Tokens rfl tyX6 tyX6_ok nmX6 rfl (fun _ => ⟨rfl, rfl⟩) rfl ?_
    refine gz_aload_n dX6_scanSymbol_58 rfl ?_
    refine gz_iload_n dX6_scanSymbol_59 rfl ?_
    refine gz_aload_n dX6_scanSymbol_60 rfl ?_
    refine gz_getf (v := .int (iZ (((q + 2 : Nat) : Int)))) 5 dX6_scanSymbol_61 rfl rfl wf_Heliographs_Tokens_32 (by decide) (zv_i (by rw [zb_u_at]; omega)) ?_
    refine gs_3 (J := mX6_kindOf) (d1 := d - 1) dX6_scanSymbol_64 wm_Heliographs_Tokens_86 jzX6_kindOf (Nat.le_of_ble_eq_true rfl) (Nat.le_of_ble_eq_true rfl) (by omega) ⟨Nat.le_refl _, Nat.le_refl _⟩ (zs_kindOf (w := [c, 61]) h1 (e := q + 2) rfl (by omega)) ?_
    refine gz_areturn dX6_scanSymbol_67 rfl (Or.inl ⟨_, rfl⟩) ?_
    exact hgo
theorem zb_r_n (k : Nat) : zb_r (k : Int) = .ref k := by
  unfold zb_r
  rw [if_neg (by omega), Int.toNat_natCast]
theorem zs_keep {k i q : Nat} {v : Int} (hk : k < 48) (hi : i < 401) (h3 : Z 323 3 = (i : Int)) (h6 : Z 323 6 = v) : zk_Does l Γ mX6_keep d 0 0 [.ref 323, .ref k, .int (iZ (q : Int))] (zb_M Z) F none (zb_M (zb_u (zb_u (zb_u (zb_u Z 324 i (k : Int)) 325 i (q : Int)) 326 i v) 323 3 ((i : Int) + 1))) F := by
  intro Q hq
  refine gz_aload_n dX6_keep_0 rfl ?_
  refine gz_getf 3 dX6_keep_1 rfl rfl wf_Heliographs_Tokens_25 (by decide) (zv_i h3) ?_
  refine gz_aload_n dX6_keep_4 rfl ?_
  refine gz_getf 0 dX6_keep_5 rfl rfl wf_Heliographs_Tokens_11 (by decide) rfl ?_
  refine gz_alen (k := 4) dX6_keep_8 rfl (by decide) ?_
  refine zz_icmp_ge (tgt := 55) dX6_keep_9 rfl (by omega) (fun b9 => ?_) (fun b9 => ?_)
  · exact absurd b9 (by omega)
  refine gz_aload_n dX6_keep_12 rfl ?_
  refine gz_getf 0 dX6_keep_13 rfl rfl wf_Heliographs_Tokens_11 (by decide) rfl ?_
  refine gz_aload_n dX6_keep_16 rfl ?_
  refine gz_getf 3 dX6_keep_17 rfl rfl wf_Heliographs_Tokens_25 (by decide) (zv_i h3) ?_
  refine gz_aload_n dX6_keep_20 rfl ?_
  refine zc_aast (n := i) (w := (k : Int)) dX6_keep_21 rfl (by decide) rfl (by omega) (kind_text (Z := Z) hk).1 (by show Value.ref k = zb_r (k : Int); exact (zb_r_n k).symm) ?_
  refine gz_aload_n dX6_keep_22 rfl ?_
  refine gz_getf 1 dX6_keep_23 rfl rfl wf_Heliographs_Tokens_17 (by decide) rfl ?_
  refine gz_aload_n dX6_keep_26 rfl ?_
  refine gz_getf 3 dX6_keep_27 rfl rfl wf_Heliographs_Tokens_25 (by decide) (zv_i ((zb_u_a _ _ (by decide)).trans h3)) ?_
  refine gz_iload_n dX6_keep_30 rfl ?_
  refine zc_iast (n := i) dX6_keep_31 rfl (by decide) rfl (by omega) rfl ?_
  refine gz_aload_n dX6_keep_32 rfl ?_
  refine gz_getf 2 dX6_keep_33 rfl rfl wf_Heliographs_Tokens_21 (by decide) rfl ?_
  refine gz_aload_n dX6_keep_36 rfl ?_
  refine gz_getf 3 dX6_keep_37 rfl rfl wf_Heliographs_Tokens_25 (by decide) (zv_i ((zb_u_a _ _ (by decide)).trans ((zb_u_a _ _ (by decide)).trans h3))) ?_
  refine gz_aload_n dX6_keep_40 rfl ?_
  refine gz_getf 6 dX6_keep_41 rfl rfl wf_Heliographs_Tokens_63 (by decide) (zv_l ((zb_u_a _ _ (by decide)).trans ((zb_u_a _ _ (by decide)).trans h6))) ?_
  refine zc_last (n := i) dX6_keep_44 rfl (by decide) rfl (by omega) rfl ?_
  refine gz_aload_n dX6_keep_45 rfl ?_
  refine gz_dup dX6_keep_46 rfl ?_
  refine gz_getf 3 dX6_keep_47 rfl rfl wf_Heliographs_Tokens_25 (by decide) (zv_i ((zb_u_a _ _ (by decide)).trans ((zb_u_a _ _ (by decide)).trans ((zb_u_a _ _ (by decide)).trans h3)))) ?_
  refine zz_iconst dX6_keep_50 ?_
  refine zz_iadd dX6_keep_51 ?_
  refine zc_putf 3 dX6_keep_52 rfl rfl wf_Heliographs_Tokens_25 (by decide) (by decide) jo_Heliographs_Tokens ju_Heliographs_Tokens rfl tyX6 tyX6_ok nmX6 rfl (fun _ => ⟨rfl, rfl⟩) rfl ?_
  refine gz_return_ dX6_keep_55 rfl ?_
  exact hq
end

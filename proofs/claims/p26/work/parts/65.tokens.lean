/-! A TOKEN; ALL TOKENS OF THE TAPE -/
section
variable {l : Launch} {Γ : zk_G} {d : Nat} {Z : Nat → Nat → Int} {F : Heap → Prop}
def tkR (Z Z' : zV) (i k : Nat) (v : Int) (e : Nat) : Prop := (∀ a j, ¬ (a = 323 ∧ (j = 3 ∨ j = 5 ∨ j = 6)) → ¬ (324 ≤ a ∧ a ≤ 326 ∧ j = i) → Z' a j = Z a j) ∧ Z' 323 3 = (i : Int) + 1 ∧ Z' 323 5 = (e : Int) ∧ Z' 324 i = (k : Int) ∧ Z' 326 i = v
theorem tkR_of {Z Z1 Z' : zV} {i k e : Nat} {v : Int} (h : ztk Z Z1) (h2 : tkR Z1 Z' i k v e) : tkR Z Z' i k v e := ⟨fun a j q1 q2 => (h2.1 a j q1 q2).trans (h a j (fun q => q1 ⟨q.1, by omega⟩)), h2.2⟩
theorem tkR_keep {Z : zV} {i k q e : Nat} {v : Int} (h5 : Z 323 5 = (e : Int)) : tkR Z (zb_u (zb_u (zb_u (zb_u Z 324 i (k : Int)) 325 i (q : Int)) 326 i v) 323 3 ((i : Int) + 1)) i k v e := by
  refine ⟨fun a j q1 q2 => ?_, zb_u_at _ _ _ _, ?_, ?_, ?_⟩
  · rw [zb_u_no _ _ (by omega), zb_u_no _ _ (by omega), zb_u_no _ _ (by omega), zb_u_no _ _ (by omega)]
  · rw [zb_u_no _ _ (by omega), zb_u_no _ _ (by omega), zb_u_no _ _ (by omega), zb_u_no _ _ (by omega)]; exact h5
  · rw [zb_u_no _ _ (by omega), zb_u_no _ _ (by omega), zb_u_no _ _ (by omega), zb_u_at]
  · rw [zb_u_no _ _ (by omega), zb_u_at]
theorem sKd_ne {w : List Int} (hw : w ≠ []) : ∀ n i, i + n = 48 → sKd w i n < 44 ∨ sKd w i n = 47
  | 0, i, _ => Or.inr rfl
  | n + 1, i, h => by
    show (if w = kT i then i else sKd w (i + 1) n) < 44 ∨ (if w = kT i then i else sKd w (i + 1) n) = 47
    by_cases e : w = kT i
    · rw [if_pos e]
      by_cases q : i < 44
      · exact Or.inl q
      · exact absurd (by rw [e]; rcases (show i = 44 ∨ i = 45 ∨ i = 46 ∨ i = 47 by omega) with rfl | rfl | rfl | rfl <;> rfl) hw
    · rw [if_neg e]
      exact sKd_ne hw n (i + 1) (by omega)
theorem wKind_lt {w : List Int} (hw : w ≠ []) : wKind w < 45 := by
  unfold wKind
  have := sKd_ne hw 48 0 rfl
  split <;> omega
theorem zs_tok_fin {k i q e : Nat} {v : Int} {x : Int32} (hk : k < 46) (hi : i < 401) (h3 : Z 323 3 = (i : Int)) (h5 : Z 323 5 = (e : Int)) (h6 : Z 323 6 = v) (hd : 1 ≤ d) {Q : Option Value → zk_M → (Heap → Prop) → Prop} (hq : ∀ Z', tkR Z Z' i k v e → Q (some (.int (iZ 1))) (zb_M Z') F) : zk_Go l Γ mX6_scanToken d 0 0 Q 69 [some (.ref 323), some (.ref 321), some (.int (iZ (q : Int))), some (.int x), some (.ref k)] [] (zb_M Z) F := by
  have hka : (zb_s k).1 < 1000 := by rw [(kind_text (Z := Z) (show k < 48 by omega)).1]; decide
  refine gz_aload_n dX6_scanToken_69 rfl ?_
  refine gz_aload dX6_scanToken_70 rfl ?_
  refine gz_iload_n dX6_scanToken_72 rfl ?_
  refine gv_2 (J := mX6_keep) (d1 := d - 1) dX6_scanToken_73 wm_Heliographs_Tokens_55 rfl jzX6_keep (Nat.le_of_ble_eq_true rfl) (Nat.le_of_ble_eq_true rfl) (by omega) ⟨Nat.le_refl _, Nat.le_refl _⟩ (zs_keep (by omega) hi h3 h6) ?_
  refine gz_aload dX6_scanToken_76 rfl ?_
  refine gz_gets (v := .ref 46) dX6_scanToken_78 (by decide) wf_Heliographs_Tokens_52 (by first | exact True.intro | (show _ < _; decide)) ?_
  refine gz_acmp_eq (tgt := 96) dX6_scanToken_81 rfl hka (by show (zb_s _).1 < 1000; decide) ⟨by omega, by decide⟩ (fun b81 => ?_) (fun b81 => ?_)
  · exact absurd b81 (by omega)
  refine gz_aload dX6_scanToken_84 rfl ?_
  refine gz_gets (v := .ref 47) dX6_scanToken_86 (by decide) wf_Heliographs_Tokens_48 (by first | exact True.intro | (show _ < _; decide)) ?_
  refine gz_acmp_eq (tgt := 96) dX6_scanToken_89 rfl hka (by show (zb_s _).1 < 1000; decide) ⟨by omega, by decide⟩ (fun b89 => ?_) (fun b89 => ?_)
  · exact absurd b89 (by omega)
  refine zz_iconst dX6_scanToken_92 ?_
  refine gz_goto (tgt := 97) dX6_scanToken_93 rfl ?_
  refine gz_ireturn dX6_scanToken_97 rfl rfl ?_
  exact hq _ (tkR_keep h5)
theorem zs_tok_fin2 {i q e : Nat} {v : Int} {x : Int32} (hi : i < 401) (h3 : Z 323 3 = (i : Int)) (h5 : Z 323 5 = (e : Int)) (h6 : Z 323 6 = v) (hd : 1 ≤ d) {Q : Option Value → zk_M → (Heap → Prop) → Prop} (hq : ∀ Z', tkR Z Z' i 46 v e → Q (some (.int (iZ 0))) (zb_M Z') F) : zk_Go l Γ mX6_scanToken d 0 0 Q 69 [some (.ref 323), some (.ref 321), some (.int (iZ (q : Int))), some (.int x), some (.ref 46)] [] (zb_M Z) F := by
  have hka : (zb_s 46).1 < 1000 := by decide
  refine gz_aload_n dX6_scanToken_69 rfl ?_
  refine gz_aload dX6_scanToken_70 rfl ?_
  refine gz_iload_n dX6_scanToken_72 rfl ?_
  refine gv_2 (J := mX6_keep) (d1 := d - 1) dX6_scanToken_73 wm_Heliographs_Tokens_55 rfl jzX6_keep (Nat.le_of_ble_eq_true rfl) (Nat.le_of_ble_eq_true rfl) (by omega) ⟨Nat.le_refl _, Nat.le_refl _⟩ (zs_keep (by omega) hi h3 h6) ?_
  refine gz_aload dX6_scanToken_76 rfl ?_
  refine gz_gets (v := .ref 46) dX6_scanToken_78 (by decide) wf_Heliographs_Tokens_52 (by first | exact True.intro | (show _ < _; decide)) ?_
  refine gz_acmp_eq (tgt := 96) dX6_scanToken_81 rfl hka (by show (zb_s _).1 < 1000; decide) ⟨by omega, by decide⟩ (fun b81 => ?_) (fun b81 => ?_)
  rotate_left
  · exact absurd rfl b81
  refine zz_iconst dX6_scanToken_96 ?_
  refine gz_ireturn dX6_scanToken_97 rfl rfl ?_
  exact hq _ (tkR_keep h5)
theorem zs_tok_word {i q : Nat} (hi : i < 401) (h3 : Z 323 3 = (i : Int)) (h5 : Z 323 5 = (q : Int)) {c : Int} {w s : List Int} (hc : isL c = true) (hw : ∀ x, x ∈ w → isW x = true) (hwl : w.length ≤ 9) (hs : ¬ isW (sHead s) = true) (h : hTp Z q ((c :: w) ++ s)) (hd : 7 ≤ d) : zk_DoesR l Γ mX6_scanToken d [.ref 323, .ref 321] Z F (some (.int (iZ 1))) (fun Z' => tkR Z Z' i (wKind (c :: w)) (wVal 0 (c :: w)) (q + (c :: w).length)) := by
  intro Q hq
  have hlq := (hTp_len h).2
  have hcb := h.2.1
  have e0 : sHead ((c :: w) ++ s) = c := rfl
  have hk := wKind_lt (w := c :: w) (by simp)
  have hw2 : ∀ x, x ∈ c :: w → isW x = true := fun x hx => by
    rcases List.mem_cons.mp hx with e | e
    · rw [e]; unfold isW; rw [hc]; rfl
    · exact hw x e
  have el : (c :: w).length = w.length + 1 := rfl
  have h5b : zb_u Z 323 6 0 323 5 = (q : Int) := (zb_u_j _ _ (by decide)).trans h5
  refine gz_aload_n dX6_scanToken_0 rfl ?_
  refine gz_getf 5 dX6_scanToken_1 rfl rfl wf_Heliographs_Tokens_32 (by decide) (zv_i h5) ?_
  refine gz_istore_n dX6_scanToken_4 (Nat.le_of_ble_eq_true rfl) rfl ?_
  refine gz_aload_n dX6_scanToken_5 rfl ?_
  refine gz_iload_n dX6_scanToken_6 rfl ?_
  refine gv_1 (J := mX5_byteAt) (d1 := d - 1) dX6_scanToken_7 wm_Heliographs_Tokens_59 rfl jzX5_byteAt (Nat.le_of_ble_eq_true rfl) (Nat.le_of_ble_eq_true rfl) (by omega) ⟨Nat.le_refl _, Nat.le_refl _⟩ (zs_byteAt h) ?_
  refine gz_istore_n dX6_scanToken_10 (Nat.le_of_ble_eq_true rfl) rfl ?_
  refine gz_aload_n dX6_scanToken_11 rfl ?_
  refine zz_lconst dX6_scanToken_12 ?_
  refine zc_putf 6 dX6_scanToken_13 rfl rfl wf_Heliographs_Tokens_63 (by decide) (by decide) jo_Heliographs_Tokens ju_Heliographs_Tokens rfl tyX6 tyX6_ok nmX6 rfl (fun _ => ⟨rfl, rfl⟩) rfl ?_
  refine gz_iload_n dX6_scanToken_16 rfl ?_
  refine zz_if_ge (tgt := 28) dX6_scanToken_17 rfl (by omega) (fun b17 => ?_) (fun b17 => ?_)
  rotate_left
  · exact absurd b17 (by omega)
  refine gz_iload_n dX6_scanToken_28 rfl ?_
  refine gs_1 (J := mX6_isLetter) (d1 := d - 1) dX6_scanToken_29 wm_Heliographs_Tokens_67 jzX6_isLetter (Nat.le_of_ble_eq_true rfl) (Nat.le_of_ble_eq_true rfl) (by omega) ⟨Nat.le_refl _, Nat.le_refl _⟩ (zs_isLetter (x := c) (by omega)) ?_
  refine zz_if_eqB (tgt := 45) dX6_scanToken_32 rfl (fun b32 => ?_) (fun b32 => ?_)
  · exact absurd hc b32
  refine gz_aload_n dX6_scanToken_35 rfl ?_
  refine gz_aload_n dX6_scanToken_36 rfl ?_
  refine gq_1 (J := mX6_scanWord) (d1 := d - 1) dX6_scanToken_37 wm_Heliographs_Tokens_71 rfl jzX6_scanWord (Nat.le_of_ble_eq_true rfl) (Nat.le_of_ble_eq_true rfl) (by omega) (zs_scanWord (w := c :: w) (s := s) h5b (by rw [zb_u_at]; rfl) hw2 (by omega) hs ((ztk.u (Or.inr rfl)).tp h) (by omega)) (fun Z37 hZ37 => ?_)
  refine gz_astore dX6_scanToken_40 (Nat.le_of_ble_eq_true rfl) rfl ?_
  refine gz_goto (tgt := 69) dX6_scanToken_42 rfl ?_
  exact zs_tok_fin (by omega) hi ((hZ37.1 323 3 (by omega)).trans ((zb_u_j _ _ (by decide)).trans h3)) hZ37.2.1 hZ37.2.2 (by omega) (fun Z2 h2 => hq Z2 (tkR_of ((ztk.u (Or.inr rfl)).trans hZ37.1) h2))
theorem zs_tok_num {i q : Nat} (hi : i < 401) (h3 : Z 323 3 = (i : Int)) (h5 : Z 323 5 = (q : Int)) {c : Int} {w s : List Int} (hc : isD c = true) (hw : ∀ x, x ∈ w → isD x = true) (hwl : w.length ≤ 5) (hs : ¬ isD (sHead s) = true) (h : hTp Z q ((c :: w) ++ s)) (hd : 7 ≤ d) : zk_DoesR l Γ mX6_scanToken d [.ref 323, .ref 321] Z F (some (.int (iZ 1))) (fun Z' => tkR Z Z' i (45) (nVal 0 (c :: w)) (q + (c :: w).length)) := by
  intro Q hq
  have hlq := (hTp_len h).2
  have hcb := h.2.1
  have e0 : sHead ((c :: w) ++ s) = c := rfl
  have hw2 : ∀ x, x ∈ c :: w → isD x = true := fun x hx => by
    rcases List.mem_cons.mp hx with e | e
    · rw [e]; exact hc
    · exact hw x e
  have hcd := isD_i.mp hc
  have el : (c :: w).length = w.length + 1 := rfl
  have h5b : zb_u Z 323 6 0 323 5 = (q : Int) := (zb_u_j _ _ (by decide)).trans h5
  refine gz_aload_n dX6_scanToken_0 rfl ?_
  refine gz_getf 5 dX6_scanToken_1 rfl rfl wf_Heliographs_Tokens_32 (by decide) (zv_i h5) ?_
  refine gz_istore_n dX6_scanToken_4 (Nat.le_of_ble_eq_true rfl) rfl ?_
  refine gz_aload_n dX6_scanToken_5 rfl ?_
  refine gz_iload_n dX6_scanToken_6 rfl ?_
  refine gv_1 (J := mX5_byteAt) (d1 := d - 1) dX6_scanToken_7 wm_Heliographs_Tokens_59 rfl jzX5_byteAt (Nat.le_of_ble_eq_true rfl) (Nat.le_of_ble_eq_true rfl) (by omega) ⟨Nat.le_refl _, Nat.le_refl _⟩ (zs_byteAt h) ?_
  refine gz_istore_n dX6_scanToken_10 (Nat.le_of_ble_eq_true rfl) rfl ?_
  refine gz_aload_n dX6_scanToken_11 rfl ?_
  refine zz_lconst dX6_scanToken_12 ?_
  refine zc_putf 6 dX6_scanToken_13 rfl rfl wf_Heliographs_Tokens_63 (by decide) (by decide) jo_Heliographs_Tokens ju_Heliographs_Tokens rfl tyX6 tyX6_ok nmX6 rfl (fun _ => ⟨rfl, rfl⟩) rfl ?_
  refine gz_iload_n dX6_scanToken_16 rfl ?_
  refine zz_if_ge (tgt := 28) dX6_scanToken_17 rfl (by omega) (fun b17 => ?_) (fun b17 => ?_)
  rotate_left
  · exact absurd b17 (by omega)
  refine gz_iload_n dX6_scanToken_28 rfl ?_
  refine gs_1 (J := mX6_isLetter) (d1 := d - 1) dX6_scanToken_29 wm_Heliographs_Tokens_67 jzX6_isLetter (Nat.le_of_ble_eq_true rfl) (Nat.le_of_ble_eq_true rfl) (by omega) ⟨Nat.le_refl _, Nat.le_refl _⟩ (zs_isLetter (x := c) (by omega)) ?_
  refine zz_if_eqB (tgt := 45) dX6_scanToken_32 rfl (fun b32 => ?_) (fun b32 => ?_)
  rotate_left
  · exact absurd (isL_i.mp b32) (by omega)
  refine gz_iload_n dX6_scanToken_45 rfl ?_
  refine gs_1 (J := mX6_isDigit) (d1 := d - 1) dX6_scanToken_46 wm_Heliographs_Tokens_75 jzX6_isDigit (Nat.le_of_ble_eq_true rfl) (Nat.le_of_ble_eq_true rfl) (by omega) ⟨Nat.le_refl _, Nat.le_refl _⟩ (zs_isDigit (x := c) (by omega)) ?_
  refine zz_if_eqB (tgt := 62) dX6_scanToken_49 rfl (fun b49 => ?_) (fun b49 => ?_)
  · exact absurd hc b49
  refine gz_aload_n dX6_scanToken_52 rfl ?_
  refine gz_aload_n dX6_scanToken_53 rfl ?_
  refine gq_1 (J := mX6_scanNumber) (d1 := d - 1) dX6_scanToken_54 wm_Heliographs_Tokens_78 rfl jzX6_scanNumber (Nat.le_of_ble_eq_true rfl) (Nat.le_of_ble_eq_true rfl) (by omega) (zs_scanNumber (w := c :: w) (s := s) h5b (by rw [zb_u_at]; rfl) hw2 (by omega) hs ((ztk.u (Or.inr rfl)).tp h) (by omega)) (fun Z54 hZ54 => ?_)
  refine gz_astore dX6_scanToken_57 (Nat.le_of_ble_eq_true rfl) rfl ?_
  refine gz_goto (tgt := 69) dX6_scanToken_59 rfl ?_
  exact zs_tok_fin (by omega) hi ((hZ54.1 323 3 (by omega)).trans ((zb_u_j _ _ (by decide)).trans h3)) hZ54.2.1 hZ54.2.2 (by omega) (fun Z2 h2 => hq Z2 (tkR_of ((ztk.u (Or.inr rfl)).trans hZ54.1) h2))
theorem zs_tok_sym1 {i q : Nat} (hi : i < 401) (h3 : Z 323 3 = (i : Int)) (h5 : Z 323 5 = (q : Int)) {c : Int} {s : List Int} (hc : ¬ isW c = true) (hno : ¬ ((c = 60 ∨ c = 62) ∧ sHead s = 61)) (hk : sKd [c] 0 48 < 44) (h : hTp Z q (c :: s)) (hd : 7 ≤ d) : zk_DoesR l Γ mX6_scanToken d [.ref 323, .ref 321] Z F (some (.int (iZ 1))) (fun Z' => tkR Z Z' i (sKd [c] 0 48) (0) (q + 1)) := by
  intro Q hq
  have hlq := (hTp_len h).2
  have hcb := h.2.1
  have e0 : sHead (c :: s) = c := rfl
  have hcw : ¬ ((97 ≤ c ∧ c ≤ 122) ∨ (48 ≤ c ∧ c ≤ 57)) := fun q3 => hc (isW_i.mpr q3)
  have h5b : zb_u Z 323 6 0 323 5 = (q : Int) := (zb_u_j _ _ (by decide)).trans h5
  refine gz_aload_n dX6_scanToken_0 rfl ?_
  refine gz_getf 5 dX6_scanToken_1 rfl rfl wf_Heliographs_Tokens_32 (by decide) (zv_i h5) ?_
  refine gz_istore_n dX6_scanToken_4 (Nat.le_of_ble_eq_true rfl) rfl ?_
  refine gz_aload_n dX6_scanToken_5 rfl ?_
  refine gz_iload_n dX6_scanToken_6 rfl ?_
  refine gv_1 (J := mX5_byteAt) (d1 := d - 1) dX6_scanToken_7 wm_Heliographs_Tokens_59 rfl jzX5_byteAt (Nat.le_of_ble_eq_true rfl) (Nat.le_of_ble_eq_true rfl) (by omega) ⟨Nat.le_refl _, Nat.le_refl _⟩ (zs_byteAt h) ?_
  refine gz_istore_n dX6_scanToken_10 (Nat.le_of_ble_eq_true rfl) rfl ?_
  refine gz_aload_n dX6_scanToken_11 rfl ?_
  refine zz_lconst dX6_scanToken_12 ?_
  refine zc_putf 6 dX6_scanToken_13 rfl rfl wf_Heliographs_Tokens_63 (by decide) (by decide) jo_Heliographs_Tokens ju_Heliographs_Tokens rfl tyX6 tyX6_ok nmX6 rfl (fun _ => ⟨rfl, rfl⟩) rfl ?_
  refine gz_iload_n dX6_scanToken_16 rfl ?_
  refine zz_if_ge (tgt := 28) dX6_scanToken_17 rfl (by omega) (fun b17 => ?_) (fun b17 => ?_)
  rotate_left
  · exact absurd b17 (by omega)
  refine gz_iload_n dX6_scanToken_28 rfl ?_
  refine gs_1 (J := mX6_isLetter) (d1 := d - 1) dX6_scanToken_29 wm_Heliographs_Tokens_67 jzX6_isLetter (Nat.le_of_ble_eq_true rfl) (Nat.le_of_ble_eq_true rfl) (by omega) ⟨Nat.le_refl _, Nat.le_refl _⟩ (zs_isLetter (x := c) (by omega)) ?_
  refine zz_if_eqB (tgt := 45) dX6_scanToken_32 rfl (fun b32 => ?_) (fun b32 => ?_)
  rotate_left
  · exact absurd (isL_i.mp b32) (by omega)
  refine gz_iload_n dX6_scanToken_45 rfl ?_
  refine gs_1 (J := mX6_isDigit) (d1 := d - 1) dX6_scanToken_46 wm_Heliographs_Tokens_75 jzX6_isDigit (Nat.le_of_ble_eq_true rfl) (Nat.le_of_ble_eq_true rfl) (by omega) ⟨Nat.le_refl _, Nat.le_refl _⟩ (zs_isDigit (x := c) (by omega)) ?_
  refine zz_if_eqB (tgt := 62) dX6_scanToken_49 rfl (fun b49 => ?_) (fun b49 => ?_)
  rotate_left
  · exact absurd (isD_i.mp b49) (by omega)
  refine gz_aload_n dX6_scanToken_62 rfl ?_
  refine gz_aload_n dX6_scanToken_63 rfl ?_
  refine gq_1 (J := mX6_scanSymbol) (d1 := d - 1) dX6_scanToken_64 wm_Heliographs_Tokens_81 rfl jzX6_scanSymbol (Nat.le_of_ble_eq_true rfl) (Nat.le_of_ble_eq_true rfl) (by omega) (zs_scanSymbol1 (c := c) (s := s) h5b hno ((ztk.u (Or.inr rfl)).tp h) (by omega)) (fun Z64 hZ64 => ?_)
  refine gz_astore dX6_scanToken_67 (Nat.le_of_ble_eq_true rfl) rfl ?_
  exact zs_tok_fin (by omega) hi ((hZ64.1 323 3 (by omega)).trans ((zb_u_j _ _ (by decide)).trans h3)) hZ64.2.1 (hZ64.2.2.trans (zb_u_at _ _ _ _)) (by omega) (fun Z2 h2 => hq Z2 (tkR_of ((ztk.u (Or.inr rfl)).trans hZ64.1) h2))
theorem zs_tok_sym2 {i q : Nat} (hi : i < 401) (h3 : Z 323 3 = (i : Int)) (h5 : Z 323 5 = (q : Int)) {c : Int} {s : List Int} (hc : c = 60 ∨ c = 62) (hk : sKd [c, 61] 0 48 < 44) (h : hTp Z q (c :: 61 :: s)) (hd : 7 ≤ d) : zk_DoesR l Γ mX6_scanToken d [.ref 323, .ref 321] Z F (some (.int (iZ 1))) (fun Z' => tkR Z Z' i (sKd [c, 61] 0 48) (0) (q + 2)) := by
  intro Q hq
  have hlq := (hTp_len h).2
  have hcb := h.2.1
  have e0 : sHead (c :: 61 :: s) = c := rfl
  have hcw : ¬ ((97 ≤ c ∧ c ≤ 122) ∨ (48 ≤ c ∧ c ≤ 57)) := by omega
  have h5b : zb_u Z 323 6 0 323 5 = (q : Int) := (zb_u_j _ _ (by decide)).trans h5
  refine gz_aload_n dX6_scanToken_0 rfl ?_
  refine gz_getf 5 dX6_scanToken_1 rfl rfl wf_Heliographs_Tokens_32 (by decide) (zv_i h5) ?_
  refine gz_istore_n dX6_scanToken_4 (Nat.le_of_ble_eq_true rfl) rfl ?_
  refine gz_aload_n dX6_scanToken_5 rfl ?_
  refine gz_iload_n dX6_scanToken_6 rfl ?_
  refine gv_1 (J := mX5_byteAt) (d1 := d - 1) dX6_scanToken_7 wm_Heliographs_Tokens_59 rfl jzX5_byteAt (Nat.le_of_ble_eq_true rfl) (Nat.le_of_ble_eq_true rfl) (by omega) ⟨Nat.le_refl _, Nat.le_refl _⟩ (zs_byteAt h) ?_
  refine gz_istore_n dX6_scanToken_10 (Nat.le_of_ble_eq_true rfl) rfl ?_
  refine gz_aload_n dX6_scanToken_11 rfl ?_
  refine zz_lconst dX6_scanToken_12 ?_
  refine zc_putf 6 dX6_scanToken_13 rfl rfl wf_Heliographs_Tokens_63 (by decide) (by decide) jo_Heliographs_Tokens ju_Heliographs_Tokens rfl tyX6 tyX6_ok nmX6 rfl (fun _ => ⟨rfl, rfl⟩) rfl ?_
  refine gz_iload_n dX6_scanToken_16 rfl ?_
  refine zz_if_ge (tgt := 28) dX6_scanToken_17 rfl (by omega) (fun b17 => ?_) (fun b17 => ?_)
  rotate_left
  · exact absurd b17 (by omega)
  refine gz_iload_n dX6_scanToken_28 rfl ?_
  refine gs_1 (J := mX6_isLetter) (d1 := d - 1) dX6_scanToken_29 wm_Heliographs_Tokens_67 jzX6_isLetter (Nat.le_of_ble_eq_true rfl) (Nat.le_of_ble_eq_true rfl) (by omega) ⟨Nat.le_refl _, Nat.le_refl _⟩ (zs_isLetter (x := c) (by omega)) ?_
  refine zz_if_eqB (tgt := 45) dX6_scanToken_32 rfl (fun b32 => ?_) (fun b32 => ?_)
  rotate_left
  · exact absurd (isL_i.mp b32) (by omega)
  refine gz_iload_n dX6_scanToken_45 rfl ?_
  refine gs_1 (J := mX6_isDigit) (d1 := d - 1) dX6_scanToken_46 wm_Heliographs_Tokens_75 jzX6_isDigit (Nat.le_of_ble_eq_true rfl) (Nat.le_of_ble_eq_true rfl) (by omega) ⟨Nat.le_refl _, Nat.le_refl _⟩ (zs_isDigit (x := c) (by omega)) ?_
  refine zz_if_eqB (tgt := 62) dX6_scanToken_49 rfl (fun b49 => ?_) (fun b49 => ?_)
  rotate_left
  · exact absurd (isD_i.mp b49) (by omega)
  refine gz_aload_n dX6_scanToken_62 rfl ?_
  refine gz_aload_n dX6_scanToken_63 rfl ?_
  refine gq_1 (J := mX6_scanSymbol) (d1 := d - 1) dX6_scanToken_64 wm_Heliographs_Tokens_81 rfl jzX6_scanSymbol (Nat.le_of_ble_eq_true rfl) (Nat.le_of_ble_eq_true rfl) (by omega) (zs_scanSymbol2 (c := c) (s := s) h5b hc ((ztk.u (Or.inr rfl)).tp h) (by omega)) (fun Z64 hZ64 => ?_)
  refine gz_astore dX6_scanToken_67 (Nat.le_of_ble_eq_true rfl) rfl ?_
  exact zs_tok_fin (by omega) hi ((hZ64.1 323 3 (by omega)).trans ((zb_u_j _ _ (by decide)).trans h3)) hZ64.2.1 (hZ64.2.2.trans (zb_u_at _ _ _ _)) (by omega) (fun Z2 h2 => hq Z2 (tkR_of ((ztk.u (Or.inr rfl)).trans hZ64.1) h2))
theorem zs_tok_end {i q : Nat} (hi : i < 401) (h3 : Z 323 3 = (i : Int)) (h5 : Z 323 5 = (q : Int))  (h : hTp Z q ([])) (hd : 7 ≤ d) : zk_DoesR l Γ mX6_scanToken d [.ref 323, .ref 321] Z F (some (.int (iZ 0))) (fun Z' => tkR Z Z' i (46) (0) (q)) := by
  intro Q hq
  have hlq := (hTp_len h).2
  have e0 : sHead ([] : List Int) = -1 := rfl
  have h5b : zb_u Z 323 6 0 323 5 = (q : Int) := (zb_u_j _ _ (by decide)).trans h5
  refine gz_aload_n dX6_scanToken_0 rfl ?_
  refine gz_getf 5 dX6_scanToken_1 rfl rfl wf_Heliographs_Tokens_32 (by decide) (zv_i h5) ?_
  refine gz_istore_n dX6_scanToken_4 (Nat.le_of_ble_eq_true rfl) rfl ?_
  refine gz_aload_n dX6_scanToken_5 rfl ?_
  refine gz_iload_n dX6_scanToken_6 rfl ?_
  refine gv_1 (J := mX5_byteAt) (d1 := d - 1) dX6_scanToken_7 wm_Heliographs_Tokens_59 rfl jzX5_byteAt (Nat.le_of_ble_eq_true rfl) (Nat.le_of_ble_eq_true rfl) (by omega) ⟨Nat.le_refl _, Nat.le_refl _⟩ (zs_byteAt h) ?_
  refine gz_istore_n dX6_scanToken_10 (Nat.le_of_ble_eq_true rfl) rfl ?_
  refine gz_aload_n dX6_scanToken_11 rfl ?_
  refine zz_lconst dX6_scanToken_12 ?_
  refine zc_putf 6 dX6_scanToken_13 rfl rfl wf_Heliographs_Tokens_63 (by decide) (by decide) jo_Heliographs_Tokens ju_Heliographs_Tokens rfl tyX6 tyX6_ok nmX6 rfl (fun _ => ⟨rfl, rfl⟩) rfl ?_
  refine gz_iload_n dX6_scanToken_16 rfl ?_
  refine zz_if_ge (tgt := 28) dX6_scanToken_17 rfl (by omega) (fun b17 => ?_) (fun b17 => ?_)
  · exact absurd b17 (by omega)
  refine gz_gets (v := .ref 46) dX6_scanToken_20 (by decide) wf_Heliographs_Tokens_52 (by first | exact True.intro | (show _ < _; decide)) ?_
  refine gz_astore dX6_scanToken_23 (Nat.le_of_ble_eq_true rfl) rfl ?_
  refine gz_goto (tgt := 69) dX6_scanToken_25 rfl ?_
  exact zs_tok_fin2 hi ((zb_u_j _ _ (by decide)).trans h3) h5b (zb_u_at _ _ _ _) (by omega) (fun Z2 h2 => hq Z2 (tkR_of (ztk.u (Or.inr rfl)) h2))
/-- a good token: its bytes, kind, value, and what stands behind it -/
def okT (t : List Int) (k : Nat) (v : Int) (r : List Int) : Prop :=
  (∃ c w, t = c :: w ∧ isL c = true ∧ (∀ x, x ∈ w → isW x = true) ∧ w.length ≤ 9 ∧ ¬ isW (sHead r) = true ∧ k = wKind t ∧ v = wVal 0 t) ∨
  (∃ c w, t = c :: w ∧ isD c = true ∧ (∀ x, x ∈ w → isD x = true) ∧ w.length ≤ 5 ∧ ¬ isD (sHead r) = true ∧ k = 45 ∧ v = nVal 0 t) ∨
  (∃ c, t = [c] ∧ ¬ isW c = true ∧ (c ≠ 32 ∧ c ≠ 10) ∧ ¬ ((c = 60 ∨ c = 62) ∧ sHead r = 61) ∧ k = sKd [c] 0 48 ∧ k < 44 ∧ v = 0) ∨
  (∃ c, t = [c, 61] ∧ (c = 60 ∨ c = 62) ∧ k = sKd [c, 61] 0 48 ∧ k < 44 ∧ v = 0)
theorem zs_scanToken {t r : List Int} {k i q : Nat} {v : Int} (hok : okT t k v r) (hi : i < 401) (h3 : Z 323 3 = (i : Int)) (h5 : Z 323 5 = (q : Int)) (h : hTp Z q (t ++ r)) (hd : 7 ≤ d) : zk_DoesR l Γ mX6_scanToken d [.ref 323, .ref 321] Z F (some (.int (iZ 1))) (fun Z' => tkR Z Z' i k v (q + t.length)) := by
  rcases hok with ⟨c, w, rfl, g1, g2, g3, g4, rfl, rfl⟩ | ⟨c, w, rfl, g1, g2, g3, g4, rfl, rfl⟩ | ⟨c, rfl, g1, -, g2, rfl, g3, rfl⟩ | ⟨c, rfl, g1, rfl, g3, rfl⟩
  · exact zs_tok_word hi h3 h5 g1 g2 g3 g4 h hd
  · exact zs_tok_num hi h3 h5 g1 g2 g3 g4 h hd
  · exact zs_tok_sym1 hi h3 h5 g1 g2 g3 h hd
  · exact zs_tok_sym2 hi h3 h5 g1 g3 h hd
/-- a text token by token: blanks, bytes, kind, value -/
abbrev zLx : Type := List (List Int × List Int × Nat × Int)
def lxB : zLx → List Int → List Int
  | [], tb => tb
  | x :: xs, tb => x.1 ++ (x.2.1 ++ lxB xs tb)
def blk (b : List Int) : Prop := ∀ c, c ∈ b → c = 32 ∨ c = 10
def lxOk : zLx → List Int → Prop
  | [], tb => blk tb
  | x :: xs, tb => blk x.1 ∧ okT x.2.1 x.2.2.1 x.2.2.2 (lxB xs tb) ∧ lxOk xs tb
theorem sBl_app : ∀ {b s : List Int}, blk b → sBl (b ++ s) = b.length + sBl s
  | [], s, _ => (Nat.zero_add _).symm
  | c :: b, s, h => by
    have e : sBl (c :: (b ++ s)) = sBl (b ++ s) + 1 := if_pos (h c List.mem_cons_self)
    show sBl (c :: (b ++ s)) = b.length + 1 + sBl s
    rw [e, sBl_app (fun x hx => h x (List.mem_cons_of_mem _ hx))]
    omega
theorem sBl_tok {t r : List Int} {k : Nat} {v : Int} (h : okT t k v r) : sBl (t ++ r) = 0 := by
  rcases h with ⟨c, w, rfl, g1, -⟩ | ⟨c, w, rfl, g1, -⟩ | ⟨c, rfl, -, g2, -⟩ | ⟨c, rfl, g1, -⟩
  · exact if_neg (fun q => by have := isL_i.mp g1; omega)
  · exact if_neg (fun q => by have := isD_i.mp g1; omega)
  · exact if_neg (fun q => by omega)
  · exact if_neg (fun q => by omega)
theorem hTp_drop {Z : zV} : ∀ {b s : List Int} {q : Nat}, hTp Z q (b ++ s) → hTp Z (q + b.length) s
  | [], s, q, h => h
  | c :: b, s, q, h => by
    have r := hTp_drop (b := b) (s := s) h.2.2
    show hTp Z (q + (b.length + 1)) s
    rw [show q + (b.length + 1) = q + 1 + b.length from by omega]
    exact r
/-- the tokens from place i on -/
def hTk (Z : zV) : Nat → List (Nat × Int) → Prop
  | _, [] => True
  | i, x :: xs => Z 324 i = (x.1 : Int) ∧ ((x.1 = 44 ∨ x.1 = 45) → Z 326 i = x.2) ∧ hTk Z (i + 1) xs
def tv (k : Nat) (v : Int) : Int := if k = 44 ∨ k = 45 then v else 0
def lxT (xs : zLx) : List (Nat × Int) := xs.map (fun x => (x.2.2.1, tv x.2.2.1 x.2.2.2))
def scR (Z Z' : zV) (i : Nat) (xs : zLx) : Prop := (∀ a j, (a < 323 ∨ 326 < a) → Z' a j = Z a j) ∧ (∀ a j, 324 ≤ a → a ≤ 326 → j < i → Z' a j = Z a j) ∧ Z' 323 4 = Z 323 4 ∧ Z' 323 3 = ((i + xs.length + 1 : Nat) : Int) ∧ hTk Z' i (lxT xs ++ [(46, 0)])
theorem zs_scan_done {i : Int} (hi : 0 ≤ i ∧ i ≤ 400) {Q : Option Value → zk_M → (Heap → Prop) → Prop} (hq : Q none (zb_M Z) F) : zk_Go l Γ mX6_scan d 0 0 Q 19 [some (.ref 323), some (.ref 321), some (.int (iZ 0)), some (.int (iZ i))] [] (zb_M Z) F := by
  refine gz_iload_n dX6_scan_19 rfl ?_
  refine zz_sipush (x := 400) dX6_scan_20 rfl ?_
  refine zz_icmp_ge (tgt := 47) dX6_scan_23 rfl (by omega) (fun b23 => ?_) (fun b23 => ?_)
  ·
    refine gz_iload_n dX6_scan_47 rfl ?_
    refine zz_if_eq (tgt := 84) dX6_scan_48 rfl (by omega) (fun b48 => ?_) (fun b48 => ?_)
    rotate_left
    · exact absurd b48 (by decide)
    refine gz_return_ dX6_scan_84 rfl ?_
    (first | exact hq | (rw [if_pos (by omega)] at hq; exact hq) | (rw [if_neg (by omega)] at hq; exact hq))
  ·
    refine gz_iload_n dX6_scan_26 rfl ?_
    refine zz_if_eq (tgt := 47) dX6_scan_27 rfl (by omega) (fun b27 => ?_) (fun b27 => ?_)
    rotate_left
    · exact absurd b27 (by decide)
    refine gz_iload_n dX6_scan_47 rfl ?_
    refine zz_if_eq (tgt := 84) dX6_scan_48 rfl (by omega) (fun b48 => ?_) (fun b48 => ?_)
    rotate_left
    · exact absurd b48 (by decide)
    refine gz_return_ dX6_scan_84 rfl ?_
    (first | exact hq | (rw [if_pos (by omega)] at hq; exact hq) | (rw [if_neg (by omega)] at hq; exact hq))
theorem scR_step {Z Z1 Z2 : zV} {i e0 : Nat} {x : List Int × List Int × Nat × Int} {xs : zLx} {e : Int} (h : tkR (zb_u Z 323 5 e) Z1 i x.2.2.1 x.2.2.2 e0) (g : scR Z1 Z2 (i + 1) xs) : scR Z Z2 i (x :: xs) := by
  have o : ∀ a j, (a ≠ 323 ∨ j = 4) → ¬ (324 ≤ a ∧ a ≤ 326 ∧ j = i) → Z1 a j = Z a j := fun a j q1 q2 => (h.1 a j (by omega) q2).trans (zb_u_no _ _ (by omega))
  refine ⟨fun a j q => (g.1 a j q).trans (o a j (by omega) (by omega)), fun a j q1 q2 q3 => (g.2.1 a j q1 q2 (by omega)).trans (o a j (by omega) (by omega)), g.2.2.1.trans (o 323 4 (by omega) (by omega)), g.2.2.2.1.trans (by show ((i + 1 + xs.length + 1 : Nat) : Int) = ((i + (xs.length + 1) + 1 : Nat) : Int); omega), ?_, ?_, g.2.2.2.2⟩
  · exact (g.2.1 324 i (by omega) (by omega) (by omega)).trans h.2.2.2.1
  · intro q2
    show Z2 326 i = tv x.2.2.1 x.2.2.2
    rw [show tv x.2.2.1 x.2.2.2 = x.2.2.2 from if_pos q2]
    exact (g.2.1 326 i (by omega) (by omega) (by omega)).trans h.2.2.2.2
theorem zs_scan_loop {tb : List Int} (hd : 8 ≤ d) {Q : Option Value → zk_M → (Heap → Prop) → Prop} : ∀ (n : Nat) (xs : zLx) (i q : Nat) (Z : zV), xs.length = n → i + n < 400 → Z 323 3 = (i : Int) → Z 323 5 = (q : Int) → hTp Z q (lxB xs tb) → lxOk xs tb → (∀ Z', scR Z Z' i xs → Q none (zb_M Z') F) → zk_Go l Γ mX6_scan d 0 0 Q 19 [some (.ref 323), some (.ref 321), some (.int (iZ 1)), some (.int (iZ (i : Int)))] [] (zb_M Z) F := by
  intro n
  induction n with
  | zero =>
    intro xs i q Z hn hi h3 h5 h hok hq
    cases xs with
    | cons c w => exact absurd hn (by show ¬ w.length + 1 = 0; omega)
    | nil =>
    have hsb : sBl tb = tb.length := by have q := sBl_app (s := []) hok; rw [List.append_nil] at q; exact q
    have hlq := (hTp_len h).2
    have e5 : zb_u Z 323 5 ((q + sBl (lxB [] tb) : Nat) : Int) 323 5 = ((q + tb.length : Nat) : Int) := by rw [zb_u_at]; show ((q + sBl tb : Nat) : Int) = _; rw [hsb]
    have hend : hTp (zb_u Z 323 5 ((q + sBl (lxB [] tb) : Nat) : Int)) (q + tb.length) [] := (ztk.u (Or.inl rfl)).tp (hTp_drop (b := tb) (s := []) (by rw [List.append_nil]; exact h))
    refine gz_iload_n dX6_scan_19 rfl ?_
    refine zz_sipush (x := 400) dX6_scan_20 rfl ?_
    refine zz_icmp_ge (tgt := 47) dX6_scan_23 rfl (by omega) (fun b23 => ?_) (fun b23 => ?_)
    · exact absurd b23 (by omega)
    refine gz_iload_n dX6_scan_26 rfl ?_
    refine zz_if_eq (tgt := 47) dX6_scan_27 rfl (by omega) (fun b27 => ?_) (fun b27 => ?_)
    · exact absurd b27 (by omega)
    refine gz_aload_n dX6_scan_30 rfl ?_
    refine gz_aload_n dX6_scan_31 rfl ?_
    refine gv_1 (J := mX6_skipBlanks) (d1 := d - 1) dX6_scan_32 wm_Heliographs_Tokens_35 rfl jzX6_skipBlanks (Nat.le_of_ble_eq_true rfl) (Nat.le_of_ble_eq_true rfl) (by omega) ⟨Nat.le_refl _, Nat.le_refl _⟩ ((fun Q hq => zs_skip (by omega) _ q _ Z rfl h5 h hq)) ?_
    refine gz_aload_n dX6_scan_35 rfl ?_
    refine gz_aload_n dX6_scan_36 rfl ?_
    refine gq_1 (J := mX6_scanToken) (d1 := d - 1) dX6_scan_37 wm_Heliographs_Tokens_39 rfl jzX6_scanToken (Nat.le_of_ble_eq_true rfl) (Nat.le_of_ble_eq_true rfl) (by omega) (zs_tok_end (i := i) (q := q + tb.length) (by omega) ((zb_u_j _ _ (by decide)).trans h3) e5 hend (by omega)) (fun Z37 hZ37 => ?_)
    refine gz_istore_n dX6_scan_40 (Nat.le_of_ble_eq_true rfl) rfl ?_
    refine zz_iinc dX6_scan_41 rfl rfl ?_
    refine gz_goto (tgt := 19) dX6_scan_44 rfl ?_
    exact zs_scan_done (by omega) (hq Z37 ⟨fun a j q2 => (hZ37.1 a j (by omega) (by omega)).trans (zb_u_a _ _ (by omega)), fun a j q1 q2 q3 => (hZ37.1 a j (by omega) (by omega)).trans (zb_u_a _ _ (by omega)), (hZ37.1 323 4 (by omega) (by omega)).trans (zb_u_j _ _ (by decide)), hZ37.2.1.trans (by show (i : Int) + 1 = ((i + 0 + 1 : Nat) : Int); omega), hZ37.2.2.2.1, fun q2 => absurd q2 (by decide), trivial⟩)
  | succ n ih =>
    intro xs i q Z hn hi h3 h5 h hok hq
    cases xs with
    | nil => exact absurd hn (by show ¬ 0 = n + 1; omega)
    | cons x xs2 =>
    have hn2 : xs2.length = n := by have : (x :: xs2).length = xs2.length + 1 := rfl; omega
    have hsb : sBl (x.1 ++ (x.2.1 ++ lxB xs2 tb)) = x.1.length := by rw [sBl_app hok.1, sBl_tok hok.2.1, Nat.add_zero]
    have hlq := (hTp_len h).2
    have e5 : zb_u Z 323 5 ((q + sBl (lxB (x :: xs2) tb) : Nat) : Int) 323 5 = ((q + x.1.length : Nat) : Int) := by rw [zb_u_at]; show ((q + sBl (x.1 ++ (x.2.1 ++ lxB xs2 tb)) : Nat) : Int) = _; rw [hsb]
    have htk : hTp (zb_u Z 323 5 ((q + sBl (lxB (x :: xs2) tb) : Nat) : Int)) (q + x.1.length) (x.2.1 ++ lxB xs2 tb) := (ztk.u (Or.inl rfl)).tp (hTp_drop (b := x.1) h)
    refine gz_iload_n dX6_scan_19 rfl ?_
    refine zz_sipush (x := 400) dX6_scan_20 rfl ?_
    refine zz_icmp_ge (tgt := 47) dX6_scan_23 rfl (by omega) (fun b23 => ?_) (fun b23 => ?_)
    · exact absurd b23 (by omega)
    refine gz_iload_n dX6_scan_26 rfl ?_
    refine zz_if_eq (tgt := 47) dX6_scan_27 rfl (by omega) (fun b27 => ?_) (fun b27 => ?_)
    · exact absurd b27 (by omega)
    refine gz_aload_n dX6_scan_30 rfl ?_
    refine gz_aload_n dX6_scan_31 rfl ?_
    refine gv_1 (J := mX6_skipBlanks) (d1 := d - 1) dX6_scan_32 wm_Heliographs_Tokens_35 rfl jzX6_skipBlanks (Nat.le_of_ble_eq_true rfl) (Nat.le_of_ble_eq_true rfl) (by omega) ⟨Nat.le_refl _, Nat.le_refl _⟩ ((fun Q hq => zs_skip (by omega) _ q _ Z rfl h5 h hq)) ?_
    refine gz_aload_n dX6_scan_35 rfl ?_
    refine gz_aload_n dX6_scan_36 rfl ?_
    refine gq_1 (J := mX6_scanToken) (d1 := d - 1) dX6_scan_37 wm_Heliographs_Tokens_39 rfl jzX6_scanToken (Nat.le_of_ble_eq_true rfl) (Nat.le_of_ble_eq_true rfl) (by omega) (zs_scanToken hok.2.1 (i := i) (q := q + x.1.length) (by omega) ((zb_u_j _ _ (by decide)).trans h3) e5 htk (by omega)) (fun Z37 hZ37 => ?_)
    refine gz_istore_n dX6_scan_40 (Nat.le_of_ble_eq_true rfl) rfl ?_
    refine zz_iinc dX6_scan_41 rfl rfl ?_
    refine gz_goto (tgt := 19) dX6_scan_44 rfl ?_
    refine ih xs2 (i + 1) (q + x.1.length + x.2.1.length) Z37 hn2 (by omega) (hZ37.2.1.trans (by omega)) hZ37.2.2.1 (hTp_drop (hTp_to ((hZ37.1 321 1 (by omega) (by omega))) (fun j => hZ37.1 322 j (by omega) (by omega)) htk)) hok.2.2 (fun Z2 g => hq Z2 ?_)
    exact scR_step hZ37 g
theorem zs_scan {xs : zLx} {tb : List Int} (hn : xs.length < 400) (h : hTp Z 0 (lxB xs tb)) (hok : lxOk xs tb) (hd : 8 ≤ d) : zk_DoesR l Γ mX6_scan d [.ref 323, .ref 321] Z F none (fun Z' => (∀ a j, (a < 323 ∨ 326 < a) → Z' a j = Z a j) ∧ Z' 323 4 = 0 ∧ Z' 323 3 = ((xs.length + 1 : Nat) : Int) ∧ hTk Z' 0 (lxT xs ++ [(46, 0)])) := by
  intro Q hq
  refine gz_aload_n dX6_scan_0 rfl ?_
  refine zz_iconst dX6_scan_1 ?_
  refine zc_putf 3 dX6_scan_2 rfl rfl wf_Heliographs_Tokens_25 (by decide) (by decide) jo_Heliographs_Tokens ju_Heliographs_Tokens rfl tyX6 tyX6_ok nmX6 rfl (fun _ => ⟨rfl, rfl⟩) rfl ?_
  refine gz_aload_n dX6_scan_5 rfl ?_
  refine zz_iconst dX6_scan_6 ?_
  refine zc_putf 4 dX6_scan_7 rfl rfl wf_Heliographs_Tokens_29 (by decide) (by decide) jo_Heliographs_Tokens ju_Heliographs_Tokens rfl tyX6 tyX6_ok nmX6 rfl (fun _ => ⟨rfl, rfl⟩) rfl ?_
  refine gz_aload_n dX6_scan_10 rfl ?_
  refine zz_iconst dX6_scan_11 ?_
  refine zc_putf 5 dX6_scan_12 rfl rfl wf_Heliographs_Tokens_32 (by decide) (by decide) jo_Heliographs_Tokens ju_Heliographs_Tokens rfl tyX6 tyX6_ok nmX6 rfl (fun _ => ⟨rfl, rfl⟩) rfl ?_
  refine zz_iconst dX6_scan_15 ?_
  refine gz_istore_n dX6_scan_16 (Nat.le_of_ble_eq_true rfl) rfl ?_
  refine zz_iconst dX6_scan_17 ?_
  refine gz_istore_n dX6_scan_18 (Nat.le_of_ble_eq_true rfl) rfl ?_
  refine zs_scan_loop hd xs.length xs 0 0 _ rfl (by omega) ((zb_u_j _ _ (by decide)).trans ((zb_u_j _ _ (by decide)).trans (zb_u_at _ _ _ _))) (zb_u_at _ _ _ _) (hTp_to (zb_u_a _ _ (by decide) |>.trans ((zb_u_a _ _ (by decide)).trans (zb_u_a _ _ (by decide)))) (fun j => (zb_u_a _ _ (by decide)).trans ((zb_u_a _ _ (by decide)).trans (zb_u_a _ _ (by decide)))) h) hok (fun Z2 g => hq Z2 ⟨fun a j q => (g.1 a j q).trans ((zb_u_a _ _ (by omega)).trans ((zb_u_a _ _ (by omega)).trans (zb_u_a _ _ (by omega)))), g.2.2.1.trans ((zb_u_j _ _ (by decide)).trans (zb_u_at _ _ _ _)), g.2.2.2.1.trans (by omega), g.2.2.2.2⟩)
end

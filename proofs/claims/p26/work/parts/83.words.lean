/-! THE CHAIN BY HAND: the words of a minute, walked -/
section
variable {l : Launch} {Γ : zk_G} {d : Nat} {F : Heap → Prop}
theorem cm_f {π σ : zV} {k n : Nat} (hk : k < n) (h1 : σ 4 k ≠ 2) : sNum (sIn (sFlash π σ k) 2) 0 n = sNum (sIn σ 2) 0 n + (if sFlash π σ k 4 k = 2 then 1 else 0) := by
  rw [sNum_one (f := sIn σ 2) (g := sIn (sFlash π σ k) 2) (k := k) n 0 (by omega) (by omega) (fun j hj => by unfold sIn; rw [sFlash_o π σ k (Or.inl ⟨by decide, hj, fun q => by omega⟩)])]
  have e1 : bI (sIn σ 2 k) = 0 := bI_f (by unfold sIn; rw [decide_eq_true_eq]; exact h1)
  rw [e1]
  by_cases q : sFlash π σ k 4 k = 2
  · rw [if_pos q, show bI (sIn (sFlash π σ k) 2 k) = 1 from bI_t (by unfold sIn; rw [decide_eq_true_eq]; exact q)]
    omega
  · rw [if_neg q, show bI (sIn (sFlash π σ k) 2 k) = 0 from bI_f (by unfold sIn; rw [decide_eq_true_eq]; exact q)]
    omega
theorem fl_0 {π σ : zV} {k : Nat} (h : σ 4 k ≠ 1) : sFlash π σ k = σ := if_neg h
theorem fl_1 {π σ : zV} {k w : Nat} (h : σ 4 k = 1) (hw : σ 7 k = (w : Int)) (hl : ¬ σ 11 w ≠ 0) : sFlash π σ k = sBreak π σ k := by
  unfold sFlash
  rw [if_pos h, hw, Int.toNat_natCast, if_neg hl]
theorem fl_2 {π σ : zV} {k w : Nat} (h : σ 4 k = 1) (hw : σ 7 k = (w : Int)) (hl : σ 11 w ≠ 0) (h2 : 7 ≤ π 6 w ∧ (σ 0 1 + σ 5 k) % 5 = 0) : sFlash π σ k = zb_u (zb_u σ 10 w (σ 10 w + 1)) 0 13 (σ 0 13 + 1) := by
  unfold sFlash
  rw [if_pos h, hw, Int.toNat_natCast, if_pos hl, if_pos h2]
theorem fl_3 {π σ : zV} {k w : Nat} (h : σ 4 k = 1) (hw : σ 7 k = (w : Int)) (hl : σ 11 w ≠ 0) (h2 : ¬ (7 ≤ π 6 w ∧ (σ 0 1 + σ 5 k) % 5 = 0)) (h3 : σ 5 k ≠ 1) : sFlash π σ k = zb_u (zb_u σ 10 w (σ 10 w + 1)) 5 k (σ 5 k - 1) := by
  unfold sFlash
  rw [if_pos h, hw, Int.toNat_natCast, if_pos hl, if_neg h2, if_neg h3]
theorem fl_4 {π σ : zV} {k w : Nat} (h : σ 4 k = 1) (hw : σ 7 k = (w : Int)) (hl : σ 11 w ≠ 0) (h2 : ¬ (7 ≤ π 6 w ∧ (σ 0 1 + σ 5 k) % 5 = 0)) (h3 : σ 5 k = 1) {x : Int} (hx : sAcross π w (σ 2 k) = x) : sFlash π σ k = sArr π (zb_u (zb_u σ 10 w (σ 10 w + 1)) 5 k (σ 5 k - 1)) k x := by
  unfold sFlash
  rw [if_pos h, hw, Int.toNat_natCast, if_pos hl, if_neg h2, if_pos h3, hx]
theorem fl_lit {π σ : zV} {k : Nat} {c : Nat → Nat} (hτ : ∀ w : Nat, w < c 1 → (σ 11 w ≠ 0 ↔ sPass π σ w (σ 0 1) = true)) : ∀ w : Nat, w < c 1 → (sFlash π σ k 11 w ≠ 0 ↔ sPass π (sFlash π σ k) w (sFlash π σ k 0 1) = true) := by
  intro w hw
  have e1 : sFlash π σ k 11 w = σ 11 w := sFlash_o π σ k (by omega)
  have e2 : sFlash π σ k 0 1 = σ 0 1 := sFlash_o π σ k (by omega)
  have e3 : sFlash π σ k 0 2 = σ 0 2 := sFlash_o π σ k (by omega)
  have e4 : sPass π (sFlash π σ k) w (σ 0 1) = sPass π σ w (σ 0 1) := by unfold sPass; rw [e3]
  rw [e1, e2, e4]
  exact hτ w hw
theorem arr_4t {π σ : zV} {k : Nat} {x : Int} (hx : x = σ 3 k) : sArr π σ k x 4 k = 2 := by
  unfold sArr
  rw [if_pos hx]
  simp (decide := true) only [zb_u, false_and, and_false, true_and, and_true, and_self, if_true, if_false, ↓reduceIte]
theorem arr_4w {π σ : zV} {k : Nat} {x : Int} (hx : x ≠ σ 3 k) : sArr π σ k x 4 k = 0 := by
  unfold sArr
  rw [if_neg hx]
  unfold sWait
  simp (decide := true) only [zb_u, false_and, and_false, true_and, and_true, and_self, if_true, if_false, ↓reduceIte]
theorem zS_pass_f {E : Nat → Nat × Nat} {e : Nat} {c : Nat → Nat} {W0 π : zV} (hE : zE E e c) (hw : wP π) {N : Int} (hN : N + 8 ≤ 90000) {T0 : Int} (hd : 4 ≤ d) {kc ks : Nat} {Q : Option Value → zk_M → (Heap → Prop) → Prop} : ∀ (n i : Nat) (W σ : zV) (L5 L6 : Option Value), i + n = c 3 → sm c W π σ → wC π σ (N + i) → (∀ w : Nat, w < c 1 → (σ 11 w ≠ 0 ↔ sPass π σ w (σ 0 1) = true)) → (∀ a j, (a < 424 ∨ 468 ≤ a) → W a j = W0 a j) → (∀ W1 L4 L5 L6, sm c W1 π (sIt (sFlash π) i n σ) → (∀ a j, (a < 424 ∨ 468 ≤ a) → W1 a j = W0 a j) → zk_Go l Γ mX8_pass d kc ks Q 231 [some (.ref 424), some (.int (iZ (sNum (sIn (sIt (sFlash π) i n σ) 2) 0 (c 3) - T0))), some (.ref 428), some (.int (iZ (c 3 : Int))), L4, L5, L6] [] (zG E e W1) F) → zk_Go l Γ mX8_pass d kc ks Q 13 [some (.ref 424), some (.int (iZ (sNum (sIn σ 2) 0 (c 3) - T0))), some (.ref 428), some (.int (iZ (c 3 : Int))), some (.int (iZ (i : Int))), L5, L6] [] (zG E e W) F := by
  intro n
  induction n with
  | zero =>
    intro i W σ L5 L6 hi hS hc hτ hk kQ
    have hb5 := hE.2.2.2.2
    refine gz_iload dX8_pass_13 rfl ?_
    refine gz_iload_n dX8_pass_15 rfl ?_
    refine zz_icmp_ge (tgt := 231) dX8_pass_16 rfl (by omega) (fun b16 => ?_) (fun b16 => ?_)
    rotate_left
    · exact absurd b16 (by omega)
    exact kQ W _ _ _ hS hk
  | succ n ih =>
    intro i W σ L5 L6 hi hS hc hτ hk kQ
    have hb5 := hE.2.2.2.2
    have hbb : c 0 ≤ 8 ∧ c 1 ≤ 12 ∧ c 2 ≤ 8 ∧ c 3 ≤ 8 := ⟨by omega, by omega, by omega, by omega⟩
    have n1 := hS.1
    have n0 := wP_n hw
    have tb := wC_n hc
    have hM := wC_m hc (k := i) (by omega)
    unfold wM at hM
    have h3 := hS.2.2.2.2.2 i (by omega)
    obtain ⟨w, hw7⟩ : ∃ w : Nat, σ 4 i = 1 → σ 7 i = (w : Int) := ⟨(σ 7 i).toNat, fun q => by have := hM.2.2.2.2.2.2.2.2.1 q; omega⟩
    refine gz_iload dX8_pass_13 rfl ?_
    refine gz_iload_n dX8_pass_15 rfl ?_
    refine zz_icmp_ge (tgt := 231) dX8_pass_16 rfl (by omega) (fun b16 => ?_) (fun b16 => ?_)
    · exact absurd b16 (by omega)
    refine gz_aload_n dX8_pass_19 rfl ?_
    refine gz_iload dX8_pass_20 rfl ?_
    refine gg_aald hE 3 (b := 460) (j := i) dX8_pass_22 (by decide) rfl rfl (by omega) ?_
    refine gz_astore dX8_pass_23 (Nat.le_of_ble_eq_true rfl) rfl ?_
    refine gz_aload dX8_pass_25 rfl ?_
    refine zz_iconst dX8_pass_27 ?_
    refine gg_iald hE 3 4 (b := 460) (j := i) (v := σ 4 i) dX8_pass_28 (by decide) rfl (by omega) rfl (by decide) h3.2.2.2.2.1 ?_
    refine zz_iconst dX8_pass_29 ?_
    refine zz_icmp_eq (tgt := 36) dX8_pass_30 rfl (by omega) (fun b30 => ?_) (fun b30 => ?_)
    ·
      have h41 : σ 4 i = 1 := by omega
      have hwl : w < c 1 := by have := hw7 h41; omega
      have hov := hM.2.2.2.2.2.2.2.2.1 h41
      rw [hw7 h41, Int.toNat_natCast] at hov
      refine gz_aload_n dX8_pass_36 rfl ?_
      refine gz_getf (M := zG E e W) 4 dX8_pass_37 hE.1 rfl wf_HeliographsLaw_Sim_19 (by decide) rfl ?_
      refine gz_aload dX8_pass_40 rfl ?_
      refine zz_iconst dX8_pass_42 ?_
      refine gg_iald hE 3 5 (b := 460) (j := i) (v := (w : Int)) dX8_pass_43 (by decide) rfl (by omega) rfl (by decide) (h3.2.2.2.2.2.1.trans (hw7 h41)) ?_
      refine gg_aald hE 1 (b := 440) (j := w) dX8_pass_44 (by decide) rfl rfl (by omega) ?_
      refine gz_astore dX8_pass_45 (Nat.le_of_ble_eq_true rfl) rfl ?_
      refine gz_aload_n dX8_pass_47 rfl ?_
      refine gz_aload dX8_pass_48 rfl ?_
      refine zz_iconst dX8_pass_50 ?_
      refine gg_iald hE 3 5 (b := 460) (j := i) (v := (w : Int)) dX8_pass_51 (by decide) rfl (by omega) rfl (by decide) (h3.2.2.2.2.2.1.trans (hw7 h41)) ?_
      refine gv_1 (J := mX8_isOpen_) (d1 := d - 1) dX8_pass_52 wm_HeliographsLaw_Sim_42 hE.1 jzX8_isOpen_ (Nat.le_of_ble_eq_true rfl) (Nat.le_of_ble_eq_true rfl) (by omega) ⟨Nat.zero_le _, Nat.zero_le _⟩ (zS_isOpen1 hE hS hw hwl ⟨by omega, by omega⟩ tb.2.1 (by omega)) ?_
      refine zz_if_neB (tgt := 67) dX8_pass_55 rfl (fun b55 => ?_) (fun b55 => ?_)
      ·
        have hl : σ 11 w ≠ 0 := (hτ w hwl).mpr b55
        have hq6 := hw.2.2.2.2.2.1 w (by omega)
        refine gz_aload dX8_pass_67 rfl ?_
        refine zz_iconst dX8_pass_69 ?_
        refine gz_dup2 dX8_pass_70 rfl rfl ?_
        refine gg_iald hE 1 3 (b := 440) (j := w) (v := σ 10 w) dX8_pass_71 (by decide) rfl (by omega) rfl (by decide) (hS.2.2.2.1 w hwl).2.2.2 ?_
        refine zz_iconst dX8_pass_72 ?_
        refine zz_iadd dX8_pass_73 ?_
        refine gg_iast hE 1 3 (b := 440) (j := w) dX8_pass_74 (by decide) rfl (by omega) rfl (by decide) ?_
        have hS1 := sm_w hS hbb (w := w) hwl (σ 10 w + 1)
        have h31 := hS1.2.2.2.2.2 i (by omega)
        have h01 := hS1.2.1
        have hw1 := hS1.2.2.2.1 w hwl
        simp (decide := true) only [zb_u, false_and, and_false, true_and, and_true, and_self, if_true, if_false, ↓reduceIte] at h31 h01
        obtain ⟨W1, hW1⟩ : ∃ x, zb_u W (440 + w) 3 (σ 10 w + 1) = x := ⟨_, rfl⟩
        have e1 : ∀ a j, W1 a j = zb_u W (440 + w) 3 (σ 10 w + 1) a j := fun a j => by rw [hW1]
        rw [hW1] at hS1 hw1 ⊢
        have hk1 : (∀ a j, (a < 424 ∨ 468 ≤ a) → W1 a j = W0 a j) := fun a j q => by rw [← hW1, zb_u_no _ _ (by omega)]; exact hk a j q
        have h32 := hS1.2.2.2.2.2 i (by omega)
        have h02 := hS1.2.1
        rw [zb_u_no σ _ (show ¬ (2 = 10 ∧ i = w) by omega), zb_u_no σ _ (show ¬ (3 = 10 ∧ i = w) by omega), zb_u_no σ _ (show ¬ (4 = 10 ∧ i = w) by omega), zb_u_no σ _ (show ¬ (7 = 10 ∧ i = w) by omega), zb_u_no σ _ (show ¬ (5 = 10 ∧ i = w) by omega), zb_u_no σ _ (show ¬ (8 = 10 ∧ i = w) by omega), zb_u_no σ _ (show ¬ (6 = 10 ∧ i = w) by omega), zb_u_no σ _ (show ¬ (9 = 10 ∧ i = w) by omega)] at h32
        rw [zb_u_no σ _ (show ¬ (0 = 10 ∧ 1 = w) by omega), zb_u_no σ _ (show ¬ (0 = 10 ∧ 13 = w) by omega), zb_u_no σ _ (show ¬ (0 = 10 ∧ 2 = w) by omega)] at h02
        refine gz_aload dX8_pass_75 rfl ?_
        refine zz_iconst dX8_pass_77 ?_
        refine gg_iald hE 1 2 (b := 440) (j := w) (v := π 6 w) dX8_pass_78 (by decide) rfl (by omega) rfl (by decide) hw1.2.2.1 ?_
        refine zz_bipush (x := 6) dX8_pass_79 rfl ?_
        refine zz_icmp_le (tgt := 112) dX8_pass_81 rfl (by omega) (fun b81 => ?_) (fun b81 => ?_)
        ·
          have hnl : ¬ (7 ≤ π 6 w ∧ (σ 0 1 + σ 5 i) % 5 = 0) := by omega
          refine gz_aload dX8_pass_112 rfl ?_
          refine zz_bipush (x := 6) dX8_pass_114 rfl ?_
          refine gz_dup2 dX8_pass_116 rfl rfl ?_
          refine gg_iald hE 3 6 (b := 460) (j := i) (v := σ 5 i) dX8_pass_117 (by decide) rfl (by omega) rfl (by decide) h32.2.2.2.2.2.2.1 ?_
          refine zz_iconst dX8_pass_118 ?_
          refine zz_isub dX8_pass_119 ?_
          refine gg_iast hE 3 6 (b := 460) (j := i) dX8_pass_120 (by decide) rfl (by omega) rfl (by decide) ?_
          have hS2 := sm_word hS1 hbb (m := i) (σ 5 i - 1)
          have hk2 : (∀ a j, (a < 424 ∨ 468 ≤ a) → (zb_u W1 (460 + i) 6 (σ 5 i - 1)) a j = W0 a j) := (fun a j q => by rw [zb_u_no _ _ (by omega)]; exact hk1 a j q)
          refine gz_aload dX8_pass_121 rfl ?_
          refine zz_bipush (x := 6) dX8_pass_123 rfl ?_
          refine gg_iald hE 3 6 (b := 460) (j := i) (v := σ 5 i - 1) dX8_pass_125 (by decide) rfl (by omega) rfl (by decide) (zb_u_at _ _ _ _) ?_
          refine zz_if_le (tgt := 132) dX8_pass_126 rfl (by omega) (fun b126 => ?_) (fun b126 => ?_)
          ·
            have h51 : σ 5 i = 1 := by omega
            have hax : sAcross π w (σ 2 i) = π 4 w + π 5 w - σ 2 i := by
              unfold sAcross
              split <;> omega
            have hf := fl_4 h41 (hw7 h41) hl hnl h51 hax
            refine gz_aload dX8_pass_132 rfl ?_
            refine zz_iconst dX8_pass_134 ?_
            refine gz_aload dX8_pass_135 rfl ?_
            refine zz_iconst dX8_pass_137 ?_
            refine gg_iald hE 1 0 (b := 440) (j := w) (v := π 4 w) dX8_pass_138 (by decide) rfl (by omega) rfl (by decide) (by (repeat rw [zb_u_no _ _ (by omega)]); exact hw1.1) ?_
            refine gz_aload dX8_pass_139 rfl ?_
            refine zz_iconst dX8_pass_141 ?_
            refine gg_iald hE 1 1 (b := 440) (j := w) (v := π 5 w) dX8_pass_142 (by decide) rfl (by omega) rfl (by decide) (by (repeat rw [zb_u_no _ _ (by omega)]); exact hw1.2.1) ?_
            refine zz_iadd dX8_pass_143 ?_
            refine gz_aload dX8_pass_144 rfl ?_
            refine zz_iconst dX8_pass_146 ?_
            refine gg_iald hE 3 1 (b := 460) (j := i) (v := σ 2 i) dX8_pass_147 (by decide) rfl (by omega) rfl (by decide) (by (repeat rw [zb_u_no _ _ (by omega)]); exact h32.2.1) ?_
            refine zz_isub dX8_pass_148 ?_
            refine gg_iast hE 3 1 (b := 460) (j := i) dX8_pass_149 (by decide) rfl (by omega) rfl (by decide) ?_
            refine gz_aload dX8_pass_150 rfl ?_
            refine zz_bipush (x := 9) dX8_pass_152 rfl ?_
            refine gz_dup2 dX8_pass_154 rfl rfl ?_
            refine gg_iald hE 3 9 (b := 460) (j := i) (v := σ 9 i) dX8_pass_155 (by decide) rfl (by omega) rfl (by decide) (by (repeat rw [zb_u_no _ _ (by omega)]); exact h32.2.2.2.2.2.2.2.2.2) ?_
            refine zz_iconst dX8_pass_156 ?_
            refine zz_iadd dX8_pass_157 ?_
            refine gg_iast hE 3 9 (b := 460) (j := i) dX8_pass_158 (by decide) rfl (by omega) rfl (by decide) ?_
            refine gz_aload dX8_pass_159 rfl ?_
            refine zz_iconst dX8_pass_161 ?_
            refine zz_iconst dX8_pass_162 ?_
            refine gg_iast hE 3 5 (b := 460) (j := i) dX8_pass_163 (by decide) rfl (by omega) rfl (by decide) ?_
            refine gz_aload dX8_pass_164 rfl ?_
            refine zz_iconst dX8_pass_166 ?_
            refine gz_aload dX8_pass_167 rfl ?_
            refine zz_iconst dX8_pass_169 ?_
            refine gg_iald hE 3 1 (b := 460) (j := i) (v := π 4 w + π 5 w - σ 2 i) dX8_pass_170 (by decide) rfl (by omega) rfl (by decide) (by (repeat rw [zb_u_no _ _ (by omega)]); exact zb_u_at _ _ _ _) ?_
            refine gz_aload dX8_pass_171 rfl ?_
            refine zz_iconst dX8_pass_173 ?_
            refine gg_iald hE 3 2 (b := 460) (j := i) (v := σ 3 i) dX8_pass_174 (by decide) rfl (by omega) rfl (by decide) (by (repeat rw [zb_u_no _ _ (by omega)]); exact h32.2.2.1) ?_
            refine zz_icmp_ne (tgt := 182) dX8_pass_175 rfl (by omega) (fun b175 => ?_) (fun b175 => ?_)
            ·
              refine zz_iconst dX8_pass_182 ?_
              refine gg_iast hE 3 4 (b := 460) (j := i) dX8_pass_183 (by decide) rfl (by omega) rfl (by decide) ?_
              refine gz_aload dX8_pass_184 rfl ?_
              refine zz_bipush (x := 6) dX8_pass_186 rfl ?_
              refine gz_aload dX8_pass_188 rfl ?_
              refine zz_iconst dX8_pass_190 ?_
              refine gg_iald hE 3 4 (b := 460) (j := i) (v := 0) dX8_pass_191 (by decide) rfl (by omega) rfl (by decide) (zb_u_at _ _ _ _) ?_
              refine zz_iconst dX8_pass_192 ?_
              refine zz_icmp_ne (tgt := 200) dX8_pass_193 rfl (by omega) (fun b193 => ?_) (fun b193 => ?_)
              rotate_left
              · exact absurd b193 (by omega)
              refine gz_aload dX8_pass_200 rfl ?_
              refine zz_iconst dX8_pass_202 ?_
              refine gg_iald hE 3 0 (b := 460) (j := i) (v := π 7 i) dX8_pass_203 (by decide) rfl (by omega) rfl (by decide) (by (repeat rw [zb_u_no _ _ (by omega)]); exact h32.1) ?_
              refine gg_iast hE 3 6 (b := 460) (j := i) dX8_pass_204 (by decide) rfl (by omega) rfl (by decide) ?_
              refine gz_aload dX8_pass_205 rfl ?_
              refine zz_iconst dX8_pass_207 ?_
              refine gg_iald hE 3 4 (b := 460) (j := i) (v := 0) dX8_pass_208 (by decide) rfl (by omega) rfl (by decide) (by (repeat rw [zb_u_no _ _ (by omega)]); exact zb_u_at _ _ _ _) ?_
              refine zz_iconst dX8_pass_209 ?_
              refine zz_icmp_ne (tgt := 225) dX8_pass_210 rfl (by omega) (fun b210 => ?_) (fun b210 => ?_)
              rotate_left
              · exact absurd b210 (by omega)
              have hsm := sm_wait (m := i) hS2 hbb (x := π 4 w + π 5 w - σ 2 i) (by show _ ≠ zb_u (zb_u σ 10 w (σ 10 w + 1)) 5 i (σ 5 i - 1) 3 i; rw [zb_u_no _ _ (by omega), zb_u_no _ _ (by omega)]; omega)
              rw [show zb_u (zb_u σ 10 w (σ 10 w + 1)) 5 i (σ 5 i - 1) 9 i = σ 9 i by rw [zb_u_no _ _ (by omega), zb_u_no _ _ (by omega)]] at hsm
              rw [← hf] at hsm
              have hcm : sNum (sIn (sFlash π σ i) 2) 0 (c 3) - T0 = sNum (sIn σ 2) 0 (c 3) - T0 := by rw [cm_f (show i < c 3 by omega) (show σ 4 i ≠ 2 by omega), hf, arr_4w (by rw [zb_u_no _ _ (by omega), zb_u_no _ _ (by omega)]; omega), if_neg (by decide)]; omega
              refine zz_iinc dX8_pass_225 rfl rfl ?_
              refine gz_goto (tgt := 13) dX8_pass_228 rfl ?_
              rw [← hcm]
              exact ih (i + 1) _ (sFlash π σ i) _ _ (by omega) hsm (by have q := wC_flash (k := i) hw hc (by omega) (by omega); rw [show N + (i : Int) + 1 = N + ((i + 1 : Nat) : Int) by omega] at q; exact q) (fl_lit hτ) (by first | exact hkp | exact (fun a j q => by (repeat rw [zb_u_no _ _ (by omega)]); exact hk1 a j q)) kQ
            ·
              refine zz_iconst dX8_pass_178 ?_
              refine gz_goto (tgt := 183) dX8_pass_179 rfl ?_
              refine gg_iast hE 3 4 (b := 460) (j := i) dX8_pass_183 (by decide) rfl (by omega) rfl (by decide) ?_
              refine gz_aload dX8_pass_184 rfl ?_
              refine zz_bipush (x := 6) dX8_pass_186 rfl ?_
              refine gz_aload dX8_pass_188 rfl ?_
              refine zz_iconst dX8_pass_190 ?_
              refine gg_iald hE 3 4 (b := 460) (j := i) (v := 2) dX8_pass_191 (by decide) rfl (by omega) rfl (by decide) (zb_u_at _ _ _ _) ?_
              refine zz_iconst dX8_pass_192 ?_
              refine zz_icmp_ne (tgt := 200) dX8_pass_193 rfl (by omega) (fun b193 => ?_) (fun b193 => ?_)
              · exact absurd b193 (by omega)
              refine zz_iconst dX8_pass_196 ?_
              refine gz_goto (tgt := 204) dX8_pass_197 rfl ?_
              refine gg_iast hE 3 6 (b := 460) (j := i) dX8_pass_204 (by decide) rfl (by omega) rfl (by decide) ?_
              refine gz_aload dX8_pass_205 rfl ?_
              refine zz_iconst dX8_pass_207 ?_
              refine gg_iald hE 3 4 (b := 460) (j := i) (v := 2) dX8_pass_208 (by decide) rfl (by omega) rfl (by decide) (by (repeat rw [zb_u_no _ _ (by omega)]); exact zb_u_at _ _ _ _) ?_
              refine zz_iconst dX8_pass_209 ?_
              refine zz_icmp_ne (tgt := 225) dX8_pass_210 rfl (by omega) (fun b210 => ?_) (fun b210 => ?_)
              · exact absurd b210 (by omega)
              refine gz_aload dX8_pass_213 rfl ?_
              refine zz_bipush (x := 8) dX8_pass_215 rfl ?_
              refine gz_aload_n dX8_pass_217 rfl ?_
              refine gz_getf (M := zG E e _) (v := .int (iZ (σ 0 1))) 0 dX8_pass_218 hE.1 rfl wf_HeliographsLaw_Sim_35 (by decide) (congrArg (fun z => Value.int (iZ z)) (by (repeat rw [zb_u_no _ _ (by omega)]); exact h02.1)) ?_
              refine gg_iast hE 3 8 (b := 460) (j := i) dX8_pass_221 (by decide) rfl (by omega) rfl (by decide) ?_
              have hsm := sm_there (m := i) hS2 hbb (x := π 4 w + π 5 w - σ 2 i) (by show _ = zb_u (zb_u σ 10 w (σ 10 w + 1)) 5 i (σ 5 i - 1) 3 i; rw [zb_u_no _ _ (by omega), zb_u_no _ _ (by omega)]; omega)
              rw [show zb_u (zb_u σ 10 w (σ 10 w + 1)) 5 i (σ 5 i - 1) 9 i = σ 9 i by rw [zb_u_no _ _ (by omega), zb_u_no _ _ (by omega)], show zb_u (zb_u σ 10 w (σ 10 w + 1)) 5 i (σ 5 i - 1) 0 1 = σ 0 1 by rw [zb_u_no _ _ (by omega), zb_u_no _ _ (by omega)]] at hsm
              rw [← hf] at hsm
              have hcm : sNum (sIn (sFlash π σ i) 2) 0 (c 3) - T0 = sNum (sIn σ 2) 0 (c 3) - T0 + 1 := by rw [cm_f (show i < c 3 by omega) (show σ 4 i ≠ 2 by omega), hf, arr_4t (by rw [zb_u_no _ _ (by omega), zb_u_no _ _ (by omega)]; omega), if_pos rfl]; omega
              refine zz_iinc dX8_pass_222 rfl rfl ?_
              refine zz_iinc dX8_pass_225 rfl rfl ?_
              refine gz_goto (tgt := 13) dX8_pass_228 rfl ?_
              rw [← hcm]
              exact ih (i + 1) _ (sFlash π σ i) _ _ (by omega) hsm (by have q := wC_flash (k := i) hw hc (by omega) (by omega); rw [show N + (i : Int) + 1 = N + ((i + 1 : Nat) : Int) by omega] at q; exact q) (fl_lit hτ) (by first | exact hkp | exact (fun a j q => by (repeat rw [zb_u_no _ _ (by omega)]); exact hk1 a j q)) kQ
          ·
            have hf := fl_3 (π := π) h41 (hw7 h41) hl hnl (by omega)
            have hsm := hS2
            rw [← hf] at hsm
            have hkp := hk2
            have hcm : sNum (sIn (sFlash π σ i) 2) 0 (c 3) - T0 = sNum (sIn σ 2) 0 (c 3) - T0 := by rw [cm_f (show i < c 3 by omega) (show σ 4 i ≠ 2 by omega), hf, zb_u_no _ _ (by omega), zb_u_no _ _ (by omega), if_neg (by omega)]; omega
            refine gz_goto (tgt := 225) dX8_pass_129 rfl ?_
            refine zz_iinc dX8_pass_225 rfl rfl ?_
            refine gz_goto (tgt := 13) dX8_pass_228 rfl ?_
            rw [← hcm]
            exact ih (i + 1) _ (sFlash π σ i) _ _ (by omega) hsm (by have q := wC_flash (k := i) hw hc (by omega) (by omega); rw [show N + (i : Int) + 1 = N + ((i + 1 : Nat) : Int) by omega] at q; exact q) (fl_lit hτ) (by first | exact hkp | exact (fun a j q => by (repeat rw [zb_u_no _ _ (by omega)]); exact hk1 a j q)) kQ
        ·
          refine gz_aload_n dX8_pass_84 rfl ?_
          refine gz_getf (M := zG E e W1) (v := .int (iZ (σ 0 1))) 0 dX8_pass_85 hE.1 rfl wf_HeliographsLaw_Sim_35 (by decide) (congrArg (fun z => Value.int (iZ z)) h02.1) ?_
          refine gz_aload dX8_pass_88 rfl ?_
          refine zz_bipush (x := 6) dX8_pass_90 rfl ?_
          refine gg_iald hE 3 6 (b := 460) (j := i) (v := σ 5 i) dX8_pass_92 (by decide) rfl (by omega) rfl (by decide) h32.2.2.2.2.2.2.1 ?_
          refine zz_iadd dX8_pass_93 ?_
          refine zz_iconst dX8_pass_94 ?_
          refine zz_irem dX8_pass_95 (by omega) ?_
          refine zz_if_ne (tgt := 112) dX8_pass_96 rfl (by omega) (fun b96 => ?_) (fun b96 => ?_)
          ·
            have hnl : ¬ (7 ≤ π 6 w ∧ (σ 0 1 + σ 5 i) % 5 = 0) := by omega
            refine gz_aload dX8_pass_112 rfl ?_
            refine zz_bipush (x := 6) dX8_pass_114 rfl ?_
            refine gz_dup2 dX8_pass_116 rfl rfl ?_
            refine gg_iald hE 3 6 (b := 460) (j := i) (v := σ 5 i) dX8_pass_117 (by decide) rfl (by omega) rfl (by decide) h32.2.2.2.2.2.2.1 ?_
            refine zz_iconst dX8_pass_118 ?_
            refine zz_isub dX8_pass_119 ?_
            refine gg_iast hE 3 6 (b := 460) (j := i) dX8_pass_120 (by decide) rfl (by omega) rfl (by decide) ?_
            have hS2 := sm_word hS1 hbb (m := i) (σ 5 i - 1)
            have hk2 : (∀ a j, (a < 424 ∨ 468 ≤ a) → (zb_u W1 (460 + i) 6 (σ 5 i - 1)) a j = W0 a j) := (fun a j q => by rw [zb_u_no _ _ (by omega)]; exact hk1 a j q)
            refine gz_aload dX8_pass_121 rfl ?_
            refine zz_bipush (x := 6) dX8_pass_123 rfl ?_
            refine gg_iald hE 3 6 (b := 460) (j := i) (v := σ 5 i - 1) dX8_pass_125 (by decide) rfl (by omega) rfl (by decide) (zb_u_at _ _ _ _) ?_
            refine zz_if_le (tgt := 132) dX8_pass_126 rfl (by omega) (fun b126 => ?_) (fun b126 => ?_)
            ·
              have h51 : σ 5 i = 1 := by omega
              have hax : sAcross π w (σ 2 i) = π 4 w + π 5 w - σ 2 i := by
                unfold sAcross
                split <;> omega
              have hf := fl_4 h41 (hw7 h41) hl hnl h51 hax
              refine gz_aload dX8_pass_132 rfl ?_
              refine zz_iconst dX8_pass_134 ?_
              refine gz_aload dX8_pass_135 rfl ?_
              refine zz_iconst dX8_pass_137 ?_
              refine gg_iald hE 1 0 (b := 440) (j := w) (v := π 4 w) dX8_pass_138 (by decide) rfl (by omega) rfl (by decide) (by (repeat rw [zb_u_no _ _ (by omega)]); exact hw1.1) ?_
              refine gz_aload dX8_pass_139 rfl ?_
              refine zz_iconst dX8_pass_141 ?_
              refine gg_iald hE 1 1 (b := 440) (j := w) (v := π 5 w) dX8_pass_142 (by decide) rfl (by omega) rfl (by decide) (by (repeat rw [zb_u_no _ _ (by omega)]); exact hw1.2.1) ?_
              refine zz_iadd dX8_pass_143 ?_
              refine gz_aload dX8_pass_144 rfl ?_
              refine zz_iconst dX8_pass_146 ?_
              refine gg_iald hE 3 1 (b := 460) (j := i) (v := σ 2 i) dX8_pass_147 (by decide) rfl (by omega) rfl (by decide) (by (repeat rw [zb_u_no _ _ (by omega)]); exact h32.2.1) ?_
              refine zz_isub dX8_pass_148 ?_
              refine gg_iast hE 3 1 (b := 460) (j := i) dX8_pass_149 (by decide) rfl (by omega) rfl (by decide) ?_
              refine gz_aload dX8_pass_150 rfl ?_
              refine zz_bipush (x := 9) dX8_pass_152 rfl ?_
              refine gz_dup2 dX8_pass_154 rfl rfl ?_
              refine gg_iald hE 3 9 (b := 460) (j := i) (v := σ 9 i) dX8_pass_155 (by decide) rfl (by omega) rfl (by decide) (by (repeat rw [zb_u_no _ _ (by omega)]); exact h32.2.2.2.2.2.2.2.2.2) ?_
              refine zz_iconst dX8_pass_156 ?_
              refine zz_iadd dX8_pass_157 ?_
              refine gg_iast hE 3 9 (b := 460) (j := i) dX8_pass_158 (by decide) rfl (by omega) rfl (by decide) ?_
              refine gz_aload dX8_pass_159 rfl ?_
              refine zz_iconst dX8_pass_161 ?_
              refine zz_iconst dX8_pass_162 ?_
              refine gg_iast hE 3 5 (b := 460) (j := i) dX8_pass_163 (by decide) rfl (by omega) rfl (by decide) ?_
              refine gz_aload dX8_pass_164 rfl ?_
              refine zz_iconst dX8_pass_166 ?_
              refine gz_aload dX8_pass_167 rfl ?_
              refine zz_iconst dX8_pass_169 ?_
              refine gg_iald hE 3 1 (b := 460) (j := i) (v := π 4 w + π 5 w - σ 2 i) dX8_pass_170 (by decide) rfl (by omega) rfl (by decide) (by (repeat rw [zb_u_no _ _ (by omega)]); exact zb_u_at _ _ _ _) ?_
              refine gz_aload dX8_pass_171 rfl ?_
              refine zz_iconst dX8_pass_173 ?_
              refine gg_iald hE 3 2 (b := 460) (j := i) (v := σ 3 i) dX8_pass_174 (by decide) rfl (by omega) rfl (by decide) (by (repeat rw [zb_u_no _ _ (by omega)]); exact h32.2.2.1) ?_
              refine zz_icmp_ne (tgt := 182) dX8_pass_175 rfl (by omega) (fun b175 => ?_) (fun b175 => ?_)
              ·
                refine zz_iconst dX8_pass_182 ?_
                refine gg_iast hE 3 4 (b := 460) (j := i) dX8_pass_183 (by decide) rfl (by omega) rfl (by decide) ?_
                refine gz_aload dX8_pass_184 rfl ?_
                refine zz_bipush (x := 6) dX8_pass_186 rfl ?_
                refine gz_aload dX8_pass_188 rfl ?_
                refine zz_iconst dX8_pass_190 ?_
                refine gg_iald hE 3 4 (b := 460) (j := i) (v := 0) dX8_pass_191 (by decide) rfl (by omega) rfl (by decide) (zb_u_at _ _ _ _) ?_
                refine zz_iconst dX8_pass_192 ?_
                refine zz_icmp_ne (tgt := 200) dX8_pass_193 rfl (by omega) (fun b193 => ?_) (fun b193 => ?_)
                rotate_left
                · exact absurd b193 (by omega)
                refine gz_aload dX8_pass_200 rfl ?_
                refine zz_iconst dX8_pass_202 ?_
                refine gg_iald hE 3 0 (b := 460) (j := i) (v := π 7 i) dX8_pass_203 (by decide) rfl (by omega) rfl (by decide) (by (repeat rw [zb_u_no _ _ (by omega)]); exact h32.1) ?_
                refine gg_iast hE 3 6 (b := 460) (j := i) dX8_pass_204 (by decide) rfl (by omega) rfl (by decide) ?_
                refine gz_aload dX8_pass_205 rfl ?_
                refine zz_iconst dX8_pass_207 ?_
                refine gg_iald hE 3 4 (b := 460) (j := i) (v := 0) dX8_pass_208 (by decide) rfl (by omega) rfl (by decide) (by (repeat rw [zb_u_no _ _ (by omega)]); exact zb_u_at _ _ _ _) ?_
                refine zz_iconst dX8_pass_209 ?_
                refine zz_icmp_ne (tgt := 225) dX8_pass_210 rfl (by omega) (fun b210 => ?_) (fun b210 => ?_)
                rotate_left
                · exact absurd b210 (by omega)
                have hsm := sm_wait (m := i) hS2 hbb (x := π 4 w + π 5 w - σ 2 i) (by show _ ≠ zb_u (zb_u σ 10 w (σ 10 w + 1)) 5 i (σ 5 i - 1) 3 i; rw [zb_u_no _ _ (by omega), zb_u_no _ _ (by omega)]; omega)
                rw [show zb_u (zb_u σ 10 w (σ 10 w + 1)) 5 i (σ 5 i - 1) 9 i = σ 9 i by rw [zb_u_no _ _ (by omega), zb_u_no _ _ (by omega)]] at hsm
                rw [← hf] at hsm
                have hcm : sNum (sIn (sFlash π σ i) 2) 0 (c 3) - T0 = sNum (sIn σ 2) 0 (c 3) - T0 := by rw [cm_f (show i < c 3 by omega) (show σ 4 i ≠ 2 by omega), hf, arr_4w (by rw [zb_u_no _ _ (by omega), zb_u_no _ _ (by omega)]; omega), if_neg (by decide)]; omega
                refine zz_iinc dX8_pass_225 rfl rfl ?_
                refine gz_goto (tgt := 13) dX8_pass_228 rfl ?_
                rw [← hcm]
                exact ih (i + 1) _ (sFlash π σ i) _ _ (by omega) hsm (by have q := wC_flash (k := i) hw hc (by omega) (by omega); rw [show N + (i : Int) + 1 = N + ((i + 1 : Nat) : Int) by omega] at q; exact q) (fl_lit hτ) (by first | exact hkp | exact (fun a j q => by (repeat rw [zb_u_no _ _ (by omega)]); exact hk1 a j q)) kQ
              ·
                refine zz_iconst dX8_pass_178 ?_
                refine gz_goto (tgt := 183) dX8_pass_179 rfl ?_
                refine gg_iast hE 3 4 (b := 460) (j := i) dX8_pass_183 (by decide) rfl (by omega) rfl (by decide) ?_
                refine gz_aload dX8_pass_184 rfl ?_
                refine zz_bipush (x := 6) dX8_pass_186 rfl ?_
                refine gz_aload dX8_pass_188 rfl ?_
                refine zz_iconst dX8_pass_190 ?_
                refine gg_iald hE 3 4 (b := 460) (j := i) (v := 2) dX8_pass_191 (by decide) rfl (by omega) rfl (by decide) (zb_u_at _ _ _ _) ?_
                refine zz_iconst dX8_pass_192 ?_
                refine zz_icmp_ne (tgt := 200) dX8_pass_193 rfl (by omega) (fun b193 => ?_) (fun b193 => ?_)
                · exact absurd b193 (by omega)
                refine zz_iconst dX8_pass_196 ?_
                refine gz_goto (tgt := 204) dX8_pass_197 rfl ?_
                refine gg_iast hE 3 6 (b := 460) (j := i) dX8_pass_204 (by decide) rfl (by omega) rfl (by decide) ?_
                refine gz_aload dX8_pass_205 rfl ?_
                refine zz_iconst dX8_pass_207 ?_
                refine gg_iald hE 3 4 (b := 460) (j := i) (v := 2) dX8_pass_208 (by decide) rfl (by omega) rfl (by decide) (by (repeat rw [zb_u_no _ _ (by omega)]); exact zb_u_at _ _ _ _) ?_
                refine zz_iconst dX8_pass_209 ?_
                refine zz_icmp_ne (tgt := 225) dX8_pass_210 rfl (by omega) (fun b210 => ?_) (fun b210 => ?_)
                · exact absurd b210 (by omega)
                refine gz_aload dX8_pass_213 rfl ?_
                refine zz_bipush (x := 8) dX8_pass_215 rfl ?_
                refine gz_aload_n dX8_pass_217 rfl ?_
                refine gz_getf (M := zG E e _) (v := .int (iZ (σ 0 1))) 0 dX8_pass_218 hE.1 rfl wf_HeliographsLaw_Sim_35 (by decide) (congrArg (fun z => Value.int (iZ z)) (by (repeat rw [zb_u_no _ _ (by omega)]); exact h02.1)) ?_
                refine gg_iast hE 3 8 (b := 460) (j := i) dX8_pass_221 (by decide) rfl (by omega) rfl (by decide) ?_
                have hsm := sm_there (m := i) hS2 hbb (x := π 4 w + π 5 w - σ 2 i) (by show _ = zb_u (zb_u σ 10 w (σ 10 w + 1)) 5 i (σ 5 i - 1) 3 i; rw [zb_u_no _ _ (by omega), zb_u_no _ _ (by omega)]; omega)
                rw [show zb_u (zb_u σ 10 w (σ 10 w + 1)) 5 i (σ 5 i - 1) 9 i = σ 9 i by rw [zb_u_no _ _ (by omega), zb_u_no _ _ (by omega)], show zb_u (zb_u σ 10 w (σ 10 w + 1)) 5 i (σ 5 i - 1) 0 1 = σ 0 1 by rw [zb_u_no _ _ (by omega), zb_u_no _ _ (by omega)]] at hsm
                rw [← hf] at hsm
                have hcm : sNum (sIn (sFlash π σ i) 2) 0 (c 3) - T0 = sNum (sIn σ 2) 0 (c 3) - T0 + 1 := by rw [cm_f (show i < c 3 by omega) (show σ 4 i ≠ 2 by omega), hf, arr_4t (by rw [zb_u_no _ _ (by omega), zb_u_no _ _ (by omega)]; omega), if_pos rfl]; omega
                refine zz_iinc dX8_pass_222 rfl rfl ?_
                refine zz_iinc dX8_pass_225 rfl rfl ?_
                refine gz_goto (tgt := 13) dX8_pass_228 rfl ?_
                rw [← hcm]
                exact ih (i + 1) _ (sFlash π σ i) _ _ (by omega) hsm (by have q := wC_flash (k := i) hw hc (by omega) (by omega); rw [show N + (i : Int) + 1 = N + ((i + 1 : Nat) : Int) by omega] at q; exact q) (fl_lit hτ) (by first | exact hkp | exact (fun a j q => by (repeat rw [zb_u_no _ _ (by omega)]); exact hk1 a j q)) kQ
            ·
              have hf := fl_3 (π := π) h41 (hw7 h41) hl hnl (by omega)
              have hsm := hS2
              rw [← hf] at hsm
              have hkp := hk2
              have hcm : sNum (sIn (sFlash π σ i) 2) 0 (c 3) - T0 = sNum (sIn σ 2) 0 (c 3) - T0 := by rw [cm_f (show i < c 3 by omega) (show σ 4 i ≠ 2 by omega), hf, zb_u_no _ _ (by omega), zb_u_no _ _ (by omega), if_neg (by omega)]; omega
              refine gz_goto (tgt := 225) dX8_pass_129 rfl ?_
              refine zz_iinc dX8_pass_225 rfl rfl ?_
              refine gz_goto (tgt := 13) dX8_pass_228 rfl ?_
              rw [← hcm]
              exact ih (i + 1) _ (sFlash π σ i) _ _ (by omega) hsm (by have q := wC_flash (k := i) hw hc (by omega) (by omega); rw [show N + (i : Int) + 1 = N + ((i + 1 : Nat) : Int) by omega] at q; exact q) (fl_lit hτ) (by first | exact hkp | exact (fun a j q => by (repeat rw [zb_u_no _ _ (by omega)]); exact hk1 a j q)) kQ
          ·
            refine gz_aload_n dX8_pass_99 rfl ?_
            refine gz_dup dX8_pass_100 rfl ?_
            refine gz_getf (M := zG E e W1) (v := .int (iZ (σ 0 13))) 1 dX8_pass_101 hE.1 rfl wf_HeliographsLaw_Sim_62 (by decide) (congrArg (fun z => Value.int (iZ z)) h02.2.1) ?_
            refine zz_iconst dX8_pass_104 ?_
            refine zz_iadd dX8_pass_105 ?_
            refine gg_putf hE 1 dX8_pass_106 wf_HeliographsLaw_Sim_62 (by decide) ?_
            have hf := fl_2 (π := π) h41 (hw7 h41) hl ⟨by omega, by omega⟩
            have hsm : sm c (zb_u W1 424 1 (σ 0 13 + 1)) π (sFlash π σ i) := by rw [hf]; exact sm_o hS1 (fun a j q => zb_u_no _ _ (by omega)) (fun a j q => zb_u_no _ _ (by omega)) ⟨by rw [zb_u_no _ _ (by omega), zb_u_no _ _ (by omega)]; exact hS1.2.1.1, by rw [zb_u_at, zb_u_at], by rw [zb_u_no _ _ (by omega), zb_u_no _ _ (by omega)]; exact hS1.2.1.2.2⟩
            have hkp : (∀ a j, (a < 424 ∨ 468 ≤ a) → (zb_u W1 424 1 (σ 0 13 + 1)) a j = W0 a j) := (fun a j q => by rw [zb_u_no _ _ (by omega)]; exact hk1 a j q)
            have hcm : sNum (sIn (sFlash π σ i) 2) 0 (c 3) - T0 = sNum (sIn σ 2) 0 (c 3) - T0 := by rw [cm_f (show i < c 3 by omega) (show σ 4 i ≠ 2 by omega), hf, zb_u_no _ _ (by omega), zb_u_no _ _ (by omega), if_neg (by omega)]; omega
            refine gz_goto (tgt := 225) dX8_pass_109 rfl ?_
            refine zz_iinc dX8_pass_225 rfl rfl ?_
            refine gz_goto (tgt := 13) dX8_pass_228 rfl ?_
            rw [← hcm]
            exact ih (i + 1) _ (sFlash π σ i) _ _ (by omega) hsm (by have q := wC_flash (k := i) hw hc (by omega) (by omega); rw [show N + (i : Int) + 1 = N + ((i + 1 : Nat) : Int) by omega] at q; exact q) (fl_lit hτ) (by first | exact hkp | exact (fun a j q => by (repeat rw [zb_u_no _ _ (by omega)]); exact hk1 a j q)) kQ
      ·
        refine gz_aload_n dX8_pass_58 rfl ?_
        refine gz_aload dX8_pass_59 rfl ?_
        refine gv_1 (J := mX8_breakOff) (d1 := d - 1) dX8_pass_61 wm_HeliographsLaw_Sim_58 hE.1 jzX8_breakOff (Nat.le_of_ble_eq_true rfl) (Nat.le_of_ble_eq_true rfl) (by omega) ⟨Nat.zero_le _, Nat.zero_le _⟩ (zS_breakOff hE hS (by omega)) ?_
        have hl : ¬ σ 11 w ≠ 0 := fun q => b55 ((hτ w hwl).mp q)
        have hf := fl_1 (π := π) h41 (hw7 h41) hl
        have hsm := sm_break hS hbb (m := i)
        rw [← hf] at hsm
        have hkp : (∀ a j, (a < 424 ∨ 468 ≤ a) → (zb_u (zb_u (zb_u (zb_u W (460 + i) 4 0) (460 + i) 5 (-1)) (460 + i) 6 (π 7 i)) (460 + i) 7 (σ 8 i + 1)) a j = W0 a j) := (fun a j q => by (repeat rw [zb_u_no _ _ (by omega)]); exact hk a j q)
        have hcm : sNum (sIn (sFlash π σ i) 2) 0 (c 3) - T0 = sNum (sIn σ 2) 0 (c 3) - T0 := by rw [cm_f (show i < c 3 by omega) (show σ 4 i ≠ 2 by omega), hf, show sBreak π σ i 4 i = 0 by unfold sBreak sWait; simp (decide := true) only [zb_u, false_and, and_false, true_and, and_true, and_self, if_true, if_false, ↓reduceIte], if_neg (by decide)]; omega
        refine gz_goto (tgt := 225) dX8_pass_64 rfl ?_
        refine zz_iinc dX8_pass_225 rfl rfl ?_
        refine gz_goto (tgt := 13) dX8_pass_228 rfl ?_
        rw [← hcm]
        exact ih (i + 1) _ (sFlash π σ i) _ _ (by omega) hsm (by have q := wC_flash (k := i) hw hc (by omega) (by omega); rw [show N + (i : Int) + 1 = N + ((i + 1 : Nat) : Int) by omega] at q; exact q) (fl_lit hτ) (by first | exact hkp | exact (fun a j q => by (repeat rw [zb_u_no _ _ (by omega)]); exact hk1 a j q)) kQ
    ·
      have hf := fl_0 (π := π) b30
      have hsm : sm c W π (sFlash π σ i) := by rw [hf]; exact hS
      have hkp := hk
      have hcm : sNum (sIn (sFlash π σ i) 2) 0 (c 3) - T0 = sNum (sIn σ 2) 0 (c 3) - T0 := by rw [hf]
      refine gz_goto (tgt := 225) dX8_pass_33 rfl ?_
      refine zz_iinc dX8_pass_225 rfl rfl ?_
      refine gz_goto (tgt := 13) dX8_pass_228 rfl ?_
      rw [← hcm]
      exact ih (i + 1) _ (sFlash π σ i) _ _ (by omega) hsm (by have q := wC_flash (k := i) hw hc (by omega) (by omega); rw [show N + (i : Int) + 1 = N + ((i + 1 : Nat) : Int) by omega] at q; exact q) (fl_lit hτ) (by first | exact hkp | exact (fun a j q => by (repeat rw [zb_u_no _ _ (by omega)]); exact hk1 a j q)) kQ
end

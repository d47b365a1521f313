/-! THE CHAIN BY HAND: ways, walked -/
section
variable {l : Launch} {Γ : zk_G} {d : Nat} {F : Heap → Prop}
theorem sm_kept {c : Nat → Nat} {W W' π σ : zV} (h : sm c W π σ) (hb : c 0 ≤ 8 ∧ c 1 ≤ 12 ∧ c 2 ≤ 8 ∧ c 3 ≤ 8) (hk : ∀ a j, 424 ≤ a → a < 480 → W' a j = W a j) : sm c W' π σ := by
  obtain ⟨h1, h2, h3, h4, h5, h6⟩ := h
  refine ⟨h1, ⟨(hk _ _ (by omega) (by omega)).trans h2.1, (hk _ _ (by omega) (by omega)).trans h2.2.1, (hk _ _ (by omega) (by omega)).trans h2.2.2⟩, fun k hk2 => ?_, fun k hk2 => ?_, fun k hk2 => ?_, fun k hk2 => ?_⟩
  · simp only [hk (432 + k) _ (by omega) (by omega)]
    exact h3 k hk2
  · simp only [hk (440 + k) _ (by omega) (by omega)]
    exact h4 k hk2
  · simp only [hk (452 + k) _ (by omega) (by omega)]
    exact h5 k hk2
  · simp only [hk (460 + k) _ (by omega) (by omega)]
    exact h6 k hk2
def mI (x y : Nat) : Int := if x = y then 0 else 9999
def mE (u v : Nat) (f : Int) (m : Nat → Nat → Int) : Nat → Nat → Int := fun x y => if (x = u ∧ y = v) ∨ (x = v ∧ y = u) then (if f < m u v then f else m u v) else m x y
theorem mE_le {n u v : Nat} {f : Int} {m : Nat → Nat → Int} (hs : ∀ x y, x < n → y < n → m x y = m y x) (hu : u < n) (hv : v < n) {x y : Nat} : mE u v f m x y ≤ m x y ∧ mE u v f m u v ≤ f ∧ mE u v f m v u ≤ f := by
  have h := hs u v hu hv
  refine ⟨?_, ?_, ?_⟩
  · unfold mE
    split
    · rename_i q
      rcases q with ⟨q1, q2⟩ | ⟨q1, q2⟩
      · rw [q1, q2]; split <;> omega
      · rw [q1, q2]; split <;> omega
    · exact Int.le_refl _
  · unfold mE
    rw [if_pos (Or.inl ⟨rfl, rfl⟩)]
    split <;> omega
  · unfold mE
    rw [if_pos (Or.inr ⟨rfl, rfl⟩)]
    split <;> omega
theorem mE_sym {n u v : Nat} {f : Int} {m : Nat → Nat → Int} (hs : ∀ x y, x < n → y < n → m x y = m y x) : ∀ x y, x < n → y < n → mE u v f m x y = mE u v f m y x := by
  intro x y hx hy
  unfold mE
  by_cases q : (x = u ∧ y = v) ∨ (x = v ∧ y = u)
  · rw [if_pos q, if_pos (show (y = u ∧ x = v) ∨ (y = v ∧ x = u) by omega)]
  · rw [if_neg q, if_neg (show ¬ ((y = u ∧ x = v) ∨ (y = v ∧ x = u)) by omega), hs x y hx hy]
theorem mE_ok {n u v : Nat} {f : Int} {G : Nat → Nat → Int → Prop} {m : Nat → Nat → Int} (hG : gE n G) (hm : mOk n G m) (hs : ∀ x y, x < n → y < n → m x y = m y x) (hu : u < n) (hv : v < n) (huv : u ≠ v) (g1 : G u v f) (g2 : G v u f) : mOk n G (mE u v f m) := by
  intro a ha b hb
  have h1 := hm a ha b hb
  have hf := hG u v f g1
  have h2 := hm u hu v hv
  have hsuv := hs u v hu hv
  refine ⟨?_, ?_, fun hl Pb Rb hP => ?_⟩
  · unfold mE
    split
    · split <;> omega
    · exact h1.1
  · unfold mE
    rw [if_neg (by omega)]
    exact h1.2.1
  · unfold mE at hl ⊢
    by_cases q : (a = u ∧ b = v) ∨ (a = v ∧ b = u)
    · rw [if_pos q] at hl ⊢
      by_cases q2 : f < m u v
      · rw [if_pos q2]
        rcases q with ⟨q3, q4⟩ | ⟨q3, q4⟩
        · subst q3; subst q4
          obtain ⟨k1, k2⟩ := hP.2.2.2 a b f g1 hP.1.1
          rw [hP.1.2] at k2
          exact ⟨k1, by omega⟩
        · subst q3; subst q4
          obtain ⟨k1, k2⟩ := hP.2.2.2 a b f g2 hP.1.1
          rw [hP.1.2] at k2
          exact ⟨k1, by omega⟩
      · rw [if_neg q2] at hl ⊢
        rcases q with ⟨q3, q4⟩ | ⟨q3, q4⟩
        · subst q3; subst q4
          exact h1.2.2 hl Pb Rb hP
        · subst q3; subst q4
          rw [hsuv] at hl ⊢
          exact h1.2.2 hl Pb Rb hP
    · rw [if_neg q] at hl ⊢
      exact h1.2.2 hl Pb Rb hP
theorem mI_ok {n : Nat} {G : Nat → Nat → Int → Prop} : mOk n G mI := by
  intro a ha b hb
  unfold mI
  refine ⟨by split <;> omega, if_pos rfl, fun hl Pb Rb hP => ?_⟩
  by_cases q : a = b
  · rw [if_pos q, q, hP.1.2]
    exact ⟨hP.1.1, Int.le_refl _⟩
  · rw [if_neg q] at hl
    omega
def mMix (k : Nat) (m : Nat → Nat → Int) (a b x y : Nat) : Int := if x < a ∨ (x = a ∧ y < b) then mFW k m x y else m x y
def mat (r n : Nat) (W : zV) (m : Nat → Nat → Int) : Prop := ∀ x, x < n → ∀ y, y < n → W (r + 1 + x) y = m x y
theorem zS_ways_a1 {E : Nat → Nat × Nat} {e : Nat} {c : Nat → Nat} {π σ : zV} {W0 : zV} (hE : zE E e c) (hS0 : sm c W0 π σ) (hw : wP π) {r : Nat} (hr : 480 ≤ r) (gA : E r = (105, c 0)) (gB : ∀ x, x < c 0 → E (r + 1 + x) = (100, c 0)) {Q : Option Value → zk_M → (Heap → Prop) → Prop} {a : Nat} (ha : a < c 0) {L5 : Option Value} : ∀ (n b : Nat) (W : zV), b + n = c 0 → (∀ x y, y < c 0 → (x < a ∨ (x = a ∧ y < b)) → W (r + 1 + x) y = mI x y) → (∀ x y, x < r → W x y = W0 x y) → (∀ W1 L4, (∀ x y, y < c 0 → x < a + 1 → W1 (r + 1 + x) y = mI x y) → (∀ x y, x < r → W1 x y = W0 x y) → zk_Go l Γ mX8_ways d 0 0 Q 15 [some (.ref 424), some (.int (iZ (c 0 : Int))), some (.ref r), some (.int (iZ ((a + 1 : Nat) : Int))), L4, L5] [] (zG E e W1) F) → zk_Go l Γ mX8_ways d 0 0 Q 23 [some (.ref 424), some (.int (iZ (c 0 : Int))), some (.ref r), some (.int (iZ ((a : Nat) : Int))), some (.int (iZ ((b : Nat) : Int))), L5] [] (zG E e W) F := by
  intro n
  induction n with
  | zero =>
    intro b W hb hm hk kQ
    have hb5 := hE.2.2.2.2
    refine gz_iload dX8_ways_23 rfl ?_
    refine gz_iload_n dX8_ways_25 rfl ?_
    refine zz_icmp_ge (tgt := 54) dX8_ways_26 rfl (by omega) (fun b26 => ?_) (fun b26 => ?_)
    rotate_left
    · exact absurd b26 (by omega)
    refine zz_iinc dX8_ways_54 rfl rfl ?_
    refine gz_goto (tgt := 15) dX8_ways_57 rfl ?_
    exact kQ W _ (fun x y hy hx => hm x y hy (by omega)) hk
  | succ n ih =>
    intro b W hb hm hk kQ
    have hb5 := hE.2.2.2.2
    refine gz_iload dX8_ways_23 rfl ?_
    refine gz_iload_n dX8_ways_25 rfl ?_
    refine zz_icmp_ge (tgt := 54) dX8_ways_26 rfl (by omega) (fun b26 => ?_) (fun b26 => ?_)
    · exact absurd b26 (by omega)
    refine gz_aload_n dX8_ways_29 rfl ?_
    refine gz_iload_n dX8_ways_30 rfl ?_
    refine gw_aald (j := a) dX8_ways_31 gA hr rfl (by omega) rfl ?_
    refine gz_iload dX8_ways_32 rfl ?_
    refine gz_iload_n dX8_ways_34 rfl ?_
    refine gz_iload dX8_ways_35 rfl ?_
    refine zz_icmp_ne (tgt := 44) dX8_ways_37 rfl (by omega) (fun b37 => ?_) (fun b37 => ?_)
    ·
      refine zz_sipush (x := 9999) dX8_ways_44 rfl ?_
      refine gw_iast (q := b) dX8_ways_47 (gB a (by omega)) (by omega) rfl (by omega) ?_
      refine zz_iinc dX8_ways_48 rfl rfl ?_
      refine gz_goto (tgt := 23) dX8_ways_51 rfl ?_
      exact ih (b + 1) _ (by omega) (fun x y hy hxy => by
        unfold zb_u
        split
        · rename_i q
          unfold mI
          first | rw [if_pos (by omega)] | rw [if_neg (by omega)]
        · exact hm x y hy (by omega)) (fun x y hx => by rw [zb_u_no _ _ (by omega)]; exact hk x y hx) kQ
    ·
      refine zz_iconst dX8_ways_40 ?_
      refine gz_goto (tgt := 47) dX8_ways_41 rfl ?_
      refine gw_iast (q := b) dX8_ways_47 (gB a (by omega)) (by omega) rfl (by omega) ?_
      refine zz_iinc dX8_ways_48 rfl rfl ?_
      refine gz_goto (tgt := 23) dX8_ways_51 rfl ?_
      exact ih (b + 1) _ (by omega) (fun x y hy hxy => by
        unfold zb_u
        split
        · rename_i q
          unfold mI
          first | rw [if_pos (by omega)] | rw [if_neg (by omega)]
        · exact hm x y hy (by omega)) (fun x y hx => by rw [zb_u_no _ _ (by omega)]; exact hk x y hx) kQ
theorem zS_ways_a2 {E : Nat → Nat × Nat} {e : Nat} {c : Nat → Nat} {π σ : zV} {W0 : zV} (hE : zE E e c) (hS0 : sm c W0 π σ) (hw : wP π) {r : Nat} (hr : 480 ≤ r) (gA : E r = (105, c 0)) (gB : ∀ x, x < c 0 → E (r + 1 + x) = (100, c 0)) {Q : Option Value → zk_M → (Heap → Prop) → Prop} {L5 : Option Value} : ∀ (n a : Nat) (W : zV) (L4 : Option Value), a + n = c 0 → (∀ x y, y < c 0 → x < a → W (r + 1 + x) y = mI x y) → (∀ x y, x < r → W x y = W0 x y) → (∀ W1 L3 L4, mat r (c 0) W1 mI → (∀ x y, x < r → W1 x y = W0 x y) → zk_Go l Γ mX8_ways d 0 0 Q 60 [some (.ref 424), some (.int (iZ (c 0 : Int))), some (.ref r), L3, L4, L5] [] (zG E e W1) F) → zk_Go l Γ mX8_ways d 0 0 Q 15 [some (.ref 424), some (.int (iZ (c 0 : Int))), some (.ref r), some (.int (iZ ((a : Nat) : Int))), L4, L5] [] (zG E e W) F := by
  intro n
  induction n with
  | zero =>
    intro a W L4 ha hm hk kQ
    have hb5 := hE.2.2.2.2
    refine gz_iload_n dX8_ways_15 rfl ?_
    refine gz_iload_n dX8_ways_16 rfl ?_
    refine zz_icmp_ge (tgt := 60) dX8_ways_17 rfl (by omega) (fun b17 => ?_) (fun b17 => ?_)
    rotate_left
    · exact absurd b17 (by omega)
    exact kQ W _ _ (fun x hx y hy => hm x y hy (by omega)) hk
  | succ n ih =>
    intro a W L4 ha hm hk kQ
    have hb5 := hE.2.2.2.2
    refine gz_iload_n dX8_ways_15 rfl ?_
    refine gz_iload_n dX8_ways_16 rfl ?_
    refine zz_icmp_ge (tgt := 60) dX8_ways_17 rfl (by omega) (fun b17 => ?_) (fun b17 => ?_)
    · exact absurd b17 (by omega)
    refine zz_iconst dX8_ways_20 ?_
    refine gz_istore dX8_ways_21 (Nat.le_of_ble_eq_true rfl) rfl ?_
    exact zS_ways_a1 hE hS0 hw hr gA gB (a := a) (by omega) (c 0) 0 W (by omega) (fun x y hy hxy => hm x y hy (by omega)) hk (fun W1 L4 h1 h2 => ih (a + 1) W1 L4 (by omega) h1 h2 kQ)
theorem zS_ways_b {E : Nat → Nat × Nat} {e : Nat} {c : Nat → Nat} {π σ : zV} {W0 : zV} (hE : zE E e c) (hS0 : sm c W0 π σ) (hw : wP π) {r : Nat} (hr : 480 ≤ r) (gA : E r = (105, c 0)) (gB : ∀ x, x < c 0 → E (r + 1 + x) = (100, c 0)) {Q : Option Value → zk_M → (Heap → Prop) → Prop} {τ : zV} (hτ : ∀ w : Nat, w < c 1 → (τ 11 w ≠ 0 ↔ sPass π σ w (σ 0 1) = true)) (ht : 0 ≤ σ 0 1 ∧ σ 0 1 < 99000) (h2 : -1 ≤ σ 0 2 ∧ σ 0 2 < 12) (hd : 3 ≤ d) {L5 : Option Value} : ∀ (n w : Nat) (W : zV) (m : Nat → Nat → Int) (L4 : Option Value), w + n = c 1 → mat r (c 0) W m → (∀ x y, x < r → W x y = W0 x y) → mOk (c 0) (sE π τ) m → (∀ x y, x < c 0 → y < c 0 → m x y = m y x) → (∀ w1 : Nat, w1 < w → τ 11 w1 ≠ 0 → ∀ x y : Nat, π 4 w1 = (x : Int) → π 5 w1 = (y : Int) → m x y ≤ π 6 w1 ∧ m y x ≤ π 6 w1) → (∀ W1 m1 L3 L4, mat r (c 0) W1 m1 → (∀ x y, x < r → W1 x y = W0 x y) → mOk (c 0) (sE π τ) m1 → (∀ w1 : Nat, w1 < c 1 → τ 11 w1 ≠ 0 → ∀ x y : Nat, π 4 w1 = (x : Int) → π 5 w1 = (y : Int) → m1 x y ≤ π 6 w1 ∧ m1 y x ≤ π 6 w1) → zk_Go l Γ mX8_ways d 0 0 Q 147 [some (.ref 424), some (.int (iZ (c 0 : Int))), some (.ref r), L3, L4, L5] [] (zG E e W1) F) → zk_Go l Γ mX8_ways d 0 0 Q 62 [some (.ref 424), some (.int (iZ (c 0 : Int))), some (.ref r), some (.int (iZ ((w : Nat) : Int))), L4, L5] [] (zG E e W) F := by
  intro n
  induction n with
  | zero =>
    intro w W m L4 hwn hm hk ho hs he kQ
    have hb5 := hE.2.2.2.2
    have hS := sm_kept hS0 (W' := W) (by omega) (fun a j q1 q2 => hk a j (by omega))
    have n1 := hS.1
    refine gz_iload_n dX8_ways_62 rfl ?_
    refine gz_aload_n dX8_ways_63 rfl ?_
    refine gz_getf (M := zG E e W) 4 dX8_ways_64 hE.1 rfl wf_HeliographsLaw_Sim_19 (by decide) rfl ?_
    refine gg_alen hE 1 dX8_ways_67 (by decide) ?_
    refine zz_icmp_ge (tgt := 147) dX8_ways_68 rfl (by omega) (fun b68 => ?_) (fun b68 => ?_)
    rotate_left
    · exact absurd b68 (by omega)
    exact kQ W m _ _ hm hk ho (fun w1 q => he w1 (by omega))
  | succ n ih =>
    intro w W m L4 hwn hm hk ho hs he kQ
    have hb5 := hE.2.2.2.2
    have hS := sm_kept hS0 (W' := W) (by omega) (fun a j q1 q2 => hk a j (by omega))
    have n1 := hS.1
    have n0 := wP_n hw
    have n2 := hw.2.2.2.2.2.1 w (by omega)
    obtain ⟨u, hu⟩ : ∃ u : Nat, π 4 w = (u : Int) := ⟨(π 4 w).toNat, by omega⟩
    obtain ⟨v, hv⟩ : ∃ v : Nat, π 5 w = (v : Int) := ⟨(π 5 w).toNat, by omega⟩
    have hu0 := (hS.2.2.2.1 w (by omega)).1.trans hu
    have hv0 := (hS.2.2.2.1 w (by omega)).2.1.trans hv
    have huv : u ≠ v := by omega
    have ec : (π 0 0).toNat = c 0 := by omega
    have hG : gE (c 0) (sE π τ) := by rw [← ec]; exact sE_ok hw τ
    have hmb := (ho u (by omega) v (by omega)).1
    refine gz_iload_n dX8_ways_62 rfl ?_
    refine gz_aload_n dX8_ways_63 rfl ?_
    refine gz_getf (M := zG E e W) 4 dX8_ways_64 hE.1 rfl wf_HeliographsLaw_Sim_19 (by decide) rfl ?_
    refine gg_alen hE 1 dX8_ways_67 (by decide) ?_
    refine zz_icmp_ge (tgt := 147) dX8_ways_68 rfl (by omega) (fun b68 => ?_) (fun b68 => ?_)
    · exact absurd b68 (by omega)
    refine gz_aload_n dX8_ways_71 rfl ?_
    refine gz_getf (M := zG E e W) 4 dX8_ways_72 hE.1 rfl wf_HeliographsLaw_Sim_19 (by decide) rfl ?_
    refine gz_iload_n dX8_ways_75 rfl ?_
    refine gg_aald hE 1 (j := w) dX8_ways_76 (by decide) rfl rfl (by omega) ?_
    refine gz_astore dX8_ways_77 (Nat.le_of_ble_eq_true rfl) rfl ?_
    refine gz_aload_n dX8_ways_79 rfl ?_
    refine gz_iload_n dX8_ways_80 rfl ?_
    refine gv_1 (J := mX8_isOpen_) (d1 := d - 1) dX8_ways_81 wm_HeliographsLaw_Sim_42 hE.1 jzX8_isOpen_ (Nat.le_of_ble_eq_true rfl) (Nat.le_of_ble_eq_true rfl) (by omega) ⟨Nat.le_refl _, Nat.le_refl _⟩ (zS_isOpen1 hE hS hw (by omega) ht h2 (by omega)) ?_
    refine zz_if_neB (tgt := 90) dX8_ways_84 rfl (fun b84 => ?_) (fun b84 => ?_)
    ·
      refine gz_aload_n dX8_ways_90 rfl ?_
      refine gz_aload dX8_ways_91 rfl ?_
      refine zz_iconst dX8_ways_93 ?_
      refine gg_iald hE 1 0 (j := w) (v := (u : Int)) dX8_ways_94 (by decide) rfl (by omega) rfl (by decide) hu0 ?_
      refine gw_aald (j := u) dX8_ways_95 gA hr rfl (by omega) rfl ?_
      refine gz_aload dX8_ways_96 rfl ?_
      refine zz_iconst dX8_ways_98 ?_
      refine gg_iald hE 1 1 (j := w) (v := (v : Int)) dX8_ways_99 (by decide) rfl (by omega) rfl (by decide) hv0 ?_
      refine gz_aload_n dX8_ways_100 rfl ?_
      refine gz_aload dX8_ways_101 rfl ?_
      refine zz_iconst dX8_ways_103 ?_
      refine gg_iald hE 1 0 (j := w) (v := (u : Int)) dX8_ways_104 (by decide) rfl (by omega) rfl (by decide) hu0 ?_
      refine gw_aald (j := u) dX8_ways_105 gA hr rfl (by omega) rfl ?_
      refine gz_aload dX8_ways_106 rfl ?_
      refine zz_iconst dX8_ways_108 ?_
      refine gg_iald hE 1 1 (j := w) (v := (v : Int)) dX8_ways_109 (by decide) rfl (by omega) rfl (by decide) hv0 ?_
      refine gw_iald (q := v) (v := m u v) dX8_ways_110 (gB u (by omega)) (by omega) rfl (by omega) (hm u (by omega) v (by omega)) ?_
      refine gz_aload dX8_ways_111 rfl ?_
      refine zz_iconst dX8_ways_113 ?_
      refine gg_iald hE 1 2 (j := w) (v := π 6 w) dX8_ways_114 (by decide) rfl (by omega) rfl (by decide) ((hS.2.2.2.1 w (by omega)).2.2.1) ?_
      refine gz_min (z := if π 6 w < m u v then π 6 w else m u v) dX8_ways_115 wm_HeliographsLaw_Sim_45 ⟨by omega, by omega⟩ rfl (Nat.le_of_ble_eq_true rfl) (by omega) ?_
      refine gw_iast (q := v) dX8_ways_118 (gB u (by omega)) (by omega) rfl (by omega) ?_
      have kk1 : ∀ x y, x < r → zb_u W (r + 1 + u) v (if π 6 w < m u v then π 6 w else m u v) x y = W x y := fun x y hx => zb_u_no _ _ (by omega)
      have hS1 := sm_kept hS (W' := zb_u W (r + 1 + u) v (if π 6 w < m u v then π 6 w else m u v)) (by omega) (fun a j q1 q2 => kk1 a j (by omega))
      have hu1 := (hS1.2.2.2.1 w (by omega)).1.trans hu
      have hv1 := (hS1.2.2.2.1 w (by omega)).2.1.trans hv
      refine gz_aload_n dX8_ways_119 rfl ?_
      refine gz_aload dX8_ways_120 rfl ?_
      refine zz_iconst dX8_ways_122 ?_
      refine gg_iald hE 1 1 (j := w) (v := (v : Int)) dX8_ways_123 (by decide) rfl (by omega) rfl (by decide) hv1 ?_
      refine gw_aald (j := v) dX8_ways_124 gA hr rfl (by omega) rfl ?_
      refine gz_aload dX8_ways_125 rfl ?_
      refine zz_iconst dX8_ways_127 ?_
      refine gg_iald hE 1 0 (j := w) (v := (u : Int)) dX8_ways_128 (by decide) rfl (by omega) rfl (by decide) hu1 ?_
      refine gz_aload_n dX8_ways_129 rfl ?_
      refine gz_aload dX8_ways_130 rfl ?_
      refine zz_iconst dX8_ways_132 ?_
      refine gg_iald hE 1 0 (j := w) (v := (u : Int)) dX8_ways_133 (by decide) rfl (by omega) rfl (by decide) hu1 ?_
      refine gw_aald (j := u) dX8_ways_134 gA hr rfl (by omega) rfl ?_
      refine gz_aload dX8_ways_135 rfl ?_
      refine zz_iconst dX8_ways_137 ?_
      refine gg_iald hE 1 1 (j := w) (v := (v : Int)) dX8_ways_138 (by decide) rfl (by omega) rfl (by decide) hv1 ?_
      refine gw_iald (q := v) (v := if π 6 w < m u v then π 6 w else m u v) dX8_ways_139 (gB u (by omega)) (by omega) rfl (by omega) (zb_u_at _ _ _ _) ?_
      refine gw_iast (q := u) dX8_ways_140 (gB v (by omega)) (by omega) rfl (by omega) ?_
      refine zz_iinc dX8_ways_141 rfl rfl ?_
      refine gz_goto (tgt := 62) dX8_ways_144 rfl ?_
      first
        | exact ih (w + 1) _ m _ (by omega) hm hk ho hs (fun w1 q1 q2 => he w1 (by
            by_cases e9 : w1 = w
            · rw [e9] at q2; exact absurd ((hτ w (by omega)).mp q2) b84
            · omega) q2) kQ
        | exact ih (w + 1) _ (mE u v (π 6 w) m) _ (by omega) (fun x hx y hy => by
            unfold mE
            by_cases q1 : x = v ∧ y = u
            · rw [if_pos (Or.inr q1), q1.1, q1.2, zb_u_at]
            · rw [zb_u_no _ _ (by omega)]
              by_cases q2 : x = u ∧ y = v
              · rw [if_pos (Or.inl q2), q2.1, q2.2, zb_u_at]
              · rw [zb_u_no _ _ (by omega), if_neg (by omega)]
                exact hm x hx y hy)
            (fun x y hx => by rw [zb_u_no _ _ (by omega), kk1 x y hx]; exact hk x y hx)
            (mE_ok hG ho hs (by omega) (by omega) huv ⟨w, by omega, (hτ w (by omega)).mpr b84, Or.inl ⟨hu, hv⟩, rfl⟩ ⟨w, by omega, (hτ w (by omega)).mpr b84, Or.inr ⟨hv, hu⟩, rfl⟩) (mE_sym hs)
            (fun w1 q1 q2 x y q3 q4 => by
              have n3 := hw.2.2.2.2.2.1 w1 (by omega)
              have t1 := (mE_le (f := π 6 w) hs (u := u) (v := v) (by omega) (by omega) (x := x) (y := y))
              have t2 := (mE_le (f := π 6 w) hs (u := u) (v := v) (by omega) (by omega) (x := y) (y := x)).1
              by_cases e9 : w1 = w
              · subst e9
                have ex : x = u := by omega
                have ey : y = v := by omega
                rw [ex, ey]
                exact t1.2
              · have t3 := he w1 (by omega) q2 x y q3 q4
                exact ⟨by omega, by omega⟩) kQ
    ·
      refine gz_goto (tgt := 141) dX8_ways_87 rfl ?_
      refine zz_iinc dX8_ways_141 rfl rfl ?_
      refine gz_goto (tgt := 62) dX8_ways_144 rfl ?_
      first
        | exact ih (w + 1) _ m _ (by omega) hm hk ho hs (fun w1 q1 q2 => he w1 (by
            by_cases e9 : w1 = w
            · rw [e9] at q2; exact absurd ((hτ w (by omega)).mp q2) b84
            · omega) q2) kQ
        | exact ih (w + 1) _ (mE u v (π 6 w) m) _ (by omega) (fun x hx y hy => by
            unfold mE
            by_cases q1 : x = v ∧ y = u
            · rw [if_pos (Or.inr q1), q1.1, q1.2, zb_u_at]
            · rw [zb_u_no _ _ (by omega)]
              by_cases q2 : x = u ∧ y = v
              · rw [if_pos (Or.inl q2), q2.1, q2.2, zb_u_at]
              · rw [zb_u_no _ _ (by omega), if_neg (by omega)]
                exact hm x hx y hy)
            (fun x y hx => by rw [zb_u_no _ _ (by omega), kk1 x y hx]; exact hk x y hx)
            (mE_ok hG ho hs (by omega) (by omega) huv ⟨w, by omega, (hτ w (by omega)).mpr b84, Or.inl ⟨hu, hv⟩, rfl⟩ ⟨w, by omega, (hτ w (by omega)).mpr b84, Or.inr ⟨hv, hu⟩, rfl⟩) (mE_sym hs)
            (fun w1 q1 q2 x y q3 q4 => by
              have n3 := hw.2.2.2.2.2.1 w1 (by omega)
              have t1 := (mE_le (f := π 6 w) hs (u := u) (v := v) (by omega) (by omega) (x := x) (y := y))
              have t2 := (mE_le (f := π 6 w) hs (u := u) (v := v) (by omega) (by omega) (x := y) (y := x)).1
              by_cases e9 : w1 = w
              · subst e9
                have ex : x = u := by omega
                have ey : y = v := by omega
                rw [ex, ey]
                exact t1.2
              · have t3 := he w1 (by omega) q2 x y q3 q4
                exact ⟨by omega, by omega⟩) kQ
theorem mMix_le {k a b : Nat} {m : Nat → Nat → Int} (h : m k k = 0) : mMix k m a b a b = m a b ∧ mMix k m a b a k = m a k ∧ mMix k m a b k b = m k b := by
  unfold mMix
  refine ⟨if_neg (by omega), ?_, ?_⟩
  · split
    · exact mFW_col h
    · rfl
  · split
    · exact mFW_row h
    · rfl
theorem mMix_s {k a b : Nat} {m : Nat → Nat → Int} {x y : Nat} (h : ¬ (x = a ∧ y = b)) : mMix k m a (b + 1) x y = mMix k m a b x y := by
  unfold mMix
  by_cases q : x < a ∨ (x = a ∧ y < b)
  · rw [if_pos q, if_pos (by omega)]
  · rw [if_neg q, if_neg (by omega)]
theorem mMix_e {k a n : Nat} {m : Nat → Nat → Int} {x y : Nat} (hy : y < n) : mMix k m a n x y = mMix k m (a + 1) 0 x y := by
  unfold mMix
  by_cases q : x < a ∨ (x = a ∧ y < n)
  · rw [if_pos q, if_pos (by omega)]
  · rw [if_neg q, if_neg (by omega)]
theorem zS_ways_c1 {E : Nat → Nat × Nat} {e : Nat} {c : Nat → Nat} {π σ : zV} {W0 : zV} (hE : zE E e c) (hS0 : sm c W0 π σ) (hw : wP π) {r : Nat} (hr : 480 ≤ r) (gA : E r = (105, c 0)) (gB : ∀ x, x < c 0 → E (r + 1 + x) = (100, c 0)) {Q : Option Value → zk_M → (Heap → Prop) → Prop} {k : Nat} (hk5 : k < c 0) {G : Nat → Nat → Int → Prop} {m : Nat → Nat → Int} (ho : mOk (c 0) G m) {a : Nat} (ha : a < c 0) (hd : 2 ≤ d) : ∀ (n b : Nat) (W : zV), b + n = c 0 → mat r (c 0) W (mMix k m a b) → (∀ x y, x < r → W x y = W0 x y) → (∀ W1 L5, mat r (c 0) W1 (mMix k m (a + 1) 0) → (∀ x y, x < r → W1 x y = W0 x y) → zk_Go l Γ mX8_ways d 0 0 Q 157 [some (.ref 424), some (.int (iZ (c 0 : Int))), some (.ref r), some (.int (iZ ((k : Nat) : Int))), some (.int (iZ ((a + 1 : Nat) : Int))), L5] [] (zG E e W1) F) → zk_Go l Γ mX8_ways d 0 0 Q 166 [some (.ref 424), some (.int (iZ (c 0 : Int))), some (.ref r), some (.int (iZ ((k : Nat) : Int))), some (.int (iZ ((a : Nat) : Int))), some (.int (iZ ((b : Nat) : Int)))] [] (zG E e W) F := by
  intro n
  induction n with
  | zero =>
    intro b W hb hm hk kQ
    have hb5 := hE.2.2.2.2
    refine gz_iload dX8_ways_166 rfl ?_
    refine gz_iload_n dX8_ways_168 rfl ?_
    refine zz_icmp_ge (tgt := 208) dX8_ways_169 rfl (by omega) (fun b169 => ?_) (fun b169 => ?_)
    rotate_left
    · exact absurd b169 (by omega)
    refine zz_iinc dX8_ways_208 rfl rfl ?_
    refine gz_goto (tgt := 157) dX8_ways_211 rfl ?_
    exact kQ W _ (fun x hx y hy => (hm x hx y hy).trans (by rw [show b = c 0 by omega]; exact mMix_e hy)) hk
  | succ n ih =>
    intro b W hb hm hk kQ
    have hb5 := hE.2.2.2.2
    have h00 := (ho k hk5 k hk5).2.1
    have y1 := (ho a ha b (by omega)).1
    have y2 := (ho a ha k hk5).1
    have y3 := (ho k hk5 b (by omega)).1
    refine gz_iload dX8_ways_166 rfl ?_
    refine gz_iload_n dX8_ways_168 rfl ?_
    refine zz_icmp_ge (tgt := 208) dX8_ways_169 rfl (by omega) (fun b169 => ?_) (fun b169 => ?_)
    · exact absurd b169 (by omega)
    refine gz_aload_n dX8_ways_172 rfl ?_
    refine gz_iload dX8_ways_173 rfl ?_
    refine gw_aald (j := a) dX8_ways_175 gA hr rfl (by omega) rfl ?_
    refine gz_iload dX8_ways_176 rfl ?_
    refine gz_aload_n dX8_ways_178 rfl ?_
    refine gz_iload dX8_ways_179 rfl ?_
    refine gw_aald (j := a) dX8_ways_181 gA hr rfl (by omega) rfl ?_
    refine gz_iload dX8_ways_182 rfl ?_
    refine gw_iald (q := b) (v := m a b) dX8_ways_184 (gB a (by omega)) (by omega) rfl (by omega) ((hm a (by omega) b (by omega)).trans (mMix_le h00).1) ?_
    refine gz_aload_n dX8_ways_185 rfl ?_
    refine gz_iload dX8_ways_186 rfl ?_
    refine gw_aald (j := a) dX8_ways_188 gA hr rfl (by omega) rfl ?_
    refine gz_iload_n dX8_ways_189 rfl ?_
    refine gw_iald (q := k) (v := m a k) dX8_ways_190 (gB a (by omega)) (by omega) rfl (by omega) ((hm a (by omega) k (by omega)).trans (mMix_le h00).2.1) ?_
    refine gz_aload_n dX8_ways_191 rfl ?_
    refine gz_iload_n dX8_ways_192 rfl ?_
    refine gw_aald (j := k) dX8_ways_193 gA hr rfl (by omega) rfl ?_
    refine gz_iload dX8_ways_194 rfl ?_
    refine gw_iald (q := b) (v := m k b) dX8_ways_196 (gB k (by omega)) (by omega) rfl (by omega) ((hm k (by omega) b (by omega)).trans (mMix_le h00).2.2) ?_
    refine zz_iadd dX8_ways_197 ?_
    refine gz_min (z := mFW k m a b) dX8_ways_198 wm_HeliographsLaw_Sim_45 ⟨by omega, by omega⟩ rfl (Nat.le_of_ble_eq_true rfl) (by omega) ?_
    refine gw_iast (q := b) dX8_ways_201 (gB a (by omega)) (by omega) rfl (by omega) ?_
    refine zz_iinc dX8_ways_202 rfl rfl ?_
    refine gz_goto (tgt := 166) dX8_ways_205 rfl ?_
    exact ih (b + 1) _ (by omega) (fun x hx y hy => by
      by_cases q1 : x = a ∧ y = b
      · rw [q1.1, q1.2, zb_u_at]
        unfold mMix
        rw [if_pos (by omega)]
      · rw [zb_u_no _ _ (by omega), mMix_s q1]
        exact hm x hx y hy) (fun x y hx => by rw [zb_u_no _ _ (by omega)]; exact hk x y hx) kQ
theorem zS_ways_c2 {E : Nat → Nat × Nat} {e : Nat} {c : Nat → Nat} {π σ : zV} {W0 : zV} (hE : zE E e c) (hS0 : sm c W0 π σ) (hw : wP π) {r : Nat} (hr : 480 ≤ r) (gA : E r = (105, c 0)) (gB : ∀ x, x < c 0 → E (r + 1 + x) = (100, c 0)) {Q : Option Value → zk_M → (Heap → Prop) → Prop} {k : Nat} (hk5 : k < c 0) {G : Nat → Nat → Int → Prop} {m : Nat → Nat → Int} (ho : mOk (c 0) G m) (hd : 2 ≤ d) : ∀ (n a : Nat) (W : zV) (L5 : Option Value), a + n = c 0 → mat r (c 0) W (mMix k m a 0) → (∀ x y, x < r → W x y = W0 x y) → (∀ W1 L4 L5, mat r (c 0) W1 (mFW k m) → (∀ x y, x < r → W1 x y = W0 x y) → zk_Go l Γ mX8_ways d 0 0 Q 149 [some (.ref 424), some (.int (iZ (c 0 : Int))), some (.ref r), some (.int (iZ ((k + 1 : Nat) : Int))), L4, L5] [] (zG E e W1) F) → zk_Go l Γ mX8_ways d 0 0 Q 157 [some (.ref 424), some (.int (iZ (c 0 : Int))), some (.ref r), some (.int (iZ ((k : Nat) : Int))), some (.int (iZ ((a : Nat) : Int))), L5] [] (zG E e W) F := by
  intro n
  induction n with
  | zero =>
    intro a W L5 hb hm hk kQ
    have hb5 := hE.2.2.2.2
    refine gz_iload dX8_ways_157 rfl ?_
    refine gz_iload_n dX8_ways_159 rfl ?_
    refine zz_icmp_ge (tgt := 214) dX8_ways_160 rfl (by omega) (fun b160 => ?_) (fun b160 => ?_)
    rotate_left
    · exact absurd b160 (by omega)
    refine zz_iinc dX8_ways_214 rfl rfl ?_
    refine gz_goto (tgt := 149) dX8_ways_217 rfl ?_
    exact kQ W _ _ (fun x hx y hy => (hm x hx y hy).trans (if_pos (by omega))) hk
  | succ n ih =>
    intro a W L5 hb hm hk kQ
    have hb5 := hE.2.2.2.2
    refine gz_iload dX8_ways_157 rfl ?_
    refine gz_iload_n dX8_ways_159 rfl ?_
    refine zz_icmp_ge (tgt := 214) dX8_ways_160 rfl (by omega) (fun b160 => ?_) (fun b160 => ?_)
    · exact absurd b160 (by omega)
    refine zz_iconst dX8_ways_163 ?_
    refine gz_istore dX8_ways_164 (Nat.le_of_ble_eq_true rfl) rfl ?_
    exact zS_ways_c1 hE hS0 hw hr gA gB hk5 ho (a := a) (by omega) hd (c 0) 0 W (by omega) hm hk (fun W1 L5 h1 h2 => ih (a + 1) W1 L5 (by omega) h1 h2 kQ)
theorem zS_ways_c3 {E : Nat → Nat × Nat} {e : Nat} {c : Nat → Nat} {π σ : zV} {W0 : zV} (hE : zE E e c) (hS0 : sm c W0 π σ) (hw : wP π) {r : Nat} (hr : 480 ≤ r) (gA : E r = (105, c 0)) (gB : ∀ x, x < c 0 → E (r + 1 + x) = (100, c 0)) {Q : Option Value → zk_M → (Heap → Prop) → Prop} {G : Nat → Nat → Int → Prop} (hG : gE (c 0) G) (hd : 2 ≤ d) : ∀ (n k : Nat) (W : zV) (m : Nat → Nat → Int) (L4 L5 : Option Value), k + n = c 0 → mat r (c 0) W m → (∀ x y, x < r → W x y = W0 x y) → mOk (c 0) G m → mEd G m → mTri (c 0) k m → (∀ W1 m1 L3 L4 L5, mat r (c 0) W1 m1 → (∀ x y, x < r → W1 x y = W0 x y) → mOk (c 0) G m1 → mEd G m1 → mTri (c 0) (c 0) m1 → zk_Go l Γ mX8_ways d 0 0 Q 220 [some (.ref 424), some (.int (iZ (c 0 : Int))), some (.ref r), L3, L4, L5] [] (zG E e W1) F) → zk_Go l Γ mX8_ways d 0 0 Q 149 [some (.ref 424), some (.int (iZ (c 0 : Int))), some (.ref r), some (.int (iZ ((k : Nat) : Int))), L4, L5] [] (zG E e W) F := by
  intro n
  induction n with
  | zero =>
    intro k W m L4 L5 hb hm hk ho he htr kQ
    have hb5 := hE.2.2.2.2
    refine gz_iload_n dX8_ways_149 rfl ?_
    refine gz_iload_n dX8_ways_150 rfl ?_
    refine zz_icmp_ge (tgt := 220) dX8_ways_151 rfl (by omega) (fun b151 => ?_) (fun b151 => ?_)
    rotate_left
    · exact absurd b151 (by omega)
    have ek : k = c 0 := by omega
    rw [ek] at htr
    exact kQ W m _ _ _ hm hk ho he htr
  | succ n ih =>
    intro k W m L4 L5 hb hm hk ho he htr kQ
    have hb5 := hE.2.2.2.2
    refine gz_iload_n dX8_ways_149 rfl ?_
    refine gz_iload_n dX8_ways_150 rfl ?_
    refine zz_icmp_ge (tgt := 220) dX8_ways_151 rfl (by omega) (fun b151 => ?_) (fun b151 => ?_)
    · exact absurd b151 (by omega)
    refine zz_iconst dX8_ways_154 ?_
    refine gz_istore dX8_ways_155 (Nat.le_of_ble_eq_true rfl) rfl ?_
    exact zS_ways_c2 hE hS0 hw hr gA gB (k := k) (by omega) ho hd (c 0) 0 W _ (by omega) (fun x hx y hy => (hm x hx y hy).trans (if_neg (by omega)).symm) hk (fun W1 L4 L5 h1 h2 => ih (k + 1) W1 (mFW k m) L4 L5 (by omega) h1 h2 (mFW_ok hG (by omega) ho) (mFW_ed he) (mFW_tri (by omega) ho htr) kQ)
theorem zS_ways_t1 {E : Nat → Nat × Nat} {e : Nat} {c : Nat → Nat} {π σ : zV} {W0 : zV} (hE : zE E e c) (hS0 : sm c W0 π σ) (hw : wP π) {r : Nat} (hr : 480 ≤ r) (gA : E r = (105, c 0)) (gB : ∀ x, x < c 0 → E (r + 1 + x) = (100, c 0)) {Q : Option Value → zk_M → (Heap → Prop) → Prop} {W : zV} {L3 L4 L5 : Option Value} (hq : Q (some (.ref r)) (zG E e W) F) : zk_Go l Γ mX8_ways d 0 0 Q 220 [some (.ref 424), some (.int (iZ (c 0 : Int))), some (.ref r), L3, L4, L5] [] (zG E e W) F := by
  refine gz_aload_n dX8_ways_220 rfl ?_
  refine gz_areturn dX8_ways_221 rfl (Or.inr ⟨_, rfl⟩) ?_
  (first | exact hq | (rw [if_pos (by omega)] at hq; exact hq) | (rw [if_neg (by omega)] at hq; exact hq))
theorem zS_ways_t2 {E : Nat → Nat × Nat} {e : Nat} {c : Nat → Nat} {π σ : zV} {W0 : zV} (hE : zE E e c) (hS0 : sm c W0 π σ) (hw : wP π) {r : Nat} (hr : 480 ≤ r) (gA : E r = (105, c 0)) (gB : ∀ x, x < c 0 → E (r + 1 + x) = (100, c 0)) {Q : Option Value → zk_M → (Heap → Prop) → Prop} {τ : zV} (hτ : ∀ w : Nat, w < c 1 → (τ 11 w ≠ 0 ↔ sPass π σ w (σ 0 1) = true)) (ht : 0 ≤ σ 0 1 ∧ σ 0 1 < 99000) (h2 : -1 ≤ σ 0 2 ∧ σ 0 2 < 12) (hd : 3 ≤ d) (hq : ∀ W1 m1, (∀ x y, x < r → W1 x y = W0 x y) → mat r (c 0) W1 m1 → mWay π τ m1 → Q (some (.ref r)) (zG E e W1) F) {W : zV} {m : Nat → Nat → Int} {L3 L4 L5 : Option Value} (hm : mat r (c 0) W m) (hk : (∀ x y, x < r → W x y = W0 x y)) (ho : mOk (c 0) (sE π τ) m) (he : (∀ w1 : Nat, w1 < c 1 → τ 11 w1 ≠ 0 → ∀ x y : Nat, π 4 w1 = (x : Int) → π 5 w1 = (y : Int) → m x y ≤ π 6 w1 ∧ m y x ≤ π 6 w1)) : zk_Go l Γ mX8_ways d 0 0 Q 147 [some (.ref 424), some (.int (iZ (c 0 : Int))), some (.ref r), L3, L4, L5] [] (zG E e W) F := by
  have n1 := hS0.1
  have n0 := wP_n hw
  have ec : (π 0 0).toNat = c 0 := by omega
  have hG : gE (c 0) (sE π τ) := by rw [← ec]; exact sE_ok hw τ
  have hed : mEd (sE π τ) m := fun a b f hg => by
    obtain ⟨w, q1, q2, q3, q4⟩ := hg
    have n2 := hw.2.2.2.2.2.1 w q1
    rw [q4]
    rcases q3 with ⟨q5, q6⟩ | ⟨q5, q6⟩
    · exact (he w (by omega) q2 a b q5 q6).1
    · exact (he w (by omega) q2 b a q6 q5).2
  refine zz_iconst dX8_ways_147 ?_
  refine gz_istore_n dX8_ways_148 (Nat.le_of_ble_eq_true rfl) rfl ?_
  exact zS_ways_c3 hE hS0 hw hr gA gB hG (by omega) (c 0) 0 W m _ _ (by omega) hm hk ho hed (fun x hx => absurd hx (Nat.not_lt_zero _)) (fun W1 m1 L3 L4 L5 h1 h2 h3 h4 h5 => zS_ways_t1 hE hS0 hw hr gA gB (hq W1 m1 h2 h1 (mFin hw (by rw [ec]; exact h3) h4 (by rw [ec]; exact h5))))
theorem zS_ways_t3 {E : Nat → Nat × Nat} {e : Nat} {c : Nat → Nat} {π σ : zV} {W0 : zV} (hE : zE E e c) (hS0 : sm c W0 π σ) (hw : wP π) {r : Nat} (hr : 480 ≤ r) (gA : E r = (105, c 0)) (gB : ∀ x, x < c 0 → E (r + 1 + x) = (100, c 0)) {Q : Option Value → zk_M → (Heap → Prop) → Prop} {τ : zV} (hτ : ∀ w : Nat, w < c 1 → (τ 11 w ≠ 0 ↔ sPass π σ w (σ 0 1) = true)) (ht : 0 ≤ σ 0 1 ∧ σ 0 1 < 99000) (h2 : -1 ≤ σ 0 2 ∧ σ 0 2 < 12) (hd : 3 ≤ d) (hq : ∀ W1 m1, (∀ x y, x < r → W1 x y = W0 x y) → mat r (c 0) W1 m1 → mWay π τ m1 → Q (some (.ref r)) (zG E e W1) F) {W : zV} {L3 L4 L5 : Option Value} (hm : mat r (c 0) W mI) (hk : (∀ x y, x < r → W x y = W0 x y)) : zk_Go l Γ mX8_ways d 0 0 Q 60 [some (.ref 424), some (.int (iZ (c 0 : Int))), some (.ref r), L3, L4, L5] [] (zG E e W) F := by
  refine zz_iconst dX8_ways_60 ?_
  refine gz_istore_n dX8_ways_61 (Nat.le_of_ble_eq_true rfl) rfl ?_
  exact zS_ways_b hE hS0 hw hr gA gB hτ ht h2 hd (c 1) 0 W mI _ (by omega) hm hk mI_ok (fun x y _ _ => by
    unfold mI
    by_cases q : x = y
    · rw [if_pos q, if_pos q.symm]
    · rw [if_neg q, if_neg (fun k => q k.symm)]) (fun w1 q => absurd q (Nat.not_lt_zero _)) (fun W1 m1 L3 L4 h1 h2b h3 h4 => zS_ways_t2 hE hS0 hw hr gA gB hτ ht h2 hd hq h1 h2b h3 h4)
theorem zS_ways {E : Nat → Nat × Nat} {e : Nat} {c : Nat → Nat} {W π σ : zV} (hE : zE E e c) (hS : sm c W π σ) (hw : wP π) {τ : zV} (hτ : ∀ w : Nat, w < c 1 → (τ 11 w ≠ 0 ↔ sPass π σ w (σ 0 1) = true)) (ht : 0 ≤ σ 0 1 ∧ σ 0 1 < 99000) (h2 : -1 ≤ σ 0 2 ∧ σ 0 2 < 12) (hd : 3 ≤ d) {Q : Option Value → zk_M → (Heap → Prop) → Prop}
    (hq : ∀ W' m, (∀ a j, a < e → W' a j = W a j) → mat e (c 0) W' m → mWay π τ m → Q (some (.ref e)) (zG (zG_E E e (c 0) (c 0)) (e + 1 + c 0) W') F) : zk_Go l Γ mX8_ways d (1 + c 0) (c 0 + c 0 * c 0) Q 0 (zk_ent mX8_ways.2.2.1 [.ref 424]) [] (zG E e W) F := by
  have hb5 := hE.2.2.2.2
  have h48 := hE.2.2.2.1
  have n1 := hS.1
  refine gz_aload_n dX8_ways_0 rfl ?_
  refine gz_getf (M := zG E e W) 3 dX8_ways_1 hE.1 rfl wf_HeliographsLaw_Sim_15 (by decide) rfl ?_
  refine gg_alen hE 0 dX8_ways_4 (by decide) ?_
  refine gz_istore_n dX8_ways_5 (Nat.le_of_ble_eq_true rfl) rfl ?_
  refine gz_iload_n dX8_ways_6 rfl ?_
  refine gz_iload_n dX8_ways_7 rfl ?_
  refine gg_mna h48 (n := c 0) (k := c 0) dX8_ways_8 wc_HeliographsLaw_Sim_41 rfl rfl (by omega) (by omega) ⟨by omega, by omega⟩ ?_
  rw [Nat.sub_self, Nat.sub_self]
  have hE1 : zE (zG_E E e (c 0) (c 0)) (e + 1 + c 0) c := zE_E hE
  have gA : zG_E E e (c 0) (c 0) e = (105, c 0) := by unfold zG_E; rw [if_neg (by omega), if_pos rfl]
  have gB : ∀ x, x < c 0 → zG_E E e (c 0) (c 0) (e + 1 + x) = (100, c 0) := fun x hx => by unfold zG_E; rw [if_neg (by omega), if_neg (by omega)]
  have hS1 : sm c (zG_W e W) π σ := sm_kept hS (by omega) (fun a j q1 q2 => if_pos (by omega))
  have hS2 : ∀ a j, a < e → zG_W e W a j = W a j := fun a j q => if_pos q
  refine gz_astore_n dX8_ways_12 (Nat.le_of_ble_eq_true rfl) rfl ?_
  refine zz_iconst dX8_ways_13 ?_
  refine gz_istore_n dX8_ways_14 (Nat.le_of_ble_eq_true rfl) rfl ?_
  exact zS_ways_a2 hE1 hS1 hw h48 gA gB (c 0) 0 _ _ (by omega) (fun x y _ q => absurd q (Nat.not_lt_zero _)) (fun x y _ => rfl) (fun W1 L3 L4 m1 k1 => zS_ways_t3 hE1 hS1 hw h48 gA gB hτ ht h2 hd (fun W2 m2 q1 q2 q3 => hq W2 m2 (fun a j q => (q1 a j q).trans (hS2 a j q)) q2 q3) m1 k1)
end

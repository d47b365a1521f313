/-! THE CHAIN BY HAND: first, breakOff, holds -/
section
variable {l : Launch} {Γ : zk_G} {d : Nat} {F : Heap → Prop}
theorem sFind_last (f : Nat → Bool) : ∀ n i, sFind f i (n + 1) = if sFind f i n < 0 then (if f (i + n) = true then ((i + n : Nat) : Int) else -1) else sFind f i n
  | 0, i => by
    rw [sFind_0, if_pos (by decide)]
    rfl
  | n + 1, i => by
    have ih := sFind_last f n (i + 1)
    by_cases h : f i = true
    · rw [sFind_t h, sFind_t h, if_neg (by omega)]
    · rw [sFind_f h, ih, sFind_f h, show i + 1 + n = i + (n + 1) by omega]
theorem sFind_b2 (f : Nat → Bool) : ∀ n i, sFind f i n = -1 ∨ ((i : Int) ≤ sFind f i n ∧ sFind f i n < i + n ∧ f (sFind f i n).toNat = true)
  | 0, i => Or.inl rfl
  | n + 1, i => by
    by_cases h : f i = true
    · rw [sFind_t h]
      exact Or.inr ⟨by omega, by omega, by rw [Int.toNat_natCast]; exact h⟩
    · rw [sFind_f h]
      rcases sFind_b2 f n (i + 1) with q | q
      · exact Or.inl q
      · exact Or.inr ⟨by omega, by omega, q.2.2⟩
/-- the first of them, or A -/
def sFindA (f : Nat → Bool) (n : Nat) (A : Int) : Int := if sFind f 0 n < 0 then A else sFind f 0 n
theorem sFindA_s (f : Nat → Bool) (n : Nat) (A : Int) : sFindA f (n + 1) A = sFindA f n (if f n = true then (n : Int) else A) := by
  have h := sFind_last f n 0
  have hb := sFind_b2 f n 0
  rw [Nat.zero_add] at h
  unfold sFindA
  rw [h]
  by_cases q : sFind f 0 n < 0
  · rw [if_pos q, if_pos q]
    by_cases q2 : f n = true
    · rw [if_pos q2, if_neg (by omega), if_pos q2]
    · rw [if_neg q2, if_pos (by decide), if_neg q2]
  · rw [if_neg q, if_neg q, if_neg q]
theorem sFindA_m (f : Nat → Bool) (n : Nat) : sFindA f n (-1) = sFind f 0 n := by
  unfold sFindA
  rcases sFind_b2 f n 0 with q | q
  · rw [q]; rfl
  · rw [if_neg (by omega)]
theorem sFst_iff {π τ : zV} {R : Nat → Int} {a w u v : Nat} (hu : π 4 w = (u : Int)) (hv : π 5 w = (v : Int)) (huv : u ≠ v) : sFst π τ R (a : Int) w = true ↔ (τ 11 w ≠ 0 ∧ ((u = a ∧ π 6 w + R v = R a) ∨ (v = a ∧ π 6 w + R u = R a))) := by
  unfold sFst sEnd sAcross
  simp only [Bool.and_eq_true, decide_eq_true_eq, hu, hv, Int.toNat_natCast]
  by_cases q : u = a
  · subst q
    rw [if_pos rfl, Int.toNat_natCast]
    constructor
    · intro h; exact ⟨h.1.1, Or.inl ⟨rfl, h.2⟩⟩
    · intro h
      refine ⟨⟨h.1, Or.inl rfl⟩, ?_⟩
      rcases h.2 with k | k
      · exact k.2
      · omega
  · rw [if_neg (by omega), Int.toNat_natCast]
    constructor
    · intro h
      refine ⟨h.1.1, Or.inr ⟨by omega, h.2⟩⟩
    · intro h
      rcases h.2 with k | k
      · exact absurd k.1 q
      · exact ⟨⟨h.1, Or.inr (by omega)⟩, k.2⟩
theorem zS_first_loop {E : Nat → Nat × Nat} {e : Nat} {c : Nat → Nat} {W π σ : zV} (hE : zE E e c) (hS : sm c W π σ) (hw : wP π) {r : Nat} (hr : 480 ≤ r) (gA : E r = (105, c 0)) (gB : ∀ x, x < c 0 → E (r + 1 + x) = (100, c 0)) {m : Nat → Nat → Int} (hm : mat r (c 0) W m) {τ : zV} (hτ : ∀ w : Nat, w < c 1 → (τ 11 w ≠ 0 ↔ sPass π σ w (σ 0 1) = true)) (ht : 0 ≤ σ 0 1 ∧ σ 0 1 < 99000) (h2 : -1 ≤ σ 0 2 ∧ σ 0 2 < 12) (hmw : mWay π τ m) {a b : Nat} (ha : a < c 0) (hb : b < c 0) (hab : sD π τ b a < 1000000) (hd : 3 ≤ d) {Q : Option Value → zk_M → (Heap → Prop) → Prop} : ∀ (n : Nat) (A : Int) (L6 : Option Value), n ≤ c 1 → Q (some (.int (iZ (sFindA (sFst π τ (sD π τ b) (a : Int)) n A)))) (zG E e W) F → zk_Go l Γ mX8_first d 0 0 Q 30 [some (.ref 424), some (.ref r), some (.int (iZ (a : Int))), some (.int (iZ (b : Int))), some (.int (iZ A)), some (.int (iZ ((n : Int) - 1))), L6] [] (zG E e W) F := by
  intro n
  induction n with
  | zero =>
    intro A L6 hn hq
    have hb5 := hE.2.2.2.2
    have n1 := hS.1
    have n0 := wP_n hw
    refine gz_iload dX8_first_30 rfl ?_
    refine zz_if_lt (tgt := 121) dX8_first_32 rfl (by omega) (fun b32 => ?_) (fun b32 => ?_)
    rotate_left
    · exact absurd b32 (by omega)
    refine gz_iload dX8_first_121 rfl ?_
    refine gz_ireturn dX8_first_123 rfl rfl ?_
    exact hq
  | succ n ih =>
    intro A L6 hn hq
    have hb5 := hE.2.2.2.2
    have n1 := hS.1
    have n0 := wP_n hw
    rw [show ((n + 1 : Nat) : Int) - 1 = (n : Int) by omega]
    have n2 := hw.2.2.2.2.2.1 n (by omega)
    obtain ⟨u, hu⟩ : ∃ u : Nat, π 4 n = (u : Int) := ⟨(π 4 n).toNat, by omega⟩
    obtain ⟨v, hv⟩ : ∃ v : Nat, π 5 n = (v : Int) := ⟨(π 5 n).toNat, by omega⟩
    have hu0 := (hS.2.2.2.1 n (by omega)).1.trans hu
    have hv0 := (hS.2.2.2.1 n (by omega)).2.1.trans hv
    have huv : u ≠ v := by omega
    have hkey := sFst_iff (τ := τ) (R := sD π τ b) (a := a) hu hv huv
    have w1 := hmw a b (by omega) (by omega)
    have w2 := hmw u b (by omega) (by omega)
    have w3 := hmw v b (by omega) (by omega)
    have d1 := sD_bd hw τ b (k := u) (by omega)
    have d2 := sD_bd hw τ b (k := v) (by omega)
    have d3 := sD_bd hw τ b (k := a) (by omega)
    refine gz_iload dX8_first_30 rfl ?_
    refine zz_if_lt (tgt := 121) dX8_first_32 rfl (by omega) (fun b32 => ?_) (fun b32 => ?_)
    · exact absurd b32 (by omega)
    refine gz_aload_n dX8_first_35 rfl ?_
    refine gz_getf (M := zG E e W) 4 dX8_first_36 hE.1 rfl wf_HeliographsLaw_Sim_19 (by decide) rfl ?_
    refine gz_iload dX8_first_39 rfl ?_
    refine gg_aald hE 1 (j := n) dX8_first_41 (by decide) rfl (by omega) (by omega) ?_
    refine gz_astore dX8_first_42 (Nat.le_of_ble_eq_true rfl) rfl ?_
    refine gz_aload_n dX8_first_44 rfl ?_
    refine gz_iload dX8_first_45 rfl ?_
    refine gv_1 (J := mX8_isOpen_) (d1 := d - 1) dX8_first_47 wm_HeliographsLaw_Sim_42 hE.1 jzX8_isOpen_ (Nat.le_of_ble_eq_true rfl) (Nat.le_of_ble_eq_true rfl) (by omega) ⟨Nat.le_refl _, Nat.le_refl _⟩ (zS_isOpen1 hE hS hw (by omega) ht h2 (by omega)) ?_
    refine zz_if_eqB (tgt := 115) dX8_first_50 rfl (fun b50 => ?_) (fun b50 => ?_)
    ·
      refine zz_iinc dX8_first_115 rfl rfl ?_
      refine gz_goto (tgt := 30) dX8_first_118 rfl ?_
      rw [show (n : Int) + -1 = (n : Int) - 1 by omega]
      first
        | exact ih _ _ (by omega) (by rw [sFindA_s, if_pos (hkey.mpr ⟨(hτ n (by omega)).mpr b50, by omega⟩)] at hq; exact hq)
        | exact ih _ _ (by omega) (by rw [sFindA_s, if_neg (fun q => by have q2 := hkey.mp q; first | exact b50 ((hτ n (by omega)).mp q2.1) | omega)] at hq; exact hq)
    ·
      refine gz_aload dX8_first_53 rfl ?_
      refine zz_iconst dX8_first_55 ?_
      refine gg_iald hE 1 0 (j := n) (v := (u : Int)) dX8_first_56 (by decide) rfl (by omega) rfl (by decide) hu0 ?_
      refine gz_iload_n dX8_first_57 rfl ?_
      refine zz_icmp_ne (tgt := 82) dX8_first_58 rfl (by omega) (fun b58 => ?_) (fun b58 => ?_)
      ·
        refine gz_aload dX8_first_82 rfl ?_
        refine zz_iconst dX8_first_84 ?_
        refine gg_iald hE 1 1 (j := n) (v := (v : Int)) dX8_first_85 (by decide) rfl (by omega) rfl (by decide) hv0 ?_
        refine gz_iload_n dX8_first_86 rfl ?_
        refine zz_icmp_ne (tgt := 115) dX8_first_87 rfl (by omega) (fun b87 => ?_) (fun b87 => ?_)
        ·
          refine zz_iinc dX8_first_115 rfl rfl ?_
          refine gz_goto (tgt := 30) dX8_first_118 rfl ?_
          rw [show (n : Int) + -1 = (n : Int) - 1 by omega]
          first
            | exact ih _ _ (by omega) (by rw [sFindA_s, if_pos (hkey.mpr ⟨(hτ n (by omega)).mpr b50, by omega⟩)] at hq; exact hq)
            | exact ih _ _ (by omega) (by rw [sFindA_s, if_neg (fun q => by have q2 := hkey.mp q; first | exact b50 ((hτ n (by omega)).mp q2.1) | omega)] at hq; exact hq)
        ·
          refine gz_aload dX8_first_90 rfl ?_
          refine zz_iconst dX8_first_92 ?_
          refine gg_iald hE 1 2 (j := n) (v := π 6 n) dX8_first_93 (by decide) rfl (by omega) rfl (by decide) ((hS.2.2.2.1 n (by omega)).2.2.1) ?_
          refine gz_aload_n dX8_first_94 rfl ?_
          refine gz_aload dX8_first_95 rfl ?_
          refine zz_iconst dX8_first_97 ?_
          refine gg_iald hE 1 0 (j := n) (v := (u : Int)) dX8_first_98 (by decide) rfl (by omega) rfl (by decide) hu0 ?_
          refine gw_aald (j := u) dX8_first_99 gA hr rfl (by omega) rfl ?_
          refine gz_iload_n dX8_first_100 rfl ?_
          refine gw_iald (q := b) (v := m u b) dX8_first_101 (gB u (by omega)) (by omega) rfl (by omega) (hm u (by omega) b hb) ?_
          refine zz_iadd dX8_first_102 ?_
          refine gz_aload_n dX8_first_103 rfl ?_
          refine gz_iload_n dX8_first_104 rfl ?_
          refine gw_aald (j := a) dX8_first_105 gA hr rfl (by omega) rfl ?_
          refine gz_iload_n dX8_first_106 rfl ?_
          refine gw_iald (q := b) (v := m a b) dX8_first_107 (gB a (by omega)) (by omega) rfl (by omega) (hm a (by omega) b hb) ?_
          refine zz_icmp_ne (tgt := 115) dX8_first_108 rfl (by omega) (fun b108 => ?_) (fun b108 => ?_)
          ·
            refine zz_iinc dX8_first_115 rfl rfl ?_
            refine gz_goto (tgt := 30) dX8_first_118 rfl ?_
            rw [show (n : Int) + -1 = (n : Int) - 1 by omega]
            first
              | exact ih _ _ (by omega) (by rw [sFindA_s, if_pos (hkey.mpr ⟨(hτ n (by omega)).mpr b50, by omega⟩)] at hq; exact hq)
              | exact ih _ _ (by omega) (by rw [sFindA_s, if_neg (fun q => by have q2 := hkey.mp q; first | exact b50 ((hτ n (by omega)).mp q2.1) | omega)] at hq; exact hq)
          ·
            refine gz_iload dX8_first_111 rfl ?_
            refine gz_istore dX8_first_113 (Nat.le_of_ble_eq_true rfl) rfl ?_
            refine zz_iinc dX8_first_115 rfl rfl ?_
            refine gz_goto (tgt := 30) dX8_first_118 rfl ?_
            rw [show (n : Int) + -1 = (n : Int) - 1 by omega]
            first
              | exact ih _ _ (by omega) (by rw [sFindA_s, if_pos (hkey.mpr ⟨(hτ n (by omega)).mpr b50, by omega⟩)] at hq; exact hq)
              | exact ih _ _ (by omega) (by rw [sFindA_s, if_neg (fun q => by have q2 := hkey.mp q; first | exact b50 ((hτ n (by omega)).mp q2.1) | omega)] at hq; exact hq)
      ·
        refine gz_aload dX8_first_61 rfl ?_
        refine zz_iconst dX8_first_63 ?_
        refine gg_iald hE 1 2 (j := n) (v := π 6 n) dX8_first_64 (by decide) rfl (by omega) rfl (by decide) ((hS.2.2.2.1 n (by omega)).2.2.1) ?_
        refine gz_aload_n dX8_first_65 rfl ?_
        refine gz_aload dX8_first_66 rfl ?_
        refine zz_iconst dX8_first_68 ?_
        refine gg_iald hE 1 1 (j := n) (v := (v : Int)) dX8_first_69 (by decide) rfl (by omega) rfl (by decide) hv0 ?_
        refine gw_aald (j := v) dX8_first_70 gA hr rfl (by omega) rfl ?_
        refine gz_iload_n dX8_first_71 rfl ?_
        refine gw_iald (q := b) (v := m v b) dX8_first_72 (gB v (by omega)) (by omega) rfl (by omega) (hm v (by omega) b hb) ?_
        refine zz_iadd dX8_first_73 ?_
        refine gz_aload_n dX8_first_74 rfl ?_
        refine gz_iload_n dX8_first_75 rfl ?_
        refine gw_aald (j := a) dX8_first_76 gA hr rfl (by omega) rfl ?_
        refine gz_iload_n dX8_first_77 rfl ?_
        refine gw_iald (q := b) (v := m a b) dX8_first_78 (gB a (by omega)) (by omega) rfl (by omega) (hm a (by omega) b hb) ?_
        refine zz_icmp_eq (tgt := 111) dX8_first_79 rfl (by omega) (fun b79 => ?_) (fun b79 => ?_)
        ·
          refine gz_iload dX8_first_111 rfl ?_
          refine gz_istore dX8_first_113 (Nat.le_of_ble_eq_true rfl) rfl ?_
          refine zz_iinc dX8_first_115 rfl rfl ?_
          refine gz_goto (tgt := 30) dX8_first_118 rfl ?_
          rw [show (n : Int) + -1 = (n : Int) - 1 by omega]
          first
            | exact ih _ _ (by omega) (by rw [sFindA_s, if_pos (hkey.mpr ⟨(hτ n (by omega)).mpr b50, by omega⟩)] at hq; exact hq)
            | exact ih _ _ (by omega) (by rw [sFindA_s, if_neg (fun q => by have q2 := hkey.mp q; first | exact b50 ((hτ n (by omega)).mp q2.1) | omega)] at hq; exact hq)
        ·
          refine gz_aload dX8_first_82 rfl ?_
          refine zz_iconst dX8_first_84 ?_
          refine gg_iald hE 1 1 (j := n) (v := (v : Int)) dX8_first_85 (by decide) rfl (by omega) rfl (by decide) hv0 ?_
          refine gz_iload_n dX8_first_86 rfl ?_
          refine zz_icmp_ne (tgt := 115) dX8_first_87 rfl (by omega) (fun b87 => ?_) (fun b87 => ?_)
          ·
            refine zz_iinc dX8_first_115 rfl rfl ?_
            refine gz_goto (tgt := 30) dX8_first_118 rfl ?_
            rw [show (n : Int) + -1 = (n : Int) - 1 by omega]
            first
              | exact ih _ _ (by omega) (by rw [sFindA_s, if_pos (hkey.mpr ⟨(hτ n (by omega)).mpr b50, by omega⟩)] at hq; exact hq)
              | exact ih _ _ (by omega) (by rw [sFindA_s, if_neg (fun q => by have q2 := hkey.mp q; first | exact b50 ((hτ n (by omega)).mp q2.1) | omega)] at hq; exact hq)
          ·
            refine gz_aload dX8_first_90 rfl ?_
            refine zz_iconst dX8_first_92 ?_
            refine gg_iald hE 1 2 (j := n) (v := π 6 n) dX8_first_93 (by decide) rfl (by omega) rfl (by decide) ((hS.2.2.2.1 n (by omega)).2.2.1) ?_
            refine gz_aload_n dX8_first_94 rfl ?_
            refine gz_aload dX8_first_95 rfl ?_
            refine zz_iconst dX8_first_97 ?_
            refine gg_iald hE 1 0 (j := n) (v := (u : Int)) dX8_first_98 (by decide) rfl (by omega) rfl (by decide) hu0 ?_
            refine gw_aald (j := u) dX8_first_99 gA hr rfl (by omega) rfl ?_
            refine gz_iload_n dX8_first_100 rfl ?_
            refine gw_iald (q := b) (v := m u b) dX8_first_101 (gB u (by omega)) (by omega) rfl (by omega) (hm u (by omega) b hb) ?_
            refine zz_iadd dX8_first_102 ?_
            refine gz_aload_n dX8_first_103 rfl ?_
            refine gz_iload_n dX8_first_104 rfl ?_
            refine gw_aald (j := a) dX8_first_105 gA hr rfl (by omega) rfl ?_
            refine gz_iload_n dX8_first_106 rfl ?_
            refine gw_iald (q := b) (v := m a b) dX8_first_107 (gB a (by omega)) (by omega) rfl (by omega) (hm a (by omega) b hb) ?_
            refine zz_icmp_ne (tgt := 115) dX8_first_108 rfl (by omega) (fun b108 => ?_) (fun b108 => ?_)
            ·
              refine zz_iinc dX8_first_115 rfl rfl ?_
              refine gz_goto (tgt := 30) dX8_first_118 rfl ?_
              rw [show (n : Int) + -1 = (n : Int) - 1 by omega]
              first
                | exact ih _ _ (by omega) (by rw [sFindA_s, if_pos (hkey.mpr ⟨(hτ n (by omega)).mpr b50, by omega⟩)] at hq; exact hq)
                | exact ih _ _ (by omega) (by rw [sFindA_s, if_neg (fun q => by have q2 := hkey.mp q; first | exact b50 ((hτ n (by omega)).mp q2.1) | omega)] at hq; exact hq)
            ·
              refine gz_iload dX8_first_111 rfl ?_
              refine gz_istore dX8_first_113 (Nat.le_of_ble_eq_true rfl) rfl ?_
              refine zz_iinc dX8_first_115 rfl rfl ?_
              refine gz_goto (tgt := 30) dX8_first_118 rfl ?_
              rw [show (n : Int) + -1 = (n : Int) - 1 by omega]
              first
                | exact ih _ _ (by omega) (by rw [sFindA_s, if_pos (hkey.mpr ⟨(hτ n (by omega)).mpr b50, by omega⟩)] at hq; exact hq)
                | exact ih _ _ (by omega) (by rw [sFindA_s, if_neg (fun q => by have q2 := hkey.mp q; first | exact b50 ((hτ n (by omega)).mp q2.1) | omega)] at hq; exact hq)
theorem zS_first {E : Nat → Nat × Nat} {e : Nat} {c : Nat → Nat} {W π σ : zV} (hE : zE E e c) (hS : sm c W π σ) (hw : wP π) {r : Nat} (hr : 480 ≤ r) (gA : E r = (105, c 0)) (gB : ∀ x, x < c 0 → E (r + 1 + x) = (100, c 0)) {m : Nat → Nat → Int} (hm : mat r (c 0) W m) {τ : zV} (hτ : ∀ w : Nat, w < c 1 → (τ 11 w ≠ 0 ↔ sPass π σ w (σ 0 1) = true)) (ht : 0 ≤ σ 0 1 ∧ σ 0 1 < 99000) (h2 : -1 ≤ σ 0 2 ∧ σ 0 2 < 12) (hmw : mWay π τ m) {a b : Nat} (ha : a < c 0) (hb : b < c 0) (hd : 3 ≤ d) : zk_Does l Γ mX8_first d 0 0 [.ref 424, .ref r, .int (iZ (a : Int)), .int (iZ (b : Int))] (zG E e W) F (some (.int (iZ (sFirst π τ (a : Int) (b : Int))))) (zG E e W) F := by
  intro Q hq
  have hb5 := hE.2.2.2.2
  have n1 := hS.1
  have n0 := wP_n hw
  have w1 := hmw a b (by omega) (by omega)
  have d3 := sD_bd hw τ b (k := a) (by omega)
  have hdef : sFirst π τ (a : Int) (b : Int) = if (a : Int) = (b : Int) ∨ 1000000 ≤ sD π τ b a then -1 else sFind (sFst π τ (sD π τ b) (a : Int)) 0 (π 0 1).toNat := rfl
  rw [hdef] at hq
  refine gz_iload_n dX8_first_0 rfl ?_
  refine gz_iload_n dX8_first_1 rfl ?_
  refine zz_icmp_eq (tgt := 16) dX8_first_2 rfl (by omega) (fun b2 => ?_) (fun b2 => ?_)
  ·
    refine zz_iconst dX8_first_16 ?_
    rw [if_pos (by omega)] at hq
    refine gz_ireturn dX8_first_17 rfl rfl ?_
    exact hq
  ·
    refine gz_aload_n dX8_first_5 rfl ?_
    refine gz_iload_n dX8_first_6 rfl ?_
    refine gw_aald (j := a) dX8_first_7 gA hr rfl (by omega) rfl ?_
    refine gz_iload_n dX8_first_8 rfl ?_
    refine gw_iald (q := b) (v := m a b) dX8_first_9 (gB a (by omega)) (by omega) rfl (by omega) (hm a (by omega) b hb) ?_
    refine zz_sipush (x := 9000) dX8_first_10 rfl ?_
    refine zz_icmp_le (tgt := 18) dX8_first_13 rfl (by omega) (fun b13 => ?_) (fun b13 => ?_)
    ·
      refine zz_iconst dX8_first_18 ?_
      refine gz_istore dX8_first_19 (Nat.le_of_ble_eq_true rfl) rfl ?_
      refine gz_aload_n dX8_first_21 rfl ?_
      refine gz_getf (M := zG E e W) 4 dX8_first_22 hE.1 rfl wf_HeliographsLaw_Sim_19 (by decide) rfl ?_
      refine gg_alen hE 1 dX8_first_25 (by decide) ?_
      refine zz_iconst dX8_first_26 ?_
      refine zz_isub dX8_first_27 ?_
      refine gz_istore dX8_first_28 (Nat.le_of_ble_eq_true rfl) rfl ?_
      rw [if_neg (by omega), show (π 0 1).toNat = c 1 by omega, ← sFindA_m] at hq
      exact zS_first_loop hE hS hw hr gA gB hm hτ ht h2 hmw ha hb (by omega) hd (c 1) (-1) _ (Nat.le_refl _) hq
    ·
      refine zz_iconst dX8_first_16 ?_
      rw [if_pos (by omega)] at hq
      refine gz_ireturn dX8_first_17 rfl rfl ?_
      exact hq
theorem zS_breakOff {E : Nat → Nat × Nat} {e : Nat} {c : Nat → Nat} {W π σ : zV} (hE : zE E e c) (hS : sm c W π σ) {m : Nat} (hm : m < c 3) : zk_Does l Γ mX8_breakOff d 0 0 [.ref 424, .ref (460 + m)] (zG E e W) F none (zG E e (zb_u (zb_u (zb_u (zb_u W (460 + m) 4 0) (460 + m) 5 (-1)) (460 + m) 6 (π 7 m)) (460 + m) 7 (σ 8 m + 1))) F := by
  intro Q hq
  have h3 := hS.2.2.2.2.2 m hm
  refine gz_aload_n dX8_breakOff_0 rfl ?_
  refine zz_iconst dX8_breakOff_1 ?_
  refine zz_iconst dX8_breakOff_2 ?_
  refine gg_iast hE 3 4 (j := m) dX8_breakOff_3 (by decide) rfl (by omega) rfl (by decide) ?_
  refine gz_aload_n dX8_breakOff_4 rfl ?_
  refine zz_iconst dX8_breakOff_5 ?_
  refine zz_iconst dX8_breakOff_6 ?_
  refine gg_iast hE 3 5 (j := m) dX8_breakOff_7 (by decide) rfl (by omega) rfl (by decide) ?_
  refine gz_aload_n dX8_breakOff_8 rfl ?_
  refine zz_bipush (x := 6) dX8_breakOff_9 rfl ?_
  refine gz_aload_n dX8_breakOff_11 rfl ?_
  refine zz_iconst dX8_breakOff_12 ?_
  refine gg_iald hE 3 0 (j := m) (v := π 7 m) dX8_breakOff_13 (by decide) rfl (by omega) rfl (by decide) (by rw [zb_u_no _ _ (by omega), zb_u_no _ _ (by omega)]; exact h3.1) ?_
  refine gg_iast hE 3 6 (j := m) dX8_breakOff_14 (by decide) rfl (by omega) rfl (by decide) ?_
  refine gz_aload_n dX8_breakOff_15 rfl ?_
  refine zz_bipush (x := 7) dX8_breakOff_16 rfl ?_
  refine gz_dup2 dX8_breakOff_18 rfl rfl ?_
  refine gg_iald hE 3 7 (j := m) (v := σ 8 m) dX8_breakOff_19 (by decide) rfl (by omega) rfl (by decide) (by rw [zb_u_no _ _ (by omega), zb_u_no _ _ (by omega), zb_u_no _ _ (by omega)]; exact h3.2.2.2.2.2.2.2.1) ?_
  refine zz_iconst dX8_breakOff_20 ?_
  refine zz_iadd dX8_breakOff_21 ?_
  refine gg_iast hE 3 7 (j := m) dX8_breakOff_22 (by decide) rfl (by omega) rfl (by decide) ?_
  refine gz_return_ dX8_breakOff_23 rfl ?_
  exact hq
/-- a hold's test, by its row: message, kind, number, peak, pass, message -/
def sHv (π σ : zV) (n k p w m : Int) : Bool :=
  if k = 0 then decide (σ 0 1 % 120 < n) else if k = 1 then decide (1 < sNum (sAt σ p 0) 0 (π 0 3).toNat) else if k = 2 then sPass π σ w.toNat (σ 0 1) else if k = 3 then (!sPass π σ w.toNat (σ 0 1) || decide (σ 4 m.toNat = 1))
  else if k = 4 then decide (n ≤ σ 5 m.toNat * 2) else if k = 5 then ((decide (σ 8 m.toNat < n / 30) && decide (n / 2 < σ 0 1 % 120)) || decide (σ 0 1 % 2 = 0)) else if k = 6 then decide (σ 4 m.toNat = 1) else decide (n % 2 = 0)
/-- the holds' rows -/
def hRow (c : Nat → Nat) (W : zV) : Prop := ∀ i, i < c 4 → (0 ≤ W (468 + i) 0 ∧ W (468 + i) 0 < c 3) ∧ (0 ≤ W (468 + i) 1 ∧ W (468 + i) 1 < 8) ∧ (0 ≤ W (468 + i) 2 ∧ W (468 + i) 2 < 120) ∧ (0 ≤ W (468 + i) 3 ∧ W (468 + i) 3 < c 0) ∧ (0 ≤ W (468 + i) 4 ∧ W (468 + i) 4 < c 1) ∧ (0 ≤ W (468 + i) 5 ∧ W (468 + i) 5 < c 3)
def sHs (c : Nat → Nat) (W π σ : zV) (m i : Nat) : Bool := decide (W (468 + i) 0 = (m : Int)) && sHv π σ (W (468 + i) 2) (W (468 + i) 1) (W (468 + i) 3) (W (468 + i) 4) (W (468 + i) 5)
theorem zS_holds_0 {E : Nat → Nat × Nat} {e : Nat} {c : Nat → Nat} {W π σ : zV} (hE : zE E e c) (hS : sm c W π σ) (hw : wP π) (hh : hRow c W) {N : Int} (hc : wC π σ N) (hN : N ≤ 90000) {i : Nat} (hi : i < c 4) (hk : W (468 + i) 1 = 0) (hd : 4 ≤ d) : zk_Does l Γ mX8_holds d 0 0 [.ref 424, .ref (468 + i)] (zG E e W) F (some (.int (iZ (bI (sHv π σ (W (468 + i) 2) (W (468 + i) 1) (W (468 + i) 3) (W (468 + i) 4) (W (468 + i) 5)))))) (zG E e W) F := by
  intro Q hq
  have n1 := hS.1
  have n0 := wP_n hw
  have hb5 := hE.2.2.2.2
  have hi2 := hh i hi
  have tb := wC_n hc
  obtain ⟨g, hg⟩ : ∃ z, W (468 + i) 2 = z := ⟨_, rfl⟩
  obtain ⟨pp, hpp⟩ : ∃ z : Nat, W (468 + i) 3 = (z : Int) := ⟨(W (468 + i) 3).toNat, by omega⟩
  obtain ⟨ww, hww⟩ : ∃ z : Nat, W (468 + i) 4 = (z : Int) := ⟨(W (468 + i) 4).toNat, by omega⟩
  obtain ⟨mm, hmm⟩ : ∃ z : Nat, W (468 + i) 5 = (z : Int) := ⟨(W (468 + i) 5).toNat, by omega⟩
  rw [hg, hpp, hww, hmm] at hi2 hq
  have h3 := hS.2.2.2.2.2 mm (by omega)
  have hM := wC_m hc (k := mm) (by omega)
  unfold wM at hM
  have e9 : sHv π σ g 0 (pp : Int) (ww : Int) (mm : Int) = decide (σ 0 1 % 120 < g) := rfl
  rw [hk, e9] at hq
  refine gz_aload_n dX8_holds_0 rfl ?_
  refine zz_iconst dX8_holds_1 ?_
  refine gg_iald hE 4 2 (j := i) (v := g) dX8_holds_2 (by decide) rfl (by omega) rfl (by decide) hg ?_
  refine gz_istore_n dX8_holds_3 (Nat.le_of_ble_eq_true rfl) rfl ?_
  refine gz_aload_n dX8_holds_4 rfl ?_
  refine gz_getf (M := zG E e W) 6 dX8_holds_5 hE.1 rfl wf_HeliographsLaw_Sim_25 (by decide) rfl ?_
  refine gz_aload_n dX8_holds_8 rfl ?_
  refine zz_iconst dX8_holds_9 ?_
  refine gg_iald hE 4 5 (j := i) (v := (mm : Int)) dX8_holds_10 (by decide) rfl (by omega) rfl (by decide) hmm ?_
  refine gg_aald hE 3 (j := mm) dX8_holds_11 (by decide) rfl rfl (by omega) ?_
  refine gz_astore_n dX8_holds_12 (Nat.le_of_ble_eq_true rfl) rfl ?_
  refine gz_aload_n dX8_holds_13 rfl ?_
  refine zz_iconst dX8_holds_14 ?_
  refine gg_iald hE 4 1 (j := i) (v := 0) dX8_holds_15 (by decide) rfl (by omega) rfl (by decide) hk ?_
  refine zz_tsw (tgt := 60) dX8_holds_16 (by omega) (by decide) (by decide) rfl rfl ?_
  refine gz_aload_n dX8_holds_60 rfl ?_
  refine gz_getf (M := zG E e W) (v := .int (iZ (σ 0 1))) 0 dX8_holds_61 hE.1 rfl wf_HeliographsLaw_Sim_35 (by decide) (congrArg (fun z => Value.int (iZ z)) hS.2.1.1) ?_
  refine zz_bipush (x := 120) dX8_holds_64 rfl ?_
  refine zz_irem dX8_holds_66 (by omega) ?_
  refine gz_iload_n dX8_holds_67 rfl ?_
  refine zz_icmp_ge (tgt := 75) dX8_holds_68 rfl (by omega) (fun b68 => ?_) (fun b68 => ?_)
  ·
    refine zz_iconst dX8_holds_75 ?_
    refine gz_ireturn dX8_holds_76 rfl rfl ?_
    (first | exact hq | (rw [bI_t (by simp only [decide_eq_true_eq, Bool.or_eq_true, Bool.and_eq_true]; omega)] at hq; exact hq) | (rw [bI_f (by simp only [decide_eq_true_eq, Bool.or_eq_true, Bool.and_eq_true]; omega)] at hq; exact hq))
  ·
    refine zz_iconst dX8_holds_71 ?_
    refine gz_goto (tgt := 76) dX8_holds_72 rfl ?_
    refine gz_ireturn dX8_holds_76 rfl rfl ?_
    (first | exact hq | (rw [bI_t (by simp only [decide_eq_true_eq, Bool.or_eq_true, Bool.and_eq_true]; omega)] at hq; exact hq) | (rw [bI_f (by simp only [decide_eq_true_eq, Bool.or_eq_true, Bool.and_eq_true]; omega)] at hq; exact hq))
theorem zS_holds_1 {E : Nat → Nat × Nat} {e : Nat} {c : Nat → Nat} {W π σ : zV} (hE : zE E e c) (hS : sm c W π σ) (hw : wP π) (hh : hRow c W) {N : Int} (hc : wC π σ N) (hN : N ≤ 90000) {i : Nat} (hi : i < c 4) (hk : W (468 + i) 1 = 1) (hd : 4 ≤ d) : zk_Does l Γ mX8_holds d 0 0 [.ref 424, .ref (468 + i)] (zG E e W) F (some (.int (iZ (bI (sHv π σ (W (468 + i) 2) (W (468 + i) 1) (W (468 + i) 3) (W (468 + i) 4) (W (468 + i) 5)))))) (zG E e W) F := by
  intro Q hq
  have n1 := hS.1
  have n0 := wP_n hw
  have hb5 := hE.2.2.2.2
  have hi2 := hh i hi
  have tb := wC_n hc
  obtain ⟨g, hg⟩ : ∃ z, W (468 + i) 2 = z := ⟨_, rfl⟩
  obtain ⟨pp, hpp⟩ : ∃ z : Nat, W (468 + i) 3 = (z : Int) := ⟨(W (468 + i) 3).toNat, by omega⟩
  obtain ⟨ww, hww⟩ : ∃ z : Nat, W (468 + i) 4 = (z : Int) := ⟨(W (468 + i) 4).toNat, by omega⟩
  obtain ⟨mm, hmm⟩ : ∃ z : Nat, W (468 + i) 5 = (z : Int) := ⟨(W (468 + i) 5).toNat, by omega⟩
  rw [hg, hpp, hww, hmm] at hi2 hq
  have h3 := hS.2.2.2.2.2 mm (by omega)
  have hM := wC_m hc (k := mm) (by omega)
  unfold wM at hM
  have e9 : sHv π σ g 1 (pp : Int) (ww : Int) (mm : Int) = decide (1 < sNum (sAt σ (pp : Int) 0) 0 (π 0 3).toNat) := rfl
  rw [hk, e9] at hq
  rw [show (π 0 3).toNat = c 3 by omega] at hq
  have nb := sNum_bd (sAt σ (pp : Int) 0) (c 3) 0
  refine gz_aload_n dX8_holds_0 rfl ?_
  refine zz_iconst dX8_holds_1 ?_
  refine gg_iald hE 4 2 (j := i) (v := g) dX8_holds_2 (by decide) rfl (by omega) rfl (by decide) hg ?_
  refine gz_istore_n dX8_holds_3 (Nat.le_of_ble_eq_true rfl) rfl ?_
  refine gz_aload_n dX8_holds_4 rfl ?_
  refine gz_getf (M := zG E e W) 6 dX8_holds_5 hE.1 rfl wf_HeliographsLaw_Sim_25 (by decide) rfl ?_
  refine gz_aload_n dX8_holds_8 rfl ?_
  refine zz_iconst dX8_holds_9 ?_
  refine gg_iald hE 4 5 (j := i) (v := (mm : Int)) dX8_holds_10 (by decide) rfl (by omega) rfl (by decide) hmm ?_
  refine gg_aald hE 3 (j := mm) dX8_holds_11 (by decide) rfl rfl (by omega) ?_
  refine gz_astore_n dX8_holds_12 (Nat.le_of_ble_eq_true rfl) rfl ?_
  refine gz_aload_n dX8_holds_13 rfl ?_
  refine zz_iconst dX8_holds_14 ?_
  refine gg_iald hE 4 1 (j := i) (v := 1) dX8_holds_15 (by decide) rfl (by omega) rfl (by decide) hk ?_
  refine zz_tsw (tgt := 77) dX8_holds_16 (by omega) (by decide) (by decide) rfl rfl ?_
  refine gz_aload_n dX8_holds_77 rfl ?_
  refine gz_aload_n dX8_holds_78 rfl ?_
  refine zz_iconst dX8_holds_79 ?_
  refine gg_iald hE 4 3 (j := i) (v := (pp : Int)) dX8_holds_80 (by decide) rfl (by omega) rfl (by decide) hpp ?_
  refine gv_1 (J := mX8_queue) (d1 := d - 1) dX8_holds_81 wm_HeliographsLaw_Sim_51 hE.1 jzX8_queue (Nat.le_of_ble_eq_true rfl) (Nat.le_of_ble_eq_true rfl) (by omega) ⟨Nat.le_refl _, Nat.le_refl _⟩ (zS_queue hE hS hw hc (by omega)) ?_
  refine zz_iconst dX8_holds_84 ?_
  refine zz_icmp_le (tgt := 92) dX8_holds_85 rfl (by omega) (fun b85 => ?_) (fun b85 => ?_)
  ·
    refine zz_iconst dX8_holds_92 ?_
    refine gz_ireturn dX8_holds_93 rfl rfl ?_
    (first | exact hq | (rw [bI_t (by simp only [decide_eq_true_eq, Bool.or_eq_true, Bool.and_eq_true]; omega)] at hq; exact hq) | (rw [bI_f (by simp only [decide_eq_true_eq, Bool.or_eq_true, Bool.and_eq_true]; omega)] at hq; exact hq))
  ·
    refine zz_iconst dX8_holds_88 ?_
    refine gz_goto (tgt := 93) dX8_holds_89 rfl ?_
    refine gz_ireturn dX8_holds_93 rfl rfl ?_
    (first | exact hq | (rw [bI_t (by simp only [decide_eq_true_eq, Bool.or_eq_true, Bool.and_eq_true]; omega)] at hq; exact hq) | (rw [bI_f (by simp only [decide_eq_true_eq, Bool.or_eq_true, Bool.and_eq_true]; omega)] at hq; exact hq))
theorem zS_holds_2 {E : Nat → Nat × Nat} {e : Nat} {c : Nat → Nat} {W π σ : zV} (hE : zE E e c) (hS : sm c W π σ) (hw : wP π) (hh : hRow c W) {N : Int} (hc : wC π σ N) (hN : N ≤ 90000) {i : Nat} (hi : i < c 4) (hk : W (468 + i) 1 = 2) (hd : 4 ≤ d) : zk_Does l Γ mX8_holds d 0 0 [.ref 424, .ref (468 + i)] (zG E e W) F (some (.int (iZ (bI (sHv π σ (W (468 + i) 2) (W (468 + i) 1) (W (468 + i) 3) (W (468 + i) 4) (W (468 + i) 5)))))) (zG E e W) F := by
  intro Q hq
  have n1 := hS.1
  have n0 := wP_n hw
  have hb5 := hE.2.2.2.2
  have hi2 := hh i hi
  have tb := wC_n hc
  obtain ⟨g, hg⟩ : ∃ z, W (468 + i) 2 = z := ⟨_, rfl⟩
  obtain ⟨pp, hpp⟩ : ∃ z : Nat, W (468 + i) 3 = (z : Int) := ⟨(W (468 + i) 3).toNat, by omega⟩
  obtain ⟨ww, hww⟩ : ∃ z : Nat, W (468 + i) 4 = (z : Int) := ⟨(W (468 + i) 4).toNat, by omega⟩
  obtain ⟨mm, hmm⟩ : ∃ z : Nat, W (468 + i) 5 = (z : Int) := ⟨(W (468 + i) 5).toNat, by omega⟩
  rw [hg, hpp, hww, hmm] at hi2 hq
  have h3 := hS.2.2.2.2.2 mm (by omega)
  have hM := wC_m hc (k := mm) (by omega)
  unfold wM at hM
  have e9 : sHv π σ g 2 (pp : Int) (ww : Int) (mm : Int) = sPass π σ ww (σ 0 1) := rfl
  rw [hk, e9] at hq
  refine gz_aload_n dX8_holds_0 rfl ?_
  refine zz_iconst dX8_holds_1 ?_
  refine gg_iald hE 4 2 (j := i) (v := g) dX8_holds_2 (by decide) rfl (by omega) rfl (by decide) hg ?_
  refine gz_istore_n dX8_holds_3 (Nat.le_of_ble_eq_true rfl) rfl ?_
  refine gz_aload_n dX8_holds_4 rfl ?_
  refine gz_getf (M := zG E e W) 6 dX8_holds_5 hE.1 rfl wf_HeliographsLaw_Sim_25 (by decide) rfl ?_
  refine gz_aload_n dX8_holds_8 rfl ?_
  refine zz_iconst dX8_holds_9 ?_
  refine gg_iald hE 4 5 (j := i) (v := (mm : Int)) dX8_holds_10 (by decide) rfl (by omega) rfl (by decide) hmm ?_
  refine gg_aald hE 3 (j := mm) dX8_holds_11 (by decide) rfl rfl (by omega) ?_
  refine gz_astore_n dX8_holds_12 (Nat.le_of_ble_eq_true rfl) rfl ?_
  refine gz_aload_n dX8_holds_13 rfl ?_
  refine zz_iconst dX8_holds_14 ?_
  refine gg_iald hE 4 1 (j := i) (v := 2) dX8_holds_15 (by decide) rfl (by omega) rfl (by decide) hk ?_
  refine zz_tsw (tgt := 94) dX8_holds_16 (by omega) (by decide) (by decide) rfl rfl ?_
  refine gz_aload_n dX8_holds_94 rfl ?_
  refine gz_aload_n dX8_holds_95 rfl ?_
  refine zz_iconst dX8_holds_96 ?_
  refine gg_iald hE 4 4 (j := i) (v := (ww : Int)) dX8_holds_97 (by decide) rfl (by omega) rfl (by decide) hww ?_
  refine gv_1 (J := mX8_isOpen_) (d1 := d - 1) dX8_holds_98 wm_HeliographsLaw_Sim_42 hE.1 jzX8_isOpen_ (Nat.le_of_ble_eq_true rfl) (Nat.le_of_ble_eq_true rfl) (by omega) ⟨Nat.le_refl _, Nat.le_refl _⟩ (zS_isOpen1 hE hS hw (by omega) ⟨by omega, by omega⟩ tb.2.1 (by omega)) ?_
  refine gz_ireturn dX8_holds_101 rfl (bI_nar _) ?_
  (first | exact hq | (rw [bI_t (by simp only [decide_eq_true_eq, Bool.or_eq_true, Bool.and_eq_true]; omega)] at hq; exact hq) | (rw [bI_f (by simp only [decide_eq_true_eq, Bool.or_eq_true, Bool.and_eq_true]; omega)] at hq; exact hq))
theorem zS_holds_3 {E : Nat → Nat × Nat} {e : Nat} {c : Nat → Nat} {W π σ : zV} (hE : zE E e c) (hS : sm c W π σ) (hw : wP π) (hh : hRow c W) {N : Int} (hc : wC π σ N) (hN : N ≤ 90000) {i : Nat} (hi : i < c 4) (hk : W (468 + i) 1 = 3) (hd : 4 ≤ d) : zk_Does l Γ mX8_holds d 0 0 [.ref 424, .ref (468 + i)] (zG E e W) F (some (.int (iZ (bI (sHv π σ (W (468 + i) 2) (W (468 + i) 1) (W (468 + i) 3) (W (468 + i) 4) (W (468 + i) 5)))))) (zG E e W) F := by
  intro Q hq
  have n1 := hS.1
  have n0 := wP_n hw
  have hb5 := hE.2.2.2.2
  have hi2 := hh i hi
  have tb := wC_n hc
  obtain ⟨g, hg⟩ : ∃ z, W (468 + i) 2 = z := ⟨_, rfl⟩
  obtain ⟨pp, hpp⟩ : ∃ z : Nat, W (468 + i) 3 = (z : Int) := ⟨(W (468 + i) 3).toNat, by omega⟩
  obtain ⟨ww, hww⟩ : ∃ z : Nat, W (468 + i) 4 = (z : Int) := ⟨(W (468 + i) 4).toNat, by omega⟩
  obtain ⟨mm, hmm⟩ : ∃ z : Nat, W (468 + i) 5 = (z : Int) := ⟨(W (468 + i) 5).toNat, by omega⟩
  rw [hg, hpp, hww, hmm] at hi2 hq
  have h3 := hS.2.2.2.2.2 mm (by omega)
  have hM := wC_m hc (k := mm) (by omega)
  unfold wM at hM
  have e9 : sHv π σ g 3 (pp : Int) (ww : Int) (mm : Int) = (!sPass π σ ww (σ 0 1) || decide (σ 4 mm = 1)) := rfl
  rw [hk, e9] at hq
  refine gz_aload_n dX8_holds_0 rfl ?_
  refine zz_iconst dX8_holds_1 ?_
  refine gg_iald hE 4 2 (j := i) (v := g) dX8_holds_2 (by decide) rfl (by omega) rfl (by decide) hg ?_
  refine gz_istore_n dX8_holds_3 (Nat.le_of_ble_eq_true rfl) rfl ?_
  refine gz_aload_n dX8_holds_4 rfl ?_
  refine gz_getf (M := zG E e W) 6 dX8_holds_5 hE.1 rfl wf_HeliographsLaw_Sim_25 (by decide) rfl ?_
  refine gz_aload_n dX8_holds_8 rfl ?_
  refine zz_iconst dX8_holds_9 ?_
  refine gg_iald hE 4 5 (j := i) (v := (mm : Int)) dX8_holds_10 (by decide) rfl (by omega) rfl (by decide) hmm ?_
  refine gg_aald hE 3 (j := mm) dX8_holds_11 (by decide) rfl rfl (by omega) ?_
  refine gz_astore_n dX8_holds_12 (Nat.le_of_ble_eq_true rfl) rfl ?_
  refine gz_aload_n dX8_holds_13 rfl ?_
  refine zz_iconst dX8_holds_14 ?_
  refine gg_iald hE 4 1 (j := i) (v := 3) dX8_holds_15 (by decide) rfl (by omega) rfl (by decide) hk ?_
  refine zz_tsw (tgt := 102) dX8_holds_16 (by omega) (by decide) (by decide) rfl rfl ?_
  refine gz_aload_n dX8_holds_102 rfl ?_
  refine gz_aload_n dX8_holds_103 rfl ?_
  refine zz_iconst dX8_holds_104 ?_
  refine gg_iald hE 4 4 (j := i) (v := (ww : Int)) dX8_holds_105 (by decide) rfl (by omega) rfl (by decide) hww ?_
  refine gv_1 (J := mX8_isOpen_) (d1 := d - 1) dX8_holds_106 wm_HeliographsLaw_Sim_42 hE.1 jzX8_isOpen_ (Nat.le_of_ble_eq_true rfl) (Nat.le_of_ble_eq_true rfl) (by omega) ⟨Nat.le_refl _, Nat.le_refl _⟩ (zS_isOpen1 hE hS hw (by omega) ⟨by omega, by omega⟩ tb.2.1 (by omega)) ?_
  refine zz_if_eqB (tgt := 119) dX8_holds_109 rfl (fun b109 => ?_) (fun b109 => ?_)
  ·
    refine zz_iconst dX8_holds_119 ?_
    refine gz_goto (tgt := 124) dX8_holds_120 rfl ?_
    refine gz_ireturn dX8_holds_124 rfl rfl ?_
    first | (rw [b109] at hq; simp only [Bool.not_true, Bool.false_or] at hq; (first | exact hq | (rw [bI_t (by simp only [decide_eq_true_eq, Bool.or_eq_true, Bool.and_eq_true]; omega)] at hq; exact hq) | (rw [bI_f (by simp only [decide_eq_true_eq, Bool.or_eq_true, Bool.and_eq_true]; omega)] at hq; exact hq))) | (rw [Bool.eq_false_iff.mpr b109] at hq; exact hq)
  ·
    refine gz_aload_n dX8_holds_112 rfl ?_
    refine zz_iconst dX8_holds_113 ?_
    refine gg_iald hE 3 4 (j := mm) (v := σ 4 mm) dX8_holds_114 (by decide) rfl (by omega) rfl (by decide) h3.2.2.2.2.1 ?_
    refine zz_iconst dX8_holds_115 ?_
    refine zz_icmp_ne (tgt := 123) dX8_holds_116 rfl (by omega) (fun b116 => ?_) (fun b116 => ?_)
    ·
      refine zz_iconst dX8_holds_123 ?_
      refine gz_ireturn dX8_holds_124 rfl rfl ?_
      first | (rw [b109] at hq; simp only [Bool.not_true, Bool.false_or] at hq; (first | exact hq | (rw [bI_t (by simp only [decide_eq_true_eq, Bool.or_eq_true, Bool.and_eq_true]; omega)] at hq; exact hq) | (rw [bI_f (by simp only [decide_eq_true_eq, Bool.or_eq_true, Bool.and_eq_true]; omega)] at hq; exact hq))) | (rw [Bool.eq_false_iff.mpr b109] at hq; exact hq)
    ·
      refine zz_iconst dX8_holds_119 ?_
      refine gz_goto (tgt := 124) dX8_holds_120 rfl ?_
      refine gz_ireturn dX8_holds_124 rfl rfl ?_
      first | (rw [b109] at hq; simp only [Bool.not_true, Bool.false_or] at hq; (first | exact hq | (rw [bI_t (by simp only [decide_eq_true_eq, Bool.or_eq_true, Bool.and_eq_true]; omega)] at hq; exact hq) | (rw [bI_f (by simp only [decide_eq_true_eq, Bool.or_eq_true, Bool.and_eq_true]; omega)] at hq; exact hq))) | (rw [Bool.eq_false_iff.mpr b109] at hq; exact hq)
theorem zS_holds_4 {E : Nat → Nat × Nat} {e : Nat} {c : Nat → Nat} {W π σ : zV} (hE : zE E e c) (hS : sm c W π σ) (hw : wP π) (hh : hRow c W) {N : Int} (hc : wC π σ N) (hN : N ≤ 90000) {i : Nat} (hi : i < c 4) (hk : W (468 + i) 1 = 4) (hd : 4 ≤ d) : zk_Does l Γ mX8_holds d 0 0 [.ref 424, .ref (468 + i)] (zG E e W) F (some (.int (iZ (bI (sHv π σ (W (468 + i) 2) (W (468 + i) 1) (W (468 + i) 3) (W (468 + i) 4) (W (468 + i) 5)))))) (zG E e W) F := by
  intro Q hq
  have n1 := hS.1
  have n0 := wP_n hw
  have hb5 := hE.2.2.2.2
  have hi2 := hh i hi
  have tb := wC_n hc
  obtain ⟨g, hg⟩ : ∃ z, W (468 + i) 2 = z := ⟨_, rfl⟩
  obtain ⟨pp, hpp⟩ : ∃ z : Nat, W (468 + i) 3 = (z : Int) := ⟨(W (468 + i) 3).toNat, by omega⟩
  obtain ⟨ww, hww⟩ : ∃ z : Nat, W (468 + i) 4 = (z : Int) := ⟨(W (468 + i) 4).toNat, by omega⟩
  obtain ⟨mm, hmm⟩ : ∃ z : Nat, W (468 + i) 5 = (z : Int) := ⟨(W (468 + i) 5).toNat, by omega⟩
  rw [hg, hpp, hww, hmm] at hi2 hq
  have h3 := hS.2.2.2.2.2 mm (by omega)
  have hM := wC_m hc (k := mm) (by omega)
  unfold wM at hM
  have e9 : sHv π σ g 4 (pp : Int) (ww : Int) (mm : Int) = decide (g ≤ σ 5 mm * 2) := rfl
  rw [hk, e9] at hq
  refine gz_aload_n dX8_holds_0 rfl ?_
  refine zz_iconst dX8_holds_1 ?_
  refine gg_iald hE 4 2 (j := i) (v := g) dX8_holds_2 (by decide) rfl (by omega) rfl (by decide) hg ?_
  refine gz_istore_n dX8_holds_3 (Nat.le_of_ble_eq_true rfl) rfl ?_
  refine gz_aload_n dX8_holds_4 rfl ?_
  refine gz_getf (M := zG E e W) 6 dX8_holds_5 hE.1 rfl wf_HeliographsLaw_Sim_25 (by decide) rfl ?_
  refine gz_aload_n dX8_holds_8 rfl ?_
  refine zz_iconst dX8_holds_9 ?_
  refine gg_iald hE 4 5 (j := i) (v := (mm : Int)) dX8_holds_10 (by decide) rfl (by omega) rfl (by decide) hmm ?_
  refine gg_aald hE 3 (j := mm) dX8_holds_11 (by decide) rfl rfl (by omega) ?_
  refine gz_astore_n dX8_holds_12 (Nat.le_of_ble_eq_true rfl) rfl ?_
  refine gz_aload_n dX8_holds_13 rfl ?_
  refine zz_iconst dX8_holds_14 ?_
  refine gg_iald hE 4 1 (j := i) (v := 4) dX8_holds_15 (by decide) rfl (by omega) rfl (by decide) hk ?_
  refine zz_tsw (tgt := 125) dX8_holds_16 (by omega) (by decide) (by decide) rfl rfl ?_
  refine gz_aload_n dX8_holds_125 rfl ?_
  refine zz_bipush (x := 6) dX8_holds_126 rfl ?_
  refine gg_iald hE 3 6 (j := mm) (v := σ 5 mm) dX8_holds_128 (by decide) rfl (by omega) rfl (by decide) h3.2.2.2.2.2.2.1 ?_
  refine zz_iconst dX8_holds_129 ?_
  refine zz_imul dX8_holds_130 ?_
  refine gz_iload_n dX8_holds_131 rfl ?_
  refine zz_icmp_lt (tgt := 139) dX8_holds_132 rfl (by omega) (fun b132 => ?_) (fun b132 => ?_)
  ·
    refine zz_iconst dX8_holds_139 ?_
    refine gz_ireturn dX8_holds_140 rfl rfl ?_
    (first | exact hq | (rw [bI_t (by simp only [decide_eq_true_eq, Bool.or_eq_true, Bool.and_eq_true]; omega)] at hq; exact hq) | (rw [bI_f (by simp only [decide_eq_true_eq, Bool.or_eq_true, Bool.and_eq_true]; omega)] at hq; exact hq))
  ·
    refine zz_iconst dX8_holds_135 ?_
    refine gz_goto (tgt := 140) dX8_holds_136 rfl ?_
    refine gz_ireturn dX8_holds_140 rfl rfl ?_
    (first | exact hq | (rw [bI_t (by simp only [decide_eq_true_eq, Bool.or_eq_true, Bool.and_eq_true]; omega)] at hq; exact hq) | (rw [bI_f (by simp only [decide_eq_true_eq, Bool.or_eq_true, Bool.and_eq_true]; omega)] at hq; exact hq))
theorem zS_holds_5 {E : Nat → Nat × Nat} {e : Nat} {c : Nat → Nat} {W π σ : zV} (hE : zE E e c) (hS : sm c W π σ) (hw : wP π) (hh : hRow c W) {N : Int} (hc : wC π σ N) (hN : N ≤ 90000) {i : Nat} (hi : i < c 4) (hk : W (468 + i) 1 = 5) (hd : 4 ≤ d) : zk_Does l Γ mX8_holds d 0 0 [.ref 424, .ref (468 + i)] (zG E e W) F (some (.int (iZ (bI (sHv π σ (W (468 + i) 2) (W (468 + i) 1) (W (468 + i) 3) (W (468 + i) 4) (W (468 + i) 5)))))) (zG E e W) F := by
  intro Q hq
  have n1 := hS.1
  have n0 := wP_n hw
  have hb5 := hE.2.2.2.2
  have hi2 := hh i hi
  have tb := wC_n hc
  obtain ⟨g, hg⟩ : ∃ z, W (468 + i) 2 = z := ⟨_, rfl⟩
  obtain ⟨pp, hpp⟩ : ∃ z : Nat, W (468 + i) 3 = (z : Int) := ⟨(W (468 + i) 3).toNat, by omega⟩
  obtain ⟨ww, hww⟩ : ∃ z : Nat, W (468 + i) 4 = (z : Int) := ⟨(W (468 + i) 4).toNat, by omega⟩
  obtain ⟨mm, hmm⟩ : ∃ z : Nat, W (468 + i) 5 = (z : Int) := ⟨(W (468 + i) 5).toNat, by omega⟩
  rw [hg, hpp, hww, hmm] at hi2 hq
  have h3 := hS.2.2.2.2.2 mm (by omega)
  have hM := wC_m hc (k := mm) (by omega)
  unfold wM at hM
  have e9 : sHv π σ g 5 (pp : Int) (ww : Int) (mm : Int) = ((decide (σ 8 mm < g / 30) && decide (g / 2 < σ 0 1 % 120)) || decide (σ 0 1 % 2 = 0)) := rfl
  rw [hk, e9] at hq
  refine gz_aload_n dX8_holds_0 rfl ?_
  refine zz_iconst dX8_holds_1 ?_
  refine gg_iald hE 4 2 (j := i) (v := g) dX8_holds_2 (by decide) rfl (by omega) rfl (by decide) hg ?_
  refine gz_istore_n dX8_holds_3 (Nat.le_of_ble_eq_true rfl) rfl ?_
  refine gz_aload_n dX8_holds_4 rfl ?_
  refine gz_getf (M := zG E e W) 6 dX8_holds_5 hE.1 rfl wf_HeliographsLaw_Sim_25 (by decide) rfl ?_
  refine gz_aload_n dX8_holds_8 rfl ?_
  refine zz_iconst dX8_holds_9 ?_
  refine gg_iald hE 4 5 (j := i) (v := (mm : Int)) dX8_holds_10 (by decide) rfl (by omega) rfl (by decide) hmm ?_
  refine gg_aald hE 3 (j := mm) dX8_holds_11 (by decide) rfl rfl (by omega) ?_
  refine gz_astore_n dX8_holds_12 (Nat.le_of_ble_eq_true rfl) rfl ?_
  refine gz_aload_n dX8_holds_13 rfl ?_
  refine zz_iconst dX8_holds_14 ?_
  refine gg_iald hE 4 1 (j := i) (v := 5) dX8_holds_15 (by decide) rfl (by omega) rfl (by decide) hk ?_
  refine zz_tsw (tgt := 141) dX8_holds_16 (by omega) (by decide) (by decide) rfl rfl ?_
  refine gz_aload_n dX8_holds_141 rfl ?_
  refine zz_bipush (x := 7) dX8_holds_142 rfl ?_
  refine gg_iald hE 3 7 (j := mm) (v := σ 8 mm) dX8_holds_144 (by decide) rfl (by omega) rfl (by decide) h3.2.2.2.2.2.2.2.1 ?_
  refine gz_iload_n dX8_holds_145 rfl ?_
  refine zz_bipush (x := 30) dX8_holds_146 rfl ?_
  refine zz_idiv dX8_holds_148 (by omega) ?_
  refine zz_icmp_ge (tgt := 165) dX8_holds_149 rfl (by omega) (fun b149 => ?_) (fun b149 => ?_)
  ·
    refine gz_aload_n dX8_holds_165 rfl ?_
    refine gz_getf (M := zG E e W) (v := .int (iZ (σ 0 1))) 0 dX8_holds_166 hE.1 rfl wf_HeliographsLaw_Sim_35 (by decide) (congrArg (fun z => Value.int (iZ z)) hS.2.1.1) ?_
    refine zz_iconst dX8_holds_169 ?_
    refine zz_irem dX8_holds_170 (by omega) ?_
    refine zz_if_ne (tgt := 178) dX8_holds_171 rfl (by omega) (fun b171 => ?_) (fun b171 => ?_)
    ·
      refine zz_iconst dX8_holds_178 ?_
      refine gz_ireturn dX8_holds_179 rfl rfl ?_
      (first | exact hq | (rw [bI_t (by simp only [decide_eq_true_eq, Bool.or_eq_true, Bool.and_eq_true]; omega)] at hq; exact hq) | (rw [bI_f (by simp only [decide_eq_true_eq, Bool.or_eq_true, Bool.and_eq_true]; omega)] at hq; exact hq))
    ·
      refine zz_iconst dX8_holds_174 ?_
      refine gz_goto (tgt := 179) dX8_holds_175 rfl ?_
      refine gz_ireturn dX8_holds_179 rfl rfl ?_
      (first | exact hq | (rw [bI_t (by simp only [decide_eq_true_eq, Bool.or_eq_true, Bool.and_eq_true]; omega)] at hq; exact hq) | (rw [bI_f (by simp only [decide_eq_true_eq, Bool.or_eq_true, Bool.and_eq_true]; omega)] at hq; exact hq))
  ·
    refine gz_aload_n dX8_holds_152 rfl ?_
    refine gz_getf (M := zG E e W) (v := .int (iZ (σ 0 1))) 0 dX8_holds_153 hE.1 rfl wf_HeliographsLaw_Sim_35 (by decide) (congrArg (fun z => Value.int (iZ z)) hS.2.1.1) ?_
    refine zz_bipush (x := 120) dX8_holds_156 rfl ?_
    refine zz_irem dX8_holds_158 (by omega) ?_
    refine gz_iload_n dX8_holds_159 rfl ?_
    refine zz_iconst dX8_holds_160 ?_
    refine zz_idiv dX8_holds_161 (by omega) ?_
    refine zz_icmp_gt (tgt := 174) dX8_holds_162 rfl (by omega) (fun b162 => ?_) (fun b162 => ?_)
    ·
      refine zz_iconst dX8_holds_174 ?_
      refine gz_goto (tgt := 179) dX8_holds_175 rfl ?_
      refine gz_ireturn dX8_holds_179 rfl rfl ?_
      (first | exact hq | (rw [bI_t (by simp only [decide_eq_true_eq, Bool.or_eq_true, Bool.and_eq_true]; omega)] at hq; exact hq) | (rw [bI_f (by simp only [decide_eq_true_eq, Bool.or_eq_true, Bool.and_eq_true]; omega)] at hq; exact hq))
    ·
      refine gz_aload_n dX8_holds_165 rfl ?_
      refine gz_getf (M := zG E e W) (v := .int (iZ (σ 0 1))) 0 dX8_holds_166 hE.1 rfl wf_HeliographsLaw_Sim_35 (by decide) (congrArg (fun z => Value.int (iZ z)) hS.2.1.1) ?_
      refine zz_iconst dX8_holds_169 ?_
      refine zz_irem dX8_holds_170 (by omega) ?_
      refine zz_if_ne (tgt := 178) dX8_holds_171 rfl (by omega) (fun b171 => ?_) (fun b171 => ?_)
      ·
        refine zz_iconst dX8_holds_178 ?_
        refine gz_ireturn dX8_holds_179 rfl rfl ?_
        (first | exact hq | (rw [bI_t (by simp only [decide_eq_true_eq, Bool.or_eq_true, Bool.and_eq_true]; omega)] at hq; exact hq) | (rw [bI_f (by simp only [decide_eq_true_eq, Bool.or_eq_true, Bool.and_eq_true]; omega)] at hq; exact hq))
      ·
        refine zz_iconst dX8_holds_174 ?_
        refine gz_goto (tgt := 179) dX8_holds_175 rfl ?_
        refine gz_ireturn dX8_holds_179 rfl rfl ?_
        (first | exact hq | (rw [bI_t (by simp only [decide_eq_true_eq, Bool.or_eq_true, Bool.and_eq_true]; omega)] at hq; exact hq) | (rw [bI_f (by simp only [decide_eq_true_eq, Bool.or_eq_true, Bool.and_eq_true]; omega)] at hq; exact hq))
theorem zS_holds_6 {E : Nat → Nat × Nat} {e : Nat} {c : Nat → Nat} {W π σ : zV} (hE : zE E e c) (hS : sm c W π σ) (hw : wP π) (hh : hRow c W) {N : Int} (hc : wC π σ N) (hN : N ≤ 90000) {i : Nat} (hi : i < c 4) (hk : W (468 + i) 1 = 6) (hd : 4 ≤ d) : zk_Does l Γ mX8_holds d 0 0 [.ref 424, .ref (468 + i)] (zG E e W) F (some (.int (iZ (bI (sHv π σ (W (468 + i) 2) (W (468 + i) 1) (W (468 + i) 3) (W (468 + i) 4) (W (468 + i) 5)))))) (zG E e W) F := by
  intro Q hq
  have n1 := hS.1
  have n0 := wP_n hw
  have hb5 := hE.2.2.2.2
  have hi2 := hh i hi
  have tb := wC_n hc
  obtain ⟨g, hg⟩ : ∃ z, W (468 + i) 2 = z := ⟨_, rfl⟩
  obtain ⟨pp, hpp⟩ : ∃ z : Nat, W (468 + i) 3 = (z : Int) := ⟨(W (468 + i) 3).toNat, by omega⟩
  obtain ⟨ww, hww⟩ : ∃ z : Nat, W (468 + i) 4 = (z : Int) := ⟨(W (468 + i) 4).toNat, by omega⟩
  obtain ⟨mm, hmm⟩ : ∃ z : Nat, W (468 + i) 5 = (z : Int) := ⟨(W (468 + i) 5).toNat, by omega⟩
  rw [hg, hpp, hww, hmm] at hi2 hq
  have h3 := hS.2.2.2.2.2 mm (by omega)
  have hM := wC_m hc (k := mm) (by omega)
  unfold wM at hM
  have e9 : sHv π σ g 6 (pp : Int) (ww : Int) (mm : Int) = decide (σ 4 mm = 1) := rfl
  rw [hk, e9] at hq
  refine gz_aload_n dX8_holds_0 rfl ?_
  refine zz_iconst dX8_holds_1 ?_
  refine gg_iald hE 4 2 (j := i) (v := g) dX8_holds_2 (by decide) rfl (by omega) rfl (by decide) hg ?_
  refine gz_istore_n dX8_holds_3 (Nat.le_of_ble_eq_true rfl) rfl ?_
  refine gz_aload_n dX8_holds_4 rfl ?_
  refine gz_getf (M := zG E e W) 6 dX8_holds_5 hE.1 rfl wf_HeliographsLaw_Sim_25 (by decide) rfl ?_
  refine gz_aload_n dX8_holds_8 rfl ?_
  refine zz_iconst dX8_holds_9 ?_
  refine gg_iald hE 4 5 (j := i) (v := (mm : Int)) dX8_holds_10 (by decide) rfl (by omega) rfl (by decide) hmm ?_
  refine gg_aald hE 3 (j := mm) dX8_holds_11 (by decide) rfl rfl (by omega) ?_
  refine gz_astore_n dX8_holds_12 (Nat.le_of_ble_eq_true rfl) rfl ?_
  refine gz_aload_n dX8_holds_13 rfl ?_
  refine zz_iconst dX8_holds_14 ?_
  refine gg_iald hE 4 1 (j := i) (v := 6) dX8_holds_15 (by decide) rfl (by omega) rfl (by decide) hk ?_
  refine zz_tsw (tgt := 180) dX8_holds_16 (by omega) (by decide) (by decide) rfl rfl ?_
  refine gz_aload_n dX8_holds_180 rfl ?_
  refine zz_iconst dX8_holds_181 ?_
  refine gg_iald hE 3 4 (j := mm) (v := σ 4 mm) dX8_holds_182 (by decide) rfl (by omega) rfl (by decide) h3.2.2.2.2.1 ?_
  refine zz_iconst dX8_holds_183 ?_
  refine zz_icmp_ne (tgt := 191) dX8_holds_184 rfl (by omega) (fun b184 => ?_) (fun b184 => ?_)
  ·
    refine zz_iconst dX8_holds_191 ?_
    refine gz_ireturn dX8_holds_192 rfl rfl ?_
    (first | exact hq | (rw [bI_t (by simp only [decide_eq_true_eq, Bool.or_eq_true, Bool.and_eq_true]; omega)] at hq; exact hq) | (rw [bI_f (by simp only [decide_eq_true_eq, Bool.or_eq_true, Bool.and_eq_true]; omega)] at hq; exact hq))
  ·
    refine zz_iconst dX8_holds_187 ?_
    refine gz_goto (tgt := 192) dX8_holds_188 rfl ?_
    refine gz_ireturn dX8_holds_192 rfl rfl ?_
    (first | exact hq | (rw [bI_t (by simp only [decide_eq_true_eq, Bool.or_eq_true, Bool.and_eq_true]; omega)] at hq; exact hq) | (rw [bI_f (by simp only [decide_eq_true_eq, Bool.or_eq_true, Bool.and_eq_true]; omega)] at hq; exact hq))
theorem zS_holds_7 {E : Nat → Nat × Nat} {e : Nat} {c : Nat → Nat} {W π σ : zV} (hE : zE E e c) (hS : sm c W π σ) (hw : wP π) (hh : hRow c W) {N : Int} (hc : wC π σ N) (hN : N ≤ 90000) {i : Nat} (hi : i < c 4) (hk : W (468 + i) 1 = 7) (hd : 4 ≤ d) : zk_Does l Γ mX8_holds d 0 0 [.ref 424, .ref (468 + i)] (zG E e W) F (some (.int (iZ (bI (sHv π σ (W (468 + i) 2) (W (468 + i) 1) (W (468 + i) 3) (W (468 + i) 4) (W (468 + i) 5)))))) (zG E e W) F := by
  intro Q hq
  have n1 := hS.1
  have n0 := wP_n hw
  have hb5 := hE.2.2.2.2
  have hi2 := hh i hi
  have tb := wC_n hc
  obtain ⟨g, hg⟩ : ∃ z, W (468 + i) 2 = z := ⟨_, rfl⟩
  obtain ⟨pp, hpp⟩ : ∃ z : Nat, W (468 + i) 3 = (z : Int) := ⟨(W (468 + i) 3).toNat, by omega⟩
  obtain ⟨ww, hww⟩ : ∃ z : Nat, W (468 + i) 4 = (z : Int) := ⟨(W (468 + i) 4).toNat, by omega⟩
  obtain ⟨mm, hmm⟩ : ∃ z : Nat, W (468 + i) 5 = (z : Int) := ⟨(W (468 + i) 5).toNat, by omega⟩
  rw [hg, hpp, hww, hmm] at hi2 hq
  have h3 := hS.2.2.2.2.2 mm (by omega)
  have hM := wC_m hc (k := mm) (by omega)
  unfold wM at hM
  have e9 : sHv π σ g 7 (pp : Int) (ww : Int) (mm : Int) = decide (g % 2 = 0) := rfl
  rw [hk, e9] at hq
  refine gz_aload_n dX8_holds_0 rfl ?_
  refine zz_iconst dX8_holds_1 ?_
  refine gg_iald hE 4 2 (j := i) (v := g) dX8_holds_2 (by decide) rfl (by omega) rfl (by decide) hg ?_
  refine gz_istore_n dX8_holds_3 (Nat.le_of_ble_eq_true rfl) rfl ?_
  refine gz_aload_n dX8_holds_4 rfl ?_
  refine gz_getf (M := zG E e W) 6 dX8_holds_5 hE.1 rfl wf_HeliographsLaw_Sim_25 (by decide) rfl ?_
  refine gz_aload_n dX8_holds_8 rfl ?_
  refine zz_iconst dX8_holds_9 ?_
  refine gg_iald hE 4 5 (j := i) (v := (mm : Int)) dX8_holds_10 (by decide) rfl (by omega) rfl (by decide) hmm ?_
  refine gg_aald hE 3 (j := mm) dX8_holds_11 (by decide) rfl rfl (by omega) ?_
  refine gz_astore_n dX8_holds_12 (Nat.le_of_ble_eq_true rfl) rfl ?_
  refine gz_aload_n dX8_holds_13 rfl ?_
  refine zz_iconst dX8_holds_14 ?_
  refine gg_iald hE 4 1 (j := i) (v := 7) dX8_holds_15 (by decide) rfl (by omega) rfl (by decide) hk ?_
  refine zz_tswD (tgt := 193) dX8_holds_16 (by omega) (by decide) rfl ?_
  refine gz_iload_n dX8_holds_193 rfl ?_
  refine zz_iconst dX8_holds_194 ?_
  refine zz_irem dX8_holds_195 (by omega) ?_
  refine zz_if_ne (tgt := 203) dX8_holds_196 rfl (by omega) (fun b196 => ?_) (fun b196 => ?_)
  ·
    refine zz_iconst dX8_holds_203 ?_
    refine gz_ireturn dX8_holds_204 rfl rfl ?_
    (first | exact hq | (rw [bI_t (by simp only [decide_eq_true_eq, Bool.or_eq_true, Bool.and_eq_true]; omega)] at hq; exact hq) | (rw [bI_f (by simp only [decide_eq_true_eq, Bool.or_eq_true, Bool.and_eq_true]; omega)] at hq; exact hq))
  ·
    refine zz_iconst dX8_holds_199 ?_
    refine gz_goto (tgt := 204) dX8_holds_200 rfl ?_
    refine gz_ireturn dX8_holds_204 rfl rfl ?_
    (first | exact hq | (rw [bI_t (by simp only [decide_eq_true_eq, Bool.or_eq_true, Bool.and_eq_true]; omega)] at hq; exact hq) | (rw [bI_f (by simp only [decide_eq_true_eq, Bool.or_eq_true, Bool.and_eq_true]; omega)] at hq; exact hq))
theorem zS_holds {E : Nat → Nat × Nat} {e : Nat} {c : Nat → Nat} {W π σ : zV} (hE : zE E e c) (hS : sm c W π σ) (hw : wP π) (hh : hRow c W) {N : Int} (hc : wC π σ N) (hN : N ≤ 90000) {i : Nat} (hi : i < c 4) (hd : 4 ≤ d) : zk_Does l Γ mX8_holds d 0 0 [.ref 424, .ref (468 + i)] (zG E e W) F (some (.int (iZ (bI (sHv π σ (W (468 + i) 2) (W (468 + i) 1) (W (468 + i) 3) (W (468 + i) 4) (W (468 + i) 5)))))) (zG E e W) F := by
  have hi2 := (hh i hi).2.1
  rcases (show W (468 + i) 1 = 0 ∨ W (468 + i) 1 = 1 ∨ W (468 + i) 1 = 2 ∨ W (468 + i) 1 = 3 ∨ W (468 + i) 1 = 4 ∨ W (468 + i) 1 = 5 ∨ W (468 + i) 1 = 6 ∨ W (468 + i) 1 = 7 by omega) with h | h | h | h | h | h | h | h
  · exact zS_holds_0 hE hS hw hh hc hN hi h hd
  · exact zS_holds_1 hE hS hw hh hc hN hi h hd
  · exact zS_holds_2 hE hS hw hh hc hN hi h hd
  · exact zS_holds_3 hE hS hw hh hc hN hi h hd
  · exact zS_holds_4 hE hS hw hh hc hN hi h hd
  · exact zS_holds_5 hE hS hw hh hc hN hi h hd
  · exact zS_holds_6 hE hS hw hh hc hN hi h hd
  · exact zS_holds_7 hE hS hw hh hc hN hi h hd
theorem bI_or (x y : Bool) : iZ (bI x) ||| iZ (bI y) = iZ (bI (x || y)) := by cases x <;> cases y <;> decide
theorem zS_isHeld_loop {E : Nat → Nat × Nat} {e : Nat} {c : Nat → Nat} {W π σ : zV} (hE : zE E e c) (hS : sm c W π σ) (hw : wP π) (hh : hRow c W) {N : Int} (hc : wC π σ N) (hN : N ≤ 90000) {m : Nat} (hm : m < c 3) (hd : 5 ≤ d) {Q : Option Value → zk_M → (Heap → Prop) → Prop} : ∀ (n i : Nat) (A : Bool) (L6 : Option Value), i + n = c 4 → Q (some (.int (iZ (bI (A || (List.range' i n).any (sHs c W π σ m)))))) (zG E e W) F → zk_Go l Γ mX8_isHeld d 0 0 Q 14 [some (.ref 424), some (.int (iZ (m : Int))), some (.int (iZ (bI A))), some (.ref 429), some (.int (iZ (c 4 : Int))), some (.int (iZ (i : Int))), L6] [] (zG E e W) F := by
  intro n
  induction n with
  | zero =>
    intro i A L6 hi hq
    have hb5 := hE.2.2.2.2
    refine gz_iload dX8_isHeld_14 rfl ?_
    refine gz_iload dX8_isHeld_16 rfl ?_
    refine zz_icmp_ge (tgt := 58) dX8_isHeld_18 rfl (by omega) (fun b18 => ?_) (fun b18 => ?_)
    rotate_left
    · exact absurd b18 (by omega)
    refine gz_iload_n dX8_isHeld_58 rfl ?_
    refine gz_ireturn dX8_isHeld_59 rfl (bI_nar _) ?_
    rw [any_nil, Bool.or_false] at hq
    exact hq
  | succ n ih =>
    intro i A L6 hi hq
    have hb5 := hE.2.2.2.2
    have hi2 := hh i (by omega)
    refine gz_iload dX8_isHeld_14 rfl ?_
    refine gz_iload dX8_isHeld_16 rfl ?_
    refine zz_icmp_ge (tgt := 58) dX8_isHeld_18 rfl (by omega) (fun b18 => ?_) (fun b18 => ?_)
    · exact absurd b18 (by omega)
    refine gz_aload_n dX8_isHeld_21 rfl ?_
    refine gz_iload dX8_isHeld_22 rfl ?_
    refine gg_aald hE 4 (j := i) dX8_isHeld_24 (by decide) rfl rfl (by omega) ?_
    refine gz_astore dX8_isHeld_25 (Nat.le_of_ble_eq_true rfl) rfl ?_
    refine gz_iload_n dX8_isHeld_27 rfl ?_
    refine gz_aload dX8_isHeld_28 rfl ?_
    refine zz_iconst dX8_isHeld_30 ?_
    refine gg_iald hE 4 0 (j := i) (v := W (468 + i) 0) dX8_isHeld_31 (by decide) rfl (by omega) rfl (by decide) rfl ?_
    refine gz_iload_n dX8_isHeld_32 rfl ?_
    refine zz_icmp_ne (tgt := 49) dX8_isHeld_33 rfl (by omega) (fun b33 => ?_) (fun b33 => ?_)
    ·
      refine zz_iconst dX8_isHeld_49 ?_
      refine gz_ior dX8_isHeld_50 ?_
      first
        | rw [show iZ (bI A) ||| iZ 1 = iZ (bI (A || true)) from bI_or A true]
        | rw [show iZ (bI A) ||| iZ 0 = iZ (bI (A || false)) from bI_or A false]
      refine gz_istore_n dX8_isHeld_51 (Nat.le_of_ble_eq_true rfl) rfl ?_
      refine zz_iinc dX8_isHeld_52 rfl rfl ?_
      refine gz_goto (tgt := 14) dX8_isHeld_55 rfl ?_
      first
        | exact ih (i + 1) _ _ (by omega) (by rw [show (List.range' i (n + 1)).any (sHs c W π σ m) = ((sHs c W π σ m) i || (List.range' (i + 1) n).any (sHs c W π σ m)) by rw [List.range'_succ, List.any_cons], ← Bool.or_assoc, show (sHs c W π σ m) i = true by unfold sHs; rw [b42, Bool.and_true, decide_eq_true_eq]; omega] at hq; exact hq)
        | exact ih (i + 1) _ _ (by omega) (by rw [show (List.range' i (n + 1)).any (sHs c W π σ m) = ((sHs c W π σ m) i || (List.range' (i + 1) n).any (sHs c W π σ m)) by rw [List.range'_succ, List.any_cons], ← Bool.or_assoc, show (sHs c W π σ m) i = false by unfold sHs; first | rw [Bool.eq_false_iff.mpr b42, Bool.and_false] | rw [decide_eq_false (by omega), Bool.false_and]] at hq; exact hq)
    ·
      refine gz_aload_n dX8_isHeld_36 rfl ?_
      refine gz_aload dX8_isHeld_37 rfl ?_
      refine gv_1 (J := mX8_holds) (d1 := d - 1) dX8_isHeld_39 wm_HeliographsLaw_Sim_55 hE.1 jzX8_holds (Nat.le_of_ble_eq_true rfl) (Nat.le_of_ble_eq_true rfl) (by omega) ⟨Nat.le_refl _, Nat.le_refl _⟩ (zS_holds hE hS hw hh hc hN (by omega) (by omega)) ?_
      refine zz_if_eqB (tgt := 49) dX8_isHeld_42 rfl (fun b42 => ?_) (fun b42 => ?_)
      ·
        refine zz_iconst dX8_isHeld_49 ?_
        refine gz_ior dX8_isHeld_50 ?_
        first
          | rw [show iZ (bI A) ||| iZ 1 = iZ (bI (A || true)) from bI_or A true]
          | rw [show iZ (bI A) ||| iZ 0 = iZ (bI (A || false)) from bI_or A false]
        refine gz_istore_n dX8_isHeld_51 (Nat.le_of_ble_eq_true rfl) rfl ?_
        refine zz_iinc dX8_isHeld_52 rfl rfl ?_
        refine gz_goto (tgt := 14) dX8_isHeld_55 rfl ?_
        first
          | exact ih (i + 1) _ _ (by omega) (by rw [show (List.range' i (n + 1)).any (sHs c W π σ m) = ((sHs c W π σ m) i || (List.range' (i + 1) n).any (sHs c W π σ m)) by rw [List.range'_succ, List.any_cons], ← Bool.or_assoc, show (sHs c W π σ m) i = true by unfold sHs; rw [b42, Bool.and_true, decide_eq_true_eq]; omega] at hq; exact hq)
          | exact ih (i + 1) _ _ (by omega) (by rw [show (List.range' i (n + 1)).any (sHs c W π σ m) = ((sHs c W π σ m) i || (List.range' (i + 1) n).any (sHs c W π σ m)) by rw [List.range'_succ, List.any_cons], ← Bool.or_assoc, show (sHs c W π σ m) i = false by unfold sHs; first | rw [Bool.eq_false_iff.mpr b42, Bool.and_false] | rw [decide_eq_false (by omega), Bool.false_and]] at hq; exact hq)
      ·
        refine zz_iconst dX8_isHeld_45 ?_
        refine gz_goto (tgt := 50) dX8_isHeld_46 rfl ?_
        refine gz_ior dX8_isHeld_50 ?_
        first
          | rw [show iZ (bI A) ||| iZ 1 = iZ (bI (A || true)) from bI_or A true]
          | rw [show iZ (bI A) ||| iZ 0 = iZ (bI (A || false)) from bI_or A false]
        refine gz_istore_n dX8_isHeld_51 (Nat.le_of_ble_eq_true rfl) rfl ?_
        refine zz_iinc dX8_isHeld_52 rfl rfl ?_
        refine gz_goto (tgt := 14) dX8_isHeld_55 rfl ?_
        first
          | exact ih (i + 1) _ _ (by omega) (by rw [show (List.range' i (n + 1)).any (sHs c W π σ m) = ((sHs c W π σ m) i || (List.range' (i + 1) n).any (sHs c W π σ m)) by rw [List.range'_succ, List.any_cons], ← Bool.or_assoc, show (sHs c W π σ m) i = true by unfold sHs; rw [b42, Bool.and_true, decide_eq_true_eq]; omega] at hq; exact hq)
          | exact ih (i + 1) _ _ (by omega) (by rw [show (List.range' i (n + 1)).any (sHs c W π σ m) = ((sHs c W π σ m) i || (List.range' (i + 1) n).any (sHs c W π σ m)) by rw [List.range'_succ, List.any_cons], ← Bool.or_assoc, show (sHs c W π σ m) i = false by unfold sHs; first | rw [Bool.eq_false_iff.mpr b42, Bool.and_false] | rw [decide_eq_false (by omega), Bool.false_and]] at hq; exact hq)
theorem zS_isHeld {E : Nat → Nat × Nat} {e : Nat} {c : Nat → Nat} {W π σ : zV} (hE : zE E e c) (hS : sm c W π σ) (hw : wP π) (hh : hRow c W) {N : Int} (hc : wC π σ N) (hN : N ≤ 90000) {m : Nat} (hm : m < c 3) (hd : 5 ≤ d) : zk_Does l Γ mX8_isHeld d 0 0 [.ref 424, .int (iZ (m : Int))] (zG E e W) F (some (.int (iZ (bI ((List.range' 0 (c 4)).any (sHs c W π σ m)))))) (zG E e W) F := by
  intro Q hq
  refine zz_iconst dX8_isHeld_0 ?_
  refine gz_istore_n dX8_isHeld_1 (Nat.le_of_ble_eq_true rfl) rfl ?_
  refine gz_aload_n dX8_isHeld_2 rfl ?_
  refine gz_getf (M := zG E e W) 7 dX8_isHeld_3 hE.1 rfl wf_HeliographsLaw_Sim_28 (by decide) rfl ?_
  refine gz_astore_n dX8_isHeld_6 (Nat.le_of_ble_eq_true rfl) rfl ?_
  refine gz_aload_n dX8_isHeld_7 rfl ?_
  refine gg_alen hE 4 dX8_isHeld_8 (by decide) ?_
  refine gz_istore dX8_isHeld_9 (Nat.le_of_ble_eq_true rfl) rfl ?_
  refine zz_iconst dX8_isHeld_11 ?_
  refine gz_istore dX8_isHeld_12 (Nat.le_of_ble_eq_true rfl) rfl ?_
  exact zS_isHeld_loop hE hS hw hh hc hN hm hd (c 4) 0 false _ (by omega) (by rw [Bool.false_or]; exact hq)
end

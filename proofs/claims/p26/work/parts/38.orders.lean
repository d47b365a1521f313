/-! ORDERS: what a test comes to -/
section
variable {l : Launch} {Γ : zk_G} {d : Nat} {Z : Nat → Nat → Int} {F : Heap → Prop}
def sJ (k l r v : Int) : Prop :=
  (k = 9 ∧ (l = 0 ∨ l = 1) ∧ (r = 0 ∨ r = 1) ∧ v = bI (decide (l = 1 ∧ r = 1))) ∨
  (k = 10 ∧ (l = 0 ∨ l = 1) ∧ (r = 0 ∨ r = 1) ∧ v = bI (decide (l = 1 ∨ r = 1))) ∨
  (k = 11 ∧ (-2147483648 ≤ l ∧ l < 2147483648 ∧ -2147483648 ≤ r ∧ r < 2147483648) ∧ v = bI (decide (l < r))) ∨
  (k = 12 ∧ (-2147483648 ≤ l ∧ l < 2147483648 ∧ -2147483648 ≤ r ∧ r < 2147483648) ∧ v = bI (decide (r < l))) ∨
  (k = 13 ∧ (-2147483648 ≤ l ∧ l < 2147483648 ∧ -2147483648 ≤ r ∧ r < 2147483648) ∧ v = bI (decide (l = r))) ∨
  (k = 15 ∧ (-2147483648 ≤ l ∧ l < 2147483648 ∧ -2147483648 ≤ r ∧ r < 2147483648) ∧ v = bI (decide (r ≤ l))) ∨
  (k = 18 ∧ v = l * r) ∨
  (k = 19 ∧ (0 ≤ l ∧ l < 2147483648 ∧ 0 < r ∧ r < 2147483648) ∧ v = l / r)
def sStep (π σ : zV) (k x : Int) (s s1 : List Int) : Prop :=
  (k = 0 ∧ s1 = x :: s) ∨ (k = 1 ∧ s1 = σ 0 1 % 120 :: s) ∨
  (k = 2 ∧ (-2147483648 ≤ x ∧ x < 2147483648) ∧ s1 = sNum (sAt σ x 0) 0 (π 0 3).toNat :: s) ∨
  (k = 3 ∧ (0 ≤ x ∧ x < π 0 3) ∧ s1 = σ 5 x.toNat :: s) ∨
  (k = 4 ∧ (0 ≤ x ∧ x < π 0 3) ∧ s1 = σ 8 x.toNat :: s) ∨
  (k = 5 ∧ (0 ≤ x ∧ x < 12) ∧ s1 = bI (decide (σ 11 x.toNat ≠ 0)) :: s) ∨
  (k = 6 ∧ (0 ≤ x ∧ x < π 0 3) ∧ s1 = bI (decide (σ 4 x.toNat = 1)) :: s) ∨
  (k = 8 ∧ ∃ a s2, s = a :: s2 ∧ s1 = (1 - a) :: s2) ∨
  (∃ r a v s2, s = r :: a :: s2 ∧ s1 = v :: s2 ∧ sJ k a r v)
def sEv (π σ : zV) (O X : Nat → Int) : Nat → Nat → List Int → List Int → Prop
  | _, 0, s, s2 => s = s2
  | i, n + 1, s, s2 => s.length ≤ 300 ∧ ∃ s1, sStep π σ (O i) (X i) s s1 ∧ sEv π σ O X (i + 1) n s1 s2
def zSt (Z : zV) (b : Nat) : List Int → Prop
  | [] => True
  | v :: s => Z b s.length = v ∧ zSt Z b s
theorem zSt_u {Z : zV} {b j : Nat} {z : Int} : ∀ {s : List Int}, zSt Z b s → s.length ≤ j → zSt (zb_u Z b j z) b s
  | [], _, _ => trivial
  | v :: s, h, hj => ⟨by rw [zb_u_j Z z (by have : (v :: s).length = s.length + 1 := rfl; omega)]; exact h.1, zSt_u h.2 (by have : (v :: s).length = s.length + 1 := rfl; omega)⟩
theorem zSt_a {Z : zV} {a b j : Nat} {z : Int} (hab : b ≠ a) : ∀ {s : List Int}, zSt Z b s → zSt (zb_u Z a j z) b s
  | [], _ => trivial
  | v :: s, h => ⟨by rw [zb_u_a Z z hab]; exact h.1, zSt_a hab h.2⟩
/-- the stack of the orders of the plan at p -/
def hSt (Z : zV) (p : Nat) (s : List Int) : Prop := Z (p + 15) 7 = (s.length : Int) ∧ zSt Z (p + 20) s
theorem zs_push0 {p : Nat} (hp : p = 368 ∨ p = 400) {t v : Int} (ht : Z (p + 15) 7 = t) (hb : 0 ≤ t ∧ t < 400) : zk_Does l Γ mX2_push d 0 0 [.ref (p + 15), .int (iZ v)] (zb_M Z) F none (zb_M (zb_u (zb_u Z (p + 20) t.toNat v) (p + 15) 7 (t + 1))) F := by
  intro Q hq
  rcases hp with rfl | rfl <;> (
    simp only [Nat.reduceAdd] at ht
    refine gz_aload_n dX2_push_0 rfl ?_
    refine gz_getf (v := .int (iZ (t))) 7 dX2_push_1 rfl rfl wf_Heliographs_Orders_38 (by decide) (congrArg (fun z => Value.int (iZ z)) ht) ?_
    refine gz_aload_n dX2_push_4 rfl ?_
    refine gz_getf 6 dX2_push_5 rfl rfl wf_Heliographs_Orders_24 (by decide) rfl ?_
    refine gz_alen (k := 0) dX2_push_8 rfl (by decide) ?_
    refine zz_icmp_ge (tgt := 32) dX2_push_9 rfl (by omega) (fun b9 => ?_) (fun b9 => ?_)
    · exact absurd b9 (by omega)
    refine gz_aload_n dX2_push_12 rfl ?_
    refine gz_getf 6 dX2_push_13 rfl rfl wf_Heliographs_Orders_24 (by decide) rfl ?_
    refine gz_aload_n dX2_push_16 rfl ?_
    refine gz_getf (v := .int (iZ (t))) 7 dX2_push_17 rfl rfl wf_Heliographs_Orders_38 (by decide) (congrArg (fun z => Value.int (iZ z)) ht) ?_
    refine gz_iload_n dX2_push_20 rfl ?_
    refine zn_iast dX2_push_21 rfl (by decide) (by omega) rfl ?_
    refine gz_aload_n dX2_push_22 rfl ?_
    refine gz_dup dX2_push_23 rfl ?_
    refine gz_getf (v := .int (iZ (t))) 7 dX2_push_24 rfl rfl wf_Heliographs_Orders_38 (by decide) (congrArg (fun z => Value.int (iZ z)) ((zb_u_a Z v (by decide)).trans ht)) ?_
    refine zz_iconst dX2_push_27 ?_
    refine zz_iadd dX2_push_28 ?_
    refine zc_putf 7 dX2_push_29 rfl rfl wf_Heliographs_Orders_38 (by decide) (by decide) jo_Heliographs_Orders ju_Heliographs_Orders rfl tyX2 tyX2_ok nmX2 rfl (fun _ => ⟨rfl, rfl⟩) rfl ?_
    refine gz_return_ dX2_push_32 rfl ?_
    exact hq
  )
theorem zs_pop0 {p : Nat} (hp : p = 368 ∨ p = 400) {t : Int} (ht : Z (p + 15) 7 = t) (hb : 1 ≤ t ∧ t ≤ 400) : zk_Does l Γ mX2_pop d 0 0 [.ref (p + 15)] (zb_M Z) F (some (.int (iZ (Z (p + 20) (t - 1).toNat)))) (zb_M (zb_u Z (p + 15) 7 (t - 1))) F := by
  intro Q hq
  rcases hp with rfl | rfl <;> (
    simp only [Nat.reduceAdd] at ht
    refine gz_aload_n dX2_pop_0 rfl ?_
    refine gz_getf (v := .int (iZ (t))) 7 dX2_pop_1 rfl rfl wf_Heliographs_Orders_38 (by decide) (congrArg (fun z => Value.int (iZ z)) ht) ?_
    refine zz_if_le (tgt := 19) dX2_pop_4 rfl (by omega) (fun b4 => ?_) (fun b4 => ?_)
    · exact absurd b4 (by omega)
    refine gz_aload_n dX2_pop_7 rfl ?_
    refine gz_getf (v := .int (iZ (t))) 7 dX2_pop_8 rfl rfl wf_Heliographs_Orders_38 (by decide) (congrArg (fun z => Value.int (iZ z)) ht) ?_
    refine gz_aload_n dX2_pop_11 rfl ?_
    refine gz_getf 6 dX2_pop_12 rfl rfl wf_Heliographs_Orders_24 (by decide) rfl ?_
    refine gz_alen (k := 0) dX2_pop_15 rfl (by decide) ?_
    refine zz_icmp_le (tgt := 21) dX2_pop_16 rfl (by omega) (fun b16 => ?_) (fun b16 => ?_)
    rotate_left
    · exact absurd b16 (by omega)
    refine gz_aload_n dX2_pop_21 rfl ?_
    refine gz_dup dX2_pop_22 rfl ?_
    refine gz_getf (v := .int (iZ (t))) 7 dX2_pop_23 rfl rfl wf_Heliographs_Orders_38 (by decide) (congrArg (fun z => Value.int (iZ z)) ht) ?_
    refine zz_iconst dX2_pop_26 ?_
    refine zz_isub dX2_pop_27 ?_
    refine zc_putf 7 dX2_pop_28 rfl rfl wf_Heliographs_Orders_38 (by decide) (by decide) jo_Heliographs_Orders ju_Heliographs_Orders rfl tyX2 tyX2_ok nmX2 rfl (fun _ => ⟨rfl, rfl⟩) rfl ?_
    refine gz_aload_n dX2_pop_31 rfl ?_
    refine gz_getf 6 dX2_pop_32 rfl rfl wf_Heliographs_Orders_24 (by decide) rfl ?_
    refine gz_aload_n dX2_pop_35 rfl ?_
    refine gz_getf (v := .int (iZ (t - 1))) 7 dX2_pop_36 rfl rfl wf_Heliographs_Orders_38 (by decide) (congrArg (fun z => Value.int (iZ z)) (zb_u_at Z _ 7 (t - 1))) ?_
    refine gn_iald dX2_pop_39 rfl (by omega) (zv_i (zb_u_a Z _ (by decide))) ?_
    refine gz_ireturn dX2_pop_40 rfl rfl ?_
    exact hq
  )
theorem zs_push {p : Nat} (hp : p = 368 ∨ p = 400) {s : List Int} (v : Int) (hs : hSt Z p s) (hl : s.length ≤ 390) : zk_DoesR l Γ mX2_push d [.ref (p + 15), .int (iZ v)] Z F none (fun Z2 => zeq Z Z2 ∧ hSt Z2 p (v :: s)) := by
  intro Q hq
  refine zs_push0 hp hs.1 (by omega) _ (hq _ ⟨?_, ?_⟩)
  · refine (zeq.u ?_).trans (zeq.u ?_)
    · rcases hp with rfl | rfl <;> rfl
    · rcases hp with rfl | rfl <;> rfl
  · have e : ((s.length : Int)).toNat = s.length := Int.toNat_natCast _
    refine ⟨by rw [zb_u_at]; show _ = ((s.length + 1 : Nat) : Int); omega, ?_, ?_⟩
    · rw [zb_u_a _ _ (by omega), e, zb_u_at]
    · rw [e]
      exact zSt_a (by omega) (zSt_u hs.2 (Nat.le_refl _))
theorem zs_pop {p : Nat} (hp : p = 368 ∨ p = 400) {s : List Int} {v : Int} (hs : hSt Z p (v :: s)) (hl : s.length ≤ 390) : zk_DoesR l Γ mX2_pop d [.ref (p + 15)] Z F (some (.int (iZ v))) (fun Z2 => zeq Z Z2 ∧ hSt Z2 p s) := by
  intro Q hq
  have e : (((v :: s).length : Int) - 1) = s.length := by show ((s.length + 1 : Nat) : Int) - 1 = _; omega
  have h := zs_pop0 (l := l) (Γ := Γ) (d := d) (F := F) hp hs.1 (by show 1 ≤ ((s.length + 1 : Nat) : Int) ∧ ((s.length + 1 : Nat) : Int) ≤ 400; omega)
  rw [e, Int.toNat_natCast, hs.2.1] at h
  refine h _ (hq _ ⟨zeq.u ?_, ?_, ?_⟩)
  · rcases hp with rfl | rfl <;> rfl
  · rw [zb_u_at]
  · exact zSt_a (by omega) hs.2.2
theorem zk_DoesR.to {J : zk_MI} {As : List Value} {v : Option Value} {R R2 : zV → Prop} (h : zk_DoesR l Γ J d As Z F v R) (hR : ∀ Z2, R Z2 → R2 Z2) : zk_DoesR l Γ J d As Z F v R2 := fun Q hq => h Q (fun Z2 h2 => hq Z2 (hR Z2 h2))
theorem hSt.to {Z Z1 : zV} {p : Nat} {s : List Int} (h : hSt Z p s) (e : Z1 = Z) : hSt Z1 p s := e ▸ h
theorem zs_jn_and {a b : Int} (hl : a = 0 ∨ a = 1) (hr : b = 0 ∨ b = 1) : zk_Does l Γ mX2_joined d 0 0 [.int (iZ 9), .int (iZ a), .int (iZ b)] (zb_M Z) F (some (.int (iZ (bI (decide (a = 1 ∧ b = 1)))))) (zb_M Z) F := by
  intro Q hq
  refine gz_iload_n dX2_joined_0 rfl ?_
  refine zz_tsw (tgt := 64) dX2_joined_1 (by omega) (by decide) (by decide) rfl rfl ?_
  refine gz_iload_n dX2_joined_64 rfl ?_
  refine gz_iload_n dX2_joined_65 rfl ?_
  refine gz_iand dX2_joined_66 ?_
  refine gz_ireturn dX2_joined_67 rfl rfl ?_
  rcases hl with rfl | rfl <;> rcases hr with rfl | rfl <;> exact hq
theorem zs_jn_or {a b : Int} (hl : a = 0 ∨ a = 1) (hr : b = 0 ∨ b = 1) : zk_Does l Γ mX2_joined d 0 0 [.int (iZ 10), .int (iZ a), .int (iZ b)] (zb_M Z) F (some (.int (iZ (bI (decide (a = 1 ∨ b = 1)))))) (zb_M Z) F := by
  intro Q hq
  refine gz_iload_n dX2_joined_0 rfl ?_
  refine zz_tsw (tgt := 68) dX2_joined_1 (by omega) (by decide) (by decide) rfl rfl ?_
  refine gz_iload_n dX2_joined_68 rfl ?_
  refine gz_iload_n dX2_joined_69 rfl ?_
  refine gz_ior dX2_joined_70 ?_
  refine gz_ireturn dX2_joined_71 rfl rfl ?_
  rcases hl with rfl | rfl <;> rcases hr with rfl | rfl <;> exact hq
theorem zs_jn_less {a b : Int} (h : -2147483648 ≤ a ∧ a < 2147483648 ∧ -2147483648 ≤ b ∧ b < 2147483648) : zk_Does l Γ mX2_joined d 0 0 [.int (iZ 11), .int (iZ a), .int (iZ b)] (zb_M Z) F (some (.int (iZ (bI (decide (a < b)))))) (zb_M Z) F := by
  intro Q hq
  refine gz_iload_n dX2_joined_0 rfl ?_
  refine zz_tsw (tgt := 72) dX2_joined_1 (by omega) (by decide) (by decide) rfl rfl ?_
  refine gz_iload_n dX2_joined_72 rfl ?_
  refine gz_iload_n dX2_joined_73 rfl ?_
  refine zz_icmp_ge (tgt := 81) dX2_joined_74 rfl (by omega) (fun b74 => ?_) (fun b74 => ?_)
  ·
    refine zz_iconst dX2_joined_81 ?_
    refine gz_ireturn dX2_joined_82 rfl rfl ?_
    first
      | (rw [bI_t (by simp only [decide_eq_true_eq]; omega)] at hq; exact hq)
      | (rw [bI_f (by simp only [decide_eq_true_eq]; omega)] at hq; exact hq)
  ·
    refine zz_iconst dX2_joined_77 ?_
    refine gz_goto (tgt := 82) dX2_joined_78 rfl ?_
    refine gz_ireturn dX2_joined_82 rfl rfl ?_
    first
      | (rw [bI_t (by simp only [decide_eq_true_eq]; omega)] at hq; exact hq)
      | (rw [bI_f (by simp only [decide_eq_true_eq]; omega)] at hq; exact hq)
theorem zs_jn_greater {a b : Int} (h : -2147483648 ≤ a ∧ a < 2147483648 ∧ -2147483648 ≤ b ∧ b < 2147483648) : zk_Does l Γ mX2_joined d 0 0 [.int (iZ 12), .int (iZ a), .int (iZ b)] (zb_M Z) F (some (.int (iZ (bI (decide (b < a)))))) (zb_M Z) F := by
  intro Q hq
  refine gz_iload_n dX2_joined_0 rfl ?_
  refine zz_tsw (tgt := 83) dX2_joined_1 (by omega) (by decide) (by decide) rfl rfl ?_
  refine gz_iload_n dX2_joined_83 rfl ?_
  refine gz_iload_n dX2_joined_84 rfl ?_
  refine zz_icmp_le (tgt := 92) dX2_joined_85 rfl (by omega) (fun b85 => ?_) (fun b85 => ?_)
  ·
    refine zz_iconst dX2_joined_92 ?_
    refine gz_ireturn dX2_joined_93 rfl rfl ?_
    first
      | (rw [bI_t (by simp only [decide_eq_true_eq]; omega)] at hq; exact hq)
      | (rw [bI_f (by simp only [decide_eq_true_eq]; omega)] at hq; exact hq)
  ·
    refine zz_iconst dX2_joined_88 ?_
    refine gz_goto (tgt := 93) dX2_joined_89 rfl ?_
    refine gz_ireturn dX2_joined_93 rfl rfl ?_
    first
      | (rw [bI_t (by simp only [decide_eq_true_eq]; omega)] at hq; exact hq)
      | (rw [bI_f (by simp only [decide_eq_true_eq]; omega)] at hq; exact hq)
theorem zs_jn_equal {a b : Int} (h : -2147483648 ≤ a ∧ a < 2147483648 ∧ -2147483648 ≤ b ∧ b < 2147483648) : zk_Does l Γ mX2_joined d 0 0 [.int (iZ 13), .int (iZ a), .int (iZ b)] (zb_M Z) F (some (.int (iZ (bI (decide (a = b)))))) (zb_M Z) F := by
  intro Q hq
  refine gz_iload_n dX2_joined_0 rfl ?_
  refine zz_tsw (tgt := 94) dX2_joined_1 (by omega) (by decide) (by decide) rfl rfl ?_
  refine gz_iload_n dX2_joined_94 rfl ?_
  refine gz_iload_n dX2_joined_95 rfl ?_
  refine zz_icmp_ne (tgt := 103) dX2_joined_96 rfl (by omega) (fun b96 => ?_) (fun b96 => ?_)
  ·
    refine zz_iconst dX2_joined_103 ?_
    refine gz_ireturn dX2_joined_104 rfl rfl ?_
    first
      | (rw [bI_t (by simp only [decide_eq_true_eq]; omega)] at hq; exact hq)
      | (rw [bI_f (by simp only [decide_eq_true_eq]; omega)] at hq; exact hq)
  ·
    refine zz_iconst dX2_joined_99 ?_
    refine gz_goto (tgt := 104) dX2_joined_100 rfl ?_
    refine gz_ireturn dX2_joined_104 rfl rfl ?_
    first
      | (rw [bI_t (by simp only [decide_eq_true_eq]; omega)] at hq; exact hq)
      | (rw [bI_f (by simp only [decide_eq_true_eq]; omega)] at hq; exact hq)
theorem zs_jn_atLeast {a b : Int} (h : -2147483648 ≤ a ∧ a < 2147483648 ∧ -2147483648 ≤ b ∧ b < 2147483648) : zk_Does l Γ mX2_joined d 0 0 [.int (iZ 15), .int (iZ a), .int (iZ b)] (zb_M Z) F (some (.int (iZ (bI (decide (b ≤ a)))))) (zb_M Z) F := by
  intro Q hq
  refine gz_iload_n dX2_joined_0 rfl ?_
  refine zz_tsw (tgt := 116) dX2_joined_1 (by omega) (by decide) (by decide) rfl rfl ?_
  refine gz_iload_n dX2_joined_116 rfl ?_
  refine gz_iload_n dX2_joined_117 rfl ?_
  refine zz_icmp_lt (tgt := 125) dX2_joined_118 rfl (by omega) (fun b118 => ?_) (fun b118 => ?_)
  ·
    refine zz_iconst dX2_joined_125 ?_
    refine gz_ireturn dX2_joined_126 rfl rfl ?_
    first
      | (rw [bI_t (by simp only [decide_eq_true_eq]; omega)] at hq; exact hq)
      | (rw [bI_f (by simp only [decide_eq_true_eq]; omega)] at hq; exact hq)
  ·
    refine zz_iconst dX2_joined_121 ?_
    refine gz_goto (tgt := 126) dX2_joined_122 rfl ?_
    refine gz_ireturn dX2_joined_126 rfl rfl ?_
    first
      | (rw [bI_t (by simp only [decide_eq_true_eq]; omega)] at hq; exact hq)
      | (rw [bI_f (by simp only [decide_eq_true_eq]; omega)] at hq; exact hq)
theorem zs_jn_times {a b : Int}  : zk_Does l Γ mX2_joined d 0 0 [.int (iZ 18), .int (iZ a), .int (iZ b)] (zb_M Z) F (some (.int (iZ (a * b)))) (zb_M Z) F := by
  intro Q hq
  refine gz_iload_n dX2_joined_0 rfl ?_
  refine zz_tsw (tgt := 135) dX2_joined_1 (by omega) (by decide) (by decide) rfl rfl ?_
  refine gz_iload_n dX2_joined_135 rfl ?_
  refine gz_iload_n dX2_joined_136 rfl ?_
  refine zz_imul dX2_joined_137 ?_
  refine gz_ireturn dX2_joined_138 rfl rfl ?_
  exact hq
theorem zs_jn_divided {a b : Int} (h : 0 ≤ a ∧ a < 2147483648 ∧ 0 < b ∧ b < 2147483648) : zk_Does l Γ mX2_joined d 0 0 [.int (iZ 19), .int (iZ a), .int (iZ b)] (zb_M Z) F (some (.int (iZ (a / b)))) (zb_M Z) F := by
  intro Q hq
  refine gz_iload_n dX2_joined_0 rfl ?_
  refine zz_tsw (tgt := 139) dX2_joined_1 (by omega) (by decide) (by decide) rfl rfl ?_
  refine gz_iload_n dX2_joined_139 rfl ?_
  refine zz_if_ne (tgt := 147) dX2_joined_140 rfl (by omega) (fun b140 => ?_) (fun b140 => ?_)
  rotate_left
  · exact absurd b140 (by omega)
  refine gz_iload_n dX2_joined_147 rfl ?_
  refine gz_iload_n dX2_joined_148 rfl ?_
  refine zz_idiv dX2_joined_149 (by omega) ?_
  refine gz_ireturn dX2_joined_150 rfl rfl ?_
  exact hq
theorem zs_joined {k a b v : Int} (h : sJ k a b v) : zk_Does l Γ mX2_joined d 0 0 [.int (iZ k), .int (iZ a), .int (iZ b)] (zb_M Z) F (some (.int (iZ v))) (zb_M Z) F := by
  rcases h with ⟨rfl, hl, hr, rfl⟩ | ⟨rfl, hl, hr, rfl⟩ | ⟨rfl, h, rfl⟩ | ⟨rfl, h, rfl⟩ | ⟨rfl, h, rfl⟩ | ⟨rfl, h, rfl⟩ | ⟨rfl, rfl⟩ | ⟨rfl, h, rfl⟩
  · exact zs_jn_and hl hr
  · exact zs_jn_or hl hr
  · exact zs_jn_less h
  · exact zs_jn_greater h
  · exact zs_jn_equal h
  · exact zs_jn_atLeast h
  · exact zs_jn_times
  · exact zs_jn_divided h
theorem zs_ap_num {c p : Nat} (hcs : c = 336 ∨ c = 352) (hp : p = 368 ∨ p = 400) (hcp : Z c 0 = (p : Int)) (hw : wP (vP Z p)) {N : Int} (hc : wC (vP Z p) (vC Z c) N) (hlit : ∀ w : Nat, w < 12 → 0 ≤ Z (c + 11) w ∧ Z (c + 11) w ≤ 1) {s : List Int} (hs : hSt Z p s) (hl : s.length ≤ 300) {x : Int}  (hd : 2 ≤ d) : zk_DoesR l Γ mX2_apply d [.ref (p + 15), .int (iZ 0), .int (iZ x), .ref c] Z F none (fun Z2 => zeq Z Z2 ∧ hSt Z2 p (x :: s)) := by
  intro Q hq
  have hcs2 := hcs
  have hp2 := hp
  rcases hcs with rfl | rfl <;> rcases hp with rfl | rfl <;> (
    have hpl := congrArg Int.toNat hcp
    simp only [Int.toNat_natCast] at hpl
    have h0 := wP_n hw
    simp only [vP_ap, vC_ap, Nat.reduceAdd, Nat.reduceLT, Nat.add_zero, ↓reduceIte] at h0
    have h3 := wC_n hc
    simp only [vP_ap, vC_ap, Nat.reduceAdd, Nat.reduceLT, Nat.add_zero, ↓reduceIte] at h3
    refine gz_iload_n dX2_apply_0 rfl ?_
    refine zz_tsw (tgt := 52) dX2_apply_1 (by omega) (by decide) (by decide) rfl rfl ?_
    refine gz_aload_n dX2_apply_52 rfl ?_
    refine gz_iload_n dX2_apply_53 rfl ?_
    refine gq_1 (J := mX2_push) (d1 := d - 1) dX2_apply_54 wm_Heliographs_Orders_49 rfl jzX2_push (Nat.le_of_ble_eq_true rfl) (Nat.le_of_ble_eq_true rfl) (by omega) (zs_push hp2 _ (by exact hs) (by omega)) (fun Z54 hZ54 => ?_)
    refine gz_goto (tgt := 196) dX2_apply_57 rfl ?_
    refine gz_return_ dX2_apply_196 rfl ?_
    exact hq Z54 hZ54
  )
theorem zs_ap_minute {c p : Nat} (hcs : c = 336 ∨ c = 352) (hp : p = 368 ∨ p = 400) (hcp : Z c 0 = (p : Int)) (hw : wP (vP Z p)) {N : Int} (hc : wC (vP Z p) (vC Z c) N) (hlit : ∀ w : Nat, w < 12 → 0 ≤ Z (c + 11) w ∧ Z (c + 11) w ≤ 1) {s : List Int} (hs : hSt Z p s) (hl : s.length ≤ 300) {x : Int}  (hd : 2 ≤ d) : zk_DoesR l Γ mX2_apply d [.ref (p + 15), .int (iZ 1), .int (iZ x), .ref c] Z F none (fun Z2 => zeq Z Z2 ∧ hSt Z2 p (vC Z c 0 1 % 120 :: s)) := by
  intro Q hq
  have hcs2 := hcs
  have hp2 := hp
  rcases hcs with rfl | rfl <;> rcases hp with rfl | rfl <;> (
    have hpl := congrArg Int.toNat hcp
    simp only [Int.toNat_natCast] at hpl
    have h0 := wP_n hw
    simp only [vP_ap, vC_ap, Nat.reduceAdd, Nat.reduceLT, Nat.add_zero, ↓reduceIte] at h0
    have h3 := wC_n hc
    simp only [vP_ap, vC_ap, Nat.reduceAdd, Nat.reduceLT, Nat.add_zero, ↓reduceIte] at h3
    refine gz_iload_n dX2_apply_0 rfl ?_
    refine zz_tsw (tgt := 60) dX2_apply_1 (by omega) (by decide) (by decide) rfl rfl ?_
    refine gz_aload_n dX2_apply_60 rfl ?_
    refine gz_aload_n dX2_apply_61 rfl ?_
    refine gz_getf 1 dX2_apply_62 rfl rfl wf_Heliographs_Orders_53 (by decide) rfl ?_
    refine zz_bipush (x := 120) dX2_apply_65 rfl ?_
    refine zz_irem dX2_apply_67 (by omega) ?_
    refine gq_1 (J := mX2_push) (d1 := d - 1) dX2_apply_68 wm_Heliographs_Orders_49 rfl jzX2_push (Nat.le_of_ble_eq_true rfl) (Nat.le_of_ble_eq_true rfl) (by omega) (zs_push hp2 _ (by exact hs) (by omega)) (fun Z68 hZ68 => ?_)
    refine gz_goto (tgt := 196) dX2_apply_71 rfl ?_
    refine gz_return_ dX2_apply_196 rfl ?_
    exact hq Z68 hZ68
  )
theorem zs_ap_queue {c p : Nat} (hcs : c = 336 ∨ c = 352) (hp : p = 368 ∨ p = 400) (hcp : Z c 0 = (p : Int)) (hw : wP (vP Z p)) {N : Int} (hc : wC (vP Z p) (vC Z c) N) (hlit : ∀ w : Nat, w < 12 → 0 ≤ Z (c + 11) w ∧ Z (c + 11) w ≤ 1) {s : List Int} (hs : hSt Z p s) (hl : s.length ≤ 300) {x : Int} (hx : -2147483648 ≤ x ∧ x < 2147483648) (hd : 2 ≤ d) : zk_DoesR l Γ mX2_apply d [.ref (p + 15), .int (iZ 2), .int (iZ x), .ref c] Z F none (fun Z2 => zeq Z Z2 ∧ hSt Z2 p (sNum (sAt (vC Z c) x 0) 0 (Z p 3).toNat :: s)) := by
  intro Q hq
  have hcs2 := hcs
  have hp2 := hp
  rcases hcs with rfl | rfl <;> rcases hp with rfl | rfl <;> (
    have hpl := congrArg Int.toNat hcp
    simp only [Int.toNat_natCast] at hpl
    have h0 := wP_n hw
    simp only [vP_ap, vC_ap, Nat.reduceAdd, Nat.reduceLT, Nat.add_zero, ↓reduceIte] at h0
    have h3 := wC_n hc
    simp only [vP_ap, vC_ap, Nat.reduceAdd, Nat.reduceLT, Nat.add_zero, ↓reduceIte] at h3
    refine gz_iload_n dX2_apply_0 rfl ?_
    refine zz_tsw (tgt := 74) dX2_apply_1 (by omega) (by decide) (by decide) rfl rfl ?_
    refine gz_aload_n dX2_apply_74 rfl ?_
    refine gz_aload_n dX2_apply_75 rfl ?_
    refine gz_iload_n dX2_apply_76 rfl ?_
    refine zz_iconst dX2_apply_77 ?_
    refine gv_2 (J := mX0_messagesAt) (d1 := d - 1) dX2_apply_78 wm_Heliographs_Orders_58 rfl jzX0_messagesAt (Nat.le_of_ble_eq_true rfl) (Nat.le_of_ble_eq_true rfl) (by omega) ⟨Nat.le_refl _, Nat.le_refl _⟩ (zs_messagesAt hcs2 hp2 hcp hw hc hx (by omega)) ?_
    refine gq_1 (J := mX2_push) (d1 := d - 1) dX2_apply_81 wm_Heliographs_Orders_49 rfl jzX2_push (Nat.le_of_ble_eq_true rfl) (Nat.le_of_ble_eq_true rfl) (by omega) (zs_push hp2 _ (by exact hs) (by omega)) (fun Z81 hZ81 => ?_)
    refine gz_goto (tgt := 196) dX2_apply_84 rfl ?_
    refine gz_return_ dX2_apply_196 rfl ?_
    exact hq Z81 hZ81
  )
theorem zs_ap_left {c p : Nat} (hcs : c = 336 ∨ c = 352) (hp : p = 368 ∨ p = 400) (hcp : Z c 0 = (p : Int)) (hw : wP (vP Z p)) {N : Int} (hc : wC (vP Z p) (vC Z c) N) (hlit : ∀ w : Nat, w < 12 → 0 ≤ Z (c + 11) w ∧ Z (c + 11) w ≤ 1) {s : List Int} (hs : hSt Z p s) (hl : s.length ≤ 300) {x : Int} (hx : 0 ≤ x ∧ x < Z p 3) (hd : 2 ≤ d) : zk_DoesR l Γ mX2_apply d [.ref (p + 15), .int (iZ 3), .int (iZ x), .ref c] Z F none (fun Z2 => zeq Z Z2 ∧ hSt Z2 p (Z (c + 5) x.toNat :: s)) := by
  intro Q hq
  have hcs2 := hcs
  have hp2 := hp
  rcases hcs with rfl | rfl <;> rcases hp with rfl | rfl <;> (
    have hpl := congrArg Int.toNat hcp
    simp only [Int.toNat_natCast] at hpl
    have h0 := wP_n hw
    simp only [vP_ap, vC_ap, Nat.reduceAdd, Nat.reduceLT, Nat.add_zero, ↓reduceIte] at h0
    have h3 := wC_n hc
    simp only [vP_ap, vC_ap, Nat.reduceAdd, Nat.reduceLT, Nat.add_zero, ↓reduceIte] at h3
    refine gz_iload_n dX2_apply_0 rfl ?_
    refine zz_tsw (tgt := 87) dX2_apply_1 (by omega) (by decide) (by decide) rfl rfl ?_
    refine gz_aload_n dX2_apply_87 rfl ?_
    refine gz_aload_n dX2_apply_88 rfl ?_
    refine gz_iload_n dX2_apply_89 rfl ?_
    refine gv_1 (J := mX0_leftOf) (d1 := d - 1) dX2_apply_90 wm_Heliographs_Orders_62 rfl jzX0_leftOf (Nat.le_of_ble_eq_true rfl) (Nat.le_of_ble_eq_true rfl) (by omega) ⟨Nat.le_refl _, Nat.le_refl _⟩ (zs_leftOf hcs2 hp2 hcp hw hc hx (by omega)) ?_
    refine gq_1 (J := mX2_push) (d1 := d - 1) dX2_apply_93 wm_Heliographs_Orders_49 rfl jzX2_push (Nat.le_of_ble_eq_true rfl) (Nat.le_of_ble_eq_true rfl) (by omega) (zs_push hp2 _ (by exact hs) (by omega)) (fun Z93 hZ93 => ?_)
    refine gz_goto (tgt := 196) dX2_apply_96 rfl ?_
    refine gz_return_ dX2_apply_196 rfl ?_
    exact hq Z93 hZ93
  )
theorem zs_ap_breaks {c p : Nat} (hcs : c = 336 ∨ c = 352) (hp : p = 368 ∨ p = 400) (hcp : Z c 0 = (p : Int)) (hw : wP (vP Z p)) {N : Int} (hc : wC (vP Z p) (vC Z c) N) (hlit : ∀ w : Nat, w < 12 → 0 ≤ Z (c + 11) w ∧ Z (c + 11) w ≤ 1) {s : List Int} (hs : hSt Z p s) (hl : s.length ≤ 300) {x : Int} (hx : 0 ≤ x ∧ x < Z p 3) (hd : 2 ≤ d) : zk_DoesR l Γ mX2_apply d [.ref (p + 15), .int (iZ 4), .int (iZ x), .ref c] Z F none (fun Z2 => zeq Z Z2 ∧ hSt Z2 p (Z (c + 8) x.toNat :: s)) := by
  intro Q hq
  have hcs2 := hcs
  have hp2 := hp
  rcases hcs with rfl | rfl <;> rcases hp with rfl | rfl <;> (
    have hpl := congrArg Int.toNat hcp
    simp only [Int.toNat_natCast] at hpl
    have h0 := wP_n hw
    simp only [vP_ap, vC_ap, Nat.reduceAdd, Nat.reduceLT, Nat.add_zero, ↓reduceIte] at h0
    have h3 := wC_n hc
    simp only [vP_ap, vC_ap, Nat.reduceAdd, Nat.reduceLT, Nat.add_zero, ↓reduceIte] at h3
    refine gz_iload_n dX2_apply_0 rfl ?_
    refine zz_tsw (tgt := 99) dX2_apply_1 (by omega) (by decide) (by decide) rfl rfl ?_
    refine gz_aload_n dX2_apply_99 rfl ?_
    refine gz_aload_n dX2_apply_100 rfl ?_
    refine gz_iload_n dX2_apply_101 rfl ?_
    refine gv_1 (J := mX0_breaksOf) (d1 := d - 1) dX2_apply_102 wm_Heliographs_Orders_66 rfl jzX0_breaksOf (Nat.le_of_ble_eq_true rfl) (Nat.le_of_ble_eq_true rfl) (by omega) ⟨Nat.le_refl _, Nat.le_refl _⟩ (zs_breaksOf hcs2 hp2 hcp hw hc hx (by omega)) ?_
    refine gq_1 (J := mX2_push) (d1 := d - 1) dX2_apply_105 wm_Heliographs_Orders_49 rfl jzX2_push (Nat.le_of_ble_eq_true rfl) (Nat.le_of_ble_eq_true rfl) (by omega) (zs_push hp2 _ (by exact hs) (by omega)) (fun Z105 hZ105 => ?_)
    refine gz_goto (tgt := 196) dX2_apply_108 rfl ?_
    refine gz_return_ dX2_apply_196 rfl ?_
    exact hq Z105 hZ105
  )
theorem zs_ap_isOpen {c p : Nat} (hcs : c = 336 ∨ c = 352) (hp : p = 368 ∨ p = 400) (hcp : Z c 0 = (p : Int)) (hw : wP (vP Z p)) {N : Int} (hc : wC (vP Z p) (vC Z c) N) (hlit : ∀ w : Nat, w < 12 → 0 ≤ Z (c + 11) w ∧ Z (c + 11) w ≤ 1) {s : List Int} (hs : hSt Z p s) (hl : s.length ≤ 300) {x : Int} (hx : 0 ≤ x ∧ x < 12) (hd : 2 ≤ d) : zk_DoesR l Γ mX2_apply d [.ref (p + 15), .int (iZ 5), .int (iZ x), .ref c] Z F none (fun Z2 => zeq Z Z2 ∧ hSt Z2 p (bI (decide (Z (c + 11) x.toNat ≠ 0)) :: s)) := by
  intro Q hq
  have hcs2 := hcs
  have hp2 := hp
  rcases hcs with rfl | rfl <;> rcases hp with rfl | rfl <;> (
    have hpl := congrArg Int.toNat hcp
    simp only [Int.toNat_natCast] at hpl
    have h0 := wP_n hw
    simp only [vP_ap, vC_ap, Nat.reduceAdd, Nat.reduceLT, Nat.add_zero, ↓reduceIte] at h0
    have h3 := wC_n hc
    simp only [vP_ap, vC_ap, Nat.reduceAdd, Nat.reduceLT, Nat.add_zero, ↓reduceIte] at h3
    refine gz_iload_n dX2_apply_0 rfl ?_
    refine zz_tsw (tgt := 111) dX2_apply_1 (by omega) (by decide) (by decide) rfl rfl ?_
    refine gz_aload_n dX2_apply_111 rfl ?_
    refine gz_aload_n dX2_apply_112 rfl ?_
    refine gz_iload_n dX2_apply_113 rfl ?_
    refine gv_1 (J := mX0_isLit) (d1 := d - 1) dX2_apply_114 wm_Heliographs_Orders_69 rfl jzX0_isLit (Nat.le_of_ble_eq_true rfl) (Nat.le_of_ble_eq_true rfl) (by omega) ⟨Nat.le_refl _, Nat.le_refl _⟩ (zs_isLit hcs2 hx (hlit _ (by omega))) ?_
    refine zz_if_eqB (tgt := 124) dX2_apply_117 rfl (fun b117 => ?_) (fun b117 => ?_)
    ·
      refine zz_iconst dX2_apply_124 ?_
      refine gq_1 (J := mX2_push) (d1 := d - 1) dX2_apply_125 wm_Heliographs_Orders_49 rfl jzX2_push (Nat.le_of_ble_eq_true rfl) (Nat.le_of_ble_eq_true rfl) (by omega) (zs_push hp2 _ (by exact hs) (by omega)) (fun Z125 hZ125 => ?_)
      refine gz_goto (tgt := 196) dX2_apply_128 rfl ?_
      refine gz_return_ dX2_apply_196 rfl ?_
      first
        | (rw [bI_t (by assumption)] at hq; exact hq Z125 hZ125)
        | (rw [bI_f (by assumption)] at hq; exact hq Z125 hZ125)
    ·
      refine zz_iconst dX2_apply_120 ?_
      refine gz_goto (tgt := 125) dX2_apply_121 rfl ?_
      refine gq_1 (J := mX2_push) (d1 := d - 1) dX2_apply_125 wm_Heliographs_Orders_49 rfl jzX2_push (Nat.le_of_ble_eq_true rfl) (Nat.le_of_ble_eq_true rfl) (by omega) (zs_push hp2 _ (by exact hs) (by omega)) (fun Z125 hZ125 => ?_)
      refine gz_goto (tgt := 196) dX2_apply_128 rfl ?_
      refine gz_return_ dX2_apply_196 rfl ?_
      first
        | (rw [bI_t (by assumption)] at hq; exact hq Z125 hZ125)
        | (rw [bI_f (by assumption)] at hq; exact hq Z125 hZ125)
  )
theorem zs_ap_carried {c p : Nat} (hcs : c = 336 ∨ c = 352) (hp : p = 368 ∨ p = 400) (hcp : Z c 0 = (p : Int)) (hw : wP (vP Z p)) {N : Int} (hc : wC (vP Z p) (vC Z c) N) (hlit : ∀ w : Nat, w < 12 → 0 ≤ Z (c + 11) w ∧ Z (c + 11) w ≤ 1) {s : List Int} (hs : hSt Z p s) (hl : s.length ≤ 300) {x : Int} (hx : 0 ≤ x ∧ x < Z p 3) (hd : 2 ≤ d) : zk_DoesR l Γ mX2_apply d [.ref (p + 15), .int (iZ 6), .int (iZ x), .ref c] Z F none (fun Z2 => zeq Z Z2 ∧ hSt Z2 p (bI (decide (Z (c + 4) x.toNat = 1)) :: s)) := by
  intro Q hq
  have hcs2 := hcs
  have hp2 := hp
  rcases hcs with rfl | rfl <;> rcases hp with rfl | rfl <;> (
    have hpl := congrArg Int.toNat hcp
    simp only [Int.toNat_natCast] at hpl
    have h0 := wP_n hw
    simp only [vP_ap, vC_ap, Nat.reduceAdd, Nat.reduceLT, Nat.add_zero, ↓reduceIte] at h0
    have h3 := wC_n hc
    simp only [vP_ap, vC_ap, Nat.reduceAdd, Nat.reduceLT, Nat.add_zero, ↓reduceIte] at h3
    refine gz_iload_n dX2_apply_0 rfl ?_
    refine zz_tsw (tgt := 131) dX2_apply_1 (by omega) (by decide) (by decide) rfl rfl ?_
    refine gz_aload_n dX2_apply_131 rfl ?_
    refine gz_aload_n dX2_apply_132 rfl ?_
    refine gz_iload_n dX2_apply_133 rfl ?_
    refine gv_1 (J := mX0_isCarried) (d1 := d - 1) dX2_apply_134 wm_Heliographs_Orders_73 rfl jzX0_isCarried (Nat.le_of_ble_eq_true rfl) (Nat.le_of_ble_eq_true rfl) (by omega) ⟨Nat.le_refl _, Nat.le_refl _⟩ (zs_isCarried hcs2 hp2 hcp hw hc hx (by omega)) ?_
    refine zz_if_eqB (tgt := 144) dX2_apply_137 rfl (fun b137 => ?_) (fun b137 => ?_)
    ·
      refine zz_iconst dX2_apply_144 ?_
      refine gq_1 (J := mX2_push) (d1 := d - 1) dX2_apply_145 wm_Heliographs_Orders_49 rfl jzX2_push (Nat.le_of_ble_eq_true rfl) (Nat.le_of_ble_eq_true rfl) (by omega) (zs_push hp2 _ (by exact hs) (by omega)) (fun Z145 hZ145 => ?_)
      refine gz_goto (tgt := 196) dX2_apply_148 rfl ?_
      refine gz_return_ dX2_apply_196 rfl ?_
      first
        | (rw [bI_t (by assumption)] at hq; exact hq Z145 hZ145)
        | (rw [bI_f (by assumption)] at hq; exact hq Z145 hZ145)
    ·
      refine zz_iconst dX2_apply_140 ?_
      refine gz_goto (tgt := 145) dX2_apply_141 rfl ?_
      refine gq_1 (J := mX2_push) (d1 := d - 1) dX2_apply_145 wm_Heliographs_Orders_49 rfl jzX2_push (Nat.le_of_ble_eq_true rfl) (Nat.le_of_ble_eq_true rfl) (by omega) (zs_push hp2 _ (by exact hs) (by omega)) (fun Z145 hZ145 => ?_)
      refine gz_goto (tgt := 196) dX2_apply_148 rfl ?_
      refine gz_return_ dX2_apply_196 rfl ?_
      first
        | (rw [bI_t (by assumption)] at hq; exact hq Z145 hZ145)
        | (rw [bI_f (by assumption)] at hq; exact hq Z145 hZ145)
  )
theorem zs_ap_not {c p : Nat} (hcs : c = 336 ∨ c = 352) (hp : p = 368 ∨ p = 400) {s : List Int} {x a : Int} (hs : hSt Z p (a :: s)) (hl : s.length ≤ 300) (hd : 2 ≤ d) : zk_DoesR l Γ mX2_apply d [.ref (p + 15), .int (iZ 8), .int (iZ x), .ref c] Z F none (fun Z2 => zeq Z Z2 ∧ hSt Z2 p ((1 - a) :: s)) := by
  intro Q hq
  have hcs2 := hcs
  have hp2 := hp
  rcases hcs with rfl | rfl <;> rcases hp with rfl | rfl <;> (
    refine gz_iload_n dX2_apply_0 rfl ?_
    refine zz_tsw (tgt := 163) dX2_apply_1 (by omega) (by decide) (by decide) rfl rfl ?_
    refine gz_aload_n dX2_apply_163 rfl ?_
    refine zz_iconst dX2_apply_164 ?_
    refine gz_aload_n dX2_apply_165 rfl ?_
    refine gq_0 (J := mX2_pop) (d1 := d - 1) dX2_apply_166 wm_Heliographs_Orders_45 rfl jzX2_pop (Nat.le_of_ble_eq_true rfl) (Nat.le_of_ble_eq_true rfl) (by omega) (zs_pop hp2 (by exact hs) (by omega)) (fun Z166 hZ166 => ?_)
    refine zz_isub dX2_apply_169 ?_
    refine gq_1 (J := mX2_push) (d1 := d - 1) dX2_apply_170 wm_Heliographs_Orders_49 rfl jzX2_push (Nat.le_of_ble_eq_true rfl) (Nat.le_of_ble_eq_true rfl) (by omega) (zs_push hp2 _ hZ166.2 (by omega)) (fun Z170 hZ170 => ?_)
    refine gz_goto (tgt := 196) dX2_apply_173 rfl ?_
    refine gz_return_ dX2_apply_196 rfl ?_
    exact hq Z170 ⟨hZ166.1.trans hZ170.1, hZ170.2⟩
  )
theorem zs_ap_join {c p : Nat} (hcs : c = 336 ∨ c = 352) (hp : p = 368 ∨ p = 400) {s : List Int} {x k a r v : Int} (hs : hSt Z p (r :: a :: s)) (hl : s.length ≤ 300) (hk : sJ k a r v) (hd : 2 ≤ d) : zk_DoesR l Γ mX2_apply d [.ref (p + 15), .int (iZ k), .int (iZ x), .ref c] Z F none (fun Z2 => zeq Z Z2 ∧ hSt Z2 p (v :: s)) := by
  intro Q hq
  have hcs2 := hcs
  have hp2 := hp
  have hk9 : 9 ≤ k ∧ k ≤ 19 := by unfold sJ at hk; omega
  rcases hcs with rfl | rfl <;> rcases hp with rfl | rfl <;> (
    refine gz_iload_n dX2_apply_0 rfl ?_
    refine zz_tswD (tgt := 176) dX2_apply_1 (by omega) (Or.inr (by omega)) rfl ?_
    refine gz_aload_n dX2_apply_176 rfl ?_
    refine gq_0 (J := mX2_pop) (d1 := d - 1) dX2_apply_177 wm_Heliographs_Orders_45 rfl jzX2_pop (Nat.le_of_ble_eq_true rfl) (Nat.le_of_ble_eq_true rfl) (by omega) (zs_pop hp2 (by exact hs) (by show s.length + 1 ≤ 390; omega)) (fun Z177 hZ177 => ?_)
    refine gz_istore dX2_apply_180 (Nat.le_of_ble_eq_true rfl) rfl ?_
    refine gz_aload_n dX2_apply_182 rfl ?_
    refine gz_iload_n dX2_apply_183 rfl ?_
    refine gz_aload_n dX2_apply_184 rfl ?_
    refine gq_0 (J := mX2_pop) (d1 := d - 1) dX2_apply_185 wm_Heliographs_Orders_45 rfl jzX2_pop (Nat.le_of_ble_eq_true rfl) (Nat.le_of_ble_eq_true rfl) (by omega) (zs_pop hp2 hZ177.2 (by omega)) (fun Z185 hZ185 => ?_)
    refine gz_iload dX2_apply_188 rfl ?_
    refine gs_3 (J := mX2_joined) (d1 := d - 1) dX2_apply_190 wm_Heliographs_Orders_76 jzX2_joined (Nat.le_of_ble_eq_true rfl) (Nat.le_of_ble_eq_true rfl) (by omega) ⟨Nat.le_refl _, Nat.le_refl _⟩ (zs_joined hk) ?_
    refine gq_1 (J := mX2_push) (d1 := d - 1) dX2_apply_193 wm_Heliographs_Orders_49 rfl jzX2_push (Nat.le_of_ble_eq_true rfl) (Nat.le_of_ble_eq_true rfl) (by omega) (zs_push hp2 _ hZ185.2 (by omega)) (fun Z193 hZ193 => ?_)
    refine gz_return_ dX2_apply_196 rfl ?_
    exact hq Z193 ⟨(hZ177.1.trans hZ185.1).trans hZ193.1, hZ193.2⟩
  )
end

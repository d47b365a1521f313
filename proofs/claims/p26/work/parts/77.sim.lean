/-! THE CHAIN BY HAND: its memory, its reads -/
section
variable {l : Launch} {Γ : zk_G} {d : Nat} {F : Heap → Prop}
/-- where the rows of a table lie: peaks, passes, clouds, messages, holds; how long a row is -/
def zG_b (k : Nat) : Nat := match k with | 0 => 432 | 1 => 440 | 2 => 452 | 3 => 460 | _ => 468
def zG_w (k : Nat) : Nat := match k with | 0 => 3 | 1 => 4 | 2 => 4 | 3 => 10 | _ => 6
def zG_r (a j : Nat) : Nat := match a with | 425 => 432 + j | 426 => 440 + j | 427 => 452 + j | 428 => 460 + j | 429 => 468 + j | _ => a + 1 + j
/-- old cells, the class's block, the chain by hand and what else there is, out of one table -/
def zG_v (E : Nat → Nat × Nat) (W : zV) (a j : Nat) : Value :=
  if a = 56 then .int (iZ (W a j)) else if a < 424 then zb_g a j (W a j) else if a = 424 then (match j with | 3 => .ref 425 | 4 => .ref 426 | 5 => .ref 427 | 6 => .ref 428 | 7 => .ref 429 | _ => .int (iZ (W a j)))
  else if (E a).1 = 105 then .ref (zG_r a j) else .int (iZ (W a j))
def zG (E : Nat → Nat × Nat) (e : Nat) (W : zV) : zk_M := (E, e, zG_v E W)
/-- the shapes that the chain by hand has; c: how many rows -/
def zE (E : Nat → Nat × Nat) (e : Nat) (c : Nat → Nat) : Prop := E 424 = (7, 8) ∧ (∀ k, k < 5 → E (425 + k) = (105, c k)) ∧ (∀ k, k < 5 → ∀ j, j < c k → E (zG_b k + j) = (100, zG_w k)) ∧ 480 ≤ e ∧ (c 0 ≤ 8 ∧ c 1 ≤ 12 ∧ c 2 ≤ 8 ∧ c 3 ≤ 8 ∧ c 4 ≤ 12)
theorem zG_int {E : Nat → Nat × Nat} {W : zV} {a j : Nat} (ha : 424 < a) (h : (E a).1 ≠ 105) : zG_v E W a j = .int (iZ (W a j)) := by
  unfold zG_v
  rw [if_neg (by omega), if_neg (by omega), if_neg (by omega), if_neg h]
theorem zG_ref {E : Nat → Nat × Nat} {W : zV} {a j : Nat} (ha : 424 < a) (h : (E a).1 = 105) : zG_v E W a j = .ref (zG_r a j) := by
  unfold zG_v
  rw [if_neg (by omega), if_neg (by omega), if_neg (by omega), if_pos h]
theorem zG_ge (k : Nat) : 432 ≤ zG_b k := by
  unfold zG_b
  split <;> omega
theorem zG_rb {k : Nat} (hk : k < 5) (j : Nat) : zG_r (425 + k) j = zG_b k + j := by
  rcases (show k = 0 ∨ k = 1 ∨ k = 2 ∨ k = 3 ∨ k = 4 by omega) with rfl | rfl | rfl | rfl | rfl <;> rfl
theorem zG_up {E : Nat → Nat × Nat} {e a j : Nat} {W : zV} {z : Int} (ha : 424 < a) (h : (E a).1 ≠ 105) : ((zG E e W).1, (zG E e W).2.1, zk_up (zG E e W).2.2 a j (.int (iZ z))) = zG E e (zb_u W a j z) := by
  refine Prod.ext rfl (Prod.ext rfl (funext fun x => funext fun y => ?_))
  show zk_up (zG_v E W) a j _ x y = zG_v E (zb_u W a j z) x y
  by_cases hx : x = a
  · subst hx
    rw [zk_up_at, zG_int ha h]
    dsimp only
    unfold zb_u
    by_cases hy : y = j
    · rw [if_pos hy, if_pos ⟨rfl, hy⟩]
    · rw [if_neg hy, if_neg (fun q => hy q.2), zG_int ha h]
  · rw [zk_up_ne hx]
    unfold zG_v
    rw [zb_u_a W z hx]
/-- THE CHAIN BY HAND says what plan and chain say -/
def sm (c : Nat → Nat) (W π σ : zV) : Prop := ((c 0 : Int) = π 0 0 ∧ (c 1 : Int) = π 0 1 ∧ (c 2 : Int) = π 0 2 ∧ (c 3 : Int) = π 0 3) ∧ (W 424 0 = σ 0 1 ∧ W 424 1 = σ 0 13 ∧ W 424 2 = σ 0 2) ∧
  (∀ k, k < c 0 → W (432 + k) 0 = π 1 k ∧ W (432 + k) 1 = π 2 k ∧ W (432 + k) 2 = σ 1 k) ∧ (∀ w, w < c 1 → W (440 + w) 0 = π 4 w ∧ W (440 + w) 1 = π 5 w ∧ W (440 + w) 2 = π 6 w ∧ W (440 + w) 3 = σ 10 w) ∧
  (∀ i, i < c 2 → W (452 + i) 0 = π 11 i ∧ W (452 + i) 1 = π 12 i ∧ W (452 + i) 2 = π 13 i ∧ W (452 + i) 3 = π 14 i) ∧
  (∀ m, m < c 3 → W (460 + m) 0 = π 7 m ∧ W (460 + m) 1 = σ 2 m ∧ W (460 + m) 2 = σ 3 m ∧ W (460 + m) 3 = π 10 m ∧ W (460 + m) 4 = σ 4 m ∧ W (460 + m) 5 = σ 7 m ∧ W (460 + m) 6 = σ 5 m ∧ W (460 + m) 7 = σ 8 m ∧ W (460 + m) 8 = σ 6 m ∧ W (460 + m) 9 = σ 9 m)
section
variable {I : zk_MI} {kc ks : Nat} {Q : Option Value → zk_M → (Heap → Prop) → Prop} {pc : Nat} {L : List (Option Value)} {st : List Value} {E : Nat → Nat × Nat} {e : Nat} {c : Nat → Nat} {W : zV}
theorem gg_aald (hE : zE E e c) (k : Nat) {j b : Nat} {z : Int} (hd : decode I.2.1 pc = .ok (.aaload, 1)) (hk : k < 5) (hb : zG_b k = b) (hz : z = (j : Int)) (hj : j < c k) (kk : zk_Go l Γ I d kc ks Q (pc + 1) L (.ref (b + j) :: st) (zG E e W) F) : zk_Go l Γ I d kc ks Q pc L (.int (iZ z) :: .ref (425 + k) :: st) (zG E e W) F := by
  refine gz_aald (M := zG E e W) (k := 5) (n := j) hd (hE.2.1 k hk) (Or.inr rfl) hz hj ?_ kk
  show zG_v E W (425 + k) j = _
  rw [zG_ref (by omega) (by rw [hE.2.1 k hk]), zG_rb hk, hb]
theorem gg_alen (hE : zE E e c) (k : Nat) (hd : decode I.2.1 pc = .ok (.arraylength, 1)) (hk : k < 5) (kk : zk_Go l Γ I d kc ks Q (pc + 1) L (.int (iZ (c k : Int)) :: st) (zG E e W) F) : zk_Go l Γ I d kc ks Q pc L (.ref (425 + k) :: st) (zG E e W) F :=
  gz_alen (M := zG E e W) (k := 5) hd (hE.2.1 k hk) (by decide) kk
theorem gg_iald (hE : zE E e c) (k q : Nat) {j b : Nat} {z v : Int} (hd : decode I.2.1 pc = .ok (.iaload, 1)) (hk : k < 5) (hb : zG_b k = b) (hj : j < c k) (hz : z = (q : Int)) (hq : q < zG_w k) (hv : W (b + j) q = v) (kk : zk_Go l Γ I d kc ks Q (pc + 1) L (.int (iZ v) :: st) (zG E e W) F) : zk_Go l Γ I d kc ks Q pc L (.int (iZ z) :: .ref (b + j) :: st) (zG E e W) F := by
  have hs : E (b + j) = (100, zG_w k) := by rw [← hb]; exact hE.2.2.1 k hk j hj
  have hg := zG_ge k
  rw [hb] at hg
  refine gz_iald (M := zG E e W) (n := q) hd hs hz hq ?_ kk
  show zG_v E W (b + j) q = _
  rw [zG_int (by omega) (by rw [hs]; show 100 ≠ 105; decide), hv]
theorem gg_iast (hE : zE E e c) (k q : Nat) {j b : Nat} {z x : Int} (hd : decode I.2.1 pc = .ok (.iastore, 1)) (hk : k < 5) (hb : zG_b k = b) (hj : j < c k) (hz : z = (q : Int)) (hq : q < zG_w k) (kk : zk_Go l Γ I d kc ks Q (pc + 1) L st (zG E e (zb_u W (b + j) q x)) F) : zk_Go l Γ I d kc ks Q pc L (.int (iZ x) :: .int (iZ z) :: .ref (b + j) :: st) (zG E e W) F := by
  have hs : E (b + j) = (100, zG_w k) := by rw [← hb]; exact hE.2.2.1 k hk j hj
  have hg := zG_ge k
  rw [hb] at hg
  refine gz_iast (M := zG E e W) (n := q) hd hs (by show 320 ≤ b + j; omega) hz hq ?_
  rw [zG_up (by omega) (by rw [hs]; show 100 ≠ 105; decide)]
  exact kk
end
theorem zS_hasSun {E : Nat → Nat × Nat} {e : Nat} {c : Nat → Nat} {W π σ : zV} (hE : zE E e c) (hS : sm c W π σ) (hw : wP π) {p : Nat} (hp : p < c 0) {t : Int} (ht : 0 ≤ t ∧ t < 100000) : zk_Does l Γ mX8_hasSun d 0 0 [.ref 424, .int (iZ (p : Int)), .int (iZ t)] (zG E e W) F (some (.int (iZ (bI (sSun π p t))))) (zG E e W) F := by
  intro Q hq
  have n0 := wP_n hw
  have n1 := hS.1
  have h1 := hw.2.2.2.2.1 p (by omega)
  refine gz_iload_n dX8_hasSun_0 rfl ?_
  refine gz_iload_n dX8_hasSun_1 rfl ?_
  refine zz_bipush (x := 120) dX8_hasSun_2 rfl ?_
  refine zz_idiv dX8_hasSun_4 (by omega) ?_
  refine zz_bipush (x := 120) dX8_hasSun_5 rfl ?_
  refine zz_imul dX8_hasSun_7 ?_
  refine zz_isub dX8_hasSun_8 ?_
  refine gz_istore_n dX8_hasSun_9 (Nat.le_of_ble_eq_true rfl) rfl ?_
  refine gz_iload_n dX8_hasSun_10 rfl ?_
  refine gz_aload_n dX8_hasSun_11 rfl ?_
  refine gz_getf (M := zG E e W) 3 dX8_hasSun_12 hE.1 rfl wf_HeliographsLaw_Sim_15 (by decide) rfl ?_
  refine gz_iload_n dX8_hasSun_15 rfl ?_
  refine gg_aald hE 0 (j := p) dX8_hasSun_16 (by decide) rfl rfl (by omega) ?_
  refine zz_iconst dX8_hasSun_17 ?_
  refine gg_iald hE 0 0 (j := p) (v := π 1 p) dX8_hasSun_18 (by decide) rfl (by omega) rfl (by decide) (hS.2.2.1 p (by omega)).1 ?_
  refine zz_icmp_lt (tgt := 38) dX8_hasSun_19 rfl (by omega) (fun b19 => ?_) (fun b19 => ?_)
  ·
    refine zz_iconst dX8_hasSun_38 ?_
    refine gz_ireturn dX8_hasSun_39 rfl rfl ?_
    (first | exact hq | (rw [bI_t (by simp only [sSun, decide_eq_true_eq]; omega)] at hq; exact hq) | (rw [bI_f (by simp only [sSun, decide_eq_true_eq]; omega)] at hq; exact hq))
  ·
    refine gz_iload_n dX8_hasSun_22 rfl ?_
    refine gz_aload_n dX8_hasSun_23 rfl ?_
    refine gz_getf (M := zG E e W) 3 dX8_hasSun_24 hE.1 rfl wf_HeliographsLaw_Sim_15 (by decide) rfl ?_
    refine gz_iload_n dX8_hasSun_27 rfl ?_
    refine gg_aald hE 0 (j := p) dX8_hasSun_28 (by decide) rfl rfl (by omega) ?_
    refine zz_iconst dX8_hasSun_29 ?_
    refine gg_iald hE 0 1 (j := p) (v := π 2 p) dX8_hasSun_30 (by decide) rfl (by omega) rfl (by decide) (hS.2.2.1 p (by omega)).2.1 ?_
    refine zz_icmp_ge (tgt := 38) dX8_hasSun_31 rfl (by omega) (fun b31 => ?_) (fun b31 => ?_)
    ·
      refine zz_iconst dX8_hasSun_38 ?_
      refine gz_ireturn dX8_hasSun_39 rfl rfl ?_
      (first | exact hq | (rw [bI_t (by simp only [sSun, decide_eq_true_eq]; omega)] at hq; exact hq) | (rw [bI_f (by simp only [sSun, decide_eq_true_eq]; omega)] at hq; exact hq))
    ·
      refine zz_iconst dX8_hasSun_34 ?_
      refine gz_goto (tgt := 39) dX8_hasSun_35 rfl ?_
      refine gz_ireturn dX8_hasSun_39 rfl rfl ?_
      (first | exact hq | (rw [bI_t (by simp only [sSun, decide_eq_true_eq]; omega)] at hq; exact hq) | (rw [bI_f (by simp only [sSun, decide_eq_true_eq]; omega)] at hq; exact hq))
theorem zS_isOpen_loop {E : Nat → Nat × Nat} {e : Nat} {c : Nat → Nat} {W π σ : zV} (hE : zE E e c) (hS : sm c W π σ) (hw : wP π) {w : Nat} (hw1 : w < c 1) {t : Int} (ht : 0 ≤ t ∧ t < 99000) {Q : Option Value → zk_M → (Heap → Prop) → Prop} : ∀ (n i : Nat) (L6 : Option Value), i + n = c 2 → Q (some (.int (iZ (bI (!(List.range' i n).any (sCl1 π (w : Int) t)))))) (zG E e W) F → zk_Go l Γ mX8_isOpen d 0 0 Q 46 [some (.ref 424), some (.int (iZ (w : Int))), some (.int (iZ t)), some (.ref 427), some (.int (iZ (c 2 : Int))), some (.int (iZ (i : Int))), L6] [] (zG E e W) F := by
  intro n
  induction n with
  | zero =>
    intro i L6 hi hq
    have n0 := wP_n hw
    have n1 := hS.1
    refine gz_iload dX8_isOpen_46 rfl ?_
    refine gz_iload dX8_isOpen_48 rfl ?_
    refine zz_icmp_ge (tgt := 93) dX8_isOpen_50 rfl (by omega) (fun b50 => ?_) (fun b50 => ?_)
    rotate_left
    · exact absurd b50 (by omega)
    refine zz_iconst dX8_isOpen_93 ?_
    refine gz_ireturn dX8_isOpen_94 rfl rfl ?_
    exact hq
  | succ n ih =>
    intro i L6 hi hq
    have n0 := wP_n hw
    have n1 := hS.1
    have h2 := wP_rem hw t (i := i) (by omega)
    have h1 := hw.2.2.2.2.2.2.1 i (by omega)
    refine gz_iload dX8_isOpen_46 rfl ?_
    refine gz_iload dX8_isOpen_48 rfl ?_
    refine zz_icmp_ge (tgt := 93) dX8_isOpen_50 rfl (by omega) (fun b50 => ?_) (fun b50 => ?_)
    · exact absurd b50 (by omega)
    refine gz_aload_n dX8_isOpen_53 rfl ?_
    refine gz_iload dX8_isOpen_54 rfl ?_
    refine gg_aald hE 2 (j := i) dX8_isOpen_56 (by decide) rfl rfl (by omega) ?_
    refine gz_astore dX8_isOpen_57 (Nat.le_of_ble_eq_true rfl) rfl ?_
    refine gz_aload dX8_isOpen_59 rfl ?_
    refine zz_iconst dX8_isOpen_61 ?_
    refine gg_iald hE 2 0 (j := i) (v := π 11 i) dX8_isOpen_62 (by decide) rfl (by omega) rfl (by decide) (hS.2.2.2.2.1 i (by omega)).1 ?_
    refine gz_iload_n dX8_isOpen_63 rfl ?_
    refine zz_icmp_ne (tgt := 87) dX8_isOpen_64 rfl (by omega) (fun b64 => ?_) (fun b64 => ?_)
    ·
      refine zz_iinc dX8_isOpen_87 rfl rfl ?_
      refine gz_goto (tgt := 46) dX8_isOpen_90 rfl ?_
      exact ih (i + 1) _ (by omega) (by rw [any_f (by simp only [sCl1, decide_eq_true_eq]; omega)] at hq; exact hq)
    ·
      refine gz_iload_n dX8_isOpen_67 rfl ?_
      refine gz_aload dX8_isOpen_68 rfl ?_
      refine zz_iconst dX8_isOpen_70 ?_
      refine gg_iald hE 2 3 (j := i) (v := π 14 i) dX8_isOpen_71 (by decide) rfl (by omega) rfl (by decide) (hS.2.2.2.2.1 i (by omega)).2.2.2 ?_
      refine zz_iadd dX8_isOpen_72 ?_
      refine gz_aload dX8_isOpen_73 rfl ?_
      refine zz_iconst dX8_isOpen_75 ?_
      refine gg_iald hE 2 1 (j := i) (v := π 12 i) dX8_isOpen_76 (by decide) rfl (by omega) rfl (by decide) (hS.2.2.2.2.1 i (by omega)).2.1 ?_
      refine zz_irem dX8_isOpen_77 (by omega) ?_
      refine gz_aload dX8_isOpen_78 rfl ?_
      refine zz_iconst dX8_isOpen_80 ?_
      refine gg_iald hE 2 2 (j := i) (v := π 13 i) dX8_isOpen_81 (by decide) rfl (by omega) rfl (by decide) (hS.2.2.2.2.1 i (by omega)).2.2.1 ?_
      refine zz_icmp_ge (tgt := 87) dX8_isOpen_82 rfl (by omega) (fun b82 => ?_) (fun b82 => ?_)
      ·
        refine zz_iinc dX8_isOpen_87 rfl rfl ?_
        refine gz_goto (tgt := 46) dX8_isOpen_90 rfl ?_
        exact ih (i + 1) _ (by omega) (by rw [any_f (by simp only [sCl1, decide_eq_true_eq]; omega)] at hq; exact hq)
      ·
        rw [any_t (by simp only [sCl1, decide_eq_true_eq]; omega)] at hq
        refine zz_iconst dX8_isOpen_85 ?_
        refine gz_ireturn dX8_isOpen_86 rfl rfl ?_
        exact hq
theorem zS_isOpen {E : Nat → Nat × Nat} {e : Nat} {c : Nat → Nat} {W π σ : zV} (hE : zE E e c) (hS : sm c W π σ) (hw : wP π) {w : Nat} (hw1 : w < c 1) {t : Int} (ht : 0 ≤ t ∧ t < 99000) (hd : 1 ≤ d) : zk_Does l Γ mX8_isOpen d 0 0 [.ref 424, .int (iZ (w : Int)), .int (iZ t)] (zG E e W) F (some (.int (iZ (bI (sOpen π w t))))) (zG E e W) F := by
  intro Q hq
  have n0 := wP_n hw
  have n1 := hS.1
  have h1 := hw.2.2.2.2.2.1 w (by omega)
  refine gz_aload_n dX8_isOpen_0 rfl ?_
  refine gz_aload_n dX8_isOpen_1 rfl ?_
  refine gz_getf (M := zG E e W) 4 dX8_isOpen_2 hE.1 rfl wf_HeliographsLaw_Sim_19 (by decide) rfl ?_
  refine gz_iload_n dX8_isOpen_5 rfl ?_
  refine gg_aald hE 1 (j := w) dX8_isOpen_6 (by decide) rfl rfl (by omega) ?_
  refine zz_iconst dX8_isOpen_7 ?_
  refine gg_iald hE 1 0 (j := w) (v := (((π 4 w).toNat : Nat) : Int)) dX8_isOpen_8 (by decide) rfl (by omega) rfl (by decide) (((hS.2.2.2.1 w (by omega)).1).trans (Int.toNat_of_nonneg (by omega)).symm) ?_
  refine gz_iload_n dX8_isOpen_9 rfl ?_
  refine gv_2 (J := mX8_hasSun) (d1 := d - 1) dX8_isOpen_10 wm_HeliographsLaw_Sim_31 hE.1 jzX8_hasSun (Nat.le_of_ble_eq_true rfl) (Nat.le_of_ble_eq_true rfl) (by omega) ⟨Nat.le_refl _, Nat.le_refl _⟩ (zS_hasSun hE hS hw (by omega) (by omega)) ?_
  refine zz_if_eqB (tgt := 32) dX8_isOpen_13 rfl (fun b13 => ?_) (fun b13 => ?_)
  ·
    refine zz_iconst dX8_isOpen_32 ?_
    refine gz_ireturn dX8_isOpen_33 rfl rfl ?_
    (first | exact hq | (rw [show sOpen π w t = false by unfold sOpen; rw [Bool.eq_false_iff.mpr b13, Bool.false_and, Bool.false_and]] at hq; exact hq) | (rw [show sOpen π w t = false by unfold sOpen; rw [Bool.eq_false_iff.mpr b29, Bool.and_false, Bool.false_and]] at hq; exact hq))
  ·
    refine gz_aload_n dX8_isOpen_16 rfl ?_
    refine gz_aload_n dX8_isOpen_17 rfl ?_
    refine gz_getf (M := zG E e W) 4 dX8_isOpen_18 hE.1 rfl wf_HeliographsLaw_Sim_19 (by decide) rfl ?_
    refine gz_iload_n dX8_isOpen_21 rfl ?_
    refine gg_aald hE 1 (j := w) dX8_isOpen_22 (by decide) rfl rfl (by omega) ?_
    refine zz_iconst dX8_isOpen_23 ?_
    refine gg_iald hE 1 1 (j := w) (v := (((π 5 w).toNat : Nat) : Int)) dX8_isOpen_24 (by decide) rfl (by omega) rfl (by decide) (((hS.2.2.2.1 w (by omega)).2.1).trans (Int.toNat_of_nonneg (by omega)).symm) ?_
    refine gz_iload_n dX8_isOpen_25 rfl ?_
    refine gv_2 (J := mX8_hasSun) (d1 := d - 1) dX8_isOpen_26 wm_HeliographsLaw_Sim_31 hE.1 jzX8_hasSun (Nat.le_of_ble_eq_true rfl) (Nat.le_of_ble_eq_true rfl) (by omega) ⟨Nat.le_refl _, Nat.le_refl _⟩ (zS_hasSun hE hS hw (by omega) (by omega)) ?_
    refine zz_if_neB (tgt := 34) dX8_isOpen_29 rfl (fun b29 => ?_) (fun b29 => ?_)
    ·
      refine gz_aload_n dX8_isOpen_34 rfl ?_
      refine gz_getf (M := zG E e W) 5 dX8_isOpen_35 hE.1 rfl wf_HeliographsLaw_Sim_22 (by decide) rfl ?_
      refine gz_astore_n dX8_isOpen_38 (Nat.le_of_ble_eq_true rfl) rfl ?_
      refine gz_aload_n dX8_isOpen_39 rfl ?_
      refine gg_alen hE 2 dX8_isOpen_40 (by decide) ?_
      refine gz_istore dX8_isOpen_41 (Nat.le_of_ble_eq_true rfl) rfl ?_
      refine zz_iconst dX8_isOpen_43 ?_
      refine gz_istore dX8_isOpen_44 (Nat.le_of_ble_eq_true rfl) rfl ?_
      exact zS_isOpen_loop hE hS hw hw1 ht (c 2) 0 _ (by omega) (by rw [show sOpen π w t = (!(List.range' 0 (c 2)).any (sCl1 π (w : Int) t)) by unfold sOpen sCl; rw [b13, b29, show (π 0 2).toNat = c 2 by omega]; rfl] at hq; exact hq)
    ·
      refine zz_iconst dX8_isOpen_32 ?_
      refine gz_ireturn dX8_isOpen_33 rfl rfl ?_
      (first | exact hq | (rw [show sOpen π w t = false by unfold sOpen; rw [Bool.eq_false_iff.mpr b13, Bool.false_and, Bool.false_and]] at hq; exact hq) | (rw [show sOpen π w t = false by unfold sOpen; rw [Bool.eq_false_iff.mpr b29, Bool.and_false, Bool.false_and]] at hq; exact hq))
theorem zS_isOpen1 {E : Nat → Nat × Nat} {e : Nat} {c : Nat → Nat} {W π σ : zV} (hE : zE E e c) (hS : sm c W π σ) (hw : wP π) {w : Nat} (hw1 : w < c 1) (ht : 0 ≤ σ 0 1 ∧ σ 0 1 < 99000) (h2 : -1 ≤ σ 0 2 ∧ σ 0 2 < 12) (hd : 2 ≤ d) : zk_Does l Γ mX8_isOpen_ d 0 0 [.ref 424, .int (iZ (w : Int))] (zG E e W) F (some (.int (iZ (bI (sPass π σ w (σ 0 1)))))) (zG E e W) F := by
  intro Q hq
  have n0 := wP_n hw
  have n1 := hS.1
  refine gz_iload_n dX8_isOpen__0 rfl ?_
  refine gz_aload_n dX8_isOpen__1 rfl ?_
  refine gz_getf (M := zG E e W) (v := .int (iZ (σ 0 2))) 2 dX8_isOpen__2 hE.1 rfl wf_HeliographsLaw_Sim_7 (by decide) (congrArg (fun z => Value.int (iZ z)) hS.2.1.2.2) ?_
  refine zz_icmp_eq (tgt := 24) dX8_isOpen__5 rfl (by omega) (fun b5 => ?_) (fun b5 => ?_)
  ·
    refine zz_iconst dX8_isOpen__24 ?_
    refine gz_ireturn dX8_isOpen__25 rfl rfl ?_
    (first | (rw [show sPass π σ w (σ 0 1) = true by unfold sPass; rw [b17, Bool.and_true, decide_eq_true_eq]; omega] at hq; exact hq) | (rw [show sPass π σ w (σ 0 1) = false by unfold sPass; rw [Bool.eq_false_iff.mpr b17, Bool.and_false]] at hq; exact hq) | (rw [show sPass π σ w (σ 0 1) = false by unfold sPass; rw [decide_eq_false (by omega), Bool.false_and]] at hq; exact hq))
  ·
    refine gz_aload_n dX8_isOpen__8 rfl ?_
    refine gz_iload_n dX8_isOpen__9 rfl ?_
    refine gz_aload_n dX8_isOpen__10 rfl ?_
    refine gz_getf (M := zG E e W) (v := .int (iZ (σ 0 1))) 0 dX8_isOpen__11 hE.1 rfl wf_HeliographsLaw_Sim_35 (by decide) (congrArg (fun z => Value.int (iZ z)) hS.2.1.1) ?_
    refine gv_2 (J := mX8_isOpen) (d1 := d - 1) dX8_isOpen__14 wm_HeliographsLaw_Sim_38 hE.1 jzX8_isOpen (Nat.le_of_ble_eq_true rfl) (Nat.le_of_ble_eq_true rfl) (by omega) ⟨Nat.le_refl _, Nat.le_refl _⟩ (zS_isOpen hE hS hw hw1 ht (by omega)) ?_
    refine zz_if_eqB (tgt := 24) dX8_isOpen__17 rfl (fun b17 => ?_) (fun b17 => ?_)
    ·
      refine zz_iconst dX8_isOpen__24 ?_
      refine gz_ireturn dX8_isOpen__25 rfl rfl ?_
      (first | (rw [show sPass π σ w (σ 0 1) = true by unfold sPass; rw [b17, Bool.and_true, decide_eq_true_eq]; omega] at hq; exact hq) | (rw [show sPass π σ w (σ 0 1) = false by unfold sPass; rw [Bool.eq_false_iff.mpr b17, Bool.and_false]] at hq; exact hq) | (rw [show sPass π σ w (σ 0 1) = false by unfold sPass; rw [decide_eq_false (by omega), Bool.false_and]] at hq; exact hq))
    ·
      refine zz_iconst dX8_isOpen__20 ?_
      refine gz_goto (tgt := 25) dX8_isOpen__21 rfl ?_
      refine gz_ireturn dX8_isOpen__25 rfl rfl ?_
      (first | (rw [show sPass π σ w (σ 0 1) = true by unfold sPass; rw [b17, Bool.and_true, decide_eq_true_eq]; omega] at hq; exact hq) | (rw [show sPass π σ w (σ 0 1) = false by unfold sPass; rw [Bool.eq_false_iff.mpr b17, Bool.and_false]] at hq; exact hq) | (rw [show sPass π σ w (σ 0 1) = false by unfold sPass; rw [decide_eq_false (by omega), Bool.false_and]] at hq; exact hq))
theorem zS_queue_loop {E : Nat → Nat × Nat} {e : Nat} {c : Nat → Nat} {W π σ : zV} (hE : zE E e c) (hS : sm c W π σ) (hw : wP π) {N : Int} (hc : wC π σ N) {p : Nat} (hp : p < 8) {Q : Option Value → zk_M → (Heap → Prop) → Prop} : ∀ (n i : Nat) (A : Int) (L6 : Option Value), i + n = c 3 → 0 ≤ A ∧ A ≤ i → Q (some (.int (iZ (A + sNum (sAt σ (p : Int) 0) i n)))) (zG E e W) F → zk_Go l Γ mX8_queue d 0 0 Q 14 [some (.ref 424), some (.int (iZ (p : Int))), some (.int (iZ A)), some (.ref 428), some (.int (iZ (c 3 : Int))), some (.int (iZ (i : Int))), L6] [] (zG E e W) F := by
  intro n
  induction n with
  | zero =>
    intro i A L6 hi hA hq
    have n0 := wP_n hw
    have n1 := hS.1
    refine gz_iload dX8_queue_14 rfl ?_
    refine gz_iload dX8_queue_16 rfl ?_
    refine zz_icmp_ge (tgt := 56) dX8_queue_18 rfl (by omega) (fun b18 => ?_) (fun b18 => ?_)
    rotate_left
    · exact absurd b18 (by omega)
    refine gz_iload_n dX8_queue_56 rfl ?_
    refine gz_ireturn dX8_queue_57 rfl rfl ?_
    rw [sNum_0, Int.add_zero] at hq
    exact hq
  | succ n ih =>
    intro i A L6 hi hA hq
    have n0 := wP_n hw
    have n1 := hS.1
    have h1 := wC_m hc (k := i) (by omega)
    unfold wM at h1
    refine gz_iload dX8_queue_14 rfl ?_
    refine gz_iload dX8_queue_16 rfl ?_
    refine zz_icmp_ge (tgt := 56) dX8_queue_18 rfl (by omega) (fun b18 => ?_) (fun b18 => ?_)
    · exact absurd b18 (by omega)
    refine gz_aload_n dX8_queue_21 rfl ?_
    refine gz_iload dX8_queue_22 rfl ?_
    refine gg_aald hE 3 (j := i) dX8_queue_24 (by decide) rfl rfl (by omega) ?_
    refine gz_astore dX8_queue_25 (Nat.le_of_ble_eq_true rfl) rfl ?_
    refine gz_iload_n dX8_queue_27 rfl ?_
    refine gz_aload dX8_queue_28 rfl ?_
    refine zz_iconst dX8_queue_30 ?_
    refine gg_iald hE 3 4 (j := i) (v := σ 4 i) dX8_queue_31 (by decide) rfl (by omega) rfl (by decide) (hS.2.2.2.2.2 i (by omega)).2.2.2.2.1 ?_
    refine zz_if_ne (tgt := 47) dX8_queue_32 rfl (by omega) (fun b32 => ?_) (fun b32 => ?_)
    ·
      refine zz_iconst dX8_queue_47 ?_
      refine zz_iadd dX8_queue_48 ?_
      refine gz_istore_n dX8_queue_49 (Nat.le_of_ble_eq_true rfl) rfl ?_
      refine zz_iinc dX8_queue_50 rfl rfl ?_
      refine gz_goto (tgt := 14) dX8_queue_53 rfl ?_
      (first | exact ih (i + 1) _ _ (by omega) (by omega) (by rw [sNum_t (by simp only [sAt, decide_eq_true_eq]; omega), ← Int.add_assoc] at hq; exact hq) | exact ih (i + 1) _ _ (by omega) (by omega) (by rw [sNum_f (by simp only [sAt, decide_eq_true_eq]; omega)] at hq; rw [Int.add_zero]; exact hq))
    ·
      refine gz_aload dX8_queue_35 rfl ?_
      refine zz_iconst dX8_queue_37 ?_
      refine gg_iald hE 3 1 (j := i) (v := σ 2 i) dX8_queue_38 (by decide) rfl (by omega) rfl (by decide) (hS.2.2.2.2.2 i (by omega)).2.1 ?_
      refine gz_iload_n dX8_queue_39 rfl ?_
      refine zz_icmp_ne (tgt := 47) dX8_queue_40 rfl (by omega) (fun b40 => ?_) (fun b40 => ?_)
      ·
        refine zz_iconst dX8_queue_47 ?_
        refine zz_iadd dX8_queue_48 ?_
        refine gz_istore_n dX8_queue_49 (Nat.le_of_ble_eq_true rfl) rfl ?_
        refine zz_iinc dX8_queue_50 rfl rfl ?_
        refine gz_goto (tgt := 14) dX8_queue_53 rfl ?_
        (first | exact ih (i + 1) _ _ (by omega) (by omega) (by rw [sNum_t (by simp only [sAt, decide_eq_true_eq]; omega), ← Int.add_assoc] at hq; exact hq) | exact ih (i + 1) _ _ (by omega) (by omega) (by rw [sNum_f (by simp only [sAt, decide_eq_true_eq]; omega)] at hq; rw [Int.add_zero]; exact hq))
      ·
        refine zz_iconst dX8_queue_43 ?_
        refine gz_goto (tgt := 48) dX8_queue_44 rfl ?_
        refine zz_iadd dX8_queue_48 ?_
        refine gz_istore_n dX8_queue_49 (Nat.le_of_ble_eq_true rfl) rfl ?_
        refine zz_iinc dX8_queue_50 rfl rfl ?_
        refine gz_goto (tgt := 14) dX8_queue_53 rfl ?_
        (first | exact ih (i + 1) _ _ (by omega) (by omega) (by rw [sNum_t (by simp only [sAt, decide_eq_true_eq]; omega), ← Int.add_assoc] at hq; exact hq) | exact ih (i + 1) _ _ (by omega) (by omega) (by rw [sNum_f (by simp only [sAt, decide_eq_true_eq]; omega)] at hq; rw [Int.add_zero]; exact hq))
theorem zS_queue {E : Nat → Nat × Nat} {e : Nat} {c : Nat → Nat} {W π σ : zV} (hE : zE E e c) (hS : sm c W π σ) (hw : wP π) {N : Int} (hc : wC π σ N) {p : Nat} (hp : p < 8) : zk_Does l Γ mX8_queue d 0 0 [.ref 424, .int (iZ (p : Int))] (zG E e W) F (some (.int (iZ (sNum (sAt σ (p : Int) 0) 0 (c 3))))) (zG E e W) F := by
  intro Q hq
  refine zz_iconst dX8_queue_0 ?_
  refine gz_istore_n dX8_queue_1 (Nat.le_of_ble_eq_true rfl) rfl ?_
  refine gz_aload_n dX8_queue_2 rfl ?_
  refine gz_getf (M := zG E e W) 6 dX8_queue_3 hE.1 rfl wf_HeliographsLaw_Sim_25 (by decide) rfl ?_
  refine gz_astore_n dX8_queue_6 (Nat.le_of_ble_eq_true rfl) rfl ?_
  refine gz_aload_n dX8_queue_7 rfl ?_
  refine gg_alen hE 3 dX8_queue_8 (by decide) ?_
  refine gz_istore dX8_queue_9 (Nat.le_of_ble_eq_true rfl) rfl ?_
  refine zz_iconst dX8_queue_11 ?_
  refine gz_istore dX8_queue_12 (Nat.le_of_ble_eq_true rfl) rfl ?_
  exact zS_queue_loop hE hS hw hc hp (c 3) 0 0 _ (by omega) (by omega) (by rw [Int.zero_add]; exact hq)
theorem zS_busy_loop {E : Nat → Nat × Nat} {e : Nat} {c : Nat → Nat} {W π σ : zV} (hE : zE E e c) (hS : sm c W π σ) (hw : wP π) {N : Int} (hc : wC π σ N) {p : Nat} (hp : p < 8) {Q : Option Value → zk_M → (Heap → Prop) → Prop} : ∀ (n i : Nat) (A : Int) (L6 : Option Value), i + n = c 3 → 0 ≤ A ∧ A ≤ i → Q (some (.int (iZ (A + sNum (sAt σ (p : Int) 1) i n)))) (zG E e W) F → zk_Go l Γ mX8_busy d 0 0 Q 14 [some (.ref 424), some (.int (iZ (p : Int))), some (.int (iZ A)), some (.ref 428), some (.int (iZ (c 3 : Int))), some (.int (iZ (i : Int))), L6] [] (zG E e W) F := by
  intro n
  induction n with
  | zero =>
    intro i A L6 hi hA hq
    have n0 := wP_n hw
    have n1 := hS.1
    refine gz_iload dX8_busy_14 rfl ?_
    refine gz_iload dX8_busy_16 rfl ?_
    refine zz_icmp_ge (tgt := 57) dX8_busy_18 rfl (by omega) (fun b18 => ?_) (fun b18 => ?_)
    rotate_left
    · exact absurd b18 (by omega)
    refine gz_iload_n dX8_busy_57 rfl ?_
    refine gz_ireturn dX8_busy_58 rfl rfl ?_
    rw [sNum_0, Int.add_zero] at hq
    exact hq
  | succ n ih =>
    intro i A L6 hi hA hq
    have n0 := wP_n hw
    have n1 := hS.1
    have h1 := wC_m hc (k := i) (by omega)
    unfold wM at h1
    refine gz_iload dX8_busy_14 rfl ?_
    refine gz_iload dX8_busy_16 rfl ?_
    refine zz_icmp_ge (tgt := 57) dX8_busy_18 rfl (by omega) (fun b18 => ?_) (fun b18 => ?_)
    · exact absurd b18 (by omega)
    refine gz_aload_n dX8_busy_21 rfl ?_
    refine gz_iload dX8_busy_22 rfl ?_
    refine gg_aald hE 3 (j := i) dX8_busy_24 (by decide) rfl rfl (by omega) ?_
    refine gz_astore dX8_busy_25 (Nat.le_of_ble_eq_true rfl) rfl ?_
    refine gz_iload_n dX8_busy_27 rfl ?_
    refine gz_aload dX8_busy_28 rfl ?_
    refine zz_iconst dX8_busy_30 ?_
    refine gg_iald hE 3 4 (j := i) (v := σ 4 i) dX8_busy_31 (by decide) rfl (by omega) rfl (by decide) (hS.2.2.2.2.2 i (by omega)).2.2.2.2.1 ?_
    refine zz_iconst dX8_busy_32 ?_
    refine zz_icmp_ne (tgt := 48) dX8_busy_33 rfl (by omega) (fun b33 => ?_) (fun b33 => ?_)
    ·
      refine zz_iconst dX8_busy_48 ?_
      refine zz_iadd dX8_busy_49 ?_
      refine gz_istore_n dX8_busy_50 (Nat.le_of_ble_eq_true rfl) rfl ?_
      refine zz_iinc dX8_busy_51 rfl rfl ?_
      refine gz_goto (tgt := 14) dX8_busy_54 rfl ?_
      (first | exact ih (i + 1) _ _ (by omega) (by omega) (by rw [sNum_t (by simp only [sAt, decide_eq_true_eq]; omega), ← Int.add_assoc] at hq; exact hq) | exact ih (i + 1) _ _ (by omega) (by omega) (by rw [sNum_f (by simp only [sAt, decide_eq_true_eq]; omega)] at hq; rw [Int.add_zero]; exact hq))
    ·
      refine gz_aload dX8_busy_36 rfl ?_
      refine zz_iconst dX8_busy_38 ?_
      refine gg_iald hE 3 1 (j := i) (v := σ 2 i) dX8_busy_39 (by decide) rfl (by omega) rfl (by decide) (hS.2.2.2.2.2 i (by omega)).2.1 ?_
      refine gz_iload_n dX8_busy_40 rfl ?_
      refine zz_icmp_ne (tgt := 48) dX8_busy_41 rfl (by omega) (fun b41 => ?_) (fun b41 => ?_)
      ·
        refine zz_iconst dX8_busy_48 ?_
        refine zz_iadd dX8_busy_49 ?_
        refine gz_istore_n dX8_busy_50 (Nat.le_of_ble_eq_true rfl) rfl ?_
        refine zz_iinc dX8_busy_51 rfl rfl ?_
        refine gz_goto (tgt := 14) dX8_busy_54 rfl ?_
        (first | exact ih (i + 1) _ _ (by omega) (by omega) (by rw [sNum_t (by simp only [sAt, decide_eq_true_eq]; omega), ← Int.add_assoc] at hq; exact hq) | exact ih (i + 1) _ _ (by omega) (by omega) (by rw [sNum_f (by simp only [sAt, decide_eq_true_eq]; omega)] at hq; rw [Int.add_zero]; exact hq))
      ·
        refine zz_iconst dX8_busy_44 ?_
        refine gz_goto (tgt := 49) dX8_busy_45 rfl ?_
        refine zz_iadd dX8_busy_49 ?_
        refine gz_istore_n dX8_busy_50 (Nat.le_of_ble_eq_true rfl) rfl ?_
        refine zz_iinc dX8_busy_51 rfl rfl ?_
        refine gz_goto (tgt := 14) dX8_busy_54 rfl ?_
        (first | exact ih (i + 1) _ _ (by omega) (by omega) (by rw [sNum_t (by simp only [sAt, decide_eq_true_eq]; omega), ← Int.add_assoc] at hq; exact hq) | exact ih (i + 1) _ _ (by omega) (by omega) (by rw [sNum_f (by simp only [sAt, decide_eq_true_eq]; omega)] at hq; rw [Int.add_zero]; exact hq))
theorem zS_busy {E : Nat → Nat × Nat} {e : Nat} {c : Nat → Nat} {W π σ : zV} (hE : zE E e c) (hS : sm c W π σ) (hw : wP π) {N : Int} (hc : wC π σ N) {p : Nat} (hp : p < 8) : zk_Does l Γ mX8_busy d 0 0 [.ref 424, .int (iZ (p : Int))] (zG E e W) F (some (.int (iZ (sNum (sAt σ (p : Int) 1) 0 (c 3))))) (zG E e W) F := by
  intro Q hq
  refine zz_iconst dX8_busy_0 ?_
  refine gz_istore_n dX8_busy_1 (Nat.le_of_ble_eq_true rfl) rfl ?_
  refine gz_aload_n dX8_busy_2 rfl ?_
  refine gz_getf (M := zG E e W) 6 dX8_busy_3 hE.1 rfl wf_HeliographsLaw_Sim_25 (by decide) rfl ?_
  refine gz_astore_n dX8_busy_6 (Nat.le_of_ble_eq_true rfl) rfl ?_
  refine gz_aload_n dX8_busy_7 rfl ?_
  refine gg_alen hE 3 dX8_busy_8 (by decide) ?_
  refine gz_istore dX8_busy_9 (Nat.le_of_ble_eq_true rfl) rfl ?_
  refine zz_iconst dX8_busy_11 ?_
  refine gz_istore dX8_busy_12 (Nat.le_of_ble_eq_true rfl) rfl ?_
  exact zS_busy_loop hE hS hw hc hp (c 3) 0 0 _ (by omega) (by omega) (by rw [Int.zero_add]; exact hq)
/-- the last of them, or a -/
def sLast (f : Nat → Bool) : Nat → Nat → Int → Int
  | _, 0, a => a
  | i, n + 1, a => sLast f (i + 1) n (if f i = true then (i : Int) else a)
theorem zS_over_loop {E : Nat → Nat × Nat} {e : Nat} {c : Nat → Nat} {W π σ : zV} (hE : zE E e c) (hS : sm c W π σ) (hw : wP π) {N : Int} (hc : wC π σ N) {w : Nat} (hp : w < 12) {Q : Option Value → zk_M → (Heap → Prop) → Prop} : ∀ (n i : Nat) (A : Int), i + n = c 3 → Q (some (.int (iZ (sLast (fun m => decide (σ 7 m = (w : Int))) i n A)))) (zG E e W) F → zk_Go l Γ mX8_over d 0 0 Q 4 [some (.ref 424), some (.int (iZ (w : Int))), some (.int (iZ A)), some (.int (iZ (i : Int)))] [] (zG E e W) F := by
  intro n
  induction n with
  | zero =>
    intro i A hi hq
    have n0 := wP_n hw
    have n1 := hS.1
    refine gz_iload_n dX8_over_4 rfl ?_
    refine gz_aload_n dX8_over_5 rfl ?_
    refine gz_getf (M := zG E e W) 6 dX8_over_6 hE.1 rfl wf_HeliographsLaw_Sim_25 (by decide) rfl ?_
    refine gg_alen hE 3 dX8_over_9 (by decide) ?_
    refine zz_icmp_ge (tgt := 33) dX8_over_10 rfl (by omega) (fun b10 => ?_) (fun b10 => ?_)
    rotate_left
    · exact absurd b10 (by omega)
    refine gz_iload_n dX8_over_33 rfl ?_
    refine gz_ireturn dX8_over_34 rfl rfl ?_
    exact hq
  | succ n ih =>
    intro i A hi hq
    have n0 := wP_n hw
    have n1 := hS.1
    have h1 := wC_m hc (k := i) (by omega)
    unfold wM at h1
    refine gz_iload_n dX8_over_4 rfl ?_
    refine gz_aload_n dX8_over_5 rfl ?_
    refine gz_getf (M := zG E e W) 6 dX8_over_6 hE.1 rfl wf_HeliographsLaw_Sim_25 (by decide) rfl ?_
    refine gg_alen hE 3 dX8_over_9 (by decide) ?_
    refine zz_icmp_ge (tgt := 33) dX8_over_10 rfl (by omega) (fun b10 => ?_) (fun b10 => ?_)
    · exact absurd b10 (by omega)
    refine gz_aload_n dX8_over_13 rfl ?_
    refine gz_getf (M := zG E e W) 6 dX8_over_14 hE.1 rfl wf_HeliographsLaw_Sim_25 (by decide) rfl ?_
    refine gz_iload_n dX8_over_17 rfl ?_
    refine gg_aald hE 3 (j := i) dX8_over_18 (by decide) rfl rfl (by omega) ?_
    refine zz_iconst dX8_over_19 ?_
    refine gg_iald hE 3 5 (j := i) (v := σ 7 i) dX8_over_20 (by decide) rfl (by omega) rfl (by decide) (hS.2.2.2.2.2 i (by omega)).2.2.2.2.2.1 ?_
    refine gz_iload_n dX8_over_21 rfl ?_
    refine zz_icmp_ne (tgt := 27) dX8_over_22 rfl (by omega) (fun b22 => ?_) (fun b22 => ?_)
    ·
      refine zz_iinc dX8_over_27 rfl rfl ?_
      refine gz_goto (tgt := 4) dX8_over_30 rfl ?_
      (first | exact ih (i + 1) _ (by omega) (by have q : sLast (fun m => decide (σ 7 m = (w : Int))) i (n + 1) A = sLast (fun m => decide (σ 7 m = (w : Int))) (i + 1) n (i : Int) := congrArg _ (if_pos (by simp only [decide_eq_true_eq]; omega)); rw [q] at hq; exact hq) | exact ih (i + 1) _ (by omega) (by have q : sLast (fun m => decide (σ 7 m = (w : Int))) i (n + 1) A = sLast (fun m => decide (σ 7 m = (w : Int))) (i + 1) n A := congrArg _ (if_neg (by simp only [decide_eq_true_eq]; omega)); rw [q] at hq; exact hq))
    ·
      refine gz_iload_n dX8_over_25 rfl ?_
      refine gz_istore_n dX8_over_26 (Nat.le_of_ble_eq_true rfl) rfl ?_
      refine zz_iinc dX8_over_27 rfl rfl ?_
      refine gz_goto (tgt := 4) dX8_over_30 rfl ?_
      (first | exact ih (i + 1) _ (by omega) (by have q : sLast (fun m => decide (σ 7 m = (w : Int))) i (n + 1) A = sLast (fun m => decide (σ 7 m = (w : Int))) (i + 1) n (i : Int) := congrArg _ (if_pos (by simp only [decide_eq_true_eq]; omega)); rw [q] at hq; exact hq) | exact ih (i + 1) _ (by omega) (by have q : sLast (fun m => decide (σ 7 m = (w : Int))) i (n + 1) A = sLast (fun m => decide (σ 7 m = (w : Int))) (i + 1) n A := congrArg _ (if_neg (by simp only [decide_eq_true_eq]; omega)); rw [q] at hq; exact hq))
theorem zS_over {E : Nat → Nat × Nat} {e : Nat} {c : Nat → Nat} {W π σ : zV} (hE : zE E e c) (hS : sm c W π σ) (hw : wP π) {N : Int} (hc : wC π σ N) {w : Nat} (hp : w < 12) : zk_Does l Γ mX8_over d 0 0 [.ref 424, .int (iZ (w : Int))] (zG E e W) F (some (.int (iZ (sLast (fun m => decide (σ 7 m = (w : Int))) 0 (c 3) (-1))))) (zG E e W) F := by
  intro Q hq
  refine zz_iconst dX8_over_0 ?_
  refine gz_istore_n dX8_over_1 (Nat.le_of_ble_eq_true rfl) rfl ?_
  refine zz_iconst dX8_over_2 ?_
  refine gz_istore_n dX8_over_3 (Nat.le_of_ble_eq_true rfl) rfl ?_
  exact zS_over_loop hE hS hw hc hp (c 3) 0 _ (by omega) hq
end

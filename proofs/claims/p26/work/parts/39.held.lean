/-! ORDERS: whether a message is held -/
section
variable {l : Launch} {Γ : zk_G} {d : Nat} {Z : Nat → Nat → Int} {F : Heap → Prop}
theorem zs_apply {c p : Nat} (hcs : c = 336 ∨ c = 352) (hp : p = 368 ∨ p = 400) (hcp : Z c 0 = (p : Int)) (hw : wP (vP Z p)) {N : Int} (hc : wC (vP Z p) (vC Z c) N) (hlit : ∀ w : Nat, w < 12 → 0 ≤ Z (c + 11) w ∧ Z (c + 11) w ≤ 1) {k x : Int} {s s1 : List Int} (hs : hSt Z p s) (hl : s.length ≤ 300) (h : sStep (vP Z p) (vC Z c) k x s s1) (hd : 2 ≤ d) :
    zk_DoesR l Γ mX2_apply d [.ref (p + 15), .int (iZ k), .int (iZ x), .ref c] Z F none (fun Z2 => zeq Z Z2 ∧ hSt Z2 p s1) := by
  rcases h with ⟨rfl, rfl⟩ | ⟨rfl, rfl⟩ | ⟨rfl, h, rfl⟩ | ⟨rfl, h, rfl⟩ | ⟨rfl, h, rfl⟩ | ⟨rfl, h, rfl⟩ | ⟨rfl, h, rfl⟩ | ⟨rfl, a, s2, rfl, rfl⟩ | ⟨r, a, v, s2, rfl, rfl, h⟩
  · exact zs_ap_num hcs hp hcp hw hc hlit hs hl hd
  · exact zs_ap_minute hcs hp hcp hw hc hlit hs hl hd
  · exact zs_ap_queue hcs hp hcp hw hc hlit hs hl h hd
  · exact zs_ap_left hcs hp hcp hw hc hlit hs hl h hd
  · exact zs_ap_breaks hcs hp hcp hw hc hlit hs hl h hd
  · exact zs_ap_isOpen hcs hp hcp hw hc hlit hs hl h hd
  · exact zs_ap_carried hcs hp hcp hw hc hlit hs hl h hd
  · exact zs_ap_not hcs hp hs (by have : (a :: s2).length = s2.length + 1 := rfl; omega) hd
  · exact zs_ap_join hcs hp hs (by have : (r :: a :: s2).length = s2.length + 2 := rfl; omega) h hd
theorem zs_isTrue_loop {c p : Nat} (hcs : c = 336 ∨ c = 352) (hp : p = 368 ∨ p = 400) (hcp : Z c 0 = (p : Int)) (hw : wP (vP Z p)) {N : Int} (hc : wC (vP Z p) (vC Z c) N) (hlit : ∀ w : Nat, w < 12 → 0 ≤ Z (c + 11) w ∧ Z (c + 11) w ≤ 1) {st e : Nat} {v : Int} (he : e ≤ 400) (hv : -2147483648 ≤ v ∧ v < 2147483648) (hd : 3 ≤ d) {Q : Option Value → zk_M → (Heap → Prop) → Prop} : ∀ (n i : Nat) (s : List Int) (Z1 : zV), i + n = e → zeq Z Z1 → hSt Z1 p s → sEv (vP Z p) (vC Z c) (Z (p + 18)) (Z (p + 19)) i n s [v] → (∀ Z2 : zV, zeq Z Z2 → Q (some (.int (iZ (bI (decide (v ≠ 0)))))) (zb_M Z2) F) → zk_Go l Γ mX2_isTrue d 0 0 Q 8 [some (.ref (p + 15)), some (.int (iZ (st : Int))), some (.int (iZ (e : Int))), some (.ref c), some (.int (iZ (i : Int)))] [] (zb_M Z1) F := by
  intro n
  induction n with
  | zero =>
    intro i s Z1 hi hz hs hev hq
    have hcs2 := hcs
    have hp2 := hp
    rw [show s = [v] from hev] at hs
    rcases hcs with rfl | rfl <;> rcases hp with rfl | rfl <;> (
      refine gz_iload dX2_isTrue_8 rfl ?_
      refine zz_if_lt (tgt := 54) dX2_isTrue_10 rfl (by omega) (fun b10 => ?_) (fun b10 => ?_)
      · exact absurd b10 (by omega)
      refine gz_iload dX2_isTrue_13 rfl ?_
      refine gz_iload_n dX2_isTrue_15 rfl ?_
      refine zz_icmp_ge (tgt := 54) dX2_isTrue_16 rfl (by omega) (fun b16 => ?_) (fun b16 => ?_)
      rotate_left
      · exact absurd b16 (by omega)
      refine gz_aload_n dX2_isTrue_54 rfl ?_
      refine gq_0 (J := mX2_pop) (d1 := d - 1) dX2_isTrue_55 wm_Heliographs_Orders_45 rfl jzX2_pop (Nat.le_of_ble_eq_true rfl) (Nat.le_of_ble_eq_true rfl) (by omega) (zs_pop hp2 (by exact hs) (by show 0 ≤ 390; omega)) (fun Z55 hZ55 => ?_)
      refine zz_if_eq (tgt := 65) dX2_isTrue_58 rfl (by omega) (fun b58 => ?_) (fun b58 => ?_)
      ·
        refine zz_iconst dX2_isTrue_65 ?_
        refine gz_ireturn dX2_isTrue_66 rfl rfl ?_
        have hq2 := hq Z55 (hz.trans hZ55.1)
        first
          | (rw [bI_t (show decide (v ≠ 0) = true from decide_eq_true b58)] at hq2; exact hq2)
          | (rw [bI_f (show ¬ decide (v ≠ 0) = true from fun q => absurd b58 (of_decide_eq_true q))] at hq2; exact hq2)
      ·
        refine zz_iconst dX2_isTrue_61 ?_
        refine gz_goto (tgt := 66) dX2_isTrue_62 rfl ?_
        refine gz_ireturn dX2_isTrue_66 rfl rfl ?_
        have hq2 := hq Z55 (hz.trans hZ55.1)
        first
          | (rw [bI_t (show decide (v ≠ 0) = true from decide_eq_true b58)] at hq2; exact hq2)
          | (rw [bI_f (show ¬ decide (v ≠ 0) = true from fun q => absurd b58 (of_decide_eq_true q))] at hq2; exact hq2)
    )
  | succ n ih =>
    intro i s Z1 hi hz hs hev hq
    have hcs2 := hcs
    have hp2 := hp
    obtain ⟨hln, s1, hst, hev2⟩ := hev
    have e18 : Z1 (p + 18) i = Z (p + 18) i := hz.at (by omega) i
    have e19 : Z1 (p + 19) i = Z (p + 19) i := hz.at (by omega) i
    have ecp : Z1 c 0 = (p : Int) := (hz.at (by omega) 0).trans hcp
    have hw1 : wP (vP Z1 p) := by rw [hz.vP hp]; exact hw
    have hc1 : wC (vP Z1 p) (vC Z1 c) N := by rw [hz.vP hp, hz.vC hcs]; exact hc
    have hl1 : ∀ w : Nat, w < 12 → 0 ≤ Z1 (c + 11) w ∧ Z1 (c + 11) w ≤ 1 := fun w h => by rw [hz.at (by omega) w]; exact hlit w h
    have hst1 : sStep (vP Z1 p) (vC Z1 c) (Z (p + 18) i) (Z (p + 19) i) s s1 := by rw [hz.vP hp, hz.vC hcs]; exact hst
    rcases hcs with rfl | rfl <;> rcases hp with rfl | rfl <;> (
      simp only [Nat.reduceAdd] at e18 e19
      refine gz_iload dX2_isTrue_8 rfl ?_
      refine zz_if_lt (tgt := 54) dX2_isTrue_10 rfl (by omega) (fun b10 => ?_) (fun b10 => ?_)
      · exact absurd b10 (by omega)
      refine gz_iload dX2_isTrue_13 rfl ?_
      refine gz_iload_n dX2_isTrue_15 rfl ?_
      refine zz_icmp_ge (tgt := 54) dX2_isTrue_16 rfl (by omega) (fun b16 => ?_) (fun b16 => ?_)
      · exact absurd b16 (by omega)
      refine gz_iload dX2_isTrue_19 rfl ?_
      refine gz_aload_n dX2_isTrue_21 rfl ?_
      refine gz_getf 3 dX2_isTrue_22 rfl rfl wf_Heliographs_Orders_18 (by decide) rfl ?_
      refine gz_alen (k := 0) dX2_isTrue_25 rfl (by decide) ?_
      refine zz_icmp_ge (tgt := 54) dX2_isTrue_26 rfl (by omega) (fun b26 => ?_) (fun b26 => ?_)
      · exact absurd b26 (by omega)
      refine gz_aload_n dX2_isTrue_29 rfl ?_
      refine gz_aload_n dX2_isTrue_30 rfl ?_
      refine gz_getf 3 dX2_isTrue_31 rfl rfl wf_Heliographs_Orders_18 (by decide) rfl ?_
      refine gz_iload dX2_isTrue_34 rfl ?_
      refine gz_iald (n := i) dX2_isTrue_36 rfl rfl (by omega) (zv_i e18) ?_
      refine gz_aload_n dX2_isTrue_37 rfl ?_
      refine gz_getf 4 dX2_isTrue_38 rfl rfl wf_Heliographs_Orders_21 (by decide) rfl ?_
      refine gz_iload dX2_isTrue_41 rfl ?_
      refine gz_iald (n := i) dX2_isTrue_43 rfl rfl (by omega) (zv_i e19) ?_
      refine gz_aload_n dX2_isTrue_44 rfl ?_
      refine gq_3 (J := mX2_apply) (d1 := d - 1) dX2_isTrue_45 wm_Heliographs_Orders_41 rfl jzX2_apply (Nat.le_of_ble_eq_true rfl) (Nat.le_of_ble_eq_true rfl) (by omega) (zs_apply hcs2 hp2 (by exact ecp) hw1 hc1 (by exact hl1) hs hln hst1 (by omega)) (fun Z45 hZ45 => ?_)
      refine zz_iinc dX2_isTrue_48 rfl rfl ?_
      refine gz_goto (tgt := 8) dX2_isTrue_51 rfl ?_
      exact ih (i + 1) s1 Z45 (by omega) (hz.trans hZ45.1) hZ45.2 hev2 hq
    )
theorem zs_isTrue {c p : Nat} (hcs : c = 336 ∨ c = 352) (hp : p = 368 ∨ p = 400) (hcp : Z c 0 = (p : Int)) (hw : wP (vP Z p)) {N : Int} (hc : wC (vP Z p) (vC Z c) N) (hlit : ∀ w : Nat, w < 12 → 0 ≤ Z (c + 11) w ∧ Z (c + 11) w ≤ 1) {st e n : Nat} {v : Int} (hn : st + n = e) (he : e ≤ 400) (hv : -2147483648 ≤ v ∧ v < 2147483648) (hev : sEv (vP Z p) (vC Z c) (Z (p + 18)) (Z (p + 19)) st n [] [v]) (hd : 3 ≤ d) : zk_DoesR l Γ mX2_isTrue d [.ref (p + 15), .int (iZ (st : Int)), .int (iZ (e : Int)), .ref c] Z F (some (.int (iZ (bI (decide (v ≠ 0)))))) (fun Z2 => zeq Z Z2) := by
  intro Q hq
  have hcs2 := hcs
  have hp2 := hp
  have htl : zk_Go l Γ mX2_isTrue d 0 0 Q 8 [some (.ref (p + 15)), some (.int (iZ (st : Int))), some (.int (iZ (e : Int))), some (.ref c), some (.int (iZ (st : Int)))] [] (zb_M (zb_u Z (p + 15) 7 0)) F := zs_isTrue_loop hcs hp hcp hw hc hlit (st := st) he hv hd n st [] _ hn (zeq.u (by rcases hp with rfl | rfl <;> rfl)) ⟨zb_u_at _ _ _ _, trivial⟩ hev hq
  rcases hcs with rfl | rfl <;> rcases hp with rfl | rfl <;> (
    refine gz_aload_n dX2_isTrue_0 rfl ?_
    refine zz_iconst dX2_isTrue_1 ?_
    refine zc_putf 7 dX2_isTrue_2 rfl rfl wf_Heliographs_Orders_38 (by decide) (by decide) jo_Heliographs_Orders ju_Heliographs_Orders rfl tyX2 tyX2_ok nmX2 rfl (fun _ => ⟨rfl, rfl⟩) rfl ?_
    refine gz_iload_n dX2_isTrue_5 rfl ?_
    refine gz_istore dX2_isTrue_6 (Nat.le_of_ble_eq_true rfl) rfl ?_
    exact htl
  )
/-- the orders of the plan at p: H says whether they hold a message -/
def hOr (Z : zV) (p : Nat) (H : zV → Nat → Bool) : Prop := ∃ (n : Nat) (st : Nat → Nat), Z (p + 15) 0 = (n : Int) ∧ n ≤ 12 ∧ st 0 = 0 ∧ (∀ j : Nat, j < n → Z (p + 17) j = (st (j + 1) : Int) ∧ st j ≤ st (j + 1) ∧ st (j + 1) ≤ 400 ∧ 0 ≤ Z (p + 16) j ∧ Z (p + 16) j < 8) ∧
  ∀ (σ : zV) (N : Int), wC (vP Z p) σ N → ∃ T : Nat → Int, (∀ j : Nat, j < n → sEv (vP Z p) σ (Z (p + 18)) (Z (p + 19)) (st j) (st (j + 1) - st j) [] [T j] ∧ -2147483648 ≤ T j ∧ T j < 2147483648) ∧ ∀ k : Nat, H σ k = (List.range' 0 n).any (fun j => decide (Z (p + 16) j = (k : Int) ∧ T j ≠ 0))
theorem zs_isHeld_loop {c p : Nat} (hcs : c = 336 ∨ c = 352) (hp : p = 368 ∨ p = 400) (hcp : Z c 0 = (p : Int)) (hw : wP (vP Z p)) {N : Int} (hc : wC (vP Z p) (vC Z c) N) (hlit : ∀ w : Nat, w < 12 → 0 ≤ Z (c + 11) w ∧ Z (c + 11) w ≤ 1) {n : Nat} {st : Nat → Nat} (hn : Z (p + 15) 0 = (n : Int)) (hn2 : n ≤ 12) (hst : ∀ j : Nat, j < n → Z (p + 17) j = (st (j + 1) : Int) ∧ st j ≤ st (j + 1) ∧ st (j + 1) ≤ 400 ∧ 0 ≤ Z (p + 16) j ∧ Z (p + 16) j < 8) {T : Nat → Int} (hT : ∀ j : Nat, j < n → sEv (vP Z p) (vC Z c) (Z (p + 18)) (Z (p + 19)) (st j) (st (j + 1) - st j) [] [T j] ∧ -2147483648 ≤ T j ∧ T j < 2147483648) {k : Nat} (hk : k < 8) (hd : 4 ≤ d) {Q : Option Value → zk_M → (Heap → Prop) → Prop} : ∀ (n2 j : Nat) (Z1 : zV), j + n2 = n → zeq Z Z1 → (∀ Z2 : zV, zeq Z Z2 → Q (some (.int (iZ (bI ((List.range' j n2).any (fun j => decide (Z (p + 16) j = (k : Int) ∧ T j ≠ 0))))))) (zb_M Z2) F) → zk_Go l Γ mX2_isHeld d 0 0 Q 5 [some (.ref (p + 15)), some (.int (iZ (k : Int))), some (.ref c), some (.int (iZ (st j : Int))), some (.int (iZ (j : Int)))] [] (zb_M Z1) F := by
  intro n2
  induction n2 with
  | zero =>
    intro j Z1 hi hz hq
    have hcs2 := hcs
    have hp2 := hp
    have e0 : Z1 (p + 15) 0 = (n : Int) := (hz _ _ (by rcases hp with rfl | rfl <;> rfl)).trans hn
    rcases hcs with rfl | rfl <;> rcases hp with rfl | rfl <;> (
      simp only [Nat.reduceAdd] at e0
      refine gz_iload dX2_isHeld_5 rfl ?_
      refine gz_aload_n dX2_isHeld_7 rfl ?_
      refine gz_getf 0 dX2_isHeld_8 rfl rfl wf_Heliographs_Orders_27 (by decide) (zv_i e0) ?_
      refine zz_icmp_ge (tgt := 67) dX2_isHeld_11 rfl (by omega) (fun b11 => ?_) (fun b11 => ?_)
      rotate_left
      · exact absurd b11 (by omega)
      refine zz_iconst dX2_isHeld_67 ?_
      refine gz_ireturn dX2_isHeld_68 rfl rfl ?_
      exact hq Z1 hz
    )
  | succ n2 ih =>
    intro j Z1 hi hz hq
    have hcs2 := hcs
    have hp2 := hp
    have e0 : Z1 (p + 15) 0 = (n : Int) := (hz _ _ (by rcases hp with rfl | rfl <;> rfl)).trans hn
    obtain ⟨h17, hle, h400, h16⟩ := hst j (by omega)
    obtain ⟨hev, hTb⟩ := hT j (by omega)
    have e16 : Z1 (p + 16) j = Z (p + 16) j := hz.at (by omega) j
    have e17 : Z1 (p + 17) j = (st (j + 1) : Int) := (hz.at (by omega) j).trans h17
    have ecp : Z1 c 0 = (p : Int) := (hz.at (by omega) 0).trans hcp
    have hw1 : wP (vP Z1 p) := by rw [hz.vP hp]; exact hw
    have hc1 : wC (vP Z1 p) (vC Z1 c) N := by rw [hz.vP hp, hz.vC hcs]; exact hc
    have hl1 : ∀ w : Nat, w < 12 → 0 ≤ Z1 (c + 11) w ∧ Z1 (c + 11) w ≤ 1 := fun w h => by rw [hz.at (by omega) w]; exact hlit w h
    have hev1 : sEv (vP Z1 p) (vC Z1 c) (Z1 (p + 18)) (Z1 (p + 19)) (st j) (st (j + 1) - st j) [] [T j] := by rw [hz.vP hp, hz.vC hcs, show Z1 (p + 18) = Z (p + 18) from funext (fun y => hz.at (by omega) y), show Z1 (p + 19) = Z (p + 19) from funext (fun y => hz.at (by omega) y)]; exact hev
    have hyes : Z (p + 16) j = (k : Int) → T j ≠ 0 → ∀ Z2 : zV, zeq Z Z2 → Q (some (.int (iZ 1))) (zb_M Z2) F := fun q1 q2 Z2 h2 => by
      have q := hq Z2 h2
      rw [any_t (by exact decide_eq_true ⟨q1, q2⟩)] at q
      exact q
    have hno : ¬ (Z (p + 16) j = (k : Int) ∧ T j ≠ 0) → ∀ Z2 : zV, zeq Z Z2 → Q (some (.int (iZ (bI ((List.range' (j + 1) n2).any (fun j => decide (Z (p + 16) j = (k : Int) ∧ T j ≠ 0))))))) (zb_M Z2) F := fun q1 Z2 h2 => by
      have q := hq Z2 h2
      rw [any_f (by exact fun q3 => q1 (of_decide_eq_true q3))] at q
      exact q
    obtain ⟨ms, hms⟩ : ∃ z, Z (p + 16) j = z := ⟨_, rfl⟩
    rw [hms] at hyes hno e16 h16
    rcases hcs with rfl | rfl <;> rcases hp with rfl | rfl <;> (
      simp only [Nat.reduceAdd] at e16 e17 e0
      refine gz_iload dX2_isHeld_5 rfl ?_
      refine gz_aload_n dX2_isHeld_7 rfl ?_
      refine gz_getf 0 dX2_isHeld_8 rfl rfl wf_Heliographs_Orders_27 (by decide) (zv_i e0) ?_
      refine zz_icmp_ge (tgt := 67) dX2_isHeld_11 rfl (by omega) (fun b11 => ?_) (fun b11 => ?_)
      · exact absurd b11 (by omega)
      refine gz_iload dX2_isHeld_14 rfl ?_
      refine gz_aload_n dX2_isHeld_16 rfl ?_
      refine gz_getf 1 dX2_isHeld_17 rfl rfl wf_Heliographs_Orders_9 (by decide) rfl ?_
      refine gz_alen (k := 0) dX2_isHeld_20 rfl (by decide) ?_
      refine zz_icmp_ge (tgt := 67) dX2_isHeld_21 rfl (by omega) (fun b21 => ?_) (fun b21 => ?_)
      · exact absurd b21 (by omega)
      refine gz_aload_n dX2_isHeld_24 rfl ?_
      refine gz_getf 1 dX2_isHeld_25 rfl rfl wf_Heliographs_Orders_9 (by decide) rfl ?_
      refine gz_iload dX2_isHeld_28 rfl ?_
      refine gz_iald (n := j) dX2_isHeld_30 rfl rfl (by omega) (zv_i e16) ?_
      refine gz_iload_n dX2_isHeld_31 rfl ?_
      refine zz_icmp_ne (tgt := 53) dX2_isHeld_32 rfl (by omega) (fun b32 => ?_) (fun b32 => ?_)
      ·
        refine gz_aload_n dX2_isHeld_53 rfl ?_
        refine gz_getf 2 dX2_isHeld_54 rfl rfl wf_Heliographs_Orders_15 (by decide) rfl ?_
        refine gz_iload dX2_isHeld_57 rfl ?_
        refine gz_iald (v := .int (iZ (((st (j + 1) : Nat) : Int)))) (n := j) dX2_isHeld_59 rfl rfl (by omega) (by first | exact zv_i e17 | exact zv_i ((hZ45.at (by decide) _).trans e17)) ?_
        refine gz_istore_n dX2_isHeld_60 (Nat.le_of_ble_eq_true rfl) rfl ?_
        refine zz_iinc dX2_isHeld_61 rfl rfl ?_
        refine gz_goto (tgt := 5) dX2_isHeld_64 rfl ?_
        first
          | exact ih (j + 1) Z1 (by omega) hz (hno (fun q => b32 q.1))
          | exact ih (j + 1) Z45 (by omega) (hz.trans hZ45) (hno (fun q => b48 (decide_eq_true q.2)))
      ·
        refine gz_aload_n dX2_isHeld_35 rfl ?_
        refine gz_iload_n dX2_isHeld_36 rfl ?_
        refine gz_aload_n dX2_isHeld_37 rfl ?_
        refine gz_getf 2 dX2_isHeld_38 rfl rfl wf_Heliographs_Orders_15 (by decide) rfl ?_
        refine gz_iload dX2_isHeld_41 rfl ?_
        refine gz_iald (n := j) dX2_isHeld_43 rfl rfl (by omega) (zv_i e17) ?_
        refine gz_aload_n dX2_isHeld_44 rfl ?_
        refine gq_3 (J := mX2_isTrue) (d1 := d - 1) dX2_isHeld_45 wm_Heliographs_Orders_34 rfl jzX2_isTrue (Nat.le_of_ble_eq_true rfl) (Nat.le_of_ble_eq_true rfl) (by omega) (zs_isTrue hcs2 hp2 (by exact ecp) hw1 hc1 (by exact hl1) (show st j + (st (j + 1) - st j) = st (j + 1) by omega) h400 hTb (by exact hev1) (by omega)) (fun Z45 hZ45 => ?_)
        refine zz_if_eqB (tgt := 53) dX2_isHeld_48 rfl (fun b48 => ?_) (fun b48 => ?_)
        ·
          refine gz_aload_n dX2_isHeld_53 rfl ?_
          refine gz_getf 2 dX2_isHeld_54 rfl rfl wf_Heliographs_Orders_15 (by decide) rfl ?_
          refine gz_iload dX2_isHeld_57 rfl ?_
          refine gz_iald (v := .int (iZ (((st (j + 1) : Nat) : Int)))) (n := j) dX2_isHeld_59 rfl rfl (by omega) (by first | exact zv_i e17 | exact zv_i ((hZ45.at (by decide) _).trans e17)) ?_
          refine gz_istore_n dX2_isHeld_60 (Nat.le_of_ble_eq_true rfl) rfl ?_
          refine zz_iinc dX2_isHeld_61 rfl rfl ?_
          refine gz_goto (tgt := 5) dX2_isHeld_64 rfl ?_
          first
            | exact ih (j + 1) Z1 (by omega) hz (hno (fun q => b32 q.1))
            | exact ih (j + 1) Z45 (by omega) (hz.trans hZ45) (hno (fun q => b48 (decide_eq_true q.2)))
        ·
          refine zz_iconst dX2_isHeld_51 ?_
          refine gz_ireturn dX2_isHeld_52 rfl rfl ?_
          exact hyes b32 (of_decide_eq_true b48) Z45 (hz.trans hZ45)
    )
theorem zs_isHeld {c p : Nat} (hcs : c = 336 ∨ c = 352) (hp : p = 368 ∨ p = 400) (hcp : Z c 0 = (p : Int)) (hw : wP (vP Z p)) {N : Int} (hc : wC (vP Z p) (vC Z c) N) (hlit : ∀ w : Nat, w < 12 → 0 ≤ Z (c + 11) w ∧ Z (c + 11) w ≤ 1) {H : zV → Nat → Bool} (hH : hOr Z p H) {k : Nat} (hk : k < 8) (hd : 4 ≤ d) : zk_DoesR l Γ mX2_isHeld d [.ref (p + 15), .int (iZ (k : Int)), .ref c] Z F (some (.int (iZ (bI (H (vC Z c) k))))) (fun Z2 => zeq Z Z2) := by
  intro Q hq
  obtain ⟨n, st, h0, h1, h2, h3, h4⟩ := hH
  obtain ⟨T, hT, hHk⟩ := h4 _ N hc
  rw [hHk k] at hq
  refine zz_iconst dX2_isHeld_0 ?_
  refine gz_istore_n dX2_isHeld_1 (Nat.le_of_ble_eq_true rfl) rfl ?_
  refine zz_iconst dX2_isHeld_2 ?_
  refine gz_istore dX2_isHeld_3 (Nat.le_of_ble_eq_true rfl) rfl ?_
  have h := zs_isHeld_loop (l := l) (Γ := Γ) (F := F) (Q := Q) hcs hp hcp hw hc hlit h0 h1 h3 hT hk hd n 0 Z (by omega) (zeq.refl Z) hq
  rw [h2] at h
  exact h
end

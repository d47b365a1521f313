/-! A MINUTE BY THE MACHINE -/
section
variable {l : Launch} {Γ : zk_G} {d : Nat} {Z : Nat → Nat → Int} {F : Heap → Prop}
theorem zs_isPassableF {c p : Nat} (hcs : c = 336 ∨ c = 352) (hp : p = 368 ∨ p = 400) (hcp : Z c 0 = (p : Int)) (hw : wP (vP Z p)) {N : Int} (hc : wC (vP Z p) (vC Z c) N) {x m : Int} (hx : Z p 1 ≤ x ∧ x < 12) (hd : 2 ≤ d) : zk_Does l Γ mX0_isPassable d 0 0 [.ref c, .int (iZ x), .int (iZ m)] (zb_M Z) F (some (.int (iZ 0))) (zb_M Z) F := by
  intro Q hq
  have hcs2 := hcs
  have hp2 := hp
  rcases hcs with rfl | rfl <;> rcases hp with rfl | rfl <;> (
    have hpl := congrArg Int.toNat hcp
    simp only [Int.toNat_natCast] at hpl
    have h0 := wP_n hw
    simp only [vP_ap, vC_ap, Nat.reduceAdd, Nat.reduceLT, Nat.add_zero, ↓reduceIte] at h0
    refine gz_aload_n dX0_isPassable_0 rfl ?_
    refine gz_getf 0 dX0_isPassable_1 rfl rfl wf_Heliographs_Chain_53 (by decide) (congrArg Value.ref hpl) ?_
    refine gz_iload_n dX0_isPassable_4 rfl ?_
    refine gv_1 (J := mX3_hasPass) (d1 := d - 1) dX0_isPassable_5 wm_Heliographs_Chain_164 rfl jzX3_hasPass (Nat.le_of_ble_eq_true rfl) (Nat.le_of_ble_eq_true rfl) (by omega) ⟨Nat.le_refl _, Nat.le_refl _⟩ (zs_hasPass hp2 (by omega) h0.2.1) ?_
    refine zz_if_eqB (tgt := 75) dX0_isPassable_8 rfl (fun b8 => ?_) (fun b8 => ?_)
    rotate_left
    · exact absurd (of_decide_eq_true b8) (by omega)
    refine zz_iconst dX0_isPassable_75 ?_
    refine gz_ireturn dX0_isPassable_76 rfl rfl ?_
    exact hq
  )
/-- isPassable in look -/
theorem zw_pass12 {c p : Nat} (hcs : c = 336 ∨ c = 352) (hp : p = 368 ∨ p = 400) (hw : wP (vP Z p)) {σ : zV} (hcp : σ 0 0 = (p : Int)) {N : Int} (hc : wC (vP Z p) σ N) {w : Nat} (hw12 : w < 12) (hd : 2 ≤ d) : zk_Does l Γ mX0_isPassable d 0 0 [.ref c, .int (iZ (w : Int)), .int (iZ (σ 0 1))] (zb_M (zW Z c σ)) F (some (.int (iZ (bI (decide ((w : Int) < vP Z p 0 1) && sPass (vP Z p) σ w (σ 0 1)))))) (zb_M (zW Z c σ)) F := by
  have hn := wC_n hc
  by_cases e : (w : Int) < Z p 1
  · refine zk_Does.to (zw_isPassableN hcs hp hcp hw hc e (by omega) hd) ?_
    rw [show (decide ((w : Int) < vP Z p 0 1)) = true from decide_eq_true e, Bool.true_and]
  · have ec : vC (zW Z c σ) c = cut σ := vC_W Z c σ
    have ep : vP (zW Z c σ) p = vP Z p := vP_W Z c p σ (by omega)
    have e1 : zW Z c σ p 1 = Z p 1 := if_neg (by omega)
    have e0 : zW Z c σ c 0 = σ 0 0 := by
      show (if c ≤ c ∧ c < c + 12 then σ (c - c) 0 else Z c 0) = _
      rw [if_pos (by omega), Nat.sub_self]
    have h := zs_isPassableF (l := l) (Γ := Γ) (d := d) (F := F) (Z := zW Z c σ) hcs hp (e0.trans hcp) (by rw [ep]; exact hw) (N := N) (by rw [ep, ec]; exact hc) (x := (w : Int)) (m := σ 0 1) (by omega) hd
    rw [show (decide ((w : Int) < vP Z p 0 1)) = false from decide_eq_false e, Bool.false_and]
    exact h
theorem zw_look_loop {c p : Nat} (hcs : c = 336 ∨ c = 352) (hp : p = 368 ∨ p = 400) (hw : wP (vP Z p)) {σ : zV} (hcp : σ 0 0 = (p : Int)) {N : Int} (hc : wC (vP Z p) σ N) (hd : 3 ≤ d) {Q : Option Value → zk_M → (Heap → Prop) → Prop} : ∀ (n i : Nat), i + n = 12 → Q none (zb_M (zW Z c (sLook (vP Z p) σ))) F → zk_Go l Γ mX0_look d 0 0 Q 2 [some (.ref c), some (.int (iZ (i : Int)))] [] (zb_M (zW Z c (sLkN (vP Z p) σ i))) F := by
  intro n
  induction n with
  | zero =>
    intro i hi hq
    have ei : i = 12 := by omega
    have hq2 : Q none (zb_M (zW Z c (sLkN (vP Z p) σ i))) F := by rw [ei]; exact hq
    rcases hcs with rfl | rfl <;> rcases hp with rfl | rfl <;> (
      refine gz_iload_n dX0_look_2 rfl ?_
      refine gz_aload_n dX0_look_3 rfl ?_
      refine gz_getf 14 dX0_look_4 rfl rfl wf_Heliographs_Chain_46 (by decide) rfl ?_
      refine gz_alen (k := 2) dX0_look_7 rfl (by decide) ?_
      refine zz_icmp_ge (tgt := 32) dX0_look_8 rfl (by omega) (fun b8 => ?_) (fun b8 => ?_)
      rotate_left
      · exact absurd b8 (by omega)
      refine gz_return_ dX0_look_32 rfl ?_
      exact hq2
    )
  | succ n ih =>
    intro i hi hq
    have hci : wC (vP Z p) (sLkN (vP Z p) σ i) N := wC_11 hc (fun a j h => sLkN_o _ _ _ h j)
    have e1 : zW Z c (sLkN (vP Z p) σ i) c 1 = σ 0 1 := by
      show (if c ≤ c ∧ c < c + 12 then sLkN (vP Z p) σ i (c - c) 1 else Z c 1) = _
      rw [if_pos (by omega), Nat.sub_self]
      exact sLkN_o _ _ _ (by decide) 1
    have hps := zw_pass12 (l := l) (Γ := Γ) (d := d - 1) (F := F) hcs hp hw (show sLkN (vP Z p) σ i 0 0 = (p : Int) from hcp) hci (w := i) (by omega) (by omega)
    rw [show sLkN (vP Z p) σ i 0 1 = σ 0 1 from sLkN_o _ _ _ (by decide) 1, show sPass (vP Z p) (sLkN (vP Z p) σ i) i (σ 0 1) = sPass (vP Z p) σ i (σ 0 1) from rfl] at hps
    have hst : ∀ v, v = bI (decide ((i : Int) < vP Z p 0 1) && sPass (vP Z p) σ i (σ 0 1)) → zb_u (zW Z c (sLkN (vP Z p) σ i)) (c + 11) i v = zW Z c (sLkN (vP Z p) σ (i + 1)) := fun v hv => by rw [hv, zW_u _ _ _ _ _ _ (by decide), sLkN_s]
    rcases hcs with rfl | rfl <;> rcases hp with rfl | rfl <;> (
      simp only [Nat.reduceAdd] at hst
      have hst := hst _ rfl
      refine gz_iload_n dX0_look_2 rfl ?_
      refine gz_aload_n dX0_look_3 rfl ?_
      refine gz_getf 14 dX0_look_4 rfl rfl wf_Heliographs_Chain_46 (by decide) rfl ?_
      refine gz_alen (k := 2) dX0_look_7 rfl (by decide) ?_
      refine zz_icmp_ge (tgt := 32) dX0_look_8 rfl (by omega) (fun b8 => ?_) (fun b8 => ?_)
      · exact absurd b8 (by omega)
      refine gz_aload_n dX0_look_11 rfl ?_
      refine gz_getf 14 dX0_look_12 rfl rfl wf_Heliographs_Chain_46 (by decide) rfl ?_
      refine gz_iload_n dX0_look_15 rfl ?_
      refine gz_aload_n dX0_look_16 rfl ?_
      refine gz_iload_n dX0_look_17 rfl ?_
      refine gz_aload_n dX0_look_18 rfl ?_
      refine gz_getf 1 dX0_look_19 rfl rfl wf_Heliographs_Chain_71 (by decide) (zv_i e1) ?_
      refine gv_2 (J := mX0_isPassable) (d1 := d - 1) dX0_look_22 wm_Heliographs_Chain_90 rfl jzX0_isPassable (Nat.le_of_ble_eq_true rfl) (Nat.le_of_ble_eq_true rfl) (by omega) ⟨Nat.le_refl _, Nat.le_refl _⟩ (hps) ?_
      refine zc_zast (n := i) dX0_look_25 rfl (by decide) rfl (by omega) (bI_nar _) rfl ?_
      refine zz_iinc dX0_look_26 rfl rfl ?_
      refine gz_goto (tgt := 2) dX0_look_29 rfl ?_
      rw [hst]
      exact ih (i + 1) (by omega) hq
    )
end

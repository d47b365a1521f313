/-! MINUTES BY THE MACHINE -/
section
variable {l : Launch} {Γ : zk_G} {d : Nat} {Z : Nat → Nat → Int} {F : Heap → Prop}
theorem cut_sIt {f : zV → Nat → zV} (hf : ∀ σ k, cut σ = σ → cut (f σ k) = f σ k) : ∀ n k σ, cut σ = σ → cut (sIt f k n σ) = sIt f k n σ
  | 0, _, _, h => h
  | n + 1, k, σ, h => cut_sIt hf n (k + 1) _ (hf σ k h)
theorem wC_sItF {π : zV} (hw : wP π) {N : Int} (hN : N + 8 ≤ 90000) : ∀ (n k : Nat) (σ : zV), (k : Int) + n = π 0 3 → wC π σ (N + k) → wC π (sIt (sFlash π) k n σ) (N + 8)
  | 0, k, σ, hk, h => wC_le (by have := wP_n hw; omega) hN h
  | n + 1, k, σ, hk, h => wC_sItF hw hN n (k + 1) _ (by omega) (by
    have h0 := wP_n hw
    have q := wC_flash hw h (k := k) (by omega) (by omega)
    rw [show N + ((k + 1 : Nat) : Int) = N + k + 1 from by omega]
    exact q)
theorem wC_sItS {π : zV} (hw : wP π) {H : zV → Nat → Bool} {N : Int} : ∀ (n k : Nat) (σ : zV), (k : Int) + n = π 0 3 → wC π σ N → wC π (sIt (sSend π H) k n σ) N
  | 0, k, σ, hk, h => h
  | n + 1, k, σ, hk, h => wC_sItS hw n (k + 1) _ (by omega) (wC_send hw h (k := k) (by omega))
theorem lit_look (π σ : zV) : ∀ w : Nat, w < 12 → 0 ≤ sLook π σ 11 w ∧ sLook π σ 11 w ≤ 1 := fun w h => by
  have e : sLook π σ 11 w = bI (decide ((w : Int) < π 0 1) && sPass π σ w (σ 0 1)) := (if_pos rfl).trans (if_pos h)
  rw [e]
  exact bI_01 _
theorem wC_look {π σ : zV} {N : Int} (h : wC π σ N) : wC π (sLook π σ) N := wC_11 h (fun i j hi => sLook_o _ _ hi j)
/-- the chain behind its flashes, and behind what was sent off -/
def sM2 (π σ : zV) : zV := sIt (sFlash π) 0 (π 0 3).toNat (sLook π σ)
noncomputable def sM3 (π : zV) (H : zV → Nat → Bool) (σ : zV) : zV := sIt (sSend π H) 0 (π 0 3).toNat (sM2 π σ)
theorem sMin_e (π : zV) (H : zV → Nat → Bool) (σ : zV) : sMin π H σ = sTick (sM3 π H σ) := rfl
theorem lit_M2 (π σ : zV) : ∀ w : Nat, w < 12 → 0 ≤ sM2 π σ 11 w ∧ sM2 π σ 11 w ≤ 1 := fun w h => by
  unfold sM2
  rw [sIt_f_o π (by omega)]
  exact lit_look π σ w h
theorem wC_M2 {π σ : zV} (hw : wP π) {N : Int} (h : wC π σ N) (hN : N + 8 ≤ 90000) : wC π (sM2 π σ) (N + 8) :=
  wC_sItF hw hN _ 0 _ (by have := wP_n hw; omega) (by rw [show N + ((0 : Nat) : Int) = N from by omega]; exact wC_look h)
theorem wC_M3 {π σ : zV} (hw : wP π) {H : zV → Nat → Bool} {N : Int} (h : wC π σ N) (hN : N + 8 ≤ 90000) : wC π (sM3 π H σ) (N + 8) :=
  wC_sItS hw _ 0 _ (by have := wP_n hw; omega) (wC_M2 hw h hN)
theorem wC_min {π σ : zV} (hw : wP π) {H : zV → Nat → Bool} {N : Int} (h : wC π σ N) (hN : N + 9 ≤ 90000) : wC π (sMin π H σ) (N + 9) := by
  have q := wC_tick (wC_M3 hw (H := H) h (by omega)) (by omega)
  rw [show N + 8 + 1 = N + 9 from by omega] at q
  exact q
theorem cut_M2 {π σ : zV} (h : cut σ = σ) : cut (sM2 π σ) = sM2 π σ := cut_sIt (fun τ k q => by rw [cut_sFlash, q]) _ _ _ (cut_sLook π σ h)
theorem cut_M3 {π σ : zV} {H : zV → Nat → Bool} (h : cut σ = σ) : cut (sM3 π H σ) = sM3 π H σ := cut_sIt (fun τ k q => cut_sSend k q) _ _ _ (cut_M2 h)
theorem cut_min {π σ : zV} {H : zV → Nat → Bool} (h : cut σ = σ) : cut (sMin π H σ) = sMin π H σ := cut_sTick (cut_M3 h)
theorem sM2_o {π σ : zV} {i j : Nat} (h : i = 1 ∨ i = 3 ∨ (i = 0 ∧ j ≠ 13)) : sM2 π σ i j = σ i j := (sIt_f_o π (by omega) _ _ _).trans (sLook_o _ _ (by omega) _)
theorem sM3_o {π σ : zV} {H : zV → Nat → Bool} {i j : Nat} (h : i = 1 ∨ i = 3 ∨ (i = 0 ∧ j ≠ 13)) : sM3 π H σ i j = σ i j := (sIt_s_o π H (by omega) _ _ _).trans (sM2_o h)
theorem sMin_o {π σ : zV} {H : zV → Nat → Bool} {i j : Nat} (h : i = 1 ∨ i = 3 ∨ (i = 0 ∧ j ≠ 13 ∧ j ≠ 1)) : sMin π H σ i j = σ i j := by
  rw [sMin_e]
  unfold sTick
  rw [zb_u_no _ _ (by omega), sM3_o (by omega)]
theorem sMin_t (π : zV) (H : zV → Nat → Bool) (σ : zV) : sMin π H σ 0 1 = σ 0 1 + 1 := by
  rw [sMin_e]
  unfold sTick
  rw [zb_u_at, sM3_o (by omega)]
theorem zs_run_t {c : Nat} (hcs : c = 336 ∨ c = 352) {m i : Nat} {L3 : Option Value} {Q : Option Value → zk_M → (Heap → Prop) → Prop} (k : zk_Go l Γ mX0_run d 0 0 Q 2 [some (.ref c), some (.int (iZ (m : Int))), some (.int (iZ ((i + 1 : Nat) : Int))), L3] [] (zb_M (zb_u Z c 1 (Z c 1 + 1))) F) : zk_Go l Γ mX0_run d 0 0 Q 59 [some (.ref c), some (.int (iZ (m : Int))), some (.int (iZ (i : Int))), L3] [] (zb_M Z) F := by
  rcases hcs with rfl | rfl <;> (
    refine gz_aload_n dX0_run_59 rfl ?_
    refine gz_dup dX0_run_60 rfl ?_
    refine gz_getf 1 dX0_run_61 rfl rfl wf_Heliographs_Chain_71 (by decide) rfl ?_
    refine zz_iconst dX0_run_64 ?_
    refine zz_iadd dX0_run_65 ?_
    refine zc_putf 1 dX0_run_66 rfl rfl wf_Heliographs_Chain_71 (by decide) (by decide) jo_Heliographs_Chain ju_Heliographs_Chain rfl tyX0 tyX0_ok nmX0 rfl (fun _ => ⟨rfl, rfl⟩) rfl ?_
    refine zz_iinc dX0_run_69 rfl rfl ?_
    refine gz_goto (tgt := 2) dX0_run_72 rfl ?_
    exact k
  )
theorem zs_run_loop {c p : Nat} (hcs : c = 336 ∨ c = 352) (hp : p = 368 ∨ p = 400) (hw : wP (vP Z p)) {N : Int} {H : zV → Nat → Bool} (hH : hOr Z p H) {m : Nat} (hN : N + 9 * m ≤ 90000) (hN0 : 0 ≤ N) (hd : 7 ≤ d) {Q : Option Value → zk_M → (Heap → Prop) → Prop} : ∀ (n i : Nat) (σ Z1 : zV) (L3 : Option Value), i + n = m → cut σ = σ → σ 0 0 = (p : Int) → wC (vP Z p) σ (N + 9 * i) → zeq (zW Z c σ) Z1 → (∀ Z2 : zV, zeq (zW Z c (sRun (vP Z p) H n σ)) Z2 → Q none (zb_M Z2) F) → zk_Go l Γ mX0_run d 0 0 Q 2 [some (.ref c), some (.int (iZ (m : Int))), some (.int (iZ (i : Int))), L3] [] (zb_M Z1) F := by
  intro n
  induction n with
  | zero =>
    intro i σ Z1 L3 hi hcut hcp hc hz hq
    rcases hcs with rfl | rfl <;> rcases hp with rfl | rfl <;> (
      refine gz_iload_n dX0_run_2 rfl ?_
      refine gz_iload_n dX0_run_3 rfl ?_
      refine zz_icmp_ge (tgt := 75) dX0_run_4 rfl (by omega) (fun b4 => ?_) (fun b4 => ?_)
      rotate_left
      · exact absurd b4 (by omega)
      refine gz_return_ dX0_run_75 rfl ?_
      exact hq Z1 hz
    )
  | succ n ih =>
    intro i σ Z1 L3 hi hcut hcp hc hz hq
    have hcs2 := hcs
    have hp2 := hp
    have h0 := wP_n hw
    simp only [vP_ap, vC_ap, Nat.reduceAdd, Nat.reduceLT, Nat.add_zero, ↓reduceIte] at h0
    have e1 := zeq_vC hcs hcut hz
    have e2 := zeq_vP hcs hp hz
    have e3 : Z1 p 3 = Z p 3 := (hz.at (by omega) 3).trans (zW_no _ _ _ _ (by omega))
    have eW : zW Z1 c σ = Z1 := by rw [← e1]; exact zW_self Z1 c
    have hw1 : wP (vP Z1 p) := by rw [e2]; exact hw
    have hc1 : wC (vP Z1 p) σ (N + 9 * i) := by rw [e2]; exact hc
    have hH1 : hOr Z1 p H := hOr_to hp hH (fun a j h1 h2 => (hz a j h2).trans (zW_no _ _ _ _ (by omega)))
    have hlk := zw_look (l := l) (Γ := Γ) (d := d - 1) (F := F) (Z := Z1) hcs hp hw1 hcp hc1 (by omega)
    rw [eW, e2] at hlk
    have em : ((vP Z p 0 3).toNat : Int) = Z p 3 := by have : vP Z p 0 3 = Z p 3 := rfl; omega
    have h3 : ∀ Z2 : zV, zeq (zW Z1 c (sM3 (vP Z p) H σ)) Z2 → zk_Go l Γ mX0_run d 0 0 Q 59 [some (.ref c), some (.int (iZ (m : Int))), some (.int (iZ (i : Int))), some (.int (iZ (((vP Z p 0 3).toNat : Nat) : Int)))] [] (zb_M Z2) F := by
      intro Z2 hz2
      have z3 : zeq (zW Z c (sM3 (vP Z p) H σ)) Z2 := (zeq_W hz _).trans hz2
      have e5 : Z2 c 1 = sM3 (vP Z p) H σ 0 1 := (z3.at (a := c) (by omega) 1).trans (zW_c0 Z c _ 0 1 (by decide))
      refine zs_run_t hcs (ih (i + 1) (sMin (vP Z p) H σ) _ _ (by omega) (cut_min hcut) ((sMin_o (by omega)).trans hcp) ?_ ?_ hq)
      · have q := wC_min hw (H := H) hc (by omega)
        rw [show N + 9 * ((i + 1 : Nat) : Int) = N + 9 * i + 9 from by omega]
        exact q
      · rw [e5, sMin_e]
        unfold sTick
        rw [← zW_u _ _ _ _ _ _ (by decide)]
        exact zeq_u z3 _ _ _
    have h2 : zk_Go l Γ mX0_run d 0 0 Q 35 [some (.ref c), some (.int (iZ (m : Int))), some (.int (iZ (i : Int))), some (.int (iZ (((vP Z p 0 3).toNat : Nat) : Int)))] [] (zb_M (zW Z1 c (sM2 (vP Z p) σ))) F := by
      refine zz_iconst dX0_run_35 ?_
      refine gz_istore_n dX0_run_36 (Nat.le_of_ble_eq_true rfl) rfl ?_
      have q := zs_run_s (l := l) (Γ := Γ) (d := d) (F := F) (Q := Q) (Z := Z1) hcs hp hw1 (N := N + 9 * i + 8) hH1 (m := m) (y := (i : Int)) (by omega) (vP Z p 0 3).toNat 0 (sM2 (vP Z p) σ) (zW Z1 c (sM2 (vP Z p) σ)) (by omega) ((sM2_o (by omega)).trans hcp) (cut_M2 hcut) (by rw [e2]; exact wC_M2 hw hc (by omega)) (lit_M2 _ _) (zeq.refl _) (by rw [e2, e3]; exact h3)
      exact q
    have h1 : zk_Go l Γ mX0_run d 0 0 Q 13 [some (.ref c), some (.int (iZ (m : Int))), some (.int (iZ (i : Int))), some (.int (iZ 0))] [] (zb_M (zW Z1 c (sLook (vP Z p) σ))) F := by
      have q := zs_run_f (l := l) (Γ := Γ) (d := d) (F := F) (Q := Q) (Z := Z1) hcs hp hw1 (N := N + 9 * i) (by omega) (m := m) (y := (i : Int)) (by omega) (vP Z p 0 3).toNat 0 (sLook (vP Z p) σ) (by omega) ((sLook_o _ _ (by decide) _).trans hcp) (by rw [e2, show N + 9 * (i : Int) + ((0 : Nat) : Int) = N + 9 * i from by omega]; exact wC_look hc) (lit_look _ _) (by rw [e2, e3]; exact h2)
      exact q
    rcases hcs with rfl | rfl <;> rcases hp with rfl | rfl <;> (
      refine gz_iload_n dX0_run_2 rfl ?_
      refine gz_iload_n dX0_run_3 rfl ?_
      refine zz_icmp_ge (tgt := 75) dX0_run_4 rfl (by omega) (fun b4 => ?_) (fun b4 => ?_)
      · exact absurd b4 (by omega)
      refine gz_aload_n dX0_run_7 rfl ?_
      refine gv_0 (J := mX0_look) (d1 := d - 1) dX0_run_8 wm_Heliographs_Chain_78 rfl jzX0_look (Nat.le_of_ble_eq_true rfl) (Nat.le_of_ble_eq_true rfl) (by omega) ⟨Nat.le_refl _, Nat.le_refl _⟩ (hlk) ?_
      refine zz_iconst dX0_run_11 ?_
      refine gz_istore_n dX0_run_12 (Nat.le_of_ble_eq_true rfl) rfl ?_
      exact h1
    )
theorem zw_run {c p : Nat} (hcs : c = 336 ∨ c = 352) (hp : p = 368 ∨ p = 400) (hw : wP (vP Z p)) {N : Int} {H : zV → Nat → Bool} (hH : hOr Z p H) {m : Nat} (hN : N + 9 * m ≤ 90000) (hN0 : 0 ≤ N) {σ : zV} (hcut : cut σ = σ) (hcp : σ 0 0 = (p : Int)) (hc : wC (vP Z p) σ N) {Z1 : zV} (HZ0 : zeq (zW Z c σ) Z1) (hd : 7 ≤ d) : zk_DoesR l Γ mX0_run d [.ref c, .int (iZ (m : Int))] Z1 F none (fun Z2 => zeq (zW Z c (sRun (vP Z p) H m σ)) Z2) := by
  intro Q hq
  have htl := fun Z1 hz => zs_run_loop (l := l) (Γ := Γ) (d := d) (F := F) (Q := Q) hcs hp hw hH hN hN0 hd m 0 σ Z1 none (by omega) hcut hcp (by rw [show N + 9 * ((0 : Nat) : Int) = N from by omega]; exact hc) hz hq
  rcases hcs with rfl | rfl <;> rcases hp with rfl | rfl <;> (
    refine zz_iconst dX0_run_0 ?_
    refine gz_istore_n dX0_run_1 (Nat.le_of_ble_eq_true rfl) rfl ?_
    exact htl Z1 HZ0
  )
end

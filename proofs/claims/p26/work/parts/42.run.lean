/-! A MINUTE BY THE MACHINE -/
section
variable {l : Launch} {Γ : zk_G} {d : Nat} {Z : Nat → Nat → Int} {F : Heap → Prop}
theorem zs_isPassableF {c p : Nat} (hcs : c = 336 ∨ c = 352) (hp : p = 368 ∨ p = 400) (hcp : Z c 0 = (p : Int)) (hw : wP (vP Z p)) {N : Int} (hc : wC (vP Z p) (vC Z c) N) {x m : Int} (hx : Z p 1 ≤ x ∧ x < 12) (hd : 2 ≤ d) : zk_Does l Γ mX0_isPassable d 0 0 [.ref c, .int (iZ x), .int (iZ m)] (zb_M Z) F (some (.int (iZ 0))) (zb_M Z) F := by
  intro Q hq
  have hcs2 := hcs
  have hp2 := hp
  rcases hcs with rfl | rfl <;> rcases hp with rfl | rfl <;> (
    have hpl := congrArg Int.toNat hcp
    simp only [Int.toNat_natCast] at hpl
    have h0 := wP_n hw
    simp only [vP_ap, vC_ap, Nat.reduceAdd, Nat.reduceLT, Nat.add_zero, ↓reduceIte] at h0
    refine gz_aload_n dX0_isPassable_0 rfl ?_
    refine gz_getf 0 dX0_isPassable_1 rfl rfl wf_Heliographs_Chain_53 (by decide) (congrArg Value.ref hpl) ?_
    refine gz_iload_n dX0_isPassable_4 rfl ?_
    refine gv_1 (J := mX3_hasPass) (d1 := d - 1) dX0_isPassable_5 wm_Heliographs_Chain_164 rfl jzX3_hasPass (Nat.le_of_ble_eq_true rfl) (Nat.le_of_ble_eq_true rfl) (by omega) ⟨Nat.le_refl _, Nat.le_refl _⟩ (zs_hasPass hp2 (by omega) h0.2.1) ?_
    refine zz_if_eqB (tgt := 75) dX0_isPassable_8 rfl (fun b8 => ?_) (fun b8 => ?_)
    rotate_left
    · exact absurd (of_decide_eq_true b8) (by omega)
    refine zz_iconst dX0_isPassable_75 ?_
    refine gz_ireturn dX0_isPassable_76 rfl rfl ?_
    exact hq
  )
/-- isPassable in look -/
theorem zw_pass12 {c p : Nat} (hcs : c = 336 ∨ c = 352) (hp : p = 368 ∨ p = 400) (hw : wP (vP Z p)) {σ : zV} (hcp : σ 0 0 = (p : Int)) {N : Int} (hc : wC (vP Z p) σ N) {w : Nat} (hw12 : w < 12) (hd : 2 ≤ d) : zk_Does l Γ mX0_isPassable d 0 0 [.ref c, .int (iZ (w : Int)), .int (iZ (σ 0 1))] (zb_M (zW Z c σ)) F (some (.int (iZ (bI (decide ((w : Int) < vP Z p 0 1) && sPass (vP Z p) σ w (σ 0 1)))))) (zb_M (zW Z c σ)) F := by
  have hn := wC_n hc
  by_cases e : (w : Int) < Z p 1
  · refine zk_Does.to (zw_isPassableN hcs hp hcp hw hc e (by omega) hd) ?_
    rw [show (decide ((w : Int) < vP Z p 0 1)) = true from decide_eq_true e, Bool.true_and]
  · have ec : vC (zW Z c σ) c = cut σ := vC_W Z c σ
    have ep : vP (zW Z c σ) p = vP Z p := vP_W Z c p σ (by omega)
    have e1 : zW Z c σ p 1 = Z p 1 := if_neg (by omega)
    have e0 : zW Z c σ c 0 = σ 0 0 := by
      show (if c ≤ c ∧ c < c + 12 then σ (c - c) 0 else Z c 0) = _
      rw [if_pos (by omega), Nat.sub_self]
    have h := zs_isPassableF (l := l) (Γ := Γ) (d := d) (F := F) (Z := zW Z c σ) hcs hp (e0.trans hcp) (by rw [ep]; exact hw) (N := N) (by rw [ep, ec]; exact hc) (x := (w : Int)) (m := σ 0 1) (by omega) hd
    rw [show (decide ((w : Int) < vP Z p 0 1)) = false from decide_eq_false e, Bool.false_and]
    exact h
theorem zW_c0 (Z : zV) (c : Nat) (σ : zV) (k j : Nat) (hk : k < 12) : zW Z c σ (c + k) j = σ k j := by
  unfold zW
  rw [if_pos (by omega), show c + k - c = k from by omega]

theorem zw_look_loop {c p : Nat} (hcs : c = 336 ∨ c = 352) (hp : p = 368 ∨ p = 400) (hw : wP (vP Z p)) {σ : zV} (hcp : σ 0 0 = (p : Int)) {N : Int} (hc : wC (vP Z p) σ N) (hd : 3 ≤ d) {Q : Option Value → zk_M → (Heap → Prop) → Prop} : ∀ (n i : Nat), i + n = 12 → Q none (zb_M (zW Z c (sLook (vP Z p) σ))) F → zk_Go l Γ mX0_look d 0 0 Q 2 [some (.ref c), some (.int (iZ (i : Int)))] [] (zb_M (zW Z c (sLkN (vP Z p) σ i))) F := by
  intro n
  induction n with
  | zero =>
    intro i hi hq
    have ei : i = 12 := by omega
    have hj : ∀ a j, j < (zb_s a).2 → zb_g a j (zW Z c (sLook (vP Z p) σ) a j) = zb_g a j (zW Z c (sLkN (vP Z p) σ i) a j) := fun a j h => by
      rw [ei]
      by_cases e : a = c + 11
      · have h12 : j < 12 := by rw [e] at h; rcases hcs with rfl | rfl <;> exact h
        rw [e, zW_c0 _ _ _ _ _ (by decide), zW_c0 _ _ _ _ _ (by decide), sLook_N _ _ (Or.inr h12)]
      · congr 1
        unfold zW
        by_cases e2 : c ≤ a ∧ a < c + 12
        · rw [if_pos e2, if_pos e2, sLook_N _ _ (Or.inl (by omega))]
        · rw [if_neg e2, if_neg e2]
    rcases hcs with rfl | rfl <;> rcases hp with rfl | rfl <;> (
      refine gz_iload_n dX0_look_2 rfl ?_
      refine gz_aload_n dX0_look_3 rfl ?_
      refine gz_getf 14 dX0_look_4 rfl rfl wf_Heliographs_Chain_46 (by decide) rfl ?_
      refine gz_alen (k := 2) dX0_look_7 rfl (by decide) ?_
      refine zz_icmp_ge (tgt := 32) dX0_look_8 rfl (by omega) (fun b8 => ?_) (fun b8 => ?_)
      rotate_left
      · exact absurd b8 (by omega)
      refine zb_junk hj ?_
      refine gz_return_ dX0_look_32 rfl ?_
      exact hq
    )
  | succ n ih =>
    intro i hi hq
    have hci : wC (vP Z p) (sLkN (vP Z p) σ i) N := wC_11 hc (fun a j h => sLkN_o _ _ _ h j)
    have e1 : zW Z c (sLkN (vP Z p) σ i) c 1 = σ 0 1 := by
      show (if c ≤ c ∧ c < c + 12 then sLkN (vP Z p) σ i (c - c) 1 else Z c 1) = _
      rw [if_pos (by omega), Nat.sub_self]
      exact sLkN_o _ _ _ (by decide) 1
    have hps := zw_pass12 (l := l) (Γ := Γ) (d := d - 1) (F := F) hcs hp hw (show sLkN (vP Z p) σ i 0 0 = (p : Int) from hcp) hci (w := i) (by omega) (by omega)
    rw [show sLkN (vP Z p) σ i 0 1 = σ 0 1 from sLkN_o _ _ _ (by decide) 1, show sPass (vP Z p) (sLkN (vP Z p) σ i) i (σ 0 1) = sPass (vP Z p) σ i (σ 0 1) from rfl] at hps
    have hst : ∀ v, v = bI (decide ((i : Int) < vP Z p 0 1) && sPass (vP Z p) σ i (σ 0 1)) → zb_u (zW Z c (sLkN (vP Z p) σ i)) (c + 11) i v = zW Z c (sLkN (vP Z p) σ (i + 1)) := fun v hv => by rw [hv, zW_u _ _ _ _ _ _ (by decide), sLkN_s]
    rcases hcs with rfl | rfl <;> rcases hp with rfl | rfl <;> (
      simp only [Nat.reduceAdd] at hst
      have hst := hst _ rfl
      refine gz_iload_n dX0_look_2 rfl ?_
      refine gz_aload_n dX0_look_3 rfl ?_
      refine gz_getf 14 dX0_look_4 rfl rfl wf_Heliographs_Chain_46 (by decide) rfl ?_
      refine gz_alen (k := 2) dX0_look_7 rfl (by decide) ?_
      refine zz_icmp_ge (tgt := 32) dX0_look_8 rfl (by omega) (fun b8 => ?_) (fun b8 => ?_)
      · exact absurd b8 (by omega)
      refine gz_aload_n dX0_look_11 rfl ?_
      refine gz_getf 14 dX0_look_12 rfl rfl wf_Heliographs_Chain_46 (by decide) rfl ?_
      refine gz_iload_n dX0_look_15 rfl ?_
      refine gz_aload_n dX0_look_16 rfl ?_
      refine gz_iload_n dX0_look_17 rfl ?_
      refine gz_aload_n dX0_look_18 rfl ?_
      refine gz_getf 1 dX0_look_19 rfl rfl wf_Heliographs_Chain_71 (by decide) (zv_i e1) ?_
      refine gv_2 (J := mX0_isPassable) (d1 := d - 1) dX0_look_22 wm_Heliographs_Chain_90 rfl jzX0_isPassable (Nat.le_of_ble_eq_true rfl) (Nat.le_of_ble_eq_true rfl) (by omega) ⟨Nat.le_refl _, Nat.le_refl _⟩ (hps) ?_
      refine zc_zast (n := i) dX0_look_25 rfl (by decide) rfl (by omega) (bI_nar _) rfl ?_
      refine zz_iinc dX0_look_26 rfl rfl ?_
      refine gz_goto (tgt := 2) dX0_look_29 rfl ?_
      rw [hst]
      exact ih (i + 1) (by omega) hq
    )
theorem zw_look {c p : Nat} (hcs : c = 336 ∨ c = 352) (hp : p = 368 ∨ p = 400) (hw : wP (vP Z p)) {σ : zV} (hcp : σ 0 0 = (p : Int)) {N : Int} (hc : wC (vP Z p) σ N) (hd : 3 ≤ d) : zk_Does l Γ mX0_look d 0 0 [.ref c] (zb_M (zW Z c σ)) F none (zb_M (zW Z c (sLook (vP Z p) σ))) F := by
  intro Q hq
  have htl := zw_look_loop (l := l) (Γ := Γ) (d := d) (F := F) hcs hp hw hcp hc hd 12 0 rfl hq
  rw [sLkN_0] at htl
  rcases hcs with rfl | rfl <;> rcases hp with rfl | rfl <;> (
    refine zz_iconst dX0_look_0 ?_
    refine gz_istore_n dX0_look_1 (Nat.le_of_ble_eq_true rfl) rfl ?_
    exact htl
  )
theorem zW_no (Z : zV) (c : Nat) (σ : zV) {a : Nat} (j : Nat) (h : a < c ∨ c + 12 ≤ a) : zW Z c σ a j = Z a j := if_neg (by omega)
theorem zeq_W {Z Z1 : zV} {c : Nat} {σ : zV} (h : zeq (zW Z c σ) Z1) (τ : zV) : zeq (zW Z c τ) (zW Z1 c τ) := by
  intro a j q
  unfold zW
  by_cases e : c ≤ a ∧ a < c + 12
  · rw [if_pos e, if_pos e]
  · rw [if_neg e, if_neg e, h a j q]
    exact if_neg e
theorem zeq_vC {Z Z1 : zV} {c : Nat} (hcs : c = 336 ∨ c = 352) {σ : zV} (hcut : cut σ = σ) (h : zeq (zW Z c σ) Z1) : vC Z1 c = σ := by
  rw [h.vC hcs, vC_W, hcut]
theorem zeq_vP {Z Z1 : zV} {c p : Nat} (hcs : c = 336 ∨ c = 352) (hp : p = 368 ∨ p = 400) {σ : zV} (h : zeq (zW Z c σ) Z1) : vP Z1 p = vP Z p := by
  rw [h.vP hp, vP_W _ _ _ _ (by omega)]
theorem hOr_to {Z Z1 : zV} {p : Nat} (hp : p = 368 ∨ p = 400) {H : zV → Nat → Bool} (h : hOr Z p H) (e : ∀ a j, p ≤ a → zscr a j = false → Z1 a j = Z a j) : hOr Z1 p H := by
  obtain ⟨n, st, h0, h1, h2, h3, h4⟩ := h
  have r : ∀ x, x ≠ 15 → x < 20 → ∀ j, Z1 (p + x) j = Z (p + x) j := fun x h1 h2 j => e _ _ (by omega) (zscr_no (by omega) j)
  have hv : vP Z1 p = vP Z p := by
    funext x y
    unfold vP
    by_cases hx : x < 15
    · rw [if_pos hx, if_pos hx, r x (by omega) (by omega) y]
    · rw [if_neg hx, if_neg hx]
  have f16 : Z1 (p + 16) = Z (p + 16) := funext (r 16 (by decide) (by decide))
  have f17 : Z1 (p + 17) = Z (p + 17) := funext (r 17 (by decide) (by decide))
  have f18 : Z1 (p + 18) = Z (p + 18) := funext (r 18 (by decide) (by decide))
  have f19 : Z1 (p + 19) = Z (p + 19) := funext (r 19 (by decide) (by decide))
  refine ⟨n, st, (e _ _ (by omega) (by rcases hp with rfl | rfl <;> rfl)).trans h0, h1, h2, fun j hj => ?_, fun σ N hc => ?_⟩
  · rw [f16, f17]; exact h3 j hj
  · rw [hv, f16, f18, f19]
    rw [hv] at hc
    exact h4 σ N hc
theorem zw_flash {c p : Nat} (hcs : c = 336 ∨ c = 352) (hp : p = 368 ∨ p = 400) (hw : wP (vP Z p)) {σ : zV} (hcp : σ 0 0 = (p : Int)) {N : Int} (hc : wC (vP Z p) σ N) (hlit : ∀ w : Nat, w < 12 → 0 ≤ σ 11 w ∧ σ 11 w ≤ 1) {k : Nat} (hk : (k : Int) < Z p 3) (hd : 2 ≤ d) : zk_Does l Γ mX0_flashWord d 0 0 [.ref c, .int (iZ (k : Int))] (zb_M (zW Z c σ)) F none (zb_M (zW Z c (sFlash (vP Z p) σ k))) F := by
  have h := zs_flashWord (l := l) (Γ := Γ) (d := d) (F := F) (Z := zW Z c σ) hcs hp (show zW Z c σ c 0 = (p : Int) from (zW_c0 Z c σ 0 0 (by decide)).trans hcp) (by rw [vP_W _ _ _ _ (by omega)]; exact hw) (N := N) (by rw [vP_W _ _ _ _ (by omega), vC_W]; exact hc) (k := k) (by rw [zW_no _ _ _ _ (by omega)]; exact hk) (fun w hw2 => by rw [zW_c0 _ _ _ _ _ (by decide)]; exact hlit w hw2) hd
  rw [vP_W _ _ _ _ (by omega), vC_W, zW_W, ← cut_sFlash, zW_cut] at h
  exact h
theorem zw_send {c p : Nat} (hcs : c = 336 ∨ c = 352) (hp : p = 368 ∨ p = 400) (hw : wP (vP Z p)) {σ : zV} (hcp : σ 0 0 = (p : Int)) {N : Int} (hc : wC (vP Z p) σ N) (hcut : cut σ = σ) (hlit : ∀ w : Nat, w < 12 → 0 ≤ σ 11 w ∧ σ 11 w ≤ 1) {H : zV → Nat → Bool} (hH : hOr Z p H) {k : Nat} (hk : (k : Int) < Z p 3) (hd : 5 ≤ d) {Z1 : zV} (hz : zeq (zW Z c σ) Z1) : zk_DoesR l Γ mX0_sendOff d [.ref c, .int (iZ (k : Int))] Z1 F none (fun Z2 => zeq (zW Z c (sSend (vP Z p) H σ k)) Z2) := by
  have e1 := zeq_vC hcs hcut hz
  have e2 := zeq_vP hcs hp hz
  have h := zs_sendOff (l := l) (Γ := Γ) (d := d) (F := F) (Z := Z1) hcs hp (((hz.at (a := c) (by omega) 0).trans (zW_c0 Z c σ 0 0 (by decide))).trans hcp) (by rw [e2]; exact hw) (N := N) (by rw [e1, e2]; exact hc) (fun w hw2 => by rw [hz.at (by omega) w, zW_c0 _ _ _ _ _ (by decide)]; exact hlit w hw2) (hOr_to hp hH (fun a j h1 h2 => (hz a j h2).trans (zW_no _ _ _ _ (by omega)))) (k := k) (by rw [hz.at (by omega) 3, zW_no _ _ _ _ (by omega)]; exact hk) hd
  rw [e1, e2] at h
  exact zk_DoesR.to h (fun Z2 h2 => (zeq_W hz _).trans h2)
theorem sIt_f_o (π : zV) {i j : Nat} (h : i = 1 ∨ i = 3 ∨ 11 ≤ i ∨ (i = 0 ∧ j ≠ 13)) : ∀ n k σ, sIt (sFlash π) k n σ i j = σ i j
  | 0, _, _ => rfl
  | n + 1, k, σ => (sIt_f_o π h n (k + 1) _).trans (sFlash_o π σ k (Or.inr h))
theorem sIt_s_o (π : zV) (H : zV → Nat → Bool) {i j : Nat} (h : i < 4 ∨ i = 6 ∨ 8 ≤ i) : ∀ n k σ, sIt (sSend π H) k n σ i j = σ i j
  | 0, _, _ => rfl
  | n + 1, k, σ => (sIt_s_o π H h n (k + 1) _).trans (sSend_o π H σ k (Or.inr h))
theorem zs_run_f {c p : Nat} (hcs : c = 336 ∨ c = 352) (hp : p = 368 ∨ p = 400) (hw : wP (vP Z p)) {N : Int} (hN : N + 8 ≤ 90000) {m : Nat} {y : Int} (hd : 3 ≤ d) {Q : Option Value → zk_M → (Heap → Prop) → Prop} : ∀ (n k : Nat) (σ : zV), (k : Int) + n = Z p 3 → σ 0 0 = (p : Int) → wC (vP Z p) σ (N + k) → (∀ w : Nat, w < 12 → 0 ≤ σ 11 w ∧ σ 11 w ≤ 1) → zk_Go l Γ mX0_run d 0 0 Q 35 [some (.ref c), some (.int (iZ (m : Int))), some (.int (iZ y)), some (.int (iZ ((Z p 3).toNat : Int)))] [] (zb_M (zW Z c (sIt (sFlash (vP Z p)) k n σ))) F → zk_Go l Γ mX0_run d 0 0 Q 13 [some (.ref c), some (.int (iZ (m : Int))), some (.int (iZ y)), some (.int (iZ (k : Int)))] [] (zb_M (zW Z c σ)) F := by
  intro n
  induction n with
  | zero =>
    intro k σ hi hcp hc hlit hq
    have hcs2 := hcs
    have hp2 := hp
    have h0 := wP_n hw
    simp only [vP_ap, vC_ap, Nat.reduceAdd, Nat.reduceLT, Nat.add_zero, ↓reduceIte] at h0
    have hpl : (zW Z c σ c 0).toNat = p := by have q := (zW_c0 Z c σ 0 0 (by decide)).trans hcp; rw [show c + 0 = c from rfl] at q; rw [q]; exact Int.toNat_natCast p
    have e3 : zW Z c σ p 3 = Z p 3 := zW_no _ _ _ _ (by omega)
    have ek : (Z p 3).toNat = k := by omega
    have hq2 := hq
    rw [ek] at hq2
    rcases hcs with rfl | rfl <;> rcases hp with rfl | rfl <;> (
      refine gz_iload_n dX0_run_13 rfl ?_
      refine gz_aload_n dX0_run_14 rfl ?_
      refine gz_getf 0 dX0_run_15 rfl rfl wf_Heliographs_Chain_53 (by decide) (congrArg Value.ref hpl) ?_
      refine gz_getf 3 dX0_run_18 rfl rfl wf_Heliographs_Chain_81 (by decide) (zv_i e3) ?_
      refine zz_icmp_ge (tgt := 35) dX0_run_21 rfl (by omega) (fun b21 => ?_) (fun b21 => ?_)
      rotate_left
      · exact absurd b21 (by omega)
      exact hq2
    )
  | succ n ih =>
    intro k σ hi hcp hc hlit hq
    have hcs2 := hcs
    have hp2 := hp
    have h0 := wP_n hw
    simp only [vP_ap, vC_ap, Nat.reduceAdd, Nat.reduceLT, Nat.add_zero, ↓reduceIte] at h0
    have hpl : (zW Z c σ c 0).toNat = p := by have q := (zW_c0 Z c σ 0 0 (by decide)).trans hcp; rw [show c + 0 = c from rfl] at q; rw [q]; exact Int.toNat_natCast p
    have e3 : zW Z c σ p 3 = Z p 3 := zW_no _ _ _ _ (by omega)
    have hfl := zw_flash (l := l) (Γ := Γ) (d := d - 1) (F := F) hcs hp hw hcp hc hlit (k := k) (by omega) (by omega)
    have hcn : wC (vP Z p) (sFlash (vP Z p) σ k) (N + ((k + 1 : Nat) : Int)) := by have q := wC_flash hw hc (k := k) (by simp only [vP_ap, vC_ap, Nat.reduceAdd, Nat.reduceLT, Nat.add_zero, ↓reduceIte]; omega) (by omega); rw [show N + ((k + 1 : Nat) : Int) = N + k + 1 from by omega]; exact q
    rcases hcs with rfl | rfl <;> rcases hp with rfl | rfl <;> (
      refine gz_iload_n dX0_run_13 rfl ?_
      refine gz_aload_n dX0_run_14 rfl ?_
      refine gz_getf 0 dX0_run_15 rfl rfl wf_Heliographs_Chain_53 (by decide) (congrArg Value.ref hpl) ?_
      refine gz_getf 3 dX0_run_18 rfl rfl wf_Heliographs_Chain_81 (by decide) (zv_i e3) ?_
      refine zz_icmp_ge (tgt := 35) dX0_run_21 rfl (by omega) (fun b21 => ?_) (fun b21 => ?_)
      · exact absurd b21 (by omega)
      refine gz_aload_n dX0_run_24 rfl ?_
      refine gz_iload_n dX0_run_25 rfl ?_
      refine gv_1 (J := mX0_flashWord) (d1 := d - 1) dX0_run_26 wm_Heliographs_Chain_84 rfl jzX0_flashWord (Nat.le_of_ble_eq_true rfl) (Nat.le_of_ble_eq_true rfl) (by omega) ⟨Nat.le_refl _, Nat.le_refl _⟩ (hfl) ?_
      refine zz_iinc dX0_run_29 rfl rfl ?_
      refine gz_goto (tgt := 13) dX0_run_32 rfl ?_
      exact ih (k + 1) _ (by omega) ((sFlash_o _ _ _ (by omega)).trans hcp) hcn (fun w h => by rw [sFlash_o _ _ _ (by omega)]; exact hlit w h) hq
    )
theorem zs_run_s {c p : Nat} (hcs : c = 336 ∨ c = 352) (hp : p = 368 ∨ p = 400) (hw : wP (vP Z p)) {N : Int} {H : zV → Nat → Bool} (hH : hOr Z p H) {m : Nat} {y : Int} (hd : 6 ≤ d) {Q : Option Value → zk_M → (Heap → Prop) → Prop} : ∀ (n k : Nat) (σ Z1 : zV), (k : Int) + n = Z p 3 → σ 0 0 = (p : Int) → cut σ = σ → wC (vP Z p) σ N → (∀ w : Nat, w < 12 → 0 ≤ σ 11 w ∧ σ 11 w ≤ 1) → zeq (zW Z c σ) Z1 → (∀ Z2 : zV, zeq (zW Z c (sIt (sSend (vP Z p) H) k n σ)) Z2 → zk_Go l Γ mX0_run d 0 0 Q 59 [some (.ref c), some (.int (iZ (m : Int))), some (.int (iZ y)), some (.int (iZ ((Z p 3).toNat : Int)))] [] (zb_M Z2) F) → zk_Go l Γ mX0_run d 0 0 Q 37 [some (.ref c), some (.int (iZ (m : Int))), some (.int (iZ y)), some (.int (iZ (k : Int)))] [] (zb_M Z1) F := by
  intro n
  induction n with
  | zero =>
    intro k σ Z1 hi hcp hcut hc hlit hz hq
    have hcs2 := hcs
    have hp2 := hp
    have h0 := wP_n hw
    simp only [vP_ap, vC_ap, Nat.reduceAdd, Nat.reduceLT, Nat.add_zero, ↓reduceIte] at h0
    have hpl : (Z1 c 0).toNat = p := by have q := ((hz.at (a := c) (by omega) 0).trans (zW_c0 Z c σ 0 0 (by decide))).trans hcp; rw [q]; exact Int.toNat_natCast p
    have e3 : Z1 p 3 = Z p 3 := (hz.at (by omega) 3).trans (zW_no _ _ _ _ (by omega))
    have ek : (Z p 3).toNat = k := by omega
    have hq2 := hq Z1 hz
    rw [ek] at hq2
    rcases hcs with rfl | rfl <;> rcases hp with rfl | rfl <;> (
      refine gz_iload_n dX0_run_37 rfl ?_
      refine gz_aload_n dX0_run_38 rfl ?_
      refine gz_getf 0 dX0_run_39 rfl rfl wf_Heliographs_Chain_53 (by decide) (congrArg Value.ref hpl) ?_
      refine gz_getf 3 dX0_run_42 rfl rfl wf_Heliographs_Chain_81 (by decide) (zv_i e3) ?_
      refine zz_icmp_ge (tgt := 59) dX0_run_45 rfl (by omega) (fun b45 => ?_) (fun b45 => ?_)
      rotate_left
      · exact absurd b45 (by omega)
      exact hq2
    )
  | succ n ih =>
    intro k σ Z1 hi hcp hcut hc hlit hz hq
    have hcs2 := hcs
    have hp2 := hp
    have h0 := wP_n hw
    simp only [vP_ap, vC_ap, Nat.reduceAdd, Nat.reduceLT, Nat.add_zero, ↓reduceIte] at h0
    have hpl : (Z1 c 0).toNat = p := by have q := ((hz.at (a := c) (by omega) 0).trans (zW_c0 Z c σ 0 0 (by decide))).trans hcp; rw [q]; exact Int.toNat_natCast p
    have e3 : Z1 p 3 = Z p 3 := (hz.at (by omega) 3).trans (zW_no _ _ _ _ (by omega))
    have hse := zw_send (l := l) (Γ := Γ) (d := d - 1) (F := F) hcs hp hw hcp hc hcut hlit hH (k := k) (by omega) (by omega) hz
    have hcn : wC (vP Z p) (sSend (vP Z p) H σ k) N := wC_send hw hc (by simp only [vP_ap, vC_ap, Nat.reduceAdd, Nat.reduceLT, Nat.add_zero, ↓reduceIte]; omega)
    rcases hcs with rfl | rfl <;> rcases hp with rfl | rfl <;> (
      refine gz_iload_n dX0_run_37 rfl ?_
      refine gz_aload_n dX0_run_38 rfl ?_
      refine gz_getf 0 dX0_run_39 rfl rfl wf_Heliographs_Chain_53 (by decide) (congrArg Value.ref hpl) ?_
      refine gz_getf 3 dX0_run_42 rfl rfl wf_Heliographs_Chain_81 (by decide) (zv_i e3) ?_
      refine zz_icmp_ge (tgt := 59) dX0_run_45 rfl (by omega) (fun b45 => ?_) (fun b45 => ?_)
      · exact absurd b45 (by omega)
      refine gz_aload_n dX0_run_48 rfl ?_
      refine gz_iload_n dX0_run_49 rfl ?_
      refine gq_1 (J := mX0_sendOff) (d1 := d - 1) dX0_run_50 wm_Heliographs_Chain_87 rfl jzX0_sendOff (Nat.le_of_ble_eq_true rfl) (Nat.le_of_ble_eq_true rfl) (by omega) (hse) (fun Z50 hZ50 => ?_)
      refine zz_iinc dX0_run_53 rfl rfl ?_
      refine gz_goto (tgt := 37) dX0_run_56 rfl ?_
      exact ih (k + 1) _ Z50 (by omega) ((sSend_o _ _ _ _ (by omega)).trans hcp) (cut_sSend k hcut) hcn (fun w h => by rw [sSend_o _ _ _ _ (by omega)]; exact hlit w h) hZ50 hq
    )
end

/-! THE CHAIN BY HAND: a minute -/
section
variable {l : Launch} {Γ : zk_G} {d : Nat} {F : Heap → Prop}
theorem sLast_iff (f : Nat → Bool) : ∀ n i a, sLast f i n a < 0 ↔ (a < 0 ∧ sFind f i n < 0)
  | 0, i, a => by
    rw [sFind_0]
    constructor
    · intro h; exact ⟨h, by decide⟩
    · intro h; exact h.1
  | n + 1, i, a => by
    have ih := sLast_iff f n (i + 1) (if f i = true then (i : Int) else a)
    have e : sLast f i (n + 1) a = sLast f (i + 1) n (if f i = true then (i : Int) else a) := rfl
    rw [e, ih]
    by_cases h : f i = true
    · rw [if_pos h, sFind_t h]
      omega
    · rw [if_neg h, sFind_f h]
theorem sFirst_b2 (π σ : zV) (a t : Int) (h : 0 ≤ π 0 1) : -1 ≤ sFirst π σ a t ∧ (sFirst π σ a t < π 0 1 ∨ sFirst π σ a t = -1) := by
  unfold sFirst
  split
  · exact ⟨by decide, Or.inr rfl⟩
  · have := sFind_b2 (sFst π σ (sD π σ t.toNat) a) (π 0 1).toNat 0
    omega
theorem mWay_to {π σ τ : zV} {m : Nat → Nat → Int} (h : ∀ w, τ 11 w = σ 11 w) (hm : mWay π σ m) : mWay π τ m := by
  have e : sE π τ = sE π σ := by
    funext k y f
    unfold sE
    simp only [h]
  have e2 : sD π τ = sD π σ := by
    funext t
    unfold sD
    rw [e]
  unfold mWay
  rw [e2]
  exact hm
theorem sn_lit {π σ : zV} {H : zV → Nat → Bool} {k : Nat} {c : Nat → Nat} (hτ : ∀ w : Nat, w < c 1 → (σ 11 w ≠ 0 ↔ sPass π σ w (σ 0 1) = true)) : ∀ w : Nat, w < c 1 → (sSend π H σ k 11 w ≠ 0 ↔ sPass π (sSend π H σ k) w (sSend π H σ k 0 1) = true) := by
  intro w hw
  have e1 : sSend π H σ k 11 w = σ 11 w := sSend_o π H σ k (by omega)
  have e2 : sSend π H σ k 0 1 = σ 0 1 := sSend_o π H σ k (by omega)
  have e3 : sSend π H σ k 0 2 = σ 0 2 := sSend_o π H σ k (by omega)
  have e4 : sPass π (sSend π H σ k) w (σ 0 1) = sPass π σ w (σ 0 1) := by unfold sPass; rw [e3]
  rw [e1, e2, e4]
  exact hτ w hw
theorem sn_in {π σ : zV} {H : zV → Nat → Bool} {k : Nat} : sIn (sSend π H σ k) 2 = sIn σ 2 := by
  funext j
  unfold sIn sSend
  split
  · rename_i q
    by_cases e : j = k
    · rw [e, zb_u_no _ _ (by omega), zb_u_no _ _ (by omega), zb_u_at, q.1]
      rfl
    · rw [zb_u_no _ _ (by omega), zb_u_no _ _ (by omega), zb_u_no _ _ (by omega)]
  · rfl
theorem sIt_in {π : zV} {H : zV → Nat → Bool} : ∀ n i (σ : zV), sIn (sIt (sSend π H) i n σ) 2 = sIn σ 2
  | 0, _, _ => rfl
  | n + 1, i, σ => by
    show sIn (sIt (sSend π H) (i + 1) n (sSend π H σ i)) 2 = _
    rw [sIt_in n (i + 1) (sSend π H σ i), sn_in]
theorem sHs_to {c : Nat → Nat} {W W0 π σ : zV} (hk : ∀ a j, (a < 424 ∨ 468 ≤ a) → W a j = W0 a j) (k : Nat) : sHs c W π σ k = sHs c W0 π σ k := by
  funext i
  unfold sHs
  rw [hk (468 + i) 0 (by omega), hk (468 + i) 1 (by omega), hk (468 + i) 2 (by omega), hk (468 + i) 3 (by omega), hk (468 + i) 4 (by omega), hk (468 + i) 5 (by omega)]
theorem hRow_to {c : Nat → Nat} {W W0 : zV} (hk : ∀ a j, (a < 424 ∨ 468 ≤ a) → W a j = W0 a j) (h : hRow c W0) : hRow c W := by
  intro i hi
  rw [hk (468 + i) 0 (by omega), hk (468 + i) 1 (by omega), hk (468 + i) 2 (by omega), hk (468 + i) 3 (by omega), hk (468 + i) 4 (by omega), hk (468 + i) 5 (by omega)]
  exact h i hi
theorem sm_sent {c : Nat → Nat} {W π σ : zV} (h : sm c W π σ) (hb : c 0 ≤ 8 ∧ c 1 ≤ 12 ∧ c 2 ≤ 8 ∧ c 3 ≤ 8) {m : Nat} (z : Int) : sm c (zb_u (zb_u (zb_u W (460 + m) 4 1) (460 + m) 5 z) (460 + m) 6 (π 7 m)) π (zb_u (zb_u (zb_u σ 4 m 1) 7 m z) 5 m (π 7 m)) := by
  refine sm_row (k := m) h hb (fun a j ha => by repeat rw [zb_u_no _ _ (by omega)]) (fun i j hij => by repeat rw [zb_u_no _ _ (by omega)]) (fun hm => ?_)
  have g := h.2.2.2.2.2 m hm
  simp (decide := true) only [zb_u, false_and, and_false, true_and, and_true, and_self, if_true, if_false, ↓reduceIte]
  exact ⟨g.2.1, g.2.2.1, g.2.2.2.2.2.2.2.1, g.2.2.2.2.2.2.2.2.1, g.2.2.2.2.2.2.2.2.2⟩
theorem sLast_bd' (f : Nat → Bool) : ∀ (n i : Nat) (a : Int), (-1 ≤ a ∧ a < (i : Int) + n + 1) → -1 ≤ sLast f i n a ∧ sLast f i n a < (i : Int) + n + 1
  | 0, i, a, h => by show -1 ≤ a ∧ a < _; omega
  | n + 1, i, a, h => by
    have q := sLast_bd' f n (i + 1) (if f i = true then (i : Int) else a) (by split <;> omega)
    have e : sLast f i (n + 1) a = sLast f (i + 1) n (if f i = true then (i : Int) else a) := rfl
    rw [e]
    omega
theorem sLast_bd (f : Nat → Bool) (n i : Nat) (h : n + i < 1000000) : -2147483648 ≤ sLast f i n (-1) ∧ sLast f i n (-1) < 2147483648 := by
  have := sLast_bd' f n i (-1) (by omega)
  omega
theorem zS_pass_s {E : Nat → Nat × Nat} {e : Nat} {c : Nat → Nat} {W0 π : zV} (hE : zE E e c) (hw : wP π) (hh : hRow c W0) {r : Nat} (hr : 480 ≤ r) (gA : E r = (105, c 0)) (gB : ∀ x, x < c 0 → E (r + 1 + x) = (100, c 0)) {mm : Nat → Nat → Int} (hmt : mat r (c 0) W0 mm) {N : Int} (hN : N ≤ 90000) {H : zV → Nat → Bool} (hH : ∀ σ : zV, wC π σ N → (∀ w : Nat, w < c 1 → (σ 11 w ≠ 0 ↔ sPass π σ w (σ 0 1) = true)) → ∀ k, k < c 3 → H σ k = (List.range' 0 (c 4)).any (sHs c W0 π σ k)) {A : Int} (hd : 6 ≤ d) {kc ks : Nat} {Q : Option Value → zk_M → (Heap → Prop) → Prop} : ∀ (n i : Nat) (W σ : zV) (L4 L5 L6 : Option Value), i + n = c 3 → sm c W π σ → wC π σ N → (∀ w : Nat, w < c 1 → (σ 11 w ≠ 0 ↔ sPass π σ w (σ 0 1) = true)) → (∀ a j, (a < 424 ∨ 468 ≤ a) → W a j = W0 a j) → mWay π σ mm → (∀ W1 L3 L4 L5 L6, sm c W1 π (sIt (sSend π H) i n σ) → (∀ a j, (a < 424 ∨ 468 ≤ a) → W1 a j = W0 a j) → zk_Go l Γ mX8_pass d kc ks Q 364 [some (.ref 424), some (.int (iZ A)), some (.ref r), L3, L4, L5, L6] [] (zG E e W1) F) → zk_Go l Γ mX8_pass d kc ks Q 238 [some (.ref 424), some (.int (iZ A)), some (.ref r), some (.int (iZ (i : Int))), L4, L5, L6] [] (zG E e W) F := by
  intro n
  induction n with
  | zero =>
    intro i W σ L4 L5 L6 hi hS hc hτ hk hmw kQ
    have hb5 := hE.2.2.2.2
    refine gz_iload_n dX8_pass_238 rfl ?_
    refine gz_aload_n dX8_pass_239 rfl ?_
    refine gz_getf (M := zG E e W) 6 dX8_pass_240 hE.1 rfl wf_HeliographsLaw_Sim_25 (by decide) rfl ?_
    refine gg_alen hE 3 dX8_pass_243 (by decide) ?_
    refine zz_icmp_ge (tgt := 364) dX8_pass_244 rfl (by omega) (fun b244 => ?_) (fun b244 => ?_)
    rotate_left
    · exact absurd b244 (by omega)
    exact kQ W _ _ _ _ hS hk
  | succ n ih =>
    intro i W σ L4 L5 L6 hi hS hc hτ hk hmw kQ
    have hb5 := hE.2.2.2.2
    have hbb : c 0 ≤ 8 ∧ c 1 ≤ 12 ∧ c 2 ≤ 8 ∧ c 3 ≤ 8 := ⟨by omega, by omega, by omega, by omega⟩
    have n1 := hS.1
    have n0 := wP_n hw
    have tb := wC_n hc
    have hM := wC_m hc (k := i) (by omega)
    unfold wM at hM
    have hm5 := hw.2.2.2.2.2.2.2 i (by omega)
    have h3 := hS.2.2.2.2.2 i (by omega)
    obtain ⟨x, hx⟩ : ∃ z : Nat, σ 2 i = (z : Int) := ⟨(σ 2 i).toNat, by omega⟩
    obtain ⟨y, hy⟩ : ∃ z : Nat, σ 3 i = (z : Int) := ⟨(σ 3 i).toNat, by omega⟩
    have hk5 := wC_k hc (k := x) (by omega)
    have nb := sNum_bd (sAt σ (x : Int) 1) (c 3) 0
    obtain ⟨fs, hfs⟩ : ∃ z, sFirst π σ (x : Int) (y : Int) = z := ⟨_, rfl⟩
    have hfb := sFirst_b2 π σ (x : Int) (y : Int) n0.2.1.1
    rw [hfs] at hfb
    have hHi : (List.range' 0 (c 4)).any (sHs c W π σ i) = H σ i := by rw [sHs_to hk i]; exact (hH σ hc hτ i (by omega)).symm
    have hmW : mat r (c 0) W mm := fun a ha b hb => (hk (r + 1 + a) b (by omega)).trans (hmt a ha b hb)
    have hsn : sSend π H σ i = if (σ 4 i = 0 ∧ π 10 i ≤ σ 0 1 ∧ 0 < σ 1 x - sNum (sAt σ (x : Int) 1) 0 (c 3) ∧ H σ i = false ∧ 0 ≤ fs ∧ sFind (fun m => decide (σ 7 m = fs)) 0 (c 3) < 0) then zb_u (zb_u (zb_u σ 4 i 1) 7 i fs) 5 i (π 7 i) else σ := by
      unfold sSend sFree
      rw [hx, hy, hfs, show (π 0 3).toNat = c 3 by omega, Int.toNat_natCast]
    refine gz_iload_n dX8_pass_238 rfl ?_
    refine gz_aload_n dX8_pass_239 rfl ?_
    refine gz_getf (M := zG E e W) 6 dX8_pass_240 hE.1 rfl wf_HeliographsLaw_Sim_25 (by decide) rfl ?_
    refine gg_alen hE 3 dX8_pass_243 (by decide) ?_
    refine zz_icmp_ge (tgt := 364) dX8_pass_244 rfl (by omega) (fun b244 => ?_) (fun b244 => ?_)
    · exact absurd b244 (by omega)
    refine gz_aload_n dX8_pass_247 rfl ?_
    refine gz_getf (M := zG E e W) 6 dX8_pass_248 hE.1 rfl wf_HeliographsLaw_Sim_25 (by decide) rfl ?_
    refine gz_iload_n dX8_pass_251 rfl ?_
    refine gg_aald hE 3 (b := 460) (j := i) dX8_pass_252 (by decide) rfl rfl (by omega) ?_
    refine gz_astore dX8_pass_253 (Nat.le_of_ble_eq_true rfl) rfl ?_
    refine gz_aload dX8_pass_255 rfl ?_
    refine zz_iconst dX8_pass_257 ?_
    refine gg_iald hE 3 4 (b := 460) (j := i) (v := σ 4 i) dX8_pass_258 (by decide) rfl (by omega) rfl (by decide) h3.2.2.2.2.1 ?_
    refine zz_if_ne (tgt := 358) dX8_pass_259 rfl (by omega) (fun b259 => ?_) (fun b259 => ?_)
    ·
      refine zz_iinc dX8_pass_358 rfl rfl ?_
      refine gz_goto (tgt := 238) dX8_pass_361 rfl ?_
      first
        | exact ih (i + 1) _ (sSend π H σ i) _ _ _ (by omega) (by rw [hsn, if_neg (fun q => by obtain ⟨q1, q2, q3, q4, q5, q6⟩ := q; first | omega | (rw [b278] at q4; cases q4) | exact b332 (hover.mpr q6))]; exact hS) (wC_send hw hc (by omega)) (sn_lit hτ) hk (mWay_to (fun w => sSend_o π H σ i (by omega)) hmw) kQ
        | exact ih (i + 1) _ (sSend π H σ i) _ _ _ (by omega) (by rw [hsn, if_pos ⟨by omega, by omega, by omega, Bool.eq_false_iff.mpr b278, by omega, hover.mp b332⟩]; exact sm_sent hS hbb (bw : Int)) (wC_send hw hc (by omega)) (sn_lit hτ) (fun a j q => by (repeat rw [zb_u_no _ _ (by omega)]); exact hk a j q) (mWay_to (fun w => sSend_o π H σ i (by omega)) hmw) kQ
    ·
      refine gz_aload dX8_pass_262 rfl ?_
      refine zz_iconst dX8_pass_264 ?_
      refine gg_iald hE 3 3 (b := 460) (j := i) (v := π 10 i) dX8_pass_265 (by decide) rfl (by omega) rfl (by decide) h3.2.2.2.1 ?_
      refine gz_aload_n dX8_pass_266 rfl ?_
      refine gz_getf (M := zG E e W) (v := .int (iZ (σ 0 1))) 0 dX8_pass_267 hE.1 rfl wf_HeliographsLaw_Sim_35 (by decide) (congrArg (fun z => Value.int (iZ z)) hS.2.1.1) ?_
      refine zz_icmp_gt (tgt := 358) dX8_pass_270 rfl (by omega) (fun b270 => ?_) (fun b270 => ?_)
      ·
        refine zz_iinc dX8_pass_358 rfl rfl ?_
        refine gz_goto (tgt := 238) dX8_pass_361 rfl ?_
        first
          | exact ih (i + 1) _ (sSend π H σ i) _ _ _ (by omega) (by rw [hsn, if_neg (fun q => by obtain ⟨q1, q2, q3, q4, q5, q6⟩ := q; first | omega | (rw [b278] at q4; cases q4) | exact b332 (hover.mpr q6))]; exact hS) (wC_send hw hc (by omega)) (sn_lit hτ) hk (mWay_to (fun w => sSend_o π H σ i (by omega)) hmw) kQ
          | exact ih (i + 1) _ (sSend π H σ i) _ _ _ (by omega) (by rw [hsn, if_pos ⟨by omega, by omega, by omega, Bool.eq_false_iff.mpr b278, by omega, hover.mp b332⟩]; exact sm_sent hS hbb (bw : Int)) (wC_send hw hc (by omega)) (sn_lit hτ) (fun a j q => by (repeat rw [zb_u_no _ _ (by omega)]); exact hk a j q) (mWay_to (fun w => sSend_o π H σ i (by omega)) hmw) kQ
      ·
        refine gz_aload_n dX8_pass_273 rfl ?_
        refine gz_iload_n dX8_pass_274 rfl ?_
        refine gv_1 (J := mX8_isHeld) (d1 := d - 1) dX8_pass_275 wm_HeliographsLaw_Sim_69 hE.1 jzX8_isHeld (Nat.le_of_ble_eq_true rfl) (Nat.le_of_ble_eq_true rfl) (by omega) ⟨Nat.zero_le _, Nat.zero_le _⟩ (zk_Does.to (zS_isHeld hE hS hw (hRow_to hk hh) hc hN (m := i) (by omega) (by omega)) (congrArg (fun b => some (Value.int (iZ (bI b)))) hHi)) ?_
        refine zz_if_neB (tgt := 358) dX8_pass_278 rfl (fun b278 => ?_) (fun b278 => ?_)
        ·
          refine zz_iinc dX8_pass_358 rfl rfl ?_
          refine gz_goto (tgt := 238) dX8_pass_361 rfl ?_
          first
            | exact ih (i + 1) _ (sSend π H σ i) _ _ _ (by omega) (by rw [hsn, if_neg (fun q => by obtain ⟨q1, q2, q3, q4, q5, q6⟩ := q; first | omega | (rw [b278] at q4; cases q4) | exact b332 (hover.mpr q6))]; exact hS) (wC_send hw hc (by omega)) (sn_lit hτ) hk (mWay_to (fun w => sSend_o π H σ i (by omega)) hmw) kQ
            | exact ih (i + 1) _ (sSend π H σ i) _ _ _ (by omega) (by rw [hsn, if_pos ⟨by omega, by omega, by omega, Bool.eq_false_iff.mpr b278, by omega, hover.mp b332⟩]; exact sm_sent hS hbb (bw : Int)) (wC_send hw hc (by omega)) (sn_lit hτ) (fun a j q => by (repeat rw [zb_u_no _ _ (by omega)]); exact hk a j q) (mWay_to (fun w => sSend_o π H σ i (by omega)) hmw) kQ
        ·
          refine gz_aload_n dX8_pass_281 rfl ?_
          refine gz_aload dX8_pass_282 rfl ?_
          refine zz_iconst dX8_pass_284 ?_
          refine gg_iald hE 3 1 (b := 460) (j := i) (v := (x : Int)) dX8_pass_285 (by decide) rfl (by omega) rfl (by decide) (h3.2.1.trans hx) ?_
          refine gv_1 (J := mX8_busy) (d1 := d - 1) dX8_pass_286 wm_HeliographsLaw_Sim_72 hE.1 jzX8_busy (Nat.le_of_ble_eq_true rfl) (Nat.le_of_ble_eq_true rfl) (by omega) ⟨Nat.zero_le _, Nat.zero_le _⟩ (zS_busy hE hS hw hc (by omega)) ?_
          refine gz_aload_n dX8_pass_289 rfl ?_
          refine gz_getf (M := zG E e W) 3 dX8_pass_290 hE.1 rfl wf_HeliographsLaw_Sim_15 (by decide) rfl ?_
          refine gz_aload dX8_pass_293 rfl ?_
          refine zz_iconst dX8_pass_295 ?_
          refine gg_iald hE 3 1 (b := 460) (j := i) (v := (x : Int)) dX8_pass_296 (by decide) rfl (by omega) rfl (by decide) (h3.2.1.trans hx) ?_
          refine gg_aald hE 0 (b := 432) (j := x) dX8_pass_297 (by decide) rfl rfl (by omega) ?_
          refine zz_iconst dX8_pass_298 ?_
          refine gg_iald hE 0 2 (b := 432) (j := x) (v := σ 1 x) dX8_pass_299 (by decide) rfl (by omega) rfl (by decide) (hS.2.2.1 x (by omega)).2.2 ?_
          refine zz_icmp_lt (tgt := 306) dX8_pass_300 rfl (by omega) (fun b300 => ?_) (fun b300 => ?_)
          ·
            refine gz_aload_n dX8_pass_306 rfl ?_
            refine gz_aload_n dX8_pass_307 rfl ?_
            refine gz_aload dX8_pass_308 rfl ?_
            refine zz_iconst dX8_pass_310 ?_
            refine gg_iald hE 3 1 (b := 460) (j := i) (v := (x : Int)) dX8_pass_311 (by decide) rfl (by omega) rfl (by decide) (h3.2.1.trans hx) ?_
            refine gz_aload dX8_pass_312 rfl ?_
            refine zz_iconst dX8_pass_314 ?_
            refine gg_iald hE 3 2 (b := 460) (j := i) (v := (y : Int)) dX8_pass_315 (by decide) rfl (by omega) rfl (by decide) (h3.2.2.1.trans hy) ?_
            refine gv_3 (J := mX8_first) (d1 := d - 1) dX8_pass_316 wm_HeliographsLaw_Sim_75 hE.1 jzX8_first (Nat.le_of_ble_eq_true rfl) (Nat.le_of_ble_eq_true rfl) (by omega) ⟨Nat.zero_le _, Nat.zero_le _⟩ (zk_Does.to (zS_first hE hS hw hr gA gB hmW hτ ⟨by omega, by omega⟩ tb.2.1 hmw (a := x) (b := y) (by omega) (by omega) (by omega)) (congrArg (fun z => some (Value.int (iZ z))) hfs)) ?_
            refine gz_istore dX8_pass_319 (Nat.le_of_ble_eq_true rfl) rfl ?_
            refine gz_iload dX8_pass_321 rfl ?_
            refine zz_if_lt (tgt := 358) dX8_pass_323 rfl (by omega) (fun b323 => ?_) (fun b323 => ?_)
            ·
              refine zz_iinc dX8_pass_358 rfl rfl ?_
              refine gz_goto (tgt := 238) dX8_pass_361 rfl ?_
              first
                | exact ih (i + 1) _ (sSend π H σ i) _ _ _ (by omega) (by rw [hsn, if_neg (fun q => by obtain ⟨q1, q2, q3, q4, q5, q6⟩ := q; first | omega | (rw [b278] at q4; cases q4) | exact b332 (hover.mpr q6))]; exact hS) (wC_send hw hc (by omega)) (sn_lit hτ) hk (mWay_to (fun w => sSend_o π H σ i (by omega)) hmw) kQ
                | exact ih (i + 1) _ (sSend π H σ i) _ _ _ (by omega) (by rw [hsn, if_pos ⟨by omega, by omega, by omega, Bool.eq_false_iff.mpr b278, by omega, hover.mp b332⟩]; exact sm_sent hS hbb (bw : Int)) (wC_send hw hc (by omega)) (sn_lit hτ) (fun a j q => by (repeat rw [zb_u_no _ _ (by omega)]); exact hk a j q) (mWay_to (fun w => sSend_o π H σ i (by omega)) hmw) kQ
            ·
              obtain ⟨bw, rfl⟩ : ∃ b : Nat, fs = (b : Int) := ⟨fs.toNat, by omega⟩
              have hover := sLast_iff (fun m => decide (σ 7 m = (bw : Int))) (c 3) 0 (-1)
              rw [show ((-1 : Int) < 0 ∧ sFind (fun m => decide (σ 7 m = (bw : Int))) 0 (c 3) < 0) ↔ sFind (fun m => decide (σ 7 m = (bw : Int))) 0 (c 3) < 0 from ⟨fun q => q.2, fun q => ⟨by decide, q⟩⟩] at hover
              refine gz_aload_n dX8_pass_326 rfl ?_
              refine gz_iload dX8_pass_327 rfl ?_
              refine gv_1 (J := mX8_over) (d1 := d - 1) dX8_pass_329 wm_HeliographsLaw_Sim_79 hE.1 jzX8_over (Nat.le_of_ble_eq_true rfl) (Nat.le_of_ble_eq_true rfl) (by omega) ⟨Nat.zero_le _, Nat.zero_le _⟩ (zS_over hE hS hw hc (w := bw) (by omega)) ?_
              refine zz_if_lt (tgt := 338) dX8_pass_332 rfl (sLast_bd _ (c 3) 0 (by omega)) (fun b332 => ?_) (fun b332 => ?_)
              ·
                refine gz_aload dX8_pass_338 rfl ?_
                refine zz_iconst dX8_pass_340 ?_
                refine zz_iconst dX8_pass_341 ?_
                refine gg_iast hE 3 4 (b := 460) (j := i) dX8_pass_342 (by decide) rfl (by omega) rfl (by decide) ?_
                refine gz_aload dX8_pass_343 rfl ?_
                refine zz_iconst dX8_pass_345 ?_
                refine gz_iload dX8_pass_346 rfl ?_
                refine gg_iast hE 3 5 (b := 460) (j := i) dX8_pass_348 (by decide) rfl (by omega) rfl (by decide) ?_
                refine gz_aload dX8_pass_349 rfl ?_
                refine zz_bipush (x := 6) dX8_pass_351 rfl ?_
                refine gz_aload dX8_pass_353 rfl ?_
                refine zz_iconst dX8_pass_355 ?_
                refine gg_iald hE 3 0 (b := 460) (j := i) (v := π 7 i) dX8_pass_356 (by decide) rfl (by omega) rfl (by decide) (by rw [zb_u_no _ _ (by omega), zb_u_no _ _ (by omega)]; exact h3.1) ?_
                refine gg_iast hE 3 6 (b := 460) (j := i) dX8_pass_357 (by decide) rfl (by omega) rfl (by decide) ?_
                refine zz_iinc dX8_pass_358 rfl rfl ?_
                refine gz_goto (tgt := 238) dX8_pass_361 rfl ?_
                first
                  | exact ih (i + 1) _ (sSend π H σ i) _ _ _ (by omega) (by rw [hsn, if_neg (fun q => by obtain ⟨q1, q2, q3, q4, q5, q6⟩ := q; first | omega | (rw [b278] at q4; cases q4) | exact b332 (hover.mpr q6))]; exact hS) (wC_send hw hc (by omega)) (sn_lit hτ) hk (mWay_to (fun w => sSend_o π H σ i (by omega)) hmw) kQ
                  | exact ih (i + 1) _ (sSend π H σ i) _ _ _ (by omega) (by rw [hsn, if_pos ⟨by omega, by omega, by omega, Bool.eq_false_iff.mpr b278, by omega, hover.mp b332⟩]; exact sm_sent hS hbb (bw : Int)) (wC_send hw hc (by omega)) (sn_lit hτ) (fun a j q => by (repeat rw [zb_u_no _ _ (by omega)]); exact hk a j q) (mWay_to (fun w => sSend_o π H σ i (by omega)) hmw) kQ
              ·
                refine gz_goto (tgt := 358) dX8_pass_335 rfl ?_
                refine zz_iinc dX8_pass_358 rfl rfl ?_
                refine gz_goto (tgt := 238) dX8_pass_361 rfl ?_
                first
                  | exact ih (i + 1) _ (sSend π H σ i) _ _ _ (by omega) (by rw [hsn, if_neg (fun q => by obtain ⟨q1, q2, q3, q4, q5, q6⟩ := q; first | omega | (rw [b278] at q4; cases q4) | exact b332 (hover.mpr q6))]; exact hS) (wC_send hw hc (by omega)) (sn_lit hτ) hk (mWay_to (fun w => sSend_o π H σ i (by omega)) hmw) kQ
                  | exact ih (i + 1) _ (sSend π H σ i) _ _ _ (by omega) (by rw [hsn, if_pos ⟨by omega, by omega, by omega, Bool.eq_false_iff.mpr b278, by omega, hover.mp b332⟩]; exact sm_sent hS hbb (bw : Int)) (wC_send hw hc (by omega)) (sn_lit hτ) (fun a j q => by (repeat rw [zb_u_no _ _ (by omega)]); exact hk a j q) (mWay_to (fun w => sSend_o π H σ i (by omega)) hmw) kQ
          ·
            refine gz_goto (tgt := 358) dX8_pass_303 rfl ?_
            refine zz_iinc dX8_pass_358 rfl rfl ?_
            refine gz_goto (tgt := 238) dX8_pass_361 rfl ?_
            first
              | exact ih (i + 1) _ (sSend π H σ i) _ _ _ (by omega) (by rw [hsn, if_neg (fun q => by obtain ⟨q1, q2, q3, q4, q5, q6⟩ := q; first | omega | (rw [b278] at q4; cases q4) | exact b332 (hover.mpr q6))]; exact hS) (wC_send hw hc (by omega)) (sn_lit hτ) hk (mWay_to (fun w => sSend_o π H σ i (by omega)) hmw) kQ
              | exact ih (i + 1) _ (sSend π H σ i) _ _ _ (by omega) (by rw [hsn, if_pos ⟨by omega, by omega, by omega, Bool.eq_false_iff.mpr b278, by omega, hover.mp b332⟩]; exact sm_sent hS hbb (bw : Int)) (wC_send hw hc (by omega)) (sn_lit hτ) (fun a j q => by (repeat rw [zb_u_no _ _ (by omega)]); exact hk a j q) (mWay_to (fun w => sSend_o π H σ i (by omega)) hmw) kQ
end

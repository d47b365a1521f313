/-! THE CHAIN BY HAND: pass and go -/
section
variable {l : Launch} {Γ : zk_G} {d : Nat} {F : Heap → Prop}
theorem any_eq {f g : Nat → Bool} {n : Nat} (h : ∀ i, i < n → f i = g i) : (List.range' 0 n).any f = (List.range' 0 n).any g := by
  have key : ∀ n i, (∀ j, i ≤ j → j < i + n → f j = g j) → (List.range' i n).any f = (List.range' i n).any g := by
    intro n
    induction n with
    | zero => intro i _; rfl
    | succ n ih =>
      intro i hi
      rw [List.range'_succ, List.any_cons, List.any_cons, hi i (Nat.le_refl _) (by omega), ih (i + 1) (fun j h1 h2 => hi j (by omega) (by omega))]
  exact key n 0 (fun j h1 h2 => h j (by omega))
theorem zS_pass_f0 {E : Nat → Nat × Nat} {e : Nat} {c : Nat → Nat} {W0 π : zV} (hE : zE E e c) (hw : wP π) {N : Int} (hN : N + 8 ≤ 90000) {T0 A : Int} (hd : 4 ≤ d) {kc ks : Nat} {Q : Option Value → zk_M → (Heap → Prop) → Prop} {W σ : zV} {L5 L6 : Option Value} (hA : A = sNum (sIn σ 2) 0 (c 3) - T0) (hS : sm c W π σ) (hc : wC π σ N) (hτ : (∀ w : Nat, w < c 1 → (σ 11 w ≠ 0 ↔ sPass π σ w (σ 0 1) = true))) (hk : (∀ a j, (a < 424 ∨ 468 ≤ a) → W a j = W0 a j))
    (kQ : ∀ W1 L4 L5 L6, sm c W1 π (sIt (sFlash π) 0 (c 3) σ) → (∀ a j, (a < 424 ∨ 468 ≤ a) → W1 a j = W0 a j) → zk_Go l Γ mX8_pass d kc ks Q 231 [some (.ref 424), some (.int (iZ (sNum (sIn (sIt (sFlash π) 0 (c 3) σ) 2) 0 (c 3) - T0))), some (.ref 428), some (.int (iZ (c 3 : Int))), L4, L5, L6] [] (zG E e W1) F) : zk_Go l Γ mX8_pass d kc ks Q 13 [some (.ref 424), some (.int (iZ A)), some (.ref 428), some (.int (iZ (c 3 : Int))), some (.int (iZ 0)), L5, L6] [] (zG E e W) F := by
  subst hA
  exact zS_pass_f hE hw hN hd (c 3) 0 W σ L5 L6 (by omega) hS (by rw [show N + ((0 : Nat) : Int) = N by omega]; exact hc) hτ hk kQ
theorem zS_pass_e {E : Nat → Nat × Nat} {e : Nat} {c : Nat → Nat} {W π σ : zV} (hE : zE E e c) (hS : sm c W π σ) {Q : Option Value → zk_M → (Heap → Prop) → Prop} {kc ks : Nat} {A : Int} {L2 L3 L4 L5 L6 : Option Value} (hq : sm c (zb_u W 424 0 (σ 0 1 + 1)) π (sTick σ) → Q (some (.int (iZ A))) (zG E e (zb_u W 424 0 (σ 0 1 + 1))) F) : zk_Go l Γ mX8_pass d kc ks Q 364 [some (.ref 424), some (.int (iZ A)), L2, L3, L4, L5, L6] [] (zG E e W) F := by
  refine gz_aload_n dX8_pass_364 rfl ?_
  refine gz_dup dX8_pass_365 rfl ?_
  refine gz_getf (M := zG E e W) (v := .int (iZ (σ 0 1))) 0 dX8_pass_366 hE.1 rfl wf_HeliographsLaw_Sim_35 (by decide) (congrArg (fun z => Value.int (iZ z)) hS.2.1.1) ?_
  refine zz_iconst dX8_pass_369 ?_
  refine zz_iadd dX8_pass_370 ?_
  refine gg_putf hE 0 dX8_pass_371 wf_HeliographsLaw_Sim_35 (by decide) ?_
  refine gz_iload_n dX8_pass_374 rfl ?_
  refine gz_ireturn dX8_pass_375 rfl rfl ?_
  exact hq (sm_o hS (fun a j q => zb_u_no _ _ (by omega)) (fun i j q => zb_u_no _ _ (by omega)) ⟨by unfold sTick; rw [zb_u_at, zb_u_at], by unfold sTick; rw [zb_u_no _ _ (by omega), zb_u_no _ _ (by omega)]; exact hS.2.1.2.1, by unfold sTick; rw [zb_u_no _ _ (by omega), zb_u_no _ _ (by omega)]; exact hS.2.1.2.2⟩)
theorem zS_pass_m {E : Nat → Nat × Nat} {e : Nat} {c : Nat → Nat} {W π σ : zV} (hE : zE E e c) (hS : sm c W π σ) (hw : wP π) {N : Int} (hc : wC π σ N) (hN : N ≤ 90000) (hτ : (∀ w : Nat, w < c 1 → (σ 11 w ≠ 0 ↔ sPass π σ w (σ 0 1) = true))) (hh : hRow c W) {H : zV → Nat → Bool} (hH : ∀ σ : zV, wC π σ N → (∀ w : Nat, w < c 1 → (σ 11 w ≠ 0 ↔ sPass π σ w (σ 0 1) = true)) → ∀ k, k < c 3 → H σ k = (List.range' 0 (c 4)).any (sHs c W π σ k)) (hd : 6 ≤ d) {Q : Option Value → zk_M → (Heap → Prop) → Prop} {kc ks : Nat} (hkc : 9 ≤ kc ∧ 72 ≤ ks) {A : Int} {L2 L3 L4 L5 L6 : Option Value} (hq : ∀ W1, (∀ a j, (a < 424 ∨ 468 ≤ a) → a < e → W1 a j = W a j) → sm c W1 π (sTick (sIt (sSend π H) 0 (c 3) σ)) → Q (some (.int (iZ A))) (zG (zG_E E e (c 0) (c 0)) (e + 1 + c 0) W1) F) : zk_Go l Γ mX8_pass d kc ks Q 231 [some (.ref 424), some (.int (iZ A)), L2, L3, L4, L5, L6] [] (zG E e W) F := by
  have hb5 := hE.2.2.2.2
  have tb := wC_n hc
  have h48 := hE.2.2.2.1
  have hcc := Nat.mul_le_mul hb5.1 hb5.1
  have gA : zG_E E e (c 0) (c 0) e = (105, c 0) := by unfold zG_E; rw [if_neg (by omega), if_pos rfl]
  have gB : ∀ x, x < c 0 → zG_E E e (c 0) (c 0) (e + 1 + x) = (100, c 0) := fun x hx => by unfold zG_E; rw [if_neg (by omega), if_neg (by omega)]
  refine gz_aload_n dX8_pass_231 rfl ?_
  refine gz_invv (J := mX8_ways) (d1 := d - 1) (kc1 := 1 + c 0) (ks1 := c 0 + c 0 * c 0) (Q1 := (fun v M' F' => ∃ W2 m, (∀ a j, a < e → W2 a j = W a j) ∧ mat e (c 0) W2 m ∧ mWay π σ m ∧ v = some (.ref e) ∧ M' = zG (zG_E E e (c 0) (c 0)) (e + 1 + c 0) W2 ∧ F' = F)) [] _ dX8_pass_232 rfl hE.1 (by decide) rfl wm_HeliographsLaw_Sim_65 jzX8_ways.1 jzX8_ways.2.1 jzX8_ways.2.2.1 jzX8_ways.2.2.2.1 jzX8_ways.2.2.2.2.1 rfl ⟨Nat.le_of_ble_eq_true rfl, Nat.le_of_ble_eq_true rfl⟩ (Nat.le_of_ble_eq_true rfl) (by omega) ⟨by omega, by omega⟩ (by decide) (zS_ways hE hS hw (τ := σ) hτ ⟨by omega, by omega⟩ tb.2.1 (by omega) (fun W2 m h1 h2 h3 => ⟨W2, m, h1, h2, h3, rfl, rfl, rfl⟩)) (fun v M2 F2 hz => ?_)
  obtain ⟨W2, mm, hk2, hmt, hmw, rfl, rfl, rfl⟩ := hz
  have hE2 : zE (zG_E E e (c 0) (c 0)) (e + 1 + c 0) c := zE_E hE
  have hS2 : sm c W2 π σ := sm_kept hS ⟨by omega, by omega, by omega, by omega⟩ (fun a j q1 q2 => hk2 a j (by omega))
  refine gz_astore_n dX8_pass_235 (Nat.le_of_ble_eq_true rfl) rfl ?_
  refine zz_iconst dX8_pass_236 ?_
  refine gz_istore_n dX8_pass_237 (Nat.le_of_ble_eq_true rfl) rfl ?_
  refine zS_pass_s (H := H) hE2 hw (W0 := W2) (fun i hi => ?_) h48 gA gB hmt hN (fun τ ht hl k hk => ?_) hd (c 3) 0 W2 σ _ _ _ (by omega) hS2 hc hτ (fun _ _ _ => rfl) hmw (fun W1 L3 L4 L5 L6 s1 k1 => ?_)
  · have g : ∀ j, W2 (468 + i) j = W (468 + i) j := fun j => hk2 _ _ (by omega)
    rw [g 0, g 1, g 2, g 3, g 4, g 5]
    exact hh i hi
  · rw [hH τ ht hl k hk]
    refine any_eq (fun i hi => ?_)
    have g : ∀ j, W2 (468 + i) j = W (468 + i) j := fun j => hk2 _ _ (by omega)
    unfold sHs
    rw [g 0, g 1, g 2, g 3, g 4, g 5]
  · exact zS_pass_e hE2 s1 (fun hs => hq _ (fun a j q1 q2 => by rw [zb_u_no _ _ (by omega), k1 a j q1]; exact hk2 a j q2) hs)
theorem look_lit {c : Nat → Nat} {π σ : zV} (h1 : (c 1 : Int) = π 0 1) (hb : c 1 ≤ 12) : ∀ w : Nat, w < c 1 → (sLook π σ 11 w ≠ 0 ↔ sPass π (sLook π σ) w (sLook π σ 0 1) = true) := by
  intro w hw
  have e1 : sLook π σ 11 w = bI (decide ((w : Int) < π 0 1) && sPass π σ w (σ 0 1)) := by
    unfold sLook
    rw [if_pos rfl, if_pos (by omega)]
  have e2 : sLook π σ 0 1 = σ 0 1 := sLook_o π σ (by decide) 1
  have e4 : sPass π (sLook π σ) w (σ 0 1) = sPass π σ w (σ 0 1) := by unfold sPass; rw [sLook_o π σ (by decide) 2]
  rw [e1, e2, e4, decide_eq_true (by omega), Bool.true_and]
  cases sPass π σ w (σ 0 1) <;> decide
theorem sm_look {c : Nat → Nat} {W π σ : zV} (h : sm c W π σ) : sm c W π (sLook π σ) := by
  obtain ⟨h1, h2, h3, h4, h5, h6⟩ := h
  have f : ∀ i j, i ≠ 11 → sLook π σ i j = σ i j := fun i j hi => sLook_o π σ hi j
  refine ⟨h1, ?_, fun k hk => ?_, fun k hk => ?_, h5, fun k hk => ?_⟩
  · rw [f 0 1 (by decide), f 0 13 (by decide), f 0 2 (by decide)]
    exact h2
  · rw [f 1 k (by decide)]
    exact h3 k hk
  · rw [f 10 k (by decide)]
    exact h4 k hk
  · rw [f 2 k (by decide), f 3 k (by decide), f 4 k (by decide), f 5 k (by decide), f 6 k (by decide), f 7 k (by decide), f 8 k (by decide), f 9 k (by decide)]
    exact h6 k hk
theorem sIf_lit {c : Nat → Nat} {π : zV} : ∀ n i (σ : zV), (∀ w : Nat, w < c 1 → (σ 11 w ≠ 0 ↔ sPass π σ w (σ 0 1) = true)) → ∀ w : Nat, w < c 1 → (sIt (sFlash π) i n σ 11 w ≠ 0 ↔ sPass π (sIt (sFlash π) i n σ) w (sIt (sFlash π) i n σ 0 1) = true)
  | 0, _, _, h => h
  | n + 1, i, σ, h => sIf_lit n (i + 1) (sFlash π σ i) (fl_lit h)
/-- how many came in a minute -/
noncomputable def sCame (π : zV) (H : zV → Nat → Bool) (σ : zV) : Int := sNum (sIn (sMin π H σ) 2) 0 (π 0 3).toNat - sNum (sIn σ 2) 0 (π 0 3).toNat
theorem hRow_k {c : Nat → Nat} {W W0 : zV} (hk : ∀ a j, 468 ≤ a → a < 480 → W a j = W0 a j) (hb : c 4 ≤ 12) (h : hRow c W0) : hRow c W := by
  intro i hi
  have g : ∀ j, W (468 + i) j = W0 (468 + i) j := fun j => hk _ _ (by omega) (by omega)
  rw [g 0, g 1, g 2, g 3, g 4, g 5]
  exact h i hi
theorem zS_pass {E : Nat → Nat × Nat} {e : Nat} {c : Nat → Nat} {W π σ : zV} (hE : zE E e c) (hS : sm c W π σ) (hw : wP π) {N : Int} (hc : wC π σ N) (hN : N + 8 ≤ 90000) (hh : hRow c W) {H : zV → Nat → Bool} (hH : ∀ σ : zV, wC π σ (N + 8) → (∀ w : Nat, w < c 1 → (σ 11 w ≠ 0 ↔ sPass π σ w (σ 0 1) = true)) → ∀ k, k < c 3 → H σ k = (List.range' 0 (c 4)).any (sHs c W π σ k)) (hd : 6 ≤ d) {Q : Option Value → zk_M → (Heap → Prop) → Prop}
    (hq : ∀ W1, (∀ a j, (a < 424 ∨ 468 ≤ a) → a < e → W1 a j = W a j) → sm c W1 π (sMin π H σ) → Q (some (.int (iZ (sCame π H σ)))) (zG (zG_E E e (c 0) (c 0)) (e + 1 + c 0) W1) F) : zk_Go l Γ mX8_pass d 9 72 Q 0 (zk_ent mX8_pass.2.2.1 [.ref 424]) [] (zG E e W) F := by
  have hb5 := hE.2.2.2.2
  have h48 := hE.2.2.2.1
  have n1 := hS.1
  have e3 : (π 0 3).toNat = c 3 := by omega
  have hA : (0 : Int) = sNum (sIn (sLook π σ) 2) 0 (c 3) - sNum (sIn σ 2) 0 (c 3) := by
    have q : sIn (sLook π σ) 2 = sIn σ 2 := by
      funext j
      unfold sIn
      rw [sLook_o π σ (by decide) j]
    rw [q]
    omega
  have hcF := wC_M2 hw hc hN
  have eM : sMin π H σ = sTick (sIt (sSend π H) 0 (c 3) (sIt (sFlash π) 0 (c 3) (sLook π σ))) := by unfold sMin; rw [e3]
  have eF : sM2 π σ = sIt (sFlash π) 0 (c 3) (sLook π σ) := by unfold sM2; rw [e3]
  rw [eF] at hcF
  have eC : sCame π H σ = sNum (sIn (sIt (sFlash π) 0 (c 3) (sLook π σ)) 2) 0 (c 3) - sNum (sIn σ 2) 0 (c 3) := by
    unfold sCame
    rw [e3, eM]
    have q : ∀ τ : zV, sIn (sTick τ) 2 = sIn τ 2 := fun τ => by
      funext j
      unfold sIn sTick
      rw [zb_u_no _ _ (by omega)]
    rw [q, sIt_in]
  rw [eC, eM] at hq
  refine zz_iconst dX8_pass_0 ?_
  refine gz_istore_n dX8_pass_1 (Nat.le_of_ble_eq_true rfl) rfl ?_
  refine gz_aload_n dX8_pass_2 rfl ?_
  refine gz_getf (M := zG E e W) 6 dX8_pass_3 hE.1 rfl wf_HeliographsLaw_Sim_25 (by decide) rfl ?_
  refine gz_astore_n dX8_pass_6 (Nat.le_of_ble_eq_true rfl) rfl ?_
  refine gz_aload_n dX8_pass_7 rfl ?_
  refine gg_alen hE 3 dX8_pass_8 (by decide) ?_
  refine gz_istore_n dX8_pass_9 (Nat.le_of_ble_eq_true rfl) rfl ?_
  refine zz_iconst dX8_pass_10 ?_
  refine gz_istore dX8_pass_11 (Nat.le_of_ble_eq_true rfl) rfl ?_
  refine zS_pass_f0 hE hw (W0 := W) hN (by omega) hA (sm_look hS) (wC_look hc) (look_lit n1.2.1 (by omega)) (fun _ _ _ => rfl) (fun W1 L4 L5 L6 s1 k1 => ?_)
  exact zS_pass_m hE s1 hw hcF (by omega) (sIf_lit _ _ _ (look_lit n1.2.1 (by omega))) (hRow_to k1 hh) (fun τ ht hl k hk => by rw [hH τ ht hl k hk, sHs_to k1 k]) hd ⟨Nat.le_refl _, Nat.le_refl _⟩ (fun W2 q1 q2 => hq W2 (fun a j r1 r2 => (q1 a j r1 r2).trans (k1 a j r1)) q2)
end

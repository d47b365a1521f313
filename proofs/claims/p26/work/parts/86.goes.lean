/-! THE CHAIN BY HAND: minutes -/
section
variable {l : Launch} {Γ : zk_G} {d : Nat} {F : Heap → Prop}
theorem zS_go_loop {c : Nat → Nat} {π : zV} {H : zV → Nat → Bool} (hw : wP π) (hd : 7 ≤ d) {E0 : Nat → Nat × Nat} {e0 : Nat} {W0 : zV} (he0 : 480 ≤ e0) (hh : hRow c W0) (hH : ∀ (N : Int) (σ : zV), wC π σ N → N ≤ 90000 → (∀ w : Nat, w < c 1 → (σ 11 w ≠ 0 ↔ sPass π σ w (σ 0 1) = true)) → ∀ k, k < c 3 → H σ k = (List.range' 0 (c 4)).any (sHs c W0 π σ k)) {mi T0 : Int} (hmi : 0 ≤ mi ∧ mi ≤ 1000) {Q : Option Value → zk_M → (Heap → Prop) → Prop} : ∀ (n i : Nat) (E : Nat → Nat × Nat) (e : Nat) (W σ : zV) (N : Int), (i : Int) + n = mi → zE E e c → e0 ≤ e → (∀ a, a < e0 → E a = E0 a) → (∀ a j, (a < 424 ∨ 468 ≤ a) → a < e0 → W a j = W0 a j) → sm c W π σ → wC π σ N → N + 9 * n ≤ 90000 → (∀ E' e' W', zE E' e' c → e0 ≤ e' → (∀ a, a < e0 → E' a = E0 a) → (∀ a j, (a < 424 ∨ 468 ≤ a) → a < e0 → W' a j = W0 a j) → sm c W' π (sRun π H n σ) → Q (some (.int (iZ (sNum (sIn (sRun π H n σ) 2) 0 (c 3) - T0)))) (zG E' e' W') F) → zk_Go l Γ mX8_go d (9 * n) (72 * n) Q 4 [some (.ref 424), some (.int (iZ mi)), some (.int (iZ (sNum (sIn σ 2) 0 (c 3) - T0))), some (.int (iZ (i : Int)))] [] (zG E e W) F := by
  intro n
  induction n with
  | zero =>
    intro i E e W σ N hi hE he hEE hk hS hc hN hq
    refine gz_iload_n dX8_go_4 rfl ?_
    refine gz_iload_n dX8_go_5 rfl ?_
    refine zz_icmp_ge (tgt := 22) dX8_go_6 rfl (by omega) (fun b6 => ?_) (fun b6 => ?_)
    rotate_left
    · exact absurd b6 (by omega)
    refine gz_iload_n dX8_go_22 rfl ?_
    refine gz_ireturn dX8_go_23 rfl rfl ?_
    exact hq E e W hE he hEE hk hS
  | succ n ih =>
    intro i E e W σ N hi hE he hEE hk hS hc hN hq
    have hb5 := hE.2.2.2.2
    have n1 := hS.1
    have e3 : (π 0 3).toNat = c 3 := by omega
    have hHs : ∀ (τ : zV) (k q : Nat), q < c 4 → sHs c W0 π τ k q = sHs c W π τ k q := fun τ k q hq4 => by
      have g : ∀ j, W (468 + q) j = W0 (468 + q) j := fun j => hk _ _ (by omega) (by omega)
      unfold sHs
      rw [g 0, g 1, g 2, g 3, g 4, g 5]
    refine gz_iload_n dX8_go_4 rfl ?_
    refine gz_iload_n dX8_go_5 rfl ?_
    refine zz_icmp_ge (tgt := 22) dX8_go_6 rfl (by omega) (fun b6 => ?_) (fun b6 => ?_)
    · exact absurd b6 (by omega)
    refine gz_iload_n dX8_go_9 rfl ?_
    refine gz_aload_n dX8_go_10 rfl ?_
    refine gz_invv (J := mX8_pass) (d1 := d - 1) (kc1 := 9) (ks1 := 72) (Q1 := (fun v M' F' => ∃ W1, (∀ a j, (a < 424 ∨ 468 ≤ a) → a < e → W1 a j = W a j) ∧ sm c W1 π (sMin π H σ) ∧ v = some (.int (iZ (sCame π H σ))) ∧ M' = zG (zG_E E e (c 0) (c 0)) (e + 1 + c 0) W1 ∧ F' = F)) [] _ dX8_go_11 rfl hE.1 (by decide) rfl wm_HeliographsLaw_Sim_82 jzX8_pass.1 jzX8_pass.2.1 jzX8_pass.2.2.1 jzX8_pass.2.2.2.1 jzX8_pass.2.2.2.2.1 rfl ⟨Nat.le_of_ble_eq_true rfl, Nat.le_of_ble_eq_true rfl⟩ (Nat.le_of_ble_eq_true rfl) (by omega) ⟨by omega, by omega⟩ (by decide) (zS_pass hE hS hw hc (by omega) (hRow_k (fun a j q1 q2 => hk a j (by omega) (by omega)) (by omega) hh) (H := H) (fun τ ht hl k hk3 => by rw [hH (N + 8) τ ht (by omega) hl k hk3]; exact any_eq (fun q hq4 => hHs τ k q hq4)) (by omega) (fun W1 q1 q2 => ⟨W1, q1, q2, rfl, rfl, rfl⟩)) (fun v M2 F2 hz => ?_)
    obtain ⟨W1, hk1, hS1, rfl, rfl, rfl⟩ := hz
    rw [show 9 * (n + 1) - 9 = 9 * n by omega, show 72 * (n + 1) - 72 = 72 * n by omega]
    refine zz_iadd dX8_go_14 ?_
    rw [show sNum (sIn σ 2) 0 (c 3) - T0 + sCame π H σ = sNum (sIn (sMin π H σ) 2) 0 (c 3) - T0 by unfold sCame; rw [e3]; omega]
    refine gz_istore_n dX8_go_15 (Nat.le_of_ble_eq_true rfl) rfl ?_
    refine zz_iinc dX8_go_16 rfl rfl ?_
    refine gz_goto (tgt := 4) dX8_go_19 rfl ?_
    exact ih (i + 1) _ _ W1 (sMin π H σ) (N + 9) (by omega) (zE_E hE) (by omega) (fun a ha => (if_pos (by omega)).trans (hEE a ha)) (fun a j q1 q2 => (hk1 a j q1 (by omega)).trans (hk a j q1 q2)) hS1 (wC_min hw hc (by omega)) (by omega) hq
theorem zS_go {E0 : Nat → Nat × Nat} {e0 : Nat} {c : Nat → Nat} {W0 π σ : zV} (hE : zE E0 e0 c) (hS : sm c W0 π σ) (hw : wP π) {N : Int} (hc : wC π σ N) {n : Nat} (hN : N + 9 * n ≤ 90000) (hn : n ≤ 1000) (hh : hRow c W0) {H : zV → Nat → Bool} (hH : ∀ (N : Int) (σ : zV), wC π σ N → N ≤ 90000 → (∀ w : Nat, w < c 1 → (σ 11 w ≠ 0 ↔ sPass π σ w (σ 0 1) = true)) → ∀ k, k < c 3 → H σ k = (List.range' 0 (c 4)).any (sHs c W0 π σ k)) (hd : 7 ≤ d) {Q : Option Value → zk_M → (Heap → Prop) → Prop} (hq : (∀ E' e' W', zE E' e' c → e0 ≤ e' → (∀ a, a < e0 → E' a = E0 a) → (∀ a j, (a < 424 ∨ 468 ≤ a) → a < e0 → W' a j = W0 a j) → sm c W' π (sRun π H n σ) → Q (some (.int (iZ (sNum (sIn (sRun π H n σ) 2) 0 (c 3) - sNum (sIn σ 2) 0 (c 3))))) (zG E' e' W') F)) : zk_Go l Γ mX8_go d (9 * n) (72 * n) Q 0 (zk_ent mX8_go.2.2.1 [.ref 424, .int (iZ (n : Int))]) [] (zG E0 e0 W0) F := by
  refine zz_iconst dX8_go_0 ?_
  refine gz_istore_n dX8_go_1 (Nat.le_of_ble_eq_true rfl) rfl ?_
  refine zz_iconst dX8_go_2 ?_
  refine gz_istore_n dX8_go_3 (Nat.le_of_ble_eq_true rfl) rfl ?_
  have q := zS_go_loop (l := l) (Γ := Γ) (d := d) (F := F) (E0 := E0) hw hd hE.2.2.2.1 hh hH (mi := (n : Int)) (T0 := sNum (sIn σ 2) 0 (c 3)) (by omega) n 0 E0 e0 W0 σ N (by omega) hE (Nat.le_refl _) (fun _ _ => rfl) (fun _ _ _ _ => rfl) hS hc hN hq
  rw [show sNum (sIn σ 2) 0 (c 3) - sNum (sIn σ 2) 0 (c 3) = 0 by omega] at q
  exact q
end

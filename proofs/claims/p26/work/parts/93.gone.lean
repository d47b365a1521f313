/-! THE LAW: gone -/
section
variable {l : Launch} {Γ : zk_G} {d : Nat} {F : Heap → Prop}
theorem lOk_zap {π τ : zV} (h : lOk π τ) : lOk π (zap τ) := h
theorem sIn_zap {τ : zV} : sIn (zap τ) 2 = sIn τ 2 := rfl
theorem zL_gone {E : Nat → Nat × Nat} {e : Nat} {c : Nat → Nat} {W π σ : zV} {p : Nat} {H : zV → Nat → Bool} {t o N : Int} (hJ : lJ E e c W p H π σ t o N) (h56 : Γ.2.2.2.1 56 < Γ.2.1.size) {n : Nat} (hn : 1 ≤ n ∧ n ≤ 240) (hN : N + 9 * n ≤ 90000) (hd : 9 ≤ d) {Q : Option Value → zk_M → (Heap → Prop) → Prop}
    (hq : ∀ E' e' W', lJ E' e' c W' p H π (zap (sRun π H n σ)) t o (N + 9 * n) → e ≤ e' → (∀ a, a < e → E' a = E a) → (∀ a j, (a = 56 ∨ 468 ≤ a) → a < e → W' a j = W a j) → Q (some (.int (iZ 1))) (zG E' e' W') F) : zk_Go l Γ mL_gone d (9 * n) (72 * n) Q 0 (zk_ent mL_gone.2.2.1 [.ref 320, .ref 424, .int (iZ (n : Int))]) [] (zG E e W) F := by
  obtain ⟨hE, hE0, hz, hSt, hS, hh, hH, hO⟩ := hJ
  have hb5 := hE.2.2.2.2
  have h48 := hE.2.2.2.1
  have n1 := hS.1
  have e3 : (π 0 3).toNat = c 3 := by omega
  have hw : wP π := hSt.2.2.2.2.1
  have hc : wC π σ N := hSt.2.2.2.2.2.1
  have nb1 := sNum_bd (sIn (sRun π H n σ) 2) (c 3) 0
  have nb2 := sNum_bd (sIn σ 2) (c 3) 0
  refine gz_aload_n dL_gone_0 rfl ?_
  refine gz_iload_n dL_gone_1 rfl ?_
  refine gA_call (J := mX7_go) (d1 := d - 1) [.int (iZ (n : Int))] _ dL_gone_2 rfl wm_HeliographsLaw_151 rfl ⟨by omega, by omega⟩ jzX7_go rfl (Nat.le_of_ble_eq_true rfl) (Nat.le_of_ble_eq_true rfl) (by omega) ⟨Nat.zero_le _, Nat.zero_le _⟩ (zK_ofR (fun Γ F => zh_go hSt hn hN (by omega))) hE0 (by omega) hz h56 (fun v hv => by rw [List.mem_singleton.mp hv]; trivial) (fun v Z1 hr w hw => by rw [hr.1] at hw; cases hw; trivial) (fun v Z1 hr hz1 => ?_)
  obtain ⟨rfl, hSt2⟩ := hr
  rw [e3, sIn_zap]
  have hS1 : sm c (zL Z1 W) π σ := sm_kept hS ⟨by omega, by omega, by omega, by omega⟩ (fun a j q1 q2 => if_neg (by omega))
  have hh1 : hRow c (zL Z1 W) := hRow_k (fun a j q1 q2 => if_neg (by omega)) (by omega) hh
  have hH1 : ∀ (N : Int) (σ : zV), wC π σ N → N ≤ 90000 → (∀ w : Nat, w < c 1 → (σ 11 w ≠ 0 ↔ sPass π σ w (σ 0 1) = true)) → ∀ k, k < c 3 → H σ k = (List.range' 0 (c 4)).any (sHs c (zL Z1 W) π σ k) := fun N τ h1 h2 hl k h3 => by
    rw [hH N τ h1 h2 hl k h3]
    refine any_eq (fun i hi => ?_)
    have g : ∀ j, zL Z1 W (468 + i) j = W (468 + i) j := fun j => if_neg (by omega)
    unfold sHs
    rw [g 0, g 1, g 2, g 3, g 4, g 5]
  refine gz_aload_n dL_gone_5 rfl ?_
  refine gz_iload_n dL_gone_6 rfl ?_
  refine gz_invv (J := mX8_go) (d1 := d - 1) (kc1 := 9 * n) (ks1 := 72 * n) (Q1 := (fun v M' F' => ∃ E' e' W', zE E' e' c ∧ e ≤ e' ∧ (∀ a, a < e → E' a = E a) ∧ (∀ a j, (a < 424 ∨ 468 ≤ a) → a < e → W' a j = zL Z1 W a j) ∧ sm c W' π (sRun π H n σ) ∧ v = some (.int (iZ (sNum (sIn (sRun π H n σ) 2) 0 (c 3) - sNum (sIn σ 2) 0 (c 3)))) ∧ M' = zG E' e' W' ∧ F' = F)) [.int (iZ (n : Int))] _ dL_gone_7 rfl hE.1 (by decide) rfl wm_HeliographsLaw_154 jzX8_go.1 jzX8_go.2.1 jzX8_go.2.2.1 jzX8_go.2.2.2.1 jzX8_go.2.2.2.2.1 rfl ⟨Nat.le_of_ble_eq_true rfl, Nat.le_of_ble_eq_true rfl⟩ (Nat.le_of_ble_eq_true rfl) (by omega) ⟨by omega, by omega⟩ (by decide) (zS_go hE hS1 hw hc hN (by omega) hh1 hH1 (by omega) (fun E2 e2 W2 q1 q2 q3 q4 q5 => ⟨E2, e2, W2, q1, q2, q3, q4, q5, rfl, rfl, rfl⟩)) (fun v M2 F2 hy => ?_)
  obtain ⟨E2, e2, W2, q1, q2, q3, q4, q5, rfl, rfl, rfl⟩ := hy
  refine zz_icmp_ne (tgt := 17) dL_gone_10 rfl (by omega) (fun b10 => ?_) (fun b10 => ?_)
  · exact absurd rfl b10
  refine zz_iconst dL_gone_13 ?_
  refine gz_goto (tgt := 18) dL_gone_14 rfl ?_
  refine gz_ireturn dL_gone_18 rfl rfl ?_
  refine hq E2 e2 W2 ⟨q1, fun a h1 h2 => (q3 a (by omega)).trans (hE0 a h1 h2), zin_424 (zin_L hz1) (fun a j h1 => q4 a j (Or.inl h1) (by omega)), St_424 hSt2 (fun a j h1 h2 => (q4 a j (Or.inl h2) (by omega)).trans (if_pos ⟨h2, by omega⟩)), q5, hRow_k (fun a j h1 h2 => q4 a j (Or.inr h1) (by omega)) (by omega) hh1, fun M τ h1 h2 hl k h3 => ?_, lOk_zap (lOk_run hw n σ N hc hN hO)⟩ q2 q3 (fun a j h1 h2 => (q4 a j (by omega) h2).trans (if_neg (by omega)))
  rw [hH1 M τ h1 h2 hl k h3]
  refine any_eq (fun i hi => ?_)
  have g : ∀ j, W2 (468 + i) j = zL Z1 W (468 + i) j := fun j => q4 _ _ (by omega) (by omega)
  unfold sHs
  rw [g 0, g 1, g 2, g 3, g 4, g 5]
end

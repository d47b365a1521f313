/-! A MINUTE AS A WORD, AND WHAT STAYS TRUE OVER IT -/
section
variable {l : Launch} {Γ : zk_G} {d : Nat} {Z : Nat → Nat → Int} {F : Heap → Prop}
def sIt (f : zV → Nat → zV) : Nat → Nat → zV → zV
  | _, 0, σ => σ
  | i, n + 1, σ => sIt f (i + 1) n (f σ i)
def sLkN (π σ : zV) (n : Nat) : zV := fun i j => if i = 11 ∧ j < n then bI (decide ((j : Int) < π 0 1) && sPass π σ j (σ 0 1)) else σ i j
def sLook (π σ : zV) : zV := fun i j => if i = 11 then (if j < 12 then bI (decide ((j : Int) < π 0 1) && sPass π σ j (σ 0 1)) else 0) else σ i j
def sTick (σ : zV) : zV := zb_u σ 0 1 (σ 0 1 + 1)
noncomputable def sMin (π : zV) (H : zV → Nat → Bool) (σ : zV) : zV := sTick (sIt (sSend π H) 0 (π 0 3).toNat (sIt (sFlash π) 0 (π 0 3).toNat (sLook π σ)))
noncomputable def sRun (π : zV) (H : zV → Nat → Bool) : Nat → zV → zV
  | 0, σ => σ
  | n + 1, σ => sRun π H n (sMin π H σ)
theorem sIt_ind {f : zV → Nat → zV} (R : Nat → zV → Prop) : ∀ n i (σ : zV), (∀ k τ, i ≤ k → k < i + n → R k τ → R (k + 1) (f τ k)) → R i σ → R (i + n) (sIt f i n σ)
  | 0, i, σ, _, h => h
  | n + 1, i, σ, hs, h => by
    have q := sIt_ind R n (i + 1) (f σ i) (fun k τ h1 h2 => hs k τ (by omega) (by omega)) (hs i σ (Nat.le_refl _) (by omega) h)
    rw [show i + (n + 1) = i + 1 + n from by omega]
    exact q
theorem sLkN_0 (π σ : zV) : sLkN π σ 0 = σ := by
  funext i j
  unfold sLkN
  rw [if_neg (fun q => absurd q.2 (Nat.not_lt_zero _))]
theorem sLkN_s (π σ : zV) (n : Nat) : zb_u (sLkN π σ n) 11 n (bI (decide ((n : Int) < π 0 1) && sPass π σ n (σ 0 1))) = sLkN π σ (n + 1) := by
  funext i j
  unfold sLkN zb_u
  dsimp only
  by_cases h : i = 11 ∧ j = n
  · rw [if_pos h, if_pos ⟨h.1, by omega⟩, h.2]
  · rw [if_neg h]
    by_cases h2 : i = 11 ∧ j < n
    · rw [if_pos h2, if_pos ⟨h2.1, by omega⟩]
    · rw [if_neg h2, if_neg (by omega)]
theorem sLkN_o (π σ : zV) (n : Nat) {i : Nat} (hi : i ≠ 11) (j : Nat) : sLkN π σ n i j = σ i j := if_neg (fun q => hi q.1)
theorem cut_sLkN (π σ : zV) (n : Nat) (h : cut σ = σ) : cut (sLkN π σ n) = sLkN π σ n := by
  funext i j
  unfold cut sLkN
  by_cases h2 : i < 12
  · rw [if_pos h2]
  · rw [if_neg h2, if_neg (by omega)]
    have q := congrFun (congrFun h i) j
    unfold cut at q
    rw [if_neg h2] at q
    exact q
theorem wC_11 {π σ τ : zV} {N : Int} (h : wC π σ N) (ho : ∀ i j, i ≠ 11 → τ i j = σ i j) : wC π τ N := by
  have e : ∀ k, wM π τ N k = wM π σ N k := fun k => by
    unfold wM
    rw [ho 2 k (by decide), ho 3 k (by decide), ho 4 k (by decide), ho 5 k (by decide), ho 6 k (by decide), ho 7 k (by decide), ho 8 k (by decide), ho 9 k (by decide)]
  refine ⟨?_, fun k hk => ?_, fun k hk => ?_, fun w hw => ?_⟩
  · rw [ho 0 1 (by decide), ho 0 2 (by decide), ho 0 13 (by decide)]; exact wC_n h
  · rw [ho 1 k (by decide)]; exact wC_k h hk
  · rw [e k]; exact wC_m h hk
  · rw [ho 10 w (by decide)]; exact wC_w h hw
theorem wM_le {π σ : zV} {N N2 : Int} (hN : N ≤ N2) {k : Nat} (h : wM π σ N k) : wM π σ N2 k := by
  obtain ⟨h1, h2, h3, h4, h5, h6, h7, h8, h9, h10⟩ := h
  exact ⟨h1, h2, h3, h4, ⟨h5.1, by omega⟩, h6, ⟨h7.1, by omega⟩, ⟨h8.1, by omega⟩, h9, h10⟩
theorem wC_le {π σ : zV} {N N2 : Int} (hN : N ≤ N2) (h2 : N2 ≤ 90000) (h : wC π σ N) : wC π σ N2 := by
  obtain ⟨h1, h3, h4, h5⟩ := h
  exact ⟨by omega, h3, fun k hk => wM_le hN (h4 k hk), fun w hw => by have := h5 w hw; omega⟩
theorem wC_to {π σ τ : zV} {N N2 : Int} (h : wC π σ N) (k : Nat) (hN : N ≤ N2) (hN2 : N2 ≤ 90000) (h0 : 0 ≤ τ 0 1 ∧ τ 0 1 ≤ N2) (h2 : τ 0 2 = σ 0 2) (h13 : 0 ≤ τ 0 13 ∧ τ 0 13 ≤ N2) (h1 : ∀ x, τ 1 x = σ 1 x)
    (hr : ∀ i j, 2 ≤ i → i ≤ 9 → j ≠ k → τ i j = σ i j) (hk : (k : Int) < π 0 3 → wM π τ N2 k) (h10 : ∀ w : Nat, (w : Int) < π 0 1 → 0 ≤ τ 10 w ∧ τ 10 w ≤ N2) : wC π τ N2 := by
  refine ⟨⟨h0, by rw [h2]; exact (wC_n h).2.1, h13, hN2⟩, fun x hx => by rw [h1 x]; exact wC_k h hx, fun j hj => ?_, h10⟩
  by_cases e : j = k
  · rw [e]; exact hk (by omega)
  · have q := wM_le hN (wC_m h hj)
    unfold wM at q ⊢
    rw [hr 2 j (by decide) (by decide) e, hr 3 j (by decide) (by decide) e, hr 4 j (by decide) (by decide) e, hr 5 j (by decide) (by decide) e, hr 6 j (by decide) (by decide) e, hr 7 j (by decide) (by decide) e, hr 8 j (by decide) (by decide) e, hr 9 j (by decide) (by decide) e]
    exact q
theorem zb_u_no (Z : zV) {a j x y : Nat} (z : Int) (h : ¬ (x = a ∧ y = j)) : zb_u Z a j z x y = Z x y := if_neg h
/-- what a flash leaves -/
theorem sFlash_o (π σ : zV) (k : Nat) {i j : Nat} (h : (i ≤ 9 ∧ j ≠ k ∧ (i = 0 → j ≠ 13)) ∨ i = 1 ∨ i = 3 ∨ 11 ≤ i ∨ (i = 0 ∧ j ≠ 13)) : sFlash π σ k i j = σ i j := by
  unfold sFlash sBreak sArr sWait
  repeat' split
  all_goals (repeat' (first | rfl | rw [zb_u_no _ _ (by omega)]))
theorem zb_u_1 (Z : zV) (a j w : Nat) : Z a w ≤ zb_u Z a j (Z a j + 1) a w ∧ zb_u Z a j (Z a j + 1) a w ≤ Z a w + 1 := by
  unfold zb_u
  by_cases h : a = a ∧ w = j
  · rw [if_pos h, h.2]; omega
  · rw [if_neg h]; omega
theorem le_1 (a : Int) : a ≤ a ∧ a ≤ a + 1 := by omega
theorem sFlash_13 (π σ : zV) (k : Nat) : σ 0 13 ≤ sFlash π σ k 0 13 ∧ sFlash π σ k 0 13 ≤ σ 0 13 + 1 := by
  unfold sFlash sBreak sArr sWait
  repeat' split
  all_goals (repeat' (first | rw [zb_u_no _ _ (by omega)] | fail))
  all_goals (first | exact zb_u_1 σ 0 13 13 | exact le_1 _ | (rw [zb_u_at]; exact ⟨by omega, by omega⟩))
theorem sFlash_10 (π σ : zV) (k w : Nat) : σ 10 w ≤ sFlash π σ k 10 w ∧ sFlash π σ k 10 w ≤ σ 10 w + 1 := by
  unfold sFlash sBreak sArr sWait
  repeat' split
  all_goals (repeat' (first | rw [zb_u_no _ _ (by omega)] | fail))
  all_goals (first | exact zb_u_1 σ 10 _ w | exact le_1 _)
theorem wM_flash {π σ : zV} {N : Int} (hw : wP π) (h : wC π σ N) {k : Nat} (hk : (k : Int) < π 0 3) : wM π (sFlash π σ k) (N + 1) k := by
  have hm := wC_m h hk
  have h5 := wP_m hw hk
  have hn := wC_n h
  unfold sFlash
  split
  · rename_i e1
    have hov : 0 ≤ σ 7 k ∧ σ 7 k < π 0 1 ∧ 1 ≤ σ 5 k := by unfold wM at hm; omega
    have h3 := sAcross_bd hw (w := (σ 7 k).toNat) (by omega) (σ 2 k)
    split
    · split
      · unfold wM at hm ⊢
        simp (decide := true) only [zb_u, false_and, and_false, true_and, and_true, and_self, if_true, if_false, ↓reduceIte]
        omega
      · rename_i hnl
        split
        · unfold sArr
          split
          · unfold sWait wM at *
            simp (decide := true) only [zb_u, false_and, and_false, true_and, and_true, and_self, if_true, if_false, ↓reduceIte]
            omega
          · unfold sWait wM at *
            simp (decide := true) only [zb_u, false_and, and_false, true_and, and_true, and_self, if_true, if_false, ↓reduceIte]
            omega
        · unfold wM at hm ⊢
          simp (decide := true) only [zb_u, false_and, and_false, true_and, and_true, and_self, if_true, if_false, ↓reduceIte]
          omega
    · unfold sBreak sWait wM at *
      simp (decide := true) only [zb_u, false_and, and_false, true_and, and_true, and_self, if_true, if_false, ↓reduceIte]
      omega
  · exact wM_le (by omega) hm
theorem wC_flash {π σ : zV} {N : Int} (hw : wP π) (h : wC π σ N) {k : Nat} (hk : (k : Int) < π 0 3) (hN : N + 1 ≤ 90000) : wC π (sFlash π σ k) (N + 1) := by
  have hn := wC_n h
  have h13 := sFlash_13 π σ k
  refine wC_to h k (by omega) hN (by rw [sFlash_o π σ k (by omega)]; omega) (sFlash_o π σ k (by omega)) (by omega) (fun x => sFlash_o π σ k (by omega)) (fun i j h1 h2 h3 => sFlash_o π σ k (by omega)) (fun _ => wM_flash hw h hk) (fun w hw2 => ?_)
  have h10 := sFlash_10 π σ k w
  have := wC_w h hw2
  omega
theorem sFind_ok {f : Nat → Bool} : ∀ {n i : Nat}, 0 ≤ sFind f i n → f (sFind f i n).toNat = true
  | 0, i, h => absurd h (by rw [sFind_0]; decide)
  | n + 1, i, h => by
    by_cases q : f i = true
    · rw [sFind_t q, Int.toNat_natCast]; exact q
    · rw [sFind_f q] at h ⊢; exact sFind_ok h
theorem sFirst_ok {π σ : zV} {a t : Int} (h : 0 ≤ sFirst π σ a t) : a ≠ t ∧ sD π σ t.toNat a.toNat < 1000000 ∧ sFst π σ (sD π σ t.toNat) a (sFirst π σ a t).toNat = true := by
  unfold sFirst at h ⊢
  split at h
  · omega
  · rename_i e
    rw [if_neg e]
    exact ⟨by omega, by omega, sFind_ok h⟩
theorem sEnd_first {π σ : zV} {a t : Int} (h : 0 ≤ sFirst π σ a t) : π 4 (sFirst π σ a t).toNat = a ∨ π 5 (sFirst π σ a t).toNat = a := by
  have q := (sFirst_ok h).2.2
  unfold sFst sEnd at q
  simp only [Bool.and_eq_true, decide_eq_true_eq] at q
  exact q.1.2
theorem sSend_o (π : zV) (H : zV → Nat → Bool) (σ : zV) (k : Nat) {i j : Nat} (h : j ≠ k ∨ i < 4 ∨ i = 6 ∨ 8 ≤ i) : sSend π H σ k i j = σ i j := by
  unfold sSend
  split
  · rw [zb_u_no _ _ (by omega), zb_u_no _ _ (by omega), zb_u_no _ _ (by omega)]
  · rfl
theorem cut_sSend {π : zV} {H : zV → Nat → Bool} {σ : zV} (k : Nat) (h : cut σ = σ) : cut (sSend π H σ k) = sSend π H σ k := by
  unfold sSend
  split
  · rw [cut_u _ _ _ _ (by decide), cut_u _ _ _ _ (by decide), cut_u _ _ _ _ (by decide), h]
  · exact h
theorem wC_send {π : zV} {H : zV → Nat → Bool} {σ : zV} {N : Int} (hw : wP π) (h : wC π σ N) {k : Nat} (hk : (k : Int) < π 0 3) : wC π (sSend π H σ k) N := by
  have hn := wC_n h
  have hm := wC_m h hk
  have h5 := wP_m hw hk
  refine wC_to h k (Int.le_refl _) (by omega) (by rw [sSend_o _ _ _ _ (by omega)]; exact hn.1) (sSend_o _ _ _ _ (by omega)) (by rw [sSend_o _ _ _ _ (by omega)]; exact hn.2.2.1) (fun x => sSend_o _ _ _ _ (by omega)) (fun i j h1 h2 h3 => sSend_o _ _ _ _ (by omega)) (fun _ => ?_) (fun w hw2 => by rw [sSend_o _ _ _ _ (by omega)]; exact wC_w h hw2)
  unfold sSend
  split
  · rename_i e
    have q1 := sFirst_bd (σ := σ) hw (σ 2 k) (σ 3 k)
    have q2 := sEnd_first e.2.2.2.2.1
    have q3 := e.2.2.2.2.1
    unfold wM at hm ⊢
    simp (decide := true) only [zb_u, false_and, and_false, true_and, and_true, and_self, if_false, ↓reduceIte]
    exact ⟨by omega, by omega, by omega, by omega, by omega, by omega, by omega, by first | exact ⟨q3, h5.1.1, q2⟩ | exact ⟨fun _ => ⟨q3, h5.1.1, q2⟩, fun q => absurd rfl q⟩ | exact ⟨fun _ => ⟨q3, h5.1.1, q2⟩, fun q => q.elim⟩⟩
  · exact hm
theorem wC_tick {π σ : zV} {N : Int} (h : wC π σ N) (hN : N + 1 ≤ 90000) : wC π (sTick σ) (N + 1) := by
  have hn := wC_n h
  have e : ∀ i j, ¬ (i = 0 ∧ j = 1) → sTick σ i j = σ i j := fun i j q => zb_u_no _ _ q
  have e1 : sTick σ 0 1 = σ 0 1 + 1 := zb_u_at _ _ _ _
  refine wC_to h 1000 (by omega) hN (by rw [e1]; omega) (e _ _ (by omega)) (by rw [e _ _ (by omega)]; omega) (fun x => e _ _ (by omega)) (fun i j h1 h2 h3 => e _ _ (by omega)) (fun q => ?_) (fun w hw => by rw [e _ _ (by omega)]; have := wC_w h hw; omega)
  have q2 := wM_le (show N ≤ N + 1 by omega) (wC_m h q)
  unfold wM at q2 ⊢
  rw [e 2 1000 (by omega), e 3 1000 (by omega), e 4 1000 (by omega), e 5 1000 (by omega), e 6 1000 (by omega), e 7 1000 (by omega), e 8 1000 (by omega), e 9 1000 (by omega)]
  exact q2
theorem cut_sTick {σ : zV} (h : cut σ = σ) : cut (sTick σ) = sTick σ := by
  unfold sTick
  rw [cut_u _ _ _ _ (by decide), h]
theorem sLook_o (π σ : zV) {i : Nat} (hi : i ≠ 11) (j : Nat) : sLook π σ i j = σ i j := if_neg hi
theorem sLook_N (π σ : zV) {i j : Nat} (h : i ≠ 11 ∨ j < 12) : sLook π σ i j = sLkN π σ 12 i j := by
  unfold sLook sLkN
  by_cases e : i = 11
  · rw [if_pos e, if_pos (by omega), if_pos (by omega)]
  · rw [if_neg e, if_neg (by omega)]
theorem cut_sLook (π σ : zV) (h : cut σ = σ) : cut (sLook π σ) = sLook π σ := by
  funext i j
  unfold cut sLook
  by_cases h2 : i < 12
  · rw [if_pos h2]
  · rw [if_neg h2, if_neg (by omega)]
    have q := congrFun (congrFun h i) j
    unfold cut at q
    rw [if_neg h2] at q
    exact q
section JUNK
variable {I : zk_MI} {kc ks : Nat} {Q : Option Value → zk_M → (Heap → Prop) → Prop} {pc : Nat} {L : List (Option Value)} {st : List Value} {M : zk_M}
/-- what lies behind the last place of a cell tells nothing -/
theorem zk_ok.junk {ρ : Nat → Nat} {H : Heap} {a : Nat} {kl : Nat × Nat} {f g : Nat → Value} (h : ∀ j, j < kl.2 → g j = f j) (hk : zk_ok Γ ρ H a kl f) : zk_ok Γ ρ H a kl g := by
  refine ⟨fun h1 => ⟨(hk.1 h1).1, ?_⟩, fun h1 h2 => ⟨(hk.2 h1 h2).1, (hk.2 h1 h2).2.1, (hk.2 h1 h2).2.2.1, ?_⟩⟩
  · obtain ⟨cell, c1, c2, c3, c4, c5, c6⟩ := (hk.1 h1).2
    exact ⟨cell, c1, c2, c3, c4, c5, fun j hj => by rw [h j hj]; exact c6 j hj⟩
  · obtain ⟨cell, c1, c2, c3, c4, c5, c6, c7⟩ := (hk.2 h1 h2).2.2.2
    exact ⟨cell, c1, c2, c3, c4, c5, c6, fun j hj => by rw [h j hj]; exact c7 j hj⟩
theorem zk_Rl.junk {ρ : Nat → Nat} {H : Heap} {G : Nat → Nat → Value} (h : ∀ a j, a < M.2.1 → j < (M.1 a).2 → G a j = M.2.2 a j) (hk : zk_Rl Γ ρ M F H) : zk_Rl Γ ρ (M.1, M.2.1, G) F H := by
  obtain ⟨⟨b1, b2, b3, b4, b5, b6, b7⟩, f⟩ := hk
  exact ⟨⟨fun a ha => (b1 a ha).junk (fun j hj => h a j ha hj), b2, b3, b4, b5, fun a j x ha hj e => b6 a j x ha hj (by rw [← h a j ha hj]; exact e), b7⟩, f⟩
theorem zk_Go.junk {G : Nat → Nat → Value} (h : ∀ a j, a < M.2.1 → j < (M.1 a).2 → G a j = M.2.2 a j) (k : zk_Go l Γ I d kc ks Q pc L st (M.1, M.2.1, G) F) : zk_Go l Γ I d kc ks Q pc L st M F := by
  intro p e R s m args below meth c H locs cells slots Qf A ρ ls hc hr hs hR hA hS hL hW hE
  exact k p e R s m args below meth c H locs cells slots Qf A ρ ls hc hr hs (hR.junk h) hA hS hL hW hE
theorem zb_junk {Z Z2 : zV} (h : ∀ a j, j < (zb_s a).2 → zb_g a j (Z2 a j) = zb_g a j (Z a j)) (k : zk_Go l Γ I d kc ks Q pc L st (zb_M Z2) F) : zk_Go l Γ I d kc ks Q pc L st (zb_M Z) F :=
  zk_Go.junk (M := zb_M Z) (G := zb_v Z2) (fun a j _ hj => h a j hj) k
end JUNK
end

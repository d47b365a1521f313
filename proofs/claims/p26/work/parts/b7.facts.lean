/-! WHAT THE LAW SAYS OF A CHAIN -/
section
variable {l : Launch} {Γ : zk_G} {d : Nat} {F : Heap → Prop}
theorem sNum_s (f : Nat → Bool) : ∀ n i, sNum f i (n + 1) = sNum f i n + bI (f (i + n))
  | 0, i => by show bI (f i) + 0 = 0 + _; rw [Nat.add_zero]; omega
  | n + 1, i => by
    show bI (f i) + sNum f (i + 1) (n + 1) = bI (f i) + sNum f (i + 1) n + _
    rw [sNum_s f n (i + 1), show i + 1 + n = i + (n + 1) by omega]
    omega
theorem sSum_s (f : Nat → Int) : ∀ n i, sSum f i (n + 1) = sSum f i n + f (i + n)
  | 0, i => by show f i + 0 = 0 + _; rw [Nat.add_zero]; omega
  | n + 1, i => by
    show f i + sSum f (i + 1) (n + 1) = f i + sSum f (i + 1) n + _
    rw [sSum_s f n (i + 1), show i + 1 + n = i + (n + 1) by omega]
    omega
theorem sNum_0s (f : Nat → Bool) (n : Nat) : sNum f 0 (n + 1) = sNum f 0 n + bI (f n) := by rw [sNum_s, Nat.zero_add]
theorem sSum_0s (f : Nat → Int) (n : Nat) : sSum f 0 (n + 1) = sSum f 0 n + f n := by rw [sSum_s, Nat.zero_add]
theorem sFind_min {f : Nat → Bool} : ∀ n i (k : Nat), i ≤ k → (k : Int) < sFind f i n → ¬ f k = true
  | 0, i, k, h1, h2 => by rw [sFind_0] at h2; omega
  | n + 1, i, k, h1, h2 => by
    by_cases h : f i = true
    · rw [sFind_t h] at h2; omega
    · rw [sFind_f h] at h2
      by_cases e : k = i
      · rw [e]; exact h
      · exact sFind_min n (i + 1) k (by omega) h2
theorem sFind_ex {f : Nat → Bool} : ∀ n i (k : Nat), i ≤ k → k < i + n → f k = true → 0 ≤ sFind f i n ∧ sFind f i n ≤ k
  | 0, i, k, h1, h2, _ => by omega
  | n + 1, i, k, h1, h2, h3 => by
    by_cases h : f i = true
    · rw [sFind_t h]; omega
    · rw [sFind_f h]
      exact sFind_ex n (i + 1) k (by by_cases e : k = i; (rw [e] at h3; exact absurd h3 h); omega) (by omega) h3
/-- the only one is found -/
theorem sFind_only {f : Nat → Bool} {n k : Nat} (hk : k < n) (h : f k = true) (hu : ∀ j, j < n → f j = true → j = k) : sFind f 0 n = (k : Int) := by
  have q := sFind_ex n 0 k (Nat.zero_le _) (by omega) h
  rcases sFind_b2 f n 0 with w | w
  · omega
  · have := hu (sFind f 0 n).toNat (by omega) w.2.2
    omega
/-- as far from both ends -/
theorem gP_sym {n : Nat} {G : Nat → Nat → Int → Prop} (hG : gE n G) (hs : ∀ k y f, G k y f → G y k f) {P : Nat → Nat → Bool} {R : Nat → Nat → Int} (h : ∀ t, gP n G (P t) t (R t)) (b : Nat) : ∀ (q x : Nat), x < n → P b x = true → (R b x).toNat = q → P x b = true ∧ R x b ≤ R b x := by
  intro q
  induction q using Nat.strongRecOn with
  | _ q ih =>
    intro x hx hp hq
    by_cases e : x = b
    · subst e
      exact ⟨(h x).1.1, Int.le_refl _⟩
    · obtain ⟨y, f, g1, g2, g3⟩ := (h b).2.2.1 x hx e hp
      have g4 := hG x y f g1
      have g5 := (h b).2.1 y g4.2.1 g2
      obtain ⟨k1, k2⟩ := ih (R b y).toNat (by omega) y g4.2.1 g2 rfl
      obtain ⟨m1, m2⟩ := (h x).2.2.2 y x f (hs _ _ _ g1) (h x).1.1
      rw [(h x).1.2] at m2
      by_cases e2 : b < n
      · obtain ⟨w1, w2⟩ := gP_tri hG (h y) (h x) m1 _ b e2 k1 rfl
        exact ⟨w1, by omega⟩
      · exfalso
        -- a way to a place that is none: only from there
        have none : ∀ (q x : Nat), x < n → P b x = true → (R b x).toNat = q → False := by
          intro q
          induction q using Nat.strongRecOn with
          | _ q ih2 =>
            intro x hx hp hq
            obtain ⟨y, f, g1, g2, g3⟩ := (h b).2.2.1 x hx (by omega) hp
            have g4 := hG x y f g1
            have g5 := (h b).2.1 y g4.2.1 g2
            exact ih2 (R b y).toNat (by omega) y g4.2.1 g2 rfl
        exact none _ x hx hp rfl
theorem sD_sym {π σ : zV} (hw : wP π) {a b : Nat} (ha : (a : Int) < π 0 0) (hb : (b : Int) < π 0 0) : sD π σ b a = sD π σ a b := by
  have hG := sE_ok hw σ
  have hs : ∀ k y f, sE π σ k y f → sE π σ y k f := fun k y f h => by
    obtain ⟨w, h1, h2, h3, h4⟩ := h
    exact ⟨w, h1, h2, h3.symm.imp (fun q => ⟨q.2, q.1⟩) (fun q => ⟨q.2, q.1⟩), h4⟩
  have key : ∀ t, ∃ Q : (Nat → Bool) × (Nat → Int), gP (π 0 0).toNat (sE π σ) Q.1 t Q.2 ∧ ∀ k, k < (π 0 0).toNat → sD π σ t k = if Q.1 k = true then Q.2 k else 1000000 := fun t => by
    obtain ⟨P, D, h1, h2⟩ := sD_ok hw σ t
    exact ⟨(P, D), h1, h2⟩
  have hP : ∀ t, gP (π 0 0).toNat (sE π σ) (Classical.choose (key t)).1 t (Classical.choose (key t)).2 := fun t => (Classical.choose_spec (key t)).1
  have hD : ∀ t k, k < (π 0 0).toNat → sD π σ t k = if (Classical.choose (key t)).1 k = true then (Classical.choose (key t)).2 k else 1000000 := fun t => (Classical.choose_spec (key t)).2
  have s1 := gP_sym (P := fun t => (Classical.choose (key t)).1) (R := fun t => (Classical.choose (key t)).2) hG hs hP
  rw [hD b a (by omega), hD a b (by omega)]
  by_cases p1 : (Classical.choose (key b)).1 a = true
  · obtain ⟨q1, q2⟩ := s1 b _ a (by omega) p1 rfl
    obtain ⟨q3, q4⟩ := s1 a _ b (by omega) q1 rfl
    rw [if_pos p1, if_pos q1]
    exact Int.le_antisymm q4 q2
  · by_cases p2 : (Classical.choose (key a)).1 b = true
    · exact absurd (s1 a _ b (by omega) p2 rfl).1 p1
    · rw [if_neg p1, if_neg p2]
section
variable {π σ τ : zV}
theorem sD_0 (hw : wP π) {a : Nat} (ha : (a : Int) < π 0 0) : sD π τ a a = 0 := by
  obtain ⟨P, D, h1, h2⟩ := sD_ok hw τ a
  rw [h2 a (by omega), if_pos h1.1.1]
  exact h1.1.2
/-- from another peak a lit pass leads on -/
theorem sD_next (hw : wP π) {a t : Nat} (ha : (a : Int) < π 0 0) (hne : a ≠ t) (hr : sD π τ t a < 1000000) : 1 ≤ sD π τ t a ∧ ∃ w : Nat, (w : Int) < π 0 1 ∧ sFst π τ (sD π τ t) (a : Int) w = true := by
  obtain ⟨P, D, h1, h2⟩ := sD_ok hw τ t
  have e := h2 a (by omega)
  by_cases p : P a = true
  · rw [if_pos p] at e
    obtain ⟨y, f, g1, g2, g3⟩ := h1.2.2.1 a (by omega) hne p
    have g4 := sE_ok hw τ a y f g1
    have g5 := h1.2.1 y g4.2.1 g2
    have ey := h2 y g4.2.1
    rw [if_pos g2] at ey
    refine ⟨by omega, ?_⟩
    obtain ⟨w, w1, w2, w3, w4⟩ := g1
    refine ⟨w, w1, ?_⟩
    have wp := wP_w hw w1
    rcases w3 with ⟨q1, q2⟩ | ⟨q1, q2⟩
    · exact (sFst_iff q1 q2 (by omega)).mpr ⟨w2, Or.inl ⟨rfl, by omega⟩⟩
    · exact (sFst_iff q2 q1 (by omega)).mpr ⟨w2, Or.inr ⟨rfl, by omega⟩⟩
  · rw [if_neg p] at e
    omega
theorem ft_bd (hw : wP π) {a t : Nat} (ha : (a : Int) < π 0 0) (ht : (t : Int) < π 0 0) : (-1 ≤ sFar π τ (a : Int) (t : Int) ∧ sFar π τ (a : Int) (t : Int) ≤ 160) ∧ (-1 ≤ sFirst π τ (a : Int) (t : Int) ∧ sFirst π τ (a : Int) (t : Int) < π 0 1 ∨ sFirst π τ (a : Int) (t : Int) = -1) := by
  have b := sD_bd hw τ t ha
  unfold sFar sFirst
  rw [Int.toNat_natCast, Int.toNat_natCast]
  refine ⟨by split <;> omega, ?_⟩
  split
  · exact Or.inr rfl
  · have n := wP_n hw
    rcases sFind_b2 (sFst π τ (sD π τ t) (a : Int)) (π 0 1).toNat 0 with q | q
    · exact Or.inr q
    · exact Or.inl ⟨by omega, by omega⟩
/-- a way is as far from both ends -/
theorem far_sym (hw : wP π) {a t : Nat} (ha : (a : Int) < π 0 0) (ht : (t : Int) < π 0 0) : sFar π τ (a : Int) (t : Int) = sFar π τ (t : Int) (a : Int) := by
  unfold sFar
  rw [Int.toNat_natCast, Int.toNat_natCast, sD_sym hw ha ht]
theorem far_first (hw : wP π) {a t : Nat} (ha : (a : Int) < π 0 0) (ht : (t : Int) < π 0 0) : (sFar π τ (a : Int) (t : Int) < 1 ↔ sFirst π τ (a : Int) (t : Int) < 0) ∧ (sFar π τ (a : Int) (t : Int) = 0 ↔ a = t) := by
  have b := sD_bd hw τ t ha
  by_cases e : a = t
  · subst e
    have z := sD_0 (τ := τ) hw ha
    unfold sFar sFirst
    rw [Int.toNat_natCast, z, if_pos (by omega), if_pos (Or.inl rfl)]
    omega
  · have ne : ¬ ((a : Int) = (t : Int)) := by omega
    by_cases r : sD π τ t a < 1000000
    · obtain ⟨g1, w, w1, w2⟩ := sD_next (τ := τ) hw ha e r
      have n := wP_n hw
      have q := sFind_ex (f := sFst π τ (sD π τ t) (a : Int)) (π 0 1).toNat 0 w (Nat.zero_le _) (by omega) w2
      unfold sFar sFirst
      rw [Int.toNat_natCast, Int.toNat_natCast, if_pos r, if_neg (by omega)]
      omega
    · unfold sFar sFirst
      rw [Int.toNat_natCast, Int.toNat_natCast, if_neg r, if_pos (Or.inr (by omega))]
      omega
/-- its first pass is lit, begins here, and the way from there is shorter by its far -/
theorem first_on (hw : wP π) {a t w u v : Nat} (ha : (a : Int) < π 0 0) (ht : (t : Int) < π 0 0) (hb : sFirst π τ (a : Int) (t : Int) = (w : Int)) (hu : π 4 w = (u : Int)) (hv : π 5 w = (v : Int)) (huv : u ≠ v) (hu8 : (u : Int) < π 0 0) (hv8 : (v : Int) < π 0 0) :
    τ 11 w ≠ 0 ∧ ((u = a ∧ sFar π τ (v : Int) (t : Int) = sFar π τ (a : Int) (t : Int) - π 6 w) ∨ (v = a ∧ u ≠ a ∧ sFar π τ (u : Int) (t : Int) = sFar π τ (a : Int) (t : Int) - π 6 w)) := by
  have b := sD_bd hw τ t ha
  have bu := sD_bd hw τ t hu8
  have bv := sD_bd hw τ t hv8
  unfold sFirst at hb
  rw [Int.toNat_natCast, Int.toNat_natCast] at hb
  by_cases q : (a : Int) = (t : Int) ∨ 1000000 ≤ sD π τ t a
  · rw [if_pos q] at hb; omega
  rw [if_neg q] at hb
  have n := wP_n hw
  rcases sFind_b2 (sFst π τ (sD π τ t) (a : Int)) (π 0 1).toNat 0 with k | k
  · omega
  · have k3 := k.2.2
    rw [hb, Int.toNat_natCast] at k3
    obtain ⟨c1, c2⟩ := (sFst_iff hu hv huv).mp k3
    have w6 := (wP_w hw (w := w) (by omega)).2.2.2
    refine ⟨c1, ?_⟩
    unfold sFar
    rw [Int.toNat_natCast, Int.toNat_natCast, Int.toNat_natCast, Int.toNat_natCast]
    rcases c2 with ⟨c2, c3⟩ | ⟨c2, c3⟩
    · refine Or.inl ⟨c2, ?_⟩
      rw [if_pos (by omega), if_pos (by omega)]
      omega
    · refine Or.inr ⟨c2, by omega, ?_⟩
      rw [if_pos (by omega), if_pos (by omega)]
      omega
end
/-- as many passes are taken as messages are flashed -/
theorem taken {f : Nat → Int} {nw : Nat} : ∀ (nm : Nat), (∀ j k, j < nm → k < nm → 0 ≤ f j → f j = f k → j = k) → (∀ j, j < nm → f j < nw) → sNum (fun w => decide (0 ≤ sFind (fun m => decide (f m = (w : Int))) 0 nm)) 0 nw = sNum (fun m => decide (0 ≤ f m)) 0 nm
  | 0, _, _ => by
    rw [sNum_0]
    have : ∀ n i, sNum (fun w => decide (0 ≤ sFind (fun m => decide (f m = (w : Int))) 0 0)) i n = 0 := fun n => by
      induction n with
      | zero => intro i; rfl
      | succ n ih => intro i; rw [sNum_f (by rw [sFind_0]; decide), ih]
    exact this nw 0
  | nm + 1, hu, hb => by
    have ih := taken nm (fun j k h1 h2 => hu j k (by omega) (by omega)) (fun j h => hb j (by omega))
    rw [sNum_0s, ← ih]
    have hl : ∀ w : Nat, sFind (fun m => decide (f m = (w : Int))) 0 (nm + 1) = if sFind (fun m => decide (f m = (w : Int))) 0 nm < 0 then (if f nm = (w : Int) then (nm : Int) else -1) else sFind (fun m => decide (f m = (w : Int))) 0 nm := fun w => by
      rw [sFind_last, Nat.zero_add]
      simp only [decide_eq_true_eq]
    by_cases q : 0 ≤ f nm
    · obtain ⟨w0, e0⟩ : ∃ w0 : Nat, f nm = (w0 : Int) := ⟨(f nm).toNat, by omega⟩
      have hb0 := hb nm (by omega)
      have old : sFind (fun m => decide (f m = (w0 : Int))) 0 nm < 0 := by
        rcases sFind_b2 (fun m => decide (f m = (w0 : Int))) nm 0 with k | k
        · omega
        · have k3 := of_decide_eq_true k.2.2
          have := hu (sFind (fun m => decide (f m = (w0 : Int))) 0 nm).toNat nm (by omega) (by omega) (by omega) (by omega)
          omega
      rw [decide_eq_true q, bI_t rfl]
      have e := sNum_one (f := fun w : Nat => decide (0 ≤ sFind (fun m => decide (f m = (w : Int))) 0 nm)) (g := fun w : Nat => decide (0 ≤ sFind (fun m => decide (f m = (w : Int))) 0 (nm + 1))) (k := w0) nw 0 (Nat.zero_le _) (by omega) (fun j hj => by
        try dsimp only
        rw [hl j, if_neg (show ¬ f nm = (j : Int) by omega)]
        by_cases k : sFind (fun m => decide (f m = (j : Int))) 0 nm < 0
        · rw [if_pos k, decide_eq_false (by omega : ¬ 0 ≤ sFind (fun m => decide (f m = (j : Int))) 0 nm)]
          decide
        · rw [if_neg k])
      rw [e]
      try dsimp only
      rw [hl w0, if_pos old, if_pos e0, decide_eq_false (by omega : ¬ 0 ≤ sFind (fun m => decide (f m = (w0 : Int))) 0 nm), decide_eq_true (by omega : (0 : Int) ≤ (nm : Int)), bI_f (by decide), bI_t rfl]
      omega
    · rw [decide_eq_false q, bI_f (by decide), Int.add_zero]
      refine sNum_eq nw 0 (fun w _ _ => ?_)
      rw [hl w, if_neg (show ¬ f nm = (w : Int) by omega)]
      by_cases k : sFind (fun m => decide (f m = (w : Int))) 0 nm < 0
      · rw [if_pos k, decide_eq_false (by omega : ¬ 0 ≤ sFind (fun m => decide (f m = (w : Int))) 0 nm)]
        decide
      · rw [if_neg k]
end

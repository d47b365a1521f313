/-! ROUNDS OVER THE PASSES -/
/-- a pass that is lit joins its peaks -/
def sE (π σ : zV) (k y : Nat) (f : Int) : Prop := ∃ w : Nat, (w : Int) < π 0 1 ∧ σ 11 w ≠ 0 ∧ ((π 4 w = (k : Int) ∧ π 5 w = (y : Int)) ∨ (π 5 w = (k : Int) ∧ π 4 w = (y : Int))) ∧ f = π 6 w
theorem sE_ok {π : zV} (h : wP π) (σ : zV) : gE (π 0 0).toNat (sE π σ) := by
  intro k y f hE
  obtain ⟨w, h1, -, h2, h3⟩ := hE
  have h4 := wP_w h h1
  omega
/-- how far it is from each peak to t -/
noncomputable def sD (π σ : zV) (t : Nat) : Nat → Int := Classical.epsilon (fun R => gX (π 0 0).toNat (sE π σ) 1000000 t R)
theorem sD_ok {π : zV} (h : wP π) (σ : zV) (t : Nat) : gX (π 0 0).toNat (sE π σ) 1000000 t (sD π σ t) := Classical.epsilon_spec (gX_ex (sE_ok h σ) 1000000 t)
theorem sD_bd {π : zV} (h : wP π) (σ : zV) (t : Nat) {k : Nat} (hk : (k : Int) < π 0 0) : 0 ≤ sD π σ t k ∧ (sD π σ t k ≤ 160 ∨ sD π σ t k = 1000000) := by
  have h1 := gX_one (k := k) (by have := wP_n h; omega) (sE_ok h σ) (sD_ok h σ t) (sD_ok h σ t) (by decide) (by decide) (by omega)
  by_cases q : sD π σ t k < 1000000
  · have := h1.2.1 q
    omega
  · have := h1.2.2 q
    omega
/-- a round: from R0 to R1; b: whether something became shorter -/
def sRnd (π σ : zV) (t : Nat) (i : Nat) (b : Bool) (R0 R1 : Nat → Int) : Prop :=
  (∀ k : Nat, (k : Int) < π 0 0 → sD π σ t k ≤ R1 k ∧ R1 k ≤ R0 k) ∧
  (∀ w : Nat, w < i → σ 11 w ≠ 0 → R1 (π 4 w).toNat ≤ R0 (π 5 w).toNat + π 6 w ∧ R1 (π 5 w).toNat ≤ R0 (π 4 w).toNat + π 6 w) ∧
  (b = false → ∀ k : Nat, (k : Int) < π 0 0 → R1 k = R0 k)
theorem sD_edge {π : zV} (h : wP π) (σ : zV) (t : Nat) {k y : Nat} {f : Int} (hE : sE π σ k y f) {z : Int} (hz : sD π σ t y ≤ z) (hk : z < 1000000) : sD π σ t k ≤ z + f := by
  obtain ⟨P, D, a1, a2⟩ := sD_ok h σ t
  obtain ⟨b1, b2, b3, b4⟩ := sE_ok h σ k y f hE
  rw [a2 y b2] at hz
  rw [a2 k b1]
  by_cases hp : P y = true
  · rw [if_pos hp] at hz
    obtain ⟨c1, c2⟩ := a1.2.2.2 k y f hE hp
    rw [if_pos c1]
    omega
  · rw [if_neg hp] at hz
    omega
/-- one way over a pass -/
theorem sRnd_relax {π σ : zV} (h : wP π) {t i : Nat} {b : Bool} {R0 R1 : Nat → Int} (hr : sRnd π σ t i b R0 R1) (hK : ∀ k : Nat, (k : Int) < π 0 0 → R0 k ≤ 1000000) {k y : Nat} {f : Int} (hE : sE π σ k y f) (hlt : R1 y + f < R1 k) :
    sRnd π σ t i true R0 (fun x => if x = k then R1 y + f else R1 x) := by
  obtain ⟨b1, b2, b3, b4⟩ := sE_ok h σ k y f hE
  have n1 : (k : Int) < π 0 0 := by omega
  have n2 : (y : Int) < π 0 0 := by omega
  have hd := sD_edge h σ t hE (hr.1 y n2).1 (by have := (hr.1 k n1).2; have := hK k n1; omega)
  have hle : ∀ x, (if x = k then R1 y + f else R1 x) ≤ R1 x := by
    intro x
    split
    · rename_i e; rw [e]; omega
    · exact Int.le_refl _
  refine ⟨fun x hx => ⟨?_, Int.le_trans (hle x) (hr.1 x hx).2⟩, fun w hw hl => ⟨Int.le_trans (hle _) (hr.2.1 w hw hl).1, Int.le_trans (hle _) (hr.2.1 w hw hl).2⟩, fun q => by cases q⟩
  show _ ≤ (if x = k then R1 y + f else R1 x)
  split
  · rename_i e; rw [e]; exact hd
  · exact (hr.1 x hx).1
theorem sRnd_more {π σ : zV} {t i : Nat} {b : Bool} {R0 R1 : Nat → Int} (hr : sRnd π σ t i b R0 R1) (hl : σ 11 i ≠ 0 → R1 (π 4 i).toNat ≤ R0 (π 5 i).toNat + π 6 i ∧ R1 (π 5 i).toNat ≤ R0 (π 4 i).toNat + π 6 i) : sRnd π σ t (i + 1) b R0 R1 := by
  refine ⟨hr.1, fun w hw h1 => ?_, hr.2.2⟩
  by_cases e : w = i
  · subst e; exact hl h1
  · exact hr.2.1 w (by omega) h1
theorem sRnd_weak {π σ : zV} {t i : Nat} {b : Bool} {R0 R1 : Nat → Int} (hr : sRnd π σ t i b R0 R1) (b2 : Bool) (h : b2 = false → b = false) : sRnd π σ t i b2 R0 R1 := ⟨hr.1, hr.2.1, fun q => hr.2.2 (h q)⟩
/-- behind r rounds -/
def sRs (π σ : zV) (t r : Nat) (b : Bool) (R : Nat → Int) : Prop :=
  (∀ k : Nat, (k : Int) < π 0 0 → sD π σ t k ≤ R k ∧ R k ≤ 1000000) ∧
  (∀ (P : Nat → Bool) (D : Nat → Int), gP (π 0 0).toNat (sE π σ) P t D → ∀ k : Nat, (k : Int) < π 0 0 → P k = true → gR (π 0 0).toNat P D k ≤ r → R k ≤ D k) ∧
  (b = false → ∀ (k y : Nat) (f : Int), sE π σ k y f → R k ≤ R y + f)
theorem sRs_0 {π σ : zV} (h : wP π) {t : Nat} (ht : (t : Int) < π 0 0) {R : Nat → Int} (hR : ∀ k : Nat, (k : Int) < π 0 0 → R k = if k = t then 0 else 1000000) : sRs π σ t 0 true R := by
  refine ⟨fun k hk => ?_, fun P D hP k hk hp hr => ?_, fun q => by cases q⟩
  · rw [hR k hk]
    have := sD_bd h σ t hk
    by_cases e : k = t
    · rw [if_pos e]
      subst e
      obtain ⟨P, D, a1, a2⟩ := sD_ok h σ k
      rw [a2 k (by omega), if_pos a1.1.1, a1.1.2]
      decide
    · rw [if_neg e]
      omega
  · rw [hR k hk]
    by_cases e : k = t
    · rw [if_pos e, e, hP.1.2]
      exact Int.le_refl _
    · obtain ⟨y, f, a1, a2, a3⟩ := hP.2.2.1 k (by omega) e hp
      have hf := sE_ok h σ k y f a1
      have := gR_step (n := (π 0 0).toNat) (P := P) (R := D) (k := k) hf.2.1 a2 (by omega)
      have := gR_bd (π 0 0).toNat P D y
      omega
theorem sRs_step {π σ : zV} (h : wP π) {t r : Nat} {b b2 : Bool} {R0 R1 : Nat → Int} (ht : (t : Int) < π 0 0) (hs : sRs π σ t r b R0) (hr : sRnd π σ t (π 0 1).toNat b2 R0 R1) : sRs π σ t (r + 1) b2 R1 := by
  have hedge : ∀ (k y : Nat) (f : Int), sE π σ k y f → R1 k ≤ R0 y + f := by
    intro k y f hE
    obtain ⟨w, h1, h2, h3, h4⟩ := hE
    have := hr.2.1 w (by omega) h2
    subst h4
    rcases h3 with ⟨e1, e2⟩ | ⟨e1, e2⟩
    · rw [e1, e2, Int.toNat_natCast, Int.toNat_natCast] at this
      exact this.1
    · rw [e1, e2, Int.toNat_natCast, Int.toNat_natCast] at this
      exact this.2
  refine ⟨fun k hk => ⟨(hr.1 k hk).1, Int.le_trans (hr.1 k hk).2 (hs.1 k hk).2⟩, fun P D hP k hk hp hrk => ?_, fun q k y f hE => ?_⟩
  · by_cases e : k = t
    · have h1 := (hr.1 k hk).2
      have h2 := hs.2.1 P D hP k hk hp (by
        rw [e]
        have h3 : gR (π 0 0).toNat P D t ≤ 0 := by
          have h4 : gR (π 0 0).toNat P D t = 0 := by
            have h5 := gR_bd (π 0 0).toNat P D t
            have h6 := gP_bd (sE_ok h σ) hP _ t (by omega) hP.1.1 rfl
            refine Int.le_antisymm ?_ h5.1
            have h7 : sNum (fun y => P y && decide (D y < D t)) 0 (π 0 0).toNat ≤ sNum (fun _ => false) 0 (π 0 0).toNat := sNum_le _ 0 (fun j _ hj q => by
              simp only [Bool.and_eq_true, decide_eq_true_eq] at q
              have := hP.2.1 j (by omega) q.1
              rw [hP.1.2] at q
              omega)
            have h8 : ∀ n i, sNum (fun _ => false) i n = 0 := by
              intro n
              induction n with
              | zero => intro i; rfl
              | succ n ih => intro i; rw [sNum_f Bool.false_ne_true]; exact ih _
            rw [h8] at h7
            exact h7
          omega
        omega)
      omega
    · obtain ⟨y, f, a1, a2, a3⟩ := hP.2.2.1 k (by omega) e hp
      have hf := sE_ok h σ k y f a1
      have h1 := gR_step (n := (π 0 0).toNat) (P := P) (R := D) (k := k) hf.2.1 a2 (by omega)
      have h2 := hs.2.1 P D hP y (by omega) a2 (by omega)
      have h3 := hedge k y f a1
      omega
  · have hf := sE_ok h σ k y f hE
    have h1 := hedge k y f hE
    have h2 := hr.2.2 q y (by omega)
    omega
/-- at the end -/
theorem sRs_end {π σ : zV} (h : wP π) {t r : Nat} {b : Bool} {R : Nat → Int} (hs : sRs π σ t r b R) (he : 8 ≤ r ∨ b = false) (ht : (t : Int) < π 0 0) (hRt : R t ≤ 0) : ∀ k : Nat, (k : Int) < π 0 0 → R k = sD π σ t k := by
  obtain ⟨P, D, a1, a2⟩ := sD_ok h σ t
  have hn := (wP_n h).1
  have key : ∀ (m k : Nat), (k : Int) < π 0 0 → P k = true → (D k).toNat = m → R k ≤ D k := by
    intro m
    induction m using Nat.strongRecOn with
    | ind m ih =>
      intro k hk hp hm
      rcases he with h8 | hb
      · refine hs.2.1 P D a1 k hk hp ?_
        have := gR_bd (π 0 0).toNat P D k
        omega
      · by_cases e : k = t
        · rw [e, a1.1.2]; exact hRt
        · obtain ⟨y, f, c1, c2, c3⟩ := a1.2.2.1 k (by omega) e hp
          have hf := sE_ok h σ k y f c1
          have h0 := a1.2.1 y hf.2.1 c2
          have h1 := ih (D y).toNat (by omega) y (by omega) c2 rfl
          have h2 := hs.2.2 hb k y f c1
          omega
  intro k hk
  have h1 := hs.1 k hk
  rw [a2 k (by omega)] at h1 ⊢
  by_cases hp : P k = true
  · rw [if_pos hp] at h1 ⊢
    have := key _ k hk hp rfl
    omega
  · rw [if_neg hp] at h1 ⊢
    omega
def rx (R : Nat → Int) (x y : Nat) (f : Int) : Nat → Int := if R y + f < R x then (fun k => if k = x then R y + f else R k) else R
theorem rx_le (R : Nat → Int) (x y : Nat) (f : Int) (k : Nat) : rx R x y f k ≤ R k := by
  unfold rx
  split
  · rename_i h
    dsimp only
    split
    · rename_i e; rw [e]; omega
    · exact Int.le_refl _
  · exact Int.le_refl _
theorem rx_at (R : Nat → Int) (x y : Nat) (f : Int) : rx R x y f x ≤ R y + f := by
  unfold rx
  split
  · rename_i h
    dsimp only
    rw [if_pos rfl]
    exact Int.le_refl _
  · omega
theorem sRnd_rx {π σ : zV} (h : wP π) {t i : Nat} {b : Bool} {R0 R : Nat → Int} (hr : sRnd π σ t i b R0 R) (hK : ∀ k : Nat, (k : Int) < π 0 0 → R0 k ≤ 1000000) {k y : Nat} {f : Int} (hE : sE π σ k y f) : sRnd π σ t i (b || decide (R y + f < R k)) R0 (rx R k y f) := by
  unfold rx
  by_cases q : R y + f < R k
  · rw [if_pos q, decide_eq_true q, Bool.or_true]
    exact sRnd_relax h hr hK hE q
  · rw [if_neg q, decide_eq_false q, Bool.or_false]
    exact hr
theorem sRnd_two {π σ : zV} (h : wP π) {t i : Nat} {b : Bool} {R0 R : Nat → Int} (hr : sRnd π σ t i b R0 R) (hK : ∀ k : Nat, (k : Int) < π 0 0 → R0 k ≤ 1000000) (hi : (i : Int) < π 0 1) (hl : σ 11 i ≠ 0) :
    sRnd π σ t (i + 1) ((b || decide (R (π 5 i).toNat + π 6 i < R (π 4 i).toNat)) || decide (rx R (π 4 i).toNat (π 5 i).toNat (π 6 i) (π 4 i).toNat + π 6 i < rx R (π 4 i).toNat (π 5 i).toNat (π 6 i) (π 5 i).toNat)) R0 (rx (rx R (π 4 i).toNat (π 5 i).toNat (π 6 i)) (π 5 i).toNat (π 4 i).toNat (π 6 i)) := by
  have h1 := wP_w h hi
  have e1 : sE π σ (π 4 i).toNat (π 5 i).toNat (π 6 i) := ⟨i, hi, hl, Or.inl ⟨by omega, by omega⟩, rfl⟩
  have e2 : sE π σ (π 5 i).toNat (π 4 i).toNat (π 6 i) := ⟨i, hi, hl, Or.inr ⟨by omega, by omega⟩, rfl⟩
  have s1 := sRnd_rx h hr hK e1
  have s2 := sRnd_rx h s1 hK e2
  refine sRnd_more s2 (fun _ => ⟨?_, ?_⟩)
  · have a1 := rx_le (rx R (π 4 i).toNat (π 5 i).toNat (π 6 i)) (π 5 i).toNat (π 4 i).toNat (π 6 i) (π 4 i).toNat
    have a2 := rx_at R (π 4 i).toNat (π 5 i).toNat (π 6 i)
    have a3 := (hr.1 (π 5 i).toNat (by omega)).2
    omega
  · have a1 := rx_at (rx R (π 4 i).toNat (π 5 i).toNat (π 6 i)) (π 5 i).toNat (π 4 i).toNat (π 6 i)
    have a2 := (s1.1 (π 4 i).toNat (by omega)).2
    omega
theorem zb_row (Z : zV) (a j : Nat) (z : Int) : zb_u Z a j z a = fun k => if k = j then z else Z a k := by
  funext k
  unfold zb_u
  by_cases e : k = j
  · rw [if_pos ⟨rfl, e⟩, if_pos e]
  · rw [if_neg (fun q => e q.2), if_neg e]
theorem zb_rx (Z : zV) (a x y : Nat) (f : Int) : (if Z a y + f < Z a x then zb_u Z a x (Z a y + f) else Z) a = rx (Z a) x y f := by
  unfold rx
  split
  · exact zb_row Z a x _
  · rfl

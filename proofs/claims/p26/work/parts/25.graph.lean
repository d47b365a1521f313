/-! SHORTEST WAYS: what is exact is one -/
theorem sNum_le {f g : Nat → Bool} : ∀ (n i : Nat), (∀ j, i ≤ j → j < i + n → f j = true → g j = true) → sNum f i n ≤ sNum g i n
  | 0, _, _ => Int.le_refl _
  | n + 1, i, h => by
    have h1 := sNum_le n (i + 1) (fun j a b => h j (by omega) (by omega))
    have h2 : bI (f i) ≤ bI (g i) := by
      cases hf : f i with
      | false => cases hg : g i <;> decide
      | true => rw [h i (Nat.le_refl _) (by omega) hf]; exact Int.le_refl _
    show bI (f i) + _ ≤ bI (g i) + _
    omega
theorem sNum_lt {f g : Nat → Bool} : ∀ (n i : Nat), (∀ j, i ≤ j → j < i + n → f j = true → g j = true) → (∃ j, i ≤ j ∧ j < i + n ∧ ¬ f j = true ∧ g j = true) → sNum f i n + 1 ≤ sNum g i n
  | 0, _, _, h => by
    obtain ⟨j, h1, h2, -⟩ := h
    omega
  | n + 1, i, h, hx => by
    obtain ⟨j, h1, h2, h3, h4⟩ := hx
    show bI (f i) + _ + 1 ≤ bI (g i) + _
    by_cases e : j = i
    · subst e
      have h5 := sNum_le n (j + 1) (fun q a b => h q (by omega) (by omega))
      rw [bI_f h3, bI_t h4]
      omega
    · have h5 := sNum_lt n (i + 1) (fun q a b => h q (by omega) (by omega)) ⟨j, by omega, by omega, h3, h4⟩
      have h2 : bI (f i) ≤ bI (g i) := by
        cases hf : f i with
        | false => cases hg : g i <;> decide
        | true => rw [h i (Nat.le_refl _) (by omega) hf]; exact Int.le_refl _
      omega
/-- edges: from, to, how far -/
def gE (n : Nat) (E : Nat → Nat → Int → Prop) : Prop := ∀ k y f, E k y f → k < n ∧ y < n ∧ 1 ≤ f ∧ f ≤ 20
/-- R is how far it is to t, where P says that there is a way -/
def gP (n : Nat) (E : Nat → Nat → Int → Prop) (P : Nat → Bool) (t : Nat) (R : Nat → Int) : Prop :=
  (P t = true ∧ R t = 0) ∧ (∀ k, k < n → P k = true → 0 ≤ R k) ∧ (∀ k, k < n → k ≠ t → P k = true → ∃ y f, E k y f ∧ P y = true ∧ R k = R y + f) ∧ ∀ k y f, E k y f → P y = true → P k = true ∧ R k ≤ R y + f
def gR (n : Nat) (P : Nat → Bool) (R : Nat → Int) (k : Nat) : Int := sNum (fun y => P y && decide (R y < R k)) 0 n
theorem gR_step {n : Nat} {P : Nat → Bool} {R : Nat → Int} {k y : Nat} (hy : y < n) (hp : P y = true) (h : R y < R k) : gR n P R y + 1 ≤ gR n P R k := by
  refine sNum_lt n 0 (fun j _ _ hj => ?_) ⟨y, by omega, by omega, ?_, ?_⟩
  · simp only [Bool.and_eq_true, decide_eq_true_eq] at hj ⊢
    exact ⟨hj.1, by omega⟩
  · simp only [Bool.and_eq_true, decide_eq_true_eq]
    omega
  · simp only [Bool.and_eq_true, decide_eq_true_eq]
    exact ⟨hp, h⟩
theorem gR_bd (n : Nat) (P : Nat → Bool) (R : Nat → Int) (k : Nat) : 0 ≤ gR n P R k ∧ gR n P R k ≤ n := sNum_bd _ n 0
theorem gP_bd {n : Nat} {E : Nat → Nat → Int → Prop} {P : Nat → Bool} {t : Nat} {R : Nat → Int} (hE : gE n E) (h : gP n E P t R) : ∀ (m k : Nat), k < n → P k = true → (R k).toNat = m → R k ≤ 20 * gR n P R k := by
  intro m
  induction m using Nat.strongRecOn with
  | ind m ih =>
    intro k hk hp hm
    have hb := gR_bd n P R k
    by_cases e : k = t
    · subst e
      rw [h.1.2]
      omega
    · obtain ⟨y, f, h1, h2, h3⟩ := h.2.2.1 k hk e hp
      obtain ⟨a1, a2, a3, a4⟩ := hE k y f h1
      have h0 := h.2.1 y a2 h2
      have h4 := ih (R y).toNat (by omega) y a2 h2 rfl
      have h5 := gR_step (n := n) (P := P) (R := R) (k := k) a2 h2 (by omega)
      omega
theorem gP_160 {n : Nat} {E : Nat → Nat → Int → Prop} {P : Nat → Bool} {t : Nat} {R : Nat → Int} (hn : n ≤ 8) (hE : gE n E) (h : gP n E P t R) {k : Nat} (hk : k < n) (hp : P k = true) : R k ≤ 160 := by
  have h1 := gP_bd hE h _ k hk hp rfl
  have h2 := gR_bd n P R k
  omega
theorem gP_le {n : Nat} {E : Nat → Nat → Int → Prop} {P1 P2 : Nat → Bool} {t : Nat} {R1 R2 : Nat → Int} (hE : gE n E) (h1 : gP n E P1 t R1) (h2 : gP n E P2 t R2) : ∀ (m k : Nat), k < n → P1 k = true → (R1 k).toNat = m → P2 k = true ∧ R2 k ≤ R1 k := by
  intro m
  induction m using Nat.strongRecOn with
  | ind m ih =>
    intro k hk hp hm
    by_cases e : k = t
    · subst e
      exact ⟨h2.1.1, by rw [h1.1.2, h2.1.2]; exact Int.le_refl _⟩
    · obtain ⟨y, f, a1, a2, a3⟩ := h1.2.2.1 k hk e hp
      obtain ⟨b1, b2, b3, b4⟩ := hE k y f a1
      have h0 := h1.2.1 y b2 a2
      obtain ⟨c1, c2⟩ := ih (R1 y).toNat (by omega) y b2 a2 rfl
      obtain ⟨d1, d2⟩ := h2.2.2.2 k y f a1 c1
      exact ⟨d1, by omega⟩
/-- what is exact is one -/
theorem gP_one {n : Nat} {E : Nat → Nat → Int → Prop} {P1 P2 : Nat → Bool} {t : Nat} {R1 R2 : Nat → Int} (hE : gE n E) (h1 : gP n E P1 t R1) (h2 : gP n E P2 t R2) {k : Nat} (hk : k < n) : (P1 k = true ↔ P2 k = true) ∧ (P1 k = true → R1 k = R2 k) := by
  refine ⟨⟨fun q => (gP_le hE h1 h2 _ k hk q rfl).1, fun q => (gP_le hE h2 h1 _ k hk q rfl).1⟩, fun q => ?_⟩
  obtain ⟨a, b⟩ := gP_le hE h1 h2 _ k hk q rfl
  obtain ⟨-, e⟩ := gP_le hE h2 h1 _ k hk a rfl
  omega
/-- a walk of so many edges -/
def gW (E : Nat → Nat → Int → Prop) (t : Nat) : Nat → Nat → Int → Prop
  | 0, k, L => k = t ∧ L = 0
  | m + 1, k, L => ∃ y f L', E k y f ∧ gW E t m y L' ∧ L = f + L'
theorem gW_pos {n : Nat} {E : Nat → Nat → Int → Prop} (hE : gE n E) {t : Nat} : ∀ (m k : Nat) (L : Int), gW E t m k L → 0 ≤ L
  | 0, k, L, h => by rw [h.2]; exact Int.le_refl _
  | m + 1, k, L, h => by
    obtain ⟨y, f, L', h1, h2, h3⟩ := h
    have := gW_pos hE m y L' h2
    have := hE k y f h1
    omega
def gL (E : Nat → Nat → Int → Prop) (t k : Nat) (L : Nat) : Prop := ∃ m, gW E t m k (L : Int)
/-- there is an exact one -/
theorem gP_ex {n : Nat} {E : Nat → Nat → Int → Prop} (hE : gE n E) (t : Nat) : ∃ (P : Nat → Bool) (R : Nat → Int), gP n E P t R := by
  have hc : ∀ k, ∃ (q : Bool × Int), (q.1 = true → ∃ L : Nat, q.2 = L ∧ gL E t k L ∧ ∀ j, j < L → ¬ gL E t k j) ∧ (q.1 = false → ∀ L, ¬ gL E t k L) := by
    intro k
    by_cases h : ∃ L, gL E t k L
    · obtain ⟨L, h1, h2⟩ := pk_least _ h
      exact ⟨(true, (L : Int)), fun _ => ⟨L, rfl, h1, h2⟩, fun q => by cases q⟩
    · exact ⟨(false, 0), fun q => (by cases q), fun _ L hL => h ⟨L, hL⟩⟩
  obtain ⟨D, hD⟩ := Classical.axiomOfChoice hc
  have hin : ∀ k L, gL E t k L → (D k).1 = true ∧ (D k).2 ≤ L := by
    intro k L h
    cases hp : (D k).1 with
    | false => exact absurd h ((hD k).2 hp L)
    | true =>
      obtain ⟨L0, e, -, h2⟩ := (hD k).1 hp
      refine ⟨rfl, ?_⟩
      rw [e]
      rcases Nat.lt_or_ge L L0 with q | q
      · exact absurd h (h2 L q)
      · exact Int.ofNat_le.mpr q
  refine ⟨fun k => (D k).1, fun k => (D k).2, ?_, ?_, ?_, ?_⟩
  · obtain ⟨a, b⟩ := hin t 0 ⟨0, rfl, rfl⟩
    obtain ⟨L0, e, -⟩ := (hD t).1 a
    refine ⟨a, ?_⟩
    show (D t).2 = 0
    omega
  · intro k _ hp
    obtain ⟨L0, e, -⟩ := (hD k).1 hp
    show 0 ≤ (D k).2
    omega
  · intro k hk hne hp
    obtain ⟨L0, e, ⟨m, hm⟩, h2⟩ := (hD k).1 hp
    cases m with
    | zero => exact absurd hm.1 hne
    | succ m =>
      obtain ⟨y, f, L', a1, a2, a3⟩ := hm
      have hpos := gW_pos hE m y L' a2
      obtain ⟨L1, rfl⟩ := Int.eq_ofNat_of_zero_le hpos
      obtain ⟨b1, b2⟩ := hin y L1 ⟨m, a2⟩
      refine ⟨y, f, a1, b1, ?_⟩
      obtain ⟨Ly, e2, ⟨my, hmy⟩, -⟩ := (hD y).1 b1
      have hf := hE k y f a1
      obtain ⟨c1, c2⟩ := hin k (f.toNat + Ly) ⟨my + 1, y, f, (Ly : Int), a1, hmy, by omega⟩
      show (D k).2 = (D y).2 + f
      omega
  · intro k y f a1 hp
    obtain ⟨Ly, e2, ⟨my, hmy⟩, -⟩ := (hD y).1 hp
    have hf := hE k y f a1
    obtain ⟨c1, c2⟩ := hin k (f.toNat + Ly) ⟨my + 1, y, f, (Ly : Int), a1, hmy, by omega⟩
    refine ⟨c1, ?_⟩
    show (D k).2 ≤ (D y).2 + f
    omega
/-- the exact one, with K where there is no way -/
def gX (n : Nat) (E : Nat → Nat → Int → Prop) (K : Int) (t : Nat) (R : Nat → Int) : Prop := ∃ (P : Nat → Bool) (D : Nat → Int), gP n E P t D ∧ ∀ k, k < n → R k = if P k = true then D k else K
theorem gX_ex {n : Nat} {E : Nat → Nat → Int → Prop} (hE : gE n E) (K : Int) (t : Nat) : ∃ R, gX n E K t R := by
  obtain ⟨P, D, h⟩ := gP_ex hE t
  exact ⟨fun k => if P k = true then D k else K, P, D, h, fun _ _ => rfl⟩
/-- two exact ones, with what stands for no way -/
theorem gX_one {n : Nat} {E : Nat → Nat → Int → Prop} {K1 K2 : Int} {t : Nat} {R1 R2 : Nat → Int} (hn : n ≤ 8) (hE : gE n E) (h1 : gX n E K1 t R1) (h2 : gX n E K2 t R2) (k1 : 160 < K1) (k2 : 160 < K2) {k : Nat} (hk : k < n) : (R1 k < K1 ↔ R2 k < K2) ∧ (R1 k < K1 → R1 k = R2 k ∧ 0 ≤ R1 k ∧ R1 k ≤ 160) ∧ (¬ R1 k < K1 → R1 k = K1 ∧ R2 k = K2) := by
  obtain ⟨P1, D1, a1, a2⟩ := h1
  obtain ⟨P2, D2, b1, b2⟩ := h2
  obtain ⟨e1, e2⟩ := gP_one hE a1 b1 hk
  rw [a2 k hk, b2 k hk]
  by_cases hp : P1 k = true
  · have hq := e1.mp hp
    have := gP_160 hn hE a1 hk hp
    have h0 := a1.2.1 k hk hp
    have := e2 hp
    rw [if_pos hp, if_pos hq]
    refine ⟨by omega, fun _ => by omega, fun q => absurd q (by omega)⟩
  · have hq : ¬ P2 k = true := fun q => hp (e1.mpr q)
    rw [if_neg hp, if_neg hq]
    exact ⟨by omega, fun q => absurd q (by omega), fun _ => ⟨rfl, rfl⟩⟩

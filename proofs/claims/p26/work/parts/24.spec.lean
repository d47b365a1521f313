/-! REMAINDERS; TRUTH AS A NUMBER; WHAT A PLAN AND A CHAIN SAY -/
theorem iZ_rem {x y : Int} (h : 0 ≤ x ∧ x < 2147483648 ∧ 0 < y ∧ y < 2147483648) : iZ x - iZ x / iZ y * iZ y = iZ (x % y) := by
  obtain ⟨a, rfl⟩ := Int.eq_ofNat_of_zero_le h.1
  obtain ⟨b, rfl⟩ := Int.eq_ofNat_of_zero_le (show 0 ≤ y by omega)
  exact pk_rem (a := a) (d := b) (by omega) (by omega) (by omega)
theorem iZ_div {x y : Int} (h : 0 ≤ x ∧ x < 2147483648 ∧ 0 < y ∧ y < 2147483648) : iZ x / iZ y = iZ (x / y) := by
  obtain ⟨a, rfl⟩ := Int.eq_ofNat_of_zero_le h.1
  obtain ⟨b, rfl⟩ := Int.eq_ofNat_of_zero_le (show 0 ≤ y by omega)
  exact pk_div (a := a) (d := b) (by omega) (by omega) (by omega)
section REM
variable {l : Launch} {Γ : zk_G} {I : zk_MI} {d kc ks : Nat} {Q : Option Value → zk_M → (Heap → Prop) → Prop} {pc : Nat} {L : List (Option Value)} {st : List Value} {M : zk_M} {F : Heap → Prop}
theorem zz_irem {x y : Int} (hd : decode I.2.1 pc = .ok (.irem, 1)) (h : 0 ≤ x ∧ x < 2147483648 ∧ 0 < y ∧ y < 2147483648) (k : zk_Go l Γ I d kc ks Q (pc + 1) L (.int (iZ (x % y)) :: st) M F) : zk_Go l Γ I d kc ks Q pc L (.int (iZ y) :: .int (iZ x) :: st) M F :=
  gz_irem hd (by rw [iZ_0, iZ_inj ⟨by omega, by omega, by omega, by omega⟩]; omega) (by rw [iZ_rem h]; exact k)
theorem zz_idiv {x y : Int} (hd : decode I.2.1 pc = .ok (.idiv, 1)) (h : 0 ≤ x ∧ x < 2147483648 ∧ 0 < y ∧ y < 2147483648) (k : zk_Go l Γ I d kc ks Q (pc + 1) L (.int (iZ (x / y)) :: st) M F) : zk_Go l Γ I d kc ks Q pc L (.int (iZ y) :: .int (iZ x) :: st) M F :=
  gz_idiv hd (by rw [iZ_0, iZ_inj ⟨by omega, by omega, by omega, by omega⟩]; omega) (by rw [iZ_div h]; exact k)
theorem zz_ldc {i : Nat} {x : Int32} {z : Int} (hd : decode I.2.1 pc = .ok (.ldc i, 2)) (hw1 : Cond.constant I.1.cls i x ∈ zk_tg) (hz : x = iZ z) (k : zk_Go l Γ I d kc ks Q (pc + 2) L (.int (iZ z) :: st) M F) : zk_Go l Γ I d kc ks Q pc L st M F := gz_ldc hd hw1 (by rw [hz]; exact k)
theorem zz_ldc2 {i : Nat} {x : Int64} {z : Int} (hd : decode I.2.1 pc = .ok (.ldc2_w i, 3)) (hw1 : Cond.constantLong I.1.cls i x ∈ zk_tg) (hz : x = lZ z) (k : zk_Go l Γ I d kc ks Q (pc + 3) L (.long (lZ z) :: st) M F) : zk_Go l Γ I d kc ks Q pc L st M F := gz_ldc2 hd hw1 (by rw [hz]; exact k)
end REM
abbrev bI (b : Bool) : Int := if b = true then 1 else 0
section BOOL
variable {l : Launch} {Γ : zk_G} {I : zk_MI} {d kc ks : Nat} {Q : Option Value → zk_M → (Heap → Prop) → Prop} {pc : Nat} {L : List (Option Value)} {st : List Value} {M : zk_M} {F : Heap → Prop}
theorem zz_if_eqB {b : Bool} {off : Int} {tgt : Nat} (hd : decode I.2.1 pc = .ok (.ifCond .eq off, 3)) (ht : (pc : Int) + off = (tgt : Int)) (kt : ¬ b = true → zk_Go l Γ I d kc ks Q tgt L st M F) (kf : b = true → zk_Go l Γ I d kc ks Q (pc + 3) L st M F) : zk_Go l Γ I d kc ks Q pc L (.int (iZ (bI b)) :: st) M F :=
  zz_if_eq hd ht (by cases b <;> decide) (fun h => kt (by cases b with
    | true => exact absurd h (by decide)
    | false => exact Bool.false_ne_true)) (fun h => kf (by cases b with
    | true => rfl
    | false => exact absurd rfl h))
theorem zz_if_neB {b : Bool} {off : Int} {tgt : Nat} (hd : decode I.2.1 pc = .ok (.ifCond .ne off, 3)) (ht : (pc : Int) + off = (tgt : Int)) (kt : b = true → zk_Go l Γ I d kc ks Q tgt L st M F) (kf : ¬ b = true → zk_Go l Γ I d kc ks Q (pc + 3) L st M F) : zk_Go l Γ I d kc ks Q pc L (.int (iZ (bI b)) :: st) M F :=
  zz_if_ne hd ht (by cases b <;> decide) (fun h => kt (by cases b with
    | true => rfl
    | false => exact absurd rfl h)) (fun h => kf (by cases b with
    | true => exact absurd h (by decide)
    | false => exact Bool.false_ne_true))
end BOOL
theorem bI_t {b : Bool} (h : b = true) : bI b = 1 := if_pos h
theorem bI_f {b : Bool} (h : ¬ b = true) : bI b = 0 := if_neg h
theorem bI_01 (b : Bool) : 0 ≤ bI b ∧ bI b ≤ 1 := by cases b <;> decide
theorem bI_nar (b : Bool) : narrow .boolean (.int (iZ (bI b))) = .int (iZ (bI b)) := by cases b <;> rfl
/-- a plan's rows by their numbers: 0 its counts, 1 from, 2 to, 3 mirrors, 4 and 5 the peaks of a pass, 6 far, 7 words, 8 at, 9 goal, 10 due, 11 to 14 a cloud's pass, every, for, from, 15 to 19 the orders -/
abbrev zV : Type := Nat → Nat → Int
def sSun (π : zV) (k : Nat) (m : Int) : Bool := decide (π 1 k ≤ m % 120 ∧ m % 120 < π 2 k)
def sCl1 (π : zV) (x m : Int) (i : Nat) : Bool := decide (π 11 i = x ∧ (m + π 14 i) % π 12 i < π 13 i)
def sCl (π : zV) (x m : Int) : Bool := (List.range' 0 (π 0 2).toNat).any (sCl1 π x m)
def sOpen (π : zV) (w : Nat) (m : Int) : Bool := sSun π (π 4 w).toNat m && sSun π (π 5 w).toNat m && !sCl π (w : Int) m
theorem any_nil (f : Nat → Bool) (i : Nat) : (List.range' i 0).any f = false := rfl
theorem any_t {f : Nat → Bool} {i n : Nat} (h : f i = true) : (List.range' i (n + 1)).any f = true := by rw [List.range'_succ, List.any_cons, h]; rfl
theorem any_f {f : Nat → Bool} {i n : Nat} (h : ¬ f i = true) : (List.range' i (n + 1)).any f = (List.range' (i + 1) n).any f := by rw [List.range'_succ, List.any_cons, Bool.eq_false_iff.mpr h]; rfl
/-- a plan as it should be -/
def wP (π : zV) : Prop := (0 ≤ π 0 0 ∧ π 0 0 ≤ 8) ∧ (0 ≤ π 0 1 ∧ π 0 1 ≤ 12) ∧ (0 ≤ π 0 2 ∧ π 0 2 ≤ 8) ∧ (0 ≤ π 0 3 ∧ π 0 3 ≤ 8) ∧
  (∀ k : Nat, (k : Int) < π 0 0 → (0 ≤ π 1 k ∧ π 1 k ≤ 120) ∧ (0 ≤ π 2 k ∧ π 2 k ≤ 120) ∧ (0 ≤ π 3 k ∧ π 3 k ≤ 4)) ∧
  (∀ w : Nat, (w : Int) < π 0 1 → (0 ≤ π 4 w ∧ π 4 w < π 0 0) ∧ (0 ≤ π 5 w ∧ π 5 w < π 0 0) ∧ π 4 w ≠ π 5 w ∧ (1 ≤ π 6 w ∧ π 6 w ≤ 20)) ∧
  (∀ i : Nat, (i : Int) < π 0 2 → (0 ≤ π 11 i ∧ π 11 i < π 0 1) ∧ (2 ≤ π 12 i ∧ π 12 i ≤ 60) ∧ (1 ≤ π 13 i ∧ π 13 i < π 12 i) ∧ (0 ≤ π 14 i ∧ π 14 i ≤ 59)) ∧
  (∀ i : Nat, (i : Int) < π 0 3 → (1 ≤ π 7 i ∧ π 7 i ≤ 40) ∧ (0 ≤ π 8 i ∧ π 8 i < π 0 0) ∧ (0 ≤ π 9 i ∧ π 9 i < π 0 0) ∧ π 8 i ≠ π 9 i ∧ (0 ≤ π 10 i ∧ π 10 i ≤ 999))
theorem wP_rem {π : zV} (hw : wP π) (m : Int) {i : Nat} (h : (i : Int) < π 0 2) : 0 ≤ (m + π 14 i) % π 12 i ∧ (m + π 14 i) % π 12 i < 60 := by
  have h1 := hw.2.2.2.2.2.2.1 i h
  have h2 := Int.emod_nonneg (m + π 14 i) (show π 12 i ≠ 0 by omega)
  have h3 := Int.emod_lt_of_pos (m + π 14 i) (show 0 < π 12 i by omega)
  omega
/-- the plan at p, the chain at c -/
def vP (Z : zV) (p : Nat) : zV := fun i j => if i < 15 then Z (p + i) j else 0
def vC (Z : zV) (c : Nat) : zV := fun i j => if i < 12 then Z (c + i) j else 0
theorem vP_u (Z : zV) {p a j : Nat} {z : Int} (h : a < p ∨ p + 15 ≤ a) : vP (zb_u Z a j z) p = vP Z p := by
  funext x y
  unfold vP
  by_cases hx : x < 15
  · rw [if_pos hx, if_pos hx, zb_u_a Z z (by omega)]
  · rw [if_neg hx, if_neg hx]
theorem vC_u (Z : zV) {c a j : Nat} {z : Int} (h : a < c ∨ c + 12 ≤ a) : vC (zb_u Z a j z) c = vC Z c := by
  funext x y
  unfold vC
  by_cases hx : x < 12
  · rw [if_pos hx, if_pos hx, zb_u_a Z z (by omega)]
  · rw [if_neg hx, if_neg hx]
theorem vC_s (Z : zV) (c k j : Nat) (z : Int) (hk : k < 12) : vC (zb_u Z (c + k) j z) c = zb_u (vC Z c) k j z := by
  funext x y
  unfold vC zb_u
  dsimp only
  by_cases hx : x < 12
  · rw [if_pos hx, if_pos hx]
    by_cases h : x = k ∧ y = j
    · rw [if_pos h, if_pos ⟨by omega, h.2⟩]
    · rw [if_neg h, if_neg (fun q => h ⟨by omega, q.2⟩)]
  · rw [if_neg hx, if_neg (fun q => hx (by omega)), if_neg hx]
theorem vP_s (Z : zV) (p k j : Nat) (z : Int) (hk : k < 15) : vP (zb_u Z (p + k) j z) p = zb_u (vP Z p) k j z := by
  funext x y
  unfold vP zb_u
  dsimp only
  by_cases hx : x < 15
  · rw [if_pos hx, if_pos hx]
    by_cases h : x = k ∧ y = j
    · rw [if_pos h, if_pos ⟨by omega, h.2⟩]
    · rw [if_neg h, if_neg (fun q => h ⟨by omega, q.2⟩)]
  · rw [if_neg hx, if_neg (fun q => hx (by omega)), if_neg hx]
/-- how many of the n from i on -/
def sNum (f : Nat → Bool) : Nat → Nat → Int
  | _, 0 => 0
  | i, n + 1 => bI (f i) + sNum f (i + 1) n
theorem sNum_t {f : Nat → Bool} {i n : Nat} (h : f i = true) : sNum f i (n + 1) = 1 + sNum f (i + 1) n := by show bI (f i) + _ = _; rw [bI_t h]
theorem sNum_f {f : Nat → Bool} {i n : Nat} (h : ¬ f i = true) : sNum f i (n + 1) = sNum f (i + 1) n := by show bI (f i) + _ = _; rw [bI_f h, Int.zero_add]
theorem sNum_0 (f : Nat → Bool) (i : Nat) : sNum f i 0 = 0 := rfl
theorem sNum_bd (f : Nat → Bool) : ∀ n i, 0 ≤ sNum f i n ∧ sNum f i n ≤ n
  | 0, _ => ⟨Int.le_refl _, Int.le_refl _⟩
  | n + 1, i => by
    have h := sNum_bd f n (i + 1)
    have h2 := bI_01 (f i)
    show 0 ≤ bI (f i) + _ ∧ bI (f i) + _ ≤ _
    omega
/-- a sum of the n from i on -/
def sSum (f : Nat → Int) : Nat → Nat → Int
  | _, 0 => 0
  | i, n + 1 => f i + sSum f (i + 1) n
theorem wP_n {π : zV} (h : wP π) : (0 ≤ π 0 0 ∧ π 0 0 ≤ 8) ∧ (0 ≤ π 0 1 ∧ π 0 1 ≤ 12) ∧ (0 ≤ π 0 2 ∧ π 0 2 ≤ 8) ∧ (0 ≤ π 0 3 ∧ π 0 3 ≤ 8) := ⟨h.1, h.2.1, h.2.2.1, h.2.2.2.1⟩
theorem wP_k {π : zV} (h : wP π) {k : Nat} (hk : (k : Int) < π 0 0) : (0 ≤ π 1 k ∧ π 1 k ≤ 120) ∧ (0 ≤ π 2 k ∧ π 2 k ≤ 120) ∧ (0 ≤ π 3 k ∧ π 3 k ≤ 4) := h.2.2.2.2.1 k hk
theorem wP_w {π : zV} (h : wP π) {w : Nat} (hk : (w : Int) < π 0 1) : (0 ≤ π 4 w ∧ π 4 w < π 0 0) ∧ (0 ≤ π 5 w ∧ π 5 w < π 0 0) ∧ π 4 w ≠ π 5 w ∧ (1 ≤ π 6 w ∧ π 6 w ≤ 20) := h.2.2.2.2.2.1 w hk
theorem wP_c {π : zV} (h : wP π) {i : Nat} (hk : (i : Int) < π 0 2) : (0 ≤ π 11 i ∧ π 11 i < π 0 1) ∧ (2 ≤ π 12 i ∧ π 12 i ≤ 60) ∧ (1 ≤ π 13 i ∧ π 13 i < π 12 i) ∧ (0 ≤ π 14 i ∧ π 14 i ≤ 59) := h.2.2.2.2.2.2.1 i hk
theorem wP_m {π : zV} (h : wP π) {i : Nat} (hk : (i : Int) < π 0 3) : (1 ≤ π 7 i ∧ π 7 i ≤ 40) ∧ (0 ≤ π 8 i ∧ π 8 i < π 0 0) ∧ (0 ≤ π 9 i ∧ π 9 i < π 0 0) ∧ π 8 i ≠ π 9 i ∧ (0 ≤ π 10 i ∧ π 10 i ≤ 999) := h.2.2.2.2.2.2.2 i hk
/-- a chain as it should be: a message's row -/
def wM (π σ : zV) (N : Int) (k : Nat) : Prop := (0 ≤ σ 2 k ∧ σ 2 k < π 0 0) ∧ (0 ≤ σ 3 k ∧ σ 3 k < π 0 0) ∧ (0 ≤ σ 4 k ∧ σ 4 k ≤ 2) ∧ (0 ≤ σ 5 k ∧ σ 5 k ≤ 40) ∧ (-1 ≤ σ 6 k ∧ σ 6 k ≤ N) ∧ (-1 ≤ σ 7 k ∧ σ 7 k < π 0 1) ∧ (0 ≤ σ 8 k ∧ σ 8 k ≤ N) ∧ (0 ≤ σ 9 k ∧ σ 9 k ≤ N) ∧
  (σ 4 k = 1 → 0 ≤ σ 7 k ∧ 1 ≤ σ 5 k ∧ (π 4 (σ 7 k).toNat = σ 2 k ∨ π 5 (σ 7 k).toNat = σ 2 k)) ∧ (σ 4 k ≠ 1 → σ 7 k = -1)
def wC (π σ : zV) (N : Int) : Prop := ((0 ≤ σ 0 1 ∧ σ 0 1 ≤ N) ∧ (-1 ≤ σ 0 2 ∧ σ 0 2 < 12) ∧ (0 ≤ σ 0 13 ∧ σ 0 13 ≤ N) ∧ N ≤ 90000) ∧ (∀ k : Nat, (k : Int) < π 0 0 → 0 ≤ σ 1 k ∧ σ 1 k ≤ 5) ∧ (∀ k : Nat, (k : Int) < π 0 3 → wM π σ N k) ∧ (∀ w : Nat, (w : Int) < π 0 1 → 0 ≤ σ 10 w ∧ σ 10 w ≤ N)
theorem wC_n {π σ : zV} {N : Int} (h : wC π σ N) : (0 ≤ σ 0 1 ∧ σ 0 1 ≤ N) ∧ (-1 ≤ σ 0 2 ∧ σ 0 2 < 12) ∧ (0 ≤ σ 0 13 ∧ σ 0 13 ≤ N) ∧ N ≤ 90000 := h.1
theorem wC_k {π σ : zV} {N : Int} (h : wC π σ N) {k : Nat} (hk : (k : Int) < π 0 0) : 0 ≤ σ 1 k ∧ σ 1 k ≤ 5 := h.2.1 k hk
theorem wC_m {π σ : zV} {N : Int} (h : wC π σ N) {k : Nat} (hk : (k : Int) < π 0 3) : wM π σ N k := h.2.2.1 k hk
theorem wC_w {π σ : zV} {N : Int} (h : wC π σ N) {w : Nat} (hk : (w : Int) < π 0 1) : 0 ≤ σ 10 w ∧ σ 10 w ≤ N := h.2.2.2 w hk
def sAt (σ : zV) (x y : Int) (i : Nat) : Bool := decide (σ 2 i = x ∧ σ 4 i = y)
def sIn (σ : zV) (y : Int) (i : Nat) : Bool := decide (σ 4 i = y)
def sEnd (π : zV) (x : Int) (w : Nat) : Bool := decide (π 4 w = x ∨ π 5 w = x)
def sPass (π σ : zV) (w : Nat) (m : Int) : Bool := decide ((w : Int) ≠ σ 0 2) && sOpen π w m
def sAcross (π : zV) (w : Nat) (x : Int) : Int := if π 4 w = x then π 5 w else π 4 w
/-- the first of the n from i on, or -1 -/
def sFind (f : Nat → Bool) : Nat → Nat → Int
  | _, 0 => -1
  | i, n + 1 => if f i = true then (i : Int) else sFind f (i + 1) n
def sFree (π σ : zV) (x : Int) : Int := σ 1 x.toNat - sNum (sAt σ x 1) 0 (π 0 3).toNat
def sPk (π σ : zV) (x y : Int) : Int := if y = 0 then π 1 x.toNat else if y = 1 then π 2 x.toNat else if y = 2 then σ 1 x.toNat else if y = 3 then sFree π σ x else if y = 4 then sNum (sAt σ x 0) 0 (π 0 3).toNat else if y = 5 then sNum (sEnd π x) 0 (π 0 1).toNat else sNum (fun w => sEnd π x w && sPass π σ w (σ 0 1)) 0 (π 0 1).toNat
def sPs (π σ : zV) (x y : Int) : Int := if y = 0 then π 4 x.toNat else if y = 1 then π 5 x.toNat else if y = 2 then π 6 x.toNat else if y = 3 then sNum (fun i => decide (π 11 i = x)) 0 (π 0 2).toNat else if y = 4 then sFind (fun m => decide (σ 7 m = x)) 0 (π 0 3).toNat else σ 10 x.toNat
def sMs (π σ : zV) (x y : Int) : Int := if y = 0 then π 7 x.toNat else if y = 1 then σ 2 x.toNat else if y = 2 then σ 3 x.toNat else if y = 3 then σ 4 x.toNat else if y = 4 then σ 7 x.toNat else if y = 5 then σ 5 x.toNat else if y = 6 then σ 8 x.toNat else if y = 7 then σ 6 x.toNat else σ 9 x.toNat
def sTally (π σ : zV) (y : Int) : Int := if y = 8 then sNum (sIn σ 0) 0 (π 0 3).toNat else if y = 9 then sNum (sIn σ 1) 0 (π 0 3).toNat else if y = 10 then sNum (sIn σ 2) 0 (π 0 3).toNat else if y = 11 then sSum (σ 8) 0 (π 0 3).toNat else σ 0 13
def sWait (π σ : zV) (k : Nat) : zV := zb_u (zb_u (zb_u σ 4 k 0) 7 k (-1)) 5 k (π 7 k)
def sBreak (π σ : zV) (k : Nat) : zV := sWait π (zb_u σ 8 k (σ 8 k + 1)) k
def sArr (π σ : zV) (k : Nat) (x : Int) : zV := if x = σ 3 k then zb_u (zb_u (zb_u (sWait π (zb_u (zb_u σ 2 k x) 9 k (σ 9 k + 1)) k) 4 k 2) 5 k 0) 6 k (σ 0 1) else sWait π (zb_u (zb_u σ 2 k x) 9 k (σ 9 k + 1)) k
def sFlash (π σ : zV) (k : Nat) : zV := if σ 4 k = 1 then (if σ 11 (σ 7 k).toNat ≠ 0 then (if 7 ≤ π 6 (σ 7 k).toNat ∧ (σ 0 1 + σ 5 k) % 5 = 0 then zb_u (zb_u σ 10 (σ 7 k).toNat (σ 10 (σ 7 k).toNat + 1)) 0 13 (σ 0 13 + 1)
  else if σ 5 k = 1 then sArr π (zb_u (zb_u σ 10 (σ 7 k).toNat (σ 10 (σ 7 k).toNat + 1)) 5 k (σ 5 k - 1)) k (sAcross π (σ 7 k).toNat (σ 2 k)) else zb_u (zb_u σ 10 (σ 7 k).toNat (σ 10 (σ 7 k).toNat + 1)) 5 k (σ 5 k - 1)) else sBreak π σ k) else σ
theorem sFind_0 (f : Nat → Bool) (i : Nat) : sFind f i 0 = -1 := rfl
theorem sFind_t {f : Nat → Bool} {i n : Nat} (h : f i = true) : sFind f i (n + 1) = i := if_pos h
theorem sFind_f {f : Nat → Bool} {i n : Nat} (h : ¬ f i = true) : sFind f i (n + 1) = sFind f (i + 1) n := if_neg h
theorem sSum_0 (f : Nat → Int) (i : Nat) : sSum f i 0 = 0 := rfl
theorem sSum_1 (f : Nat → Int) (i n : Nat) : sSum f i (n + 1) = f i + sSum f (i + 1) n := rfl
theorem bI_1 {b : Bool} (h : bI b ≠ 0) : b = true := by cases b with
  | true => rfl
  | false => exact absurd rfl h
theorem bI_0 {b : Bool} (h : bI b = 0) : ¬ b = true := by cases b with
  | true => exact absurd h (by decide)
  | false => exact Bool.false_ne_true


/-! THE OBJECT IS TAUGHT A LIST -/
section
variable {l : Launch} {Γ : zk_G} {d : Nat} {Z : Nat → Nat → Int} {F : Heap → Prop}
/-- operations one after the other -/
def evL (π σ : zV) : List (Int × Int) → List Int → List Int → Prop
  | [], s, s2 => s = s2
  | e :: es, s, s2 => s.length ≤ 300 ∧ ∃ s1, sStep π σ e.1 e.2 s s1 ∧ evL π σ es s1 s2
theorem evL_sEv {Z π σ : zV} {p : Nat} : ∀ {es : List (Int × Int)} {n : Nat} {s s2 : List Int}, hEm Z p n es → evL π σ es s s2 → sEv π σ (Z (p + 18)) (Z (p + 19)) n es.length s s2
  | [], _, _, _, _, h => h
  | e :: es, n, s, s2, g, ⟨h1, s1, h2, h3⟩ => ⟨h1, s1, by rw [g.1, g.2.1]; exact h2, evL_sEv g.2.2 h3⟩
theorem hHd_get {Z : zV} {p : Nat} : ∀ {hs : zHs} {j0 s0 : Nat}, hHd Z p j0 s0 hs → ∀ j, j < hs.length → Z (p + 16) (j0 + j) = ((hs.getD j (0, [])).1 : Int) ∧ Z (p + 17) (j0 + j) = ((s0 + hsLen (hs.take (j + 1)) : Nat) : Int) ∧ hEm Z p (s0 + hsLen (hs.take j)) (hs.getD j (0, [])).2 ∧ hsLen (hs.take (j + 1)) = hsLen (hs.take j) + (hs.getD j (0, [])).2.length
  | [], _, _, _, j, hj => absurd hj (Nat.not_lt_zero j)
  | x :: hs, j0, s0, h, 0, _ => ⟨h.1, by rw [show (x :: hs).take (0 + 1) = [x] from rfl]; show Z (p + 17) j0 = ((s0 + (x.2.length + 0) : Nat) : Int); exact h.2.1, h.2.2.1, by show hsLen [x] = 0 + x.2.length; show x.2.length + 0 = 0 + x.2.length; omega⟩
  | x :: hs, j0, s0, h, j + 1, hj => by
    have q := hHd_get h.2.2.2 j (by have : (x :: hs).length = hs.length + 1 := rfl; omega)
    have e1 : hsLen ((x :: hs).take (j + 1 + 1)) = x.2.length + hsLen (hs.take (j + 1)) := rfl
    have e2 : hsLen ((x :: hs).take (j + 1)) = x.2.length + hsLen (hs.take j) := rfl
    have e3 : (x :: hs).getD (j + 1) (0, []) = hs.getD j (0, []) := rfl
    rw [e1, e2, e3, show j0 + (j + 1) = j0 + 1 + j from by omega]
    exact ⟨q.1, q.2.1.trans (by omega), by rw [show s0 + (x.2.length + hsLen (hs.take j)) = s0 + x.2.length + hsLen (hs.take j) from by omega]; exact q.2.2.1, by omega⟩
theorem hsLen_take : ∀ (hs : zHs) (j : Nat), hsLen (hs.take j) ≤ hsLen hs
  | [], j => by rw [List.take_nil]; exact Nat.le_refl _
  | x :: hs, 0 => Nat.zero_le _
  | x :: hs, j + 1 => by
    have := hsLen_take hs j
    show x.2.length + hsLen (hs.take j) ≤ x.2.length + hsLen hs
    omega
theorem any_get {α : Type} (g : α → Bool) (f : Nat → Bool) (df : α) : ∀ (xs : List α) (i : Nat), (∀ j, j < xs.length → f (i + j) = g (xs.getD j df)) → (List.range' i xs.length).any f = xs.any g
  | [], _, _ => rfl
  | x :: xs, i, h => by
    show (List.range' i (xs.length + 1)).any f = _
    rw [List.range'_succ, List.any_cons, List.any_cons, any_get g f df xs (i + 1) (fun j hj => by rw [show i + 1 + j = i + (j + 1) from by omega]; exact h (j + 1) (by show j + 1 < xs.length + 1; omega))]
    have q := h 0 (Nat.zero_lt_succ _)
    rw [Nat.add_zero] at q
    rw [q]
    rfl
/-- the plan agrees with what was told -/
def agP (π D : zV) (np nw nc nm : Nat) : Prop := (π 0 0 = (np : Int) ∧ π 0 1 = (nw : Int) ∧ π 0 2 = (nc : Int) ∧ π 0 3 = (nm : Int)) ∧ (∀ k : Nat, k < np → π 1 k = D 1 k ∧ π 2 k = D 2 k ∧ π 3 k = D 3 k) ∧ (∀ w : Nat, w < nw → π 4 w = D 4 w ∧ π 5 w = D 5 w ∧ π 6 w = D 6 w) ∧ (∀ c : Nat, c < nc → π 11 c = D 11 c ∧ π 12 c = D 12 c ∧ π 13 c = D 13 c ∧ π 14 c = D 14 c) ∧ (∀ m : Nat, m < nm → π 7 m = D 7 m ∧ π 8 m = D 8 m ∧ π 9 m = D 9 m ∧ π 10 m = D 10 m)
/-- a chain that begins -/
def sIni (π σ : zV) : Prop := (σ 0 1 = 0 ∧ σ 0 2 = -1 ∧ σ 0 13 = 0) ∧ (∀ k : Nat, σ 1 k = π 3 k ∧ σ 2 k = π 8 k ∧ σ 3 k = π 9 k ∧ σ 4 k = 0 ∧ σ 5 k = π 7 k ∧ σ 6 k = -1 ∧ σ 7 k = -1 ∧ σ 8 k = 0 ∧ σ 9 k = 0) ∧ ∀ w : Nat, σ 10 w = 0
/-- what a test comes to -/
def smO (nm : Nat) (es : List (Int × Int)) (f : zV → Int) : Prop := ∀ (π σ : zV) (N : Int), π 0 3 = (nm : Int) → wP π → wC π σ N → evL π σ es [] [f σ] ∧ -2147483648 ≤ f σ ∧ f σ < 2147483648
def hsH (f : Nat × List (Int × Int) → zV → Int) (hs : zHs) : zV → Nat → Bool := fun σ k => hs.any (fun x => decide ((x.1 : Int) = (k : Int) ∧ f x σ ≠ 0))
theorem rdA_hOr {Z : zV} {p i np nw nc nm : Nat} {ts : List (Nat × Int)} {D : zV} {hs : zHs} {f : Nat × List (Int × Int) → zV → Int} (hp : p = 368 ∨ p = 400) (A : rdA Z p i ts D np nw nc nm hs) (hw : wP (vP Z p)) (hm : ∀ x, x ∈ hs → x.1 < 8) (hl : hsLen hs ≤ 400) (hf : ∀ x, x ∈ hs → smO nm x.2 (f x)) : hOr Z p (hsH f hs) := by
  have hA := A.2.2.2.1
  have hH := A.2.2.2.2.1
  have gm : ∀ j, j < hs.length → hs.getD j (0, []) ∈ hs := fun j hj => by
    rw [List.getD_eq_getElem?_getD, List.getElem?_eq_getElem hj]
    exact List.getElem_mem hj
  refine ⟨hs.length, fun j => hsLen (hs.take j), hA.1, hA.2, rfl, fun j hj => ?_, fun σ N hc => ?_⟩
  · have q := hHd_get hH j hj
    rw [Nat.zero_add, Nat.zero_add, Nat.zero_add] at q
    have q2 := hsLen_take hs (j + 1)
    have q3 := hm _ (gm j hj)
    rw [q.1]
    dsimp only
    exact ⟨q.2.1, by omega, by omega, by omega, by omega⟩
  · refine ⟨fun j => f (hs.getD j (0, [])) σ, fun j hj => ?_, fun k => ?_⟩
    · have q := hHd_get hH j hj
      rw [Nat.zero_add, Nat.zero_add, Nat.zero_add] at q
      have e := hf _ (gm j hj) (vP Z p) σ N (A.2.1.1.2.2) hw hc
      refine ⟨?_, e.2⟩
      rw [show hsLen (hs.take (j + 1)) - hsLen (hs.take j) = (hs.getD j (0, [])).2.length from by omega]
      exact evL_sEv q.2.2.1 e.1
    · exact (any_get _ _ (0, []) hs 0 (fun j hj => by
        have q := hHd_get hH j hj
        rw [q.1]
        dsimp only
        rw [Nat.zero_add])).symm
theorem rdA_wP {Z : zV} {p i np nw nc nm : Nat} {ts : List (Nat × Int)} {D : zV} {hs : zHs} (A : rdA Z p i ts D np nw nc nm hs) (w : wD D np nw nc nm) : wP (vP Z p) ∧ agP (vP Z p) D np nw nc nm := by
  obtain ⟨h1, ⟨⟨n0, n1, n3⟩, -⟩, ⟨n2, -⟩, -, -, ⟨a1, a2, a3⟩, ⟨b1, b2, b3⟩, ⟨c1, c2, c3, c4⟩, ⟨d1, d2, d3, d4⟩⟩ := A
  obtain ⟨⟨m1, m2, m3, m4⟩, w5, w6, w7, w8⟩ := w
  have e0 : vP Z p 0 0 = (np : Int) := n0
  have e1 : vP Z p 0 1 = (nw : Int) := n1
  have e2 : vP Z p 0 2 = (nc : Int) := n2
  have e3 : vP Z p 0 3 = (nm : Int) := n3
  have r1 : ∀ k, k < np → vP Z p 1 k = D 1 k := a1
  have r2 : ∀ k, k < np → vP Z p 2 k = D 2 k := a2
  have r3 : ∀ k, k < np → vP Z p 3 k = D 3 k := a3
  have r4 : ∀ k, k < nw → vP Z p 4 k = D 4 k := b1
  have r5 : ∀ k, k < nw → vP Z p 5 k = D 5 k := b2
  have r6 : ∀ k, k < nw → vP Z p 6 k = D 6 k := b3
  have r11 : ∀ k, k < nc → vP Z p 11 k = D 11 k := c1
  have r12 : ∀ k, k < nc → vP Z p 12 k = D 12 k := c2
  have r13 : ∀ k, k < nc → vP Z p 13 k = D 13 k := c3
  have r14 : ∀ k, k < nc → vP Z p 14 k = D 14 k := c4
  have r7 : ∀ k, k < nm → vP Z p 7 k = D 7 k := d1
  have r8 : ∀ k, k < nm → vP Z p 8 k = D 8 k := d2
  have r9 : ∀ k, k < nm → vP Z p 9 k = D 9 k := d3
  have r10 : ∀ k, k < nm → vP Z p 10 k = D 10 k := d4
  refine ⟨⟨by omega, by omega, by omega, by omega, fun k hk => ?_, fun k hk => ?_, fun k hk => ?_, fun k hk => ?_⟩, ⟨e0, e1, e2, e3⟩, fun k hk => ⟨r1 k hk, r2 k hk, r3 k hk⟩, fun k hk => ⟨r4 k hk, r5 k hk, r6 k hk⟩, fun k hk => ⟨r11 k hk, r12 k hk, r13 k hk, r14 k hk⟩, fun k hk => ⟨r7 k hk, r8 k hk, r9 k hk, r10 k hk⟩⟩
  · have q := w5 k (Nat.zero_le _) (by omega)
    rw [r1 k (by omega), r2 k (by omega), r3 k (by omega)]
    exact q.2
  · have q := w6 k (Nat.zero_le _) (by omega)
    rw [r4 k (by omega), r5 k (by omega), r6 k (by omega), e0]
    omega
  · have q := w7 k (Nat.zero_le _) (by omega)
    rw [r11 k (by omega), r12 k (by omega), r13 k (by omega), r14 k (by omega), e1]
    omega
  · have q := w8 k (Nat.zero_le _) (by omega)
    rw [r7 k (by omega), r8 k (by omega), r9 k (by omega), r10 k (by omega), e0]
    omega
theorem St_begin {Z Z9 : zV} {i np nw nc nm : Nat} {ts : List (Nat × Int)} {D : zV} {hs : zHs} {f : Nat × List (Int × Int) → zV → Int} {y : Int} (A : rdA Z 400 i ts D np nw nc nm hs) (w : wD D np nw nc nm) (hm : ∀ x, x ∈ hs → x.1 < 8) (hl : hsLen hs ≤ 400) (hf : ∀ x, x ∈ hs → smO nm x.2 (f x)) (h1 : Z 336 1 = 0) (e9 : Z9 = zb_u (zBg (zb_u (zb_u Z 320 6 y) 321 1 0) 400) 320 5 368) :
    St Z9 400 (hsH f hs) (vP Z9 400) (nC Z9) 0 (hs.length : Int) 0 ∧ agP (vP Z9 400) D np nw nc nm ∧ sIni (vP Z9 400) (nC Z9) := by
  have o : ∀ a j, 347 ≤ a → Z9 a j = Z a j := fun a j q => by
    rw [e9, zb_u_a _ _ (by omega)]
    unfold zBg zMr
    rw [if_neg (by omega), if_neg (by omega), if_neg (by omega), if_neg (by omega), if_neg (by omega), if_neg (by omega), if_neg (by omega), if_neg (by omega), if_neg (by omega), if_neg (by omega), if_neg (by omega), zb_u_a _ _ (by omega), zb_u_a _ _ (by omega)]
  have ev : vP Z9 400 = vP Z 400 := by
    funext a j
    show (if a < 15 then Z9 (400 + a) j else 0) = (if a < 15 then Z (400 + a) j else 0)
    rw [o _ _ (by omega)]
  obtain ⟨hw, hg⟩ := rdA_wP A w
  have hO := rdA_hOr (Or.inr rfl) A hw hm hl hf
  have hini : sIni (vP Z9 400) (nC Z9) := by
    subst e9
    exact ⟨⟨h1, rfl, rfl⟩, fun k => ⟨rfl, rfl, rfl, rfl, rfl, rfl, rfl, rfl, rfl⟩, fun k => rfl⟩
  have hw9 : wP (vP Z9 400) := by rw [ev]; exact hw
  refine ⟨⟨Or.inr rfl, by rw [e9]; rfl, rfl, rfl, hw9, ?_, ?_, by rw [e9]; rfl, (o _ _ (by omega)).trans A.2.2.2.1.1, by decide, fun k hk => ?_⟩, by rw [ev]; exact hg, hini⟩
  · obtain ⟨i1, i2, i3⟩ := hini
    generalize nC Z9 = σ at i1 i2 i3
    generalize vP Z9 400 = π at hw9 i2
    refine ⟨⟨by omega, by omega, by omega, by decide⟩, fun k hk => ?_, fun k hk => ?_, fun k hk => by rw [i3]; decide⟩
    · have q := wP_k hw9 hk
      have := i2 k
      omega
    · have q := wP_m hw9 hk
      have q2 := wP_n hw9
      have q2 := wP_n hw9
      have := i2 k
      unfold wM
      omega
  · obtain ⟨n, st, q1, q2, q3, q4, q5⟩ := hO
    refine ⟨n, st, (o _ _ (by omega)).trans q1, q2, q3, fun j hj => ?_, fun σ N hc => ?_⟩
    · rw [o _ _ (by omega), o _ _ (by omega)]; exact q4 j hj
    · rw [ev] at hc
      obtain ⟨T, t1, t2⟩ := q5 σ N hc
      have e8 : Z9 (400 + 18) = Z (400 + 18) := funext fun j => o _ _ (by omega)
      have e7 : Z9 (400 + 19) = Z (400 + 19) := funext fun j => o _ _ (by omega)
      have e6 : Z9 (400 + 16) = Z (400 + 16) := funext fun j => o _ _ (by omega)
      exact ⟨T, fun j hj => by rw [e8, e7, ev]; exact t1 j hj, fun k => by rw [e6]; exact t2 k⟩
  · have q := wP_k hw9 hk
    have := hini.2.1 k
    omega
theorem zh_teach {np nw nc nm : Nat} {D : zV} {HS : zHT} {xs : zLx} {tb : List Int} {f : Nat × List (Int × Int) → zV → Int} (h : hTp Z 0 (lxB xs tb)) (hok : lxOk xs tb) (hxs : xs.length < 400) (hxt : lxT xs ++ [(46, 0)] = alT D np nw nc nm HS) (hk48 : ∀ x, x ∈ alT D np nw nc nm HS → x.1 < 48)
    (w : wD D np nw nc nm) (hm : HS.length ≤ 12) (hl : hsLen (hoH HS) < 400) (hy : ∀ x, x ∈ HS → x.1 < nm ∧ zRd l Γ F 400 np nw nm (d - 1 - 1 - 1) mX4_readTest 0 [7, 26, 35, 36, 37, 38] x.2.1 x.2.2) (hf : ∀ x, x ∈ hoH HS → x.1 < 8 ∧ smO nm x.2 (f x))
    (g0 : Z 336 0 = 368) (g5 : Z 320 5 = 400) (g1 : Z 336 1 = 0) (hD : ∀ a j, (a < 323 ∨ (331 ≤ a ∧ a < 368)) → Z a j = D (a + 1000) j) (hd : 9 ≤ d) :
    zk_DoesR l Γ mX7_teach d [.ref 320] Z F (some (.int (iZ 0))) (fun Z' => St Z' 400 (hsH f (hoH HS)) (vP Z' 400) (nC Z') 0 (HS.length : Int) 0 ∧ agP (vP Z' 400) D np nw nc nm ∧ sIni (vP Z' 400) (nC Z')) := by
  intro Q hq
  have hlen : (alT D np nw nc nm HS).length = xs.length + 1 := by rw [← hxt, List.length_append]; show (xs.map _).length + 1 = _; rw [List.length_map]
  have hrd : ∀ Z1 : zV, ((∀ a j, (a < 323 ∨ 326 < a) → Z1 a j = Z a j) ∧ Z1 323 4 = 0 ∧ Z1 323 3 = ((xs.length + 1 : Nat) : Int) ∧ hTk Z1 0 (lxT xs ++ [(46, 0)])) → zk_DoesR l Γ mX4_read (d - 1) [.ref 327, .ref 400] Z1 F (some (.int (iZ 0))) (fun Z' => ∃ i, rdA Z' 400 i [(46, 0)] D np nw nc nm (hoH HS)) ∧ Value.ref (Z1 320 5).toNat = .ref 400 := fun Z1 g => by
    refine ⟨zs_read (Or.inr rfl) w hm hl hy g.2.1 (by rw [hlen]; exact g.2.2.1) (by rw [hlen]; omega) (by rw [← hxt]; exact g.2.2.2) hk48 (fun a j q => (g.1 a j (by omega)).trans (hD a j q)) (by omega), ?_⟩
    rw [g.1 320 5 (by omega), g5]
    rfl
  have fr : ∀ Z2 : zV, (∃ i, rdA Z2 400 i [(46, 0)] D np nw nc nm (hoH HS)) → (∀ a j, (a < 323 ∨ (331 ≤ a ∧ a < 368)) → Z2 a j = Z a j) ∧ ∀ Z9 : zV, (∃ y, Z9 = zb_u (zBg (zb_u (zb_u Z2 320 6 y) 321 1 0) 400) 320 5 368) → Q (some (.int (iZ 0))) (zb_M Z9) F := fun Z2 g => by
    obtain ⟨i, A⟩ := g
    have o : ∀ a j, (a < 323 ∨ (331 ≤ a ∧ a < 368)) → Z2 a j = Z a j := fun a j q => (A.2.2.1.2.2 a j q).trans (hD a j q).symm
    refine ⟨o, fun Z9 e => ?_⟩
    obtain ⟨y, e⟩ := e
    have s := St_begin A w (fun x hx => (hf x hx).1) (by omega) (fun x hx => (hf x hx).2) ((o 336 1 (by omega)).trans g1) e
    rw [hoH_len] at s
    exact hq Z9 s
  have g368 : ∀ Z2 : zV, (∃ i, rdA Z2 400 i [(46, 0)] D np nw nc nm (hoH HS)) → Value.ref (Z2 336 0).toNat = .ref 368 ∧ Value.ref (Z2 320 5).toNat = .ref 400 := fun Z2 g => by
    rw [(fr Z2 g).1 336 0 (by omega), (fr Z2 g).1 320 5 (by omega), g0, g5]
    exact ⟨rfl, rfl⟩
  refine gz_aload_n dX7_teach_0 rfl ?_
  refine gz_getf 1 dX7_teach_1 rfl rfl wf_Heliographs_19 (by decide) rfl ?_
  refine gz_aload_n dX7_teach_4 rfl ?_
  refine gz_getf 0 dX7_teach_5 rfl rfl wf_Heliographs_10 (by decide) rfl ?_
  refine gq_1 (J := mX6_scan) (d1 := d - 1) dX7_teach_8 wm_Heliographs_74 rfl jzX6_scan (Nat.le_of_ble_eq_true rfl) (Nat.le_of_ble_eq_true rfl) (by omega) (zs_scan hxs h hok (by omega)) (fun Z8 hZ8 => ?_)
  refine gz_aload_n dX7_teach_11 rfl ?_
  refine gz_getf 2 dX7_teach_12 rfl rfl wf_Heliographs_51 (by decide) rfl ?_
  refine gz_aload_n dX7_teach_15 rfl ?_
  refine gz_getf 5 dX7_teach_16 rfl rfl wf_Heliographs_26 (by decide) (hrd _ hZ8).2 ?_
  refine gq_1 (J := mX4_read) (d1 := d - 1) dX7_teach_19 wm_Heliographs_78 rfl jzX4_read (Nat.le_of_ble_eq_true rfl) (Nat.le_of_ble_eq_true rfl) (by omega) ((hrd _ hZ8).1) (fun Z19 hZ19 => ?_)
  refine gz_istore_n dX7_teach_22 (Nat.le_of_ble_eq_true rfl) rfl ?_
  refine gz_aload_n dX7_teach_23 rfl ?_
  refine gz_aload_n dX7_teach_24 rfl ?_
  refine gz_getf 2 dX7_teach_25 rfl rfl wf_Heliographs_51 (by decide) rfl ?_
  refine gz_getf 6 dX7_teach_28 rfl rfl wf_Heliographs_82 (by decide) rfl ?_
  refine zc_putf 6 dX7_teach_31 rfl rfl wf_Heliographs_30 (by decide) (by decide) jo_Heliographs ju_Heliographs rfl tyX7 tyX7_ok nmX7 rfl (fun _ => ⟨rfl, rfl⟩) rfl ?_
  refine gz_aload_n dX7_teach_34 rfl ?_
  refine gz_getf 0 dX7_teach_35 rfl rfl wf_Heliographs_10 (by decide) rfl ?_
  refine zz_iconst dX7_teach_38 ?_
  refine zc_putf 1 dX7_teach_39 rfl rfl wf_Heliographs_55 (by decide) (by decide) jo_Heliographs_Tape ju_Heliographs_Tape rfl tyX5 tyX5_ok nmX5 rfl (fun _ => ⟨rfl, rfl⟩) rfl ?_
  refine gz_iload_n dX7_teach_42 rfl ?_
  refine zz_if_ne (tgt := 70) dX7_teach_43 rfl (by omega) (fun b43 => ?_) (fun b43 => ?_)
  · exact absurd b43 (by omega)
  refine gz_aload_n dX7_teach_46 rfl ?_
  refine gz_getf 3 dX7_teach_47 rfl rfl wf_Heliographs_39 (by decide) rfl ?_
  refine gz_getf 0 dX7_teach_50 rfl rfl wf_Heliographs_83 (by decide) (g368 _ hZ19).1 ?_
  refine gz_astore_n dX7_teach_53 (Nat.le_of_ble_eq_true rfl) rfl ?_
  refine gz_aload_n dX7_teach_54 rfl ?_
  refine gz_getf 3 dX7_teach_55 rfl rfl wf_Heliographs_39 (by decide) rfl ?_
  refine gz_aload_n dX7_teach_58 rfl ?_
  refine gz_getf 5 dX7_teach_59 rfl rfl wf_Heliographs_26 (by decide) (g368 _ hZ19).2 ?_
  refine gv_1 (J := mX0_begin) (d1 := d - 1) dX7_teach_62 wm_Heliographs_86 rfl jzX0_begin (Nat.le_of_ble_eq_true rfl) (Nat.le_of_ble_eq_true rfl) (by omega) ⟨Nat.le_refl _, Nat.le_refl _⟩ (zs_begin (Or.inr rfl) (by omega)) ?_
  refine gz_aload_n dX7_teach_65 rfl ?_
  refine gz_aload_n dX7_teach_66 rfl ?_
  refine zc_putf (z := 368) 5 dX7_teach_67 rfl rfl wf_Heliographs_26 (by decide) (by decide) jo_Heliographs ju_Heliographs rfl tyX7 tyX7_ok nmX7 rfl (fun _ => ⟨rfl, rfl⟩) rfl ?_
  refine gz_iload_n dX7_teach_70 rfl ?_
  refine gz_ireturn dX7_teach_71 rfl rfl ?_
  exact (fr _ hZ19).2 _ ⟨_, rfl⟩
end

/-! THE READER: the lines of a list -/
section
variable {l : Launch} {Γ : zk_G} {d : Nat} {Z : Nat → Nat → Int} {F : Heap → Prop}
def dR (Z : zV) (p r : Nat) (D : zV) (c : Nat) : Prop := ∀ k : Nat, k < c → Z (p + r) k = D r k
theorem dR_to {Z Z2 : zV} {p r c : Nat} {D : zV} (o : ∀ j, j < c → Z2 (p + r) j = Z (p + r) j) (h : dR Z p r D c) : dR Z2 p r D c := fun k hk => (o k hk).trans (h k hk)
theorem dR_add {Z Z2 : zV} {p r c : Nat} {D : zV} (o : ∀ j, j < c → Z2 (p + r) j = Z (p + r) j) (e : Z2 (p + r) c = D r c) (h : dR Z p r D c) : dR Z2 p r D (c + 1) := fun k hk => by
  by_cases q : k = c
  · rw [q]; exact e
  · exact (o k (by omega)).trans (h k (by omega))
/-- the orders told: a message, the operations of its test -/
abbrev zHs : Type := List (Nat × List (Int × Int))
def hsLen : zHs → Nat
  | [] => 0
  | x :: hs => x.2.length + hsLen hs
def hHd (Z : zV) (p : Nat) : Nat → Nat → zHs → Prop
  | _, _, [] => True
  | j, s, x :: hs => Z (p + 16) j = (x.1 : Int) ∧ Z (p + 17) j = ((s + x.2.length : Nat) : Int) ∧ hEm Z p s x.2 ∧ hHd Z p (j + 1) (s + x.2.length) hs
theorem hHd_to {Z Z2 : zV} {p : Nat} : ∀ {hs : zHs} {j s m n : Nat}, (∀ a i, a = p + 16 ∨ a = p + 17 → i < m → Z2 a i = Z a i) → (∀ a i, a = p + 18 ∨ a = p + 19 → i < n → Z2 a i = Z a i) → j + hs.length ≤ m → s + hsLen hs ≤ n → hHd Z p j s hs → hHd Z2 p j s hs
  | [], _, _, _, _, _, _, _, _, _ => trivial
  | x :: hs, j, s, m, n, o1, o2, h1, h2, h => by
    have e : (x :: hs).length = hs.length + 1 := rfl
    have e2 : hsLen (x :: hs) = x.2.length + hsLen hs := rfl
    exact ⟨(o1 _ j (Or.inl rfl) (by omega)).trans h.1, (o1 _ j (Or.inr rfl) (by omega)).trans h.2.1, hEm_to o2 (by omega) h.2.2.1, hHd_to o1 o2 (by omega) (by omega) h.2.2.2⟩
theorem hHd_app {Z : zV} {p : Nat} : ∀ {hs fs : zHs} {j s : Nat}, hHd Z p j s hs → hHd Z p (j + hs.length) (s + hsLen hs) fs → hHd Z p j s (hs ++ fs)
  | [], _, _, _, _, g => g
  | x :: hs, fs, j, s, h, g => ⟨h.1, h.2.1, h.2.2.1, hHd_app h.2.2.2 (by rw [show j + 1 + hs.length = j + (hs.length + 1) from by omega, show s + x.2.length + hsLen hs = s + (x.2.length + hsLen hs) from by omega]; exact g)⟩
theorem hsLen_app : ∀ (hs fs : zHs), hsLen (hs ++ fs) = hsLen hs + hsLen fs
  | [], fs => (Nat.zero_add _).symm
  | x :: hs, fs => by show x.2.length + hsLen (hs ++ fs) = x.2.length + hsLen hs + hsLen fs; rw [hsLen_app hs fs]; omega
/-- the reader between two lines: so many things of the plan D told, these orders -/
def rdA (Z : zV) (p i : Nat) (ts : List (Nat × Int)) (D : zV) (np nw nc nm : Nat) (hs : zHs) : Prop :=
  rdS Z p i (hsLen hs) ts ∧ rdN Z p np nw nm ∧ (Z p 2 = (nc : Int) ∧ nc ≤ 8 ∧ ∀ a j, (a < 323 ∨ (331 ≤ a ∧ a < 368)) → Z a j = D (a + 1000) j) ∧ (Z (p + 15) 0 = (hs.length : Int) ∧ hs.length ≤ 12) ∧ hHd Z p 0 0 hs ∧
  (dR Z p 1 D np ∧ dR Z p 2 D np ∧ dR Z p 3 D np) ∧ (dR Z p 4 D nw ∧ dR Z p 5 D nw ∧ dR Z p 6 D nw) ∧ (dR Z p 11 D nc ∧ dR Z p 12 D nc ∧ dR Z p 13 D nc ∧ dR Z p 14 D nc) ∧ (dR Z p 7 D nm ∧ dR Z p 8 D nm ∧ dR Z p 9 D nm ∧ dR Z p 10 D nm)
theorem rdS_to {Z Z2 : zV} {p i n : Nat} {ts : List (Nat × Int)} (o : ∀ a j, (323 ≤ a ∧ a ≤ 327) ∨ (a = p + 15 ∧ j = 5) → Z2 a j = Z a j) (h : rdS Z p i n ts) : rdS Z2 p i n ts := by
  obtain ⟨h1, h2, h3, h4, h5, h6, h7, h8, h9⟩ := h
  exact ⟨(o _ _ (by omega)).trans h1, (o _ _ (by omega)).trans h2, h3, hTk_to (fun a j q1 q2 => o a j (by omega)) h4, h5, (o _ _ (by omega)).trans h6, (o _ _ (by omega)).trans h7, (o _ _ (by omega)).trans h8, h9⟩
theorem rdA_adv {Z : zV} {p i np nw nc nm : Nat} {x : Nat × Int} {ts : List (Nat × Int)} {D : zV} {hs : zHs} (hp : p = 368 ∨ p = 400) (h : rdA Z p i (x :: ts) D np nw nc nm hs) : rdA (zb_u Z 323 4 ((i : Int) + 1)) p (i + 1) ts D np nw nc nm hs := by
  obtain ⟨h1, h2, h3, h4, h5, ⟨a1, a2, a3⟩, ⟨b1, b2, b3⟩, ⟨c1, c2, c3, c4⟩, ⟨d1, d2, d3, d4⟩⟩ := h
  have o : ∀ a j, 328 ≤ a → zb_u Z 323 4 ((i : Int) + 1) a j = Z a j := fun a j q => zb_u_a _ _ (by omega)
  have r : ∀ {r c : Nat}, dR Z p r D c → dR (zb_u Z 323 4 ((i : Int) + 1)) p r D c := fun h => dR_to (fun j _ => o _ _ (by omega)) h
  exact ⟨rdS_adv hp h1, rdN_T hp h2 (rdT_adv hp (rdT_refl h1)), ⟨(o _ _ (by omega)).trans h3.1, h3.2.1, fun a j q => (zb_u_a _ _ (by omega)).trans (h3.2.2 a j q)⟩, ⟨(o _ _ (by omega)).trans h4.1, h4.2⟩, hHd_to (m := hs.length) (n := hsLen hs) (fun a i q _ => o _ _ (by omega)) (fun a i q _ => o _ _ (by omega)) (by omega) (by omega) h5, ⟨r a1, r a2, r a3⟩, ⟨r b1, r b2, r b3⟩, ⟨r c1, r c2, r c3, r c4⟩, ⟨r d1, r d2, r d3, r d4⟩⟩
theorem zs_addPeak {p c : Nat} {x y z : Int} (hp : p = 368 ∨ p = 400) (hc : c < 8) (h0 : Z p 0 = (c : Int)) : zk_Does l Γ mX3_addPeak d 0 0 [.ref p, .int (iZ x), .int (iZ y), .int (iZ z)] (zb_M Z) F none (zb_M (zb_u (zb_u (zb_u (zb_u Z (p + 1) c x) (p + 2) c y) (p + 3) c z) p 0 ((c : Int) + 1))) F := by
  intro Q hq
  rcases hp with rfl | rfl <;> (
    refine gz_aload_n dX3_addPeak_0 rfl ?_
    refine gz_getf 0 dX3_addPeak_1 rfl rfl wf_Heliographs_Plan_61 (by decide) (zv_i h0) ?_
    refine zz_bipush (x := 8) dX3_addPeak_4 rfl ?_
    refine zz_icmp_ge (tgt := 49) dX3_addPeak_6 rfl (by omega) (fun b6 => ?_) (fun b6 => ?_)
    · exact absurd b6 (by omega)
    refine gz_aload_n dX3_addPeak_9 rfl ?_
    refine gz_getf 4 dX3_addPeak_10 rfl rfl wf_Heliographs_Plan_9 (by decide) rfl ?_
    refine gz_aload_n dX3_addPeak_13 rfl ?_
    refine gz_getf 0 dX3_addPeak_14 rfl rfl wf_Heliographs_Plan_61 (by decide) (zv_i h0) ?_
    refine gz_iload_n dX3_addPeak_17 rfl ?_
    refine zc_iast (n := c) dX3_addPeak_18 rfl (by decide) rfl (by omega) rfl ?_
    refine gz_aload_n dX3_addPeak_19 rfl ?_
    refine gz_getf 5 dX3_addPeak_20 rfl rfl wf_Heliographs_Plan_15 (by decide) rfl ?_
    refine gz_aload_n dX3_addPeak_23 rfl ?_
    refine gz_getf 0 dX3_addPeak_24 rfl rfl wf_Heliographs_Plan_61 (by decide) (zv_i ((zb_u_a _ _ (by decide)).trans h0)) ?_
    refine gz_iload_n dX3_addPeak_27 rfl ?_
    refine zc_iast (n := c) dX3_addPeak_28 rfl (by decide) rfl (by omega) rfl ?_
    refine gz_aload_n dX3_addPeak_29 rfl ?_
    refine gz_getf 6 dX3_addPeak_30 rfl rfl wf_Heliographs_Plan_18 (by decide) rfl ?_
    refine gz_aload_n dX3_addPeak_33 rfl ?_
    refine gz_getf 0 dX3_addPeak_34 rfl rfl wf_Heliographs_Plan_61 (by decide) (zv_i ((zb_u_a _ _ (by decide)).trans ((zb_u_a _ _ (by decide)).trans h0))) ?_
    refine gz_iload_n dX3_addPeak_37 rfl ?_
    refine zc_iast (n := c) dX3_addPeak_38 rfl (by decide) rfl (by omega) rfl ?_
    refine gz_aload_n dX3_addPeak_39 rfl ?_
    refine gz_dup dX3_addPeak_40 rfl ?_
    refine gz_getf 0 dX3_addPeak_41 rfl rfl wf_Heliographs_Plan_61 (by decide) (zv_i ((zb_u_a _ _ (by decide)).trans ((zb_u_a _ _ (by decide)).trans ((zb_u_a _ _ (by decide)).trans h0)))) ?_
    refine zz_iconst dX3_addPeak_44 ?_
    refine zz_iadd dX3_addPeak_45 ?_
    refine zc_putf 0 dX3_addPeak_46 rfl rfl wf_Heliographs_Plan_61 (by decide) (by decide) jo_Heliographs_Plan ju_Heliographs_Plan rfl tyX3 tyX3_ok nmX3 rfl (fun _ => ⟨rfl, rfl⟩) rfl ?_
    refine gz_return_ dX3_addPeak_49 rfl ?_
    exact hq
  )
theorem zs_addPass {p c np x y : Nat} {z : Int} (hp : p = 368 ∨ p = 400) (hc : c < 12) (h0 : Z p 1 = (c : Int)) (hnp : Z p 0 = (np : Int)) (hn8 : np ≤ 8) (hx : x < np) (hy : y < np) (hd : 1 ≤ d) : zk_Does l Γ mX3_addPass d 0 0 [.ref p, .int (iZ (x : Int)), .int (iZ (y : Int)), .int (iZ z)] (zb_M Z) F none (zb_M (zb_u (zb_u (zb_u (zb_u Z (p + 4) c (x : Int)) (p + 5) c (y : Int)) (p + 6) c z) p 1 ((c : Int) + 1))) F := by
  intro Q hq
  have hp2 := hp
  rcases hp with rfl | rfl <;> (
    refine gz_aload_n dX3_addPass_0 rfl ?_
    refine gz_getf 1 dX3_addPass_1 rfl rfl wf_Heliographs_Plan_65 (by decide) (zv_i h0) ?_
    refine zz_bipush (x := 12) dX3_addPass_4 rfl ?_
    refine zz_icmp_ge (tgt := 65) dX3_addPass_6 rfl (by omega) (fun b6 => ?_) (fun b6 => ?_)
    · exact absurd b6 (by omega)
    refine gz_aload_n dX3_addPass_9 rfl ?_
    refine gz_iload_n dX3_addPass_10 rfl ?_
    refine gv_1 (J := mX3_hasPeak) (d1 := d - 1) dX3_addPass_11 wm_Heliographs_Plan_77 rfl jzX3_hasPeak (Nat.le_of_ble_eq_true rfl) (Nat.le_of_ble_eq_true rfl) (by omega) ⟨Nat.le_refl _, Nat.le_refl _⟩ (zs_hasPeak hp2 (by omega) (by omega)) ?_
    refine zz_if_eqB (tgt := 65) dX3_addPass_14 rfl (fun b14 => ?_) (fun b14 => ?_)
    · exact absurd (by simp only [decide_eq_true_eq]; omega) b14
    refine gz_aload_n dX3_addPass_17 rfl ?_
    refine gz_iload_n dX3_addPass_18 rfl ?_
    refine gv_1 (J := mX3_hasPeak) (d1 := d - 1) dX3_addPass_19 wm_Heliographs_Plan_77 rfl jzX3_hasPeak (Nat.le_of_ble_eq_true rfl) (Nat.le_of_ble_eq_true rfl) (by omega) ⟨Nat.le_refl _, Nat.le_refl _⟩ (zs_hasPeak hp2 (by omega) (by omega)) ?_
    refine zz_if_eqB (tgt := 65) dX3_addPass_22 rfl (fun b22 => ?_) (fun b22 => ?_)
    · exact absurd (by simp only [decide_eq_true_eq]; omega) b22
    refine gz_aload_n dX3_addPass_25 rfl ?_
    refine gz_getf 7 dX3_addPass_26 rfl rfl wf_Heliographs_Plan_21 (by decide) rfl ?_
    refine gz_aload_n dX3_addPass_29 rfl ?_
    refine gz_getf 1 dX3_addPass_30 rfl rfl wf_Heliographs_Plan_65 (by decide) (zv_i h0) ?_
    refine gz_iload_n dX3_addPass_33 rfl ?_
    refine zc_iast (n := c) dX3_addPass_34 rfl (by decide) rfl (by omega) rfl ?_
    refine gz_aload_n dX3_addPass_35 rfl ?_
    refine gz_getf 8 dX3_addPass_36 rfl rfl wf_Heliographs_Plan_24 (by decide) rfl ?_
    refine gz_aload_n dX3_addPass_39 rfl ?_
    refine gz_getf 1 dX3_addPass_40 rfl rfl wf_Heliographs_Plan_65 (by decide) (zv_i ((zb_u_a _ _ (by decide)).trans h0)) ?_
    refine gz_iload_n dX3_addPass_43 rfl ?_
    refine zc_iast (n := c) dX3_addPass_44 rfl (by decide) rfl (by omega) rfl ?_
    refine gz_aload_n dX3_addPass_45 rfl ?_
    refine gz_getf 9 dX3_addPass_46 rfl rfl wf_Heliographs_Plan_27 (by decide) rfl ?_
    refine gz_aload_n dX3_addPass_49 rfl ?_
    refine gz_getf 1 dX3_addPass_50 rfl rfl wf_Heliographs_Plan_65 (by decide) (zv_i ((zb_u_a _ _ (by decide)).trans ((zb_u_a _ _ (by decide)).trans h0))) ?_
    refine gz_iload_n dX3_addPass_53 rfl ?_
    refine zc_iast (n := c) dX3_addPass_54 rfl (by decide) rfl (by omega) rfl ?_
    refine gz_aload_n dX3_addPass_55 rfl ?_
    refine gz_dup dX3_addPass_56 rfl ?_
    refine gz_getf 1 dX3_addPass_57 rfl rfl wf_Heliographs_Plan_65 (by decide) (zv_i ((zb_u_a _ _ (by decide)).trans ((zb_u_a _ _ (by decide)).trans ((zb_u_a _ _ (by decide)).trans h0)))) ?_
    refine zz_iconst dX3_addPass_60 ?_
    refine zz_iadd dX3_addPass_61 ?_
    refine zc_putf 1 dX3_addPass_62 rfl rfl wf_Heliographs_Plan_65 (by decide) (by decide) jo_Heliographs_Plan ju_Heliographs_Plan rfl tyX3 tyX3_ok nmX3 rfl (fun _ => ⟨rfl, rfl⟩) rfl ?_
    refine gz_return_ dX3_addPass_65 rfl ?_
    exact hq
  )
theorem zs_addMessage {p c np x y : Nat} {w z : Int} (hp : p = 368 ∨ p = 400) (hc : c < 8) (h0 : Z p 3 = (c : Int)) (hnp : Z p 0 = (np : Int)) (hn8 : np ≤ 8) (hx : x < np) (hy : y < np) (hd : 1 ≤ d) : zk_Does l Γ mX3_addMessage d 0 0 [.ref p, .int (iZ w), .int (iZ (x : Int)), .int (iZ (y : Int)), .int (iZ z)] (zb_M Z) F none (zb_M (zb_u (zb_u (zb_u (zb_u (zb_u Z (p + 7) c w) (p + 8) c (x : Int)) (p + 9) c (y : Int)) (p + 10) c z) p 3 ((c : Int) + 1))) F := by
  intro Q hq
  have hp2 := hp
  rcases hp with rfl | rfl <;> (
    refine gz_aload_n dX3_addMessage_0 rfl ?_
    refine gz_getf 3 dX3_addMessage_1 rfl rfl wf_Heliographs_Plan_71 (by decide) (zv_i h0) ?_
    refine zz_bipush (x := 8) dX3_addMessage_4 rfl ?_
    refine zz_icmp_ge (tgt := 76) dX3_addMessage_6 rfl (by omega) (fun b6 => ?_) (fun b6 => ?_)
    · exact absurd b6 (by omega)
    refine gz_aload_n dX3_addMessage_9 rfl ?_
    refine gz_iload_n dX3_addMessage_10 rfl ?_
    refine gv_1 (J := mX3_hasPeak) (d1 := d - 1) dX3_addMessage_11 wm_Heliographs_Plan_77 rfl jzX3_hasPeak (Nat.le_of_ble_eq_true rfl) (Nat.le_of_ble_eq_true rfl) (by omega) ⟨Nat.le_refl _, Nat.le_refl _⟩ (zs_hasPeak hp2 (by omega) (by omega)) ?_
    refine zz_if_eqB (tgt := 76) dX3_addMessage_14 rfl (fun b14 => ?_) (fun b14 => ?_)
    · exact absurd (by simp only [decide_eq_true_eq]; omega) b14
    refine gz_aload_n dX3_addMessage_17 rfl ?_
    refine gz_iload_n dX3_addMessage_18 rfl ?_
    refine gv_1 (J := mX3_hasPeak) (d1 := d - 1) dX3_addMessage_19 wm_Heliographs_Plan_77 rfl jzX3_hasPeak (Nat.le_of_ble_eq_true rfl) (Nat.le_of_ble_eq_true rfl) (by omega) ⟨Nat.le_refl _, Nat.le_refl _⟩ (zs_hasPeak hp2 (by omega) (by omega)) ?_
    refine zz_if_eqB (tgt := 76) dX3_addMessage_22 rfl (fun b22 => ?_) (fun b22 => ?_)
    · exact absurd (by simp only [decide_eq_true_eq]; omega) b22
    refine gz_aload_n dX3_addMessage_25 rfl ?_
    refine gz_getf 10 dX3_addMessage_26 rfl rfl wf_Heliographs_Plan_30 (by decide) rfl ?_
    refine gz_aload_n dX3_addMessage_29 rfl ?_
    refine gz_getf 3 dX3_addMessage_30 rfl rfl wf_Heliographs_Plan_71 (by decide) (zv_i h0) ?_
    refine gz_iload_n dX3_addMessage_33 rfl ?_
    refine zc_iast (n := c) dX3_addMessage_34 rfl (by decide) rfl (by omega) rfl ?_
    refine gz_aload_n dX3_addMessage_35 rfl ?_
    refine gz_getf 11 dX3_addMessage_36 rfl rfl wf_Heliographs_Plan_33 (by decide) rfl ?_
    refine gz_aload_n dX3_addMessage_39 rfl ?_
    refine gz_getf 3 dX3_addMessage_40 rfl rfl wf_Heliographs_Plan_71 (by decide) (zv_i ((zb_u_a _ _ (by decide)).trans h0)) ?_
    refine gz_iload_n dX3_addMessage_43 rfl ?_
    refine zc_iast (n := c) dX3_addMessage_44 rfl (by decide) rfl (by omega) rfl ?_
    refine gz_aload_n dX3_addMessage_45 rfl ?_
    refine gz_getf 12 dX3_addMessage_46 rfl rfl wf_Heliographs_Plan_36 (by decide) rfl ?_
    refine gz_aload_n dX3_addMessage_49 rfl ?_
    refine gz_getf 3 dX3_addMessage_50 rfl rfl wf_Heliographs_Plan_71 (by decide) (zv_i ((zb_u_a _ _ (by decide)).trans ((zb_u_a _ _ (by decide)).trans h0))) ?_
    refine gz_iload_n dX3_addMessage_53 rfl ?_
    refine zc_iast (n := c) dX3_addMessage_54 rfl (by decide) rfl (by omega) rfl ?_
    refine gz_aload_n dX3_addMessage_55 rfl ?_
    refine gz_getf 13 dX3_addMessage_56 rfl rfl wf_Heliographs_Plan_39 (by decide) rfl ?_
    refine gz_aload_n dX3_addMessage_59 rfl ?_
    refine gz_getf 3 dX3_addMessage_60 rfl rfl wf_Heliographs_Plan_71 (by decide) (zv_i ((zb_u_a _ _ (by decide)).trans ((zb_u_a _ _ (by decide)).trans ((zb_u_a _ _ (by decide)).trans h0)))) ?_
    refine gz_iload dX3_addMessage_63 rfl ?_
    refine zc_iast (n := c) dX3_addMessage_65 rfl (by decide) rfl (by omega) rfl ?_
    refine gz_aload_n dX3_addMessage_66 rfl ?_
    refine gz_dup dX3_addMessage_67 rfl ?_
    refine gz_getf 3 dX3_addMessage_68 rfl rfl wf_Heliographs_Plan_71 (by decide) (zv_i ((zb_u_a _ _ (by decide)).trans ((zb_u_a _ _ (by decide)).trans ((zb_u_a _ _ (by decide)).trans ((zb_u_a _ _ (by decide)).trans h0))))) ?_
    refine zz_iconst dX3_addMessage_71 ?_
    refine zz_iadd dX3_addMessage_72 ?_
    refine zc_putf 3 dX3_addMessage_73 rfl rfl wf_Heliographs_Plan_71 (by decide) (by decide) jo_Heliographs_Plan ju_Heliographs_Plan rfl tyX3 tyX3_ok nmX3 rfl (fun _ => ⟨rfl, rfl⟩) rfl ?_
    refine gz_return_ dX3_addMessage_76 rfl ?_
    exact hq
  )
theorem zs_addCloud {p c : Nat} {w x y z : Int} (hp : p = 368 ∨ p = 400) (hc : c < 8) (h0 : Z p 2 = (c : Int)) (hx : 1 ≤ x ∧ x ≤ 100) : zk_Does l Γ mX3_addCloud d 0 0 [.ref p, .int (iZ w), .int (iZ x), .int (iZ y), .int (iZ z)] (zb_M Z) F none (zb_M (zb_u (zb_u (zb_u (zb_u (zb_u Z (p + 11) c w) (p + 12) c x) (p + 13) c y) (p + 14) c z) p 2 ((c : Int) + 1))) F := by
  intro Q hq
  rcases hp with rfl | rfl <;> (
    refine gz_aload_n dX3_addCloud_0 rfl ?_
    refine gz_getf 2 dX3_addCloud_1 rfl rfl wf_Heliographs_Plan_68 (by decide) (zv_i h0) ?_
    refine zz_bipush (x := 8) dX3_addCloud_4 rfl ?_
    refine zz_icmp_ge (tgt := 64) dX3_addCloud_6 rfl (by omega) (fun b6 => ?_) (fun b6 => ?_)
    · exact absurd b6 (by omega)
    refine gz_iload_n dX3_addCloud_9 rfl ?_
    refine zz_if_le (tgt := 64) dX3_addCloud_10 rfl (by omega) (fun b10 => ?_) (fun b10 => ?_)
    · exact absurd b10 (by omega)
    refine gz_aload_n dX3_addCloud_13 rfl ?_
    refine gz_getf 15 dX3_addCloud_14 rfl rfl wf_Heliographs_Plan_49 (by decide) rfl ?_
    refine gz_aload_n dX3_addCloud_17 rfl ?_
    refine gz_getf 2 dX3_addCloud_18 rfl rfl wf_Heliographs_Plan_68 (by decide) (zv_i h0) ?_
    refine gz_iload_n dX3_addCloud_21 rfl ?_
    refine zc_iast (n := c) dX3_addCloud_22 rfl (by decide) rfl (by omega) rfl ?_
    refine gz_aload_n dX3_addCloud_23 rfl ?_
    refine gz_getf 16 dX3_addCloud_24 rfl rfl wf_Heliographs_Plan_52 (by decide) rfl ?_
    refine gz_aload_n dX3_addCloud_27 rfl ?_
    refine gz_getf 2 dX3_addCloud_28 rfl rfl wf_Heliographs_Plan_68 (by decide) (zv_i ((zb_u_a _ _ (by decide)).trans h0)) ?_
    refine gz_iload_n dX3_addCloud_31 rfl ?_
    refine zc_iast (n := c) dX3_addCloud_32 rfl (by decide) rfl (by omega) rfl ?_
    refine gz_aload_n dX3_addCloud_33 rfl ?_
    refine gz_getf 17 dX3_addCloud_34 rfl rfl wf_Heliographs_Plan_55 (by decide) rfl ?_
    refine gz_aload_n dX3_addCloud_37 rfl ?_
    refine gz_getf 2 dX3_addCloud_38 rfl rfl wf_Heliographs_Plan_68 (by decide) (zv_i ((zb_u_a _ _ (by decide)).trans ((zb_u_a _ _ (by decide)).trans h0))) ?_
    refine gz_iload_n dX3_addCloud_41 rfl ?_
    refine zc_iast (n := c) dX3_addCloud_42 rfl (by decide) rfl (by omega) rfl ?_
    refine gz_aload_n dX3_addCloud_43 rfl ?_
    refine gz_getf 18 dX3_addCloud_44 rfl rfl wf_Heliographs_Plan_58 (by decide) rfl ?_
    refine gz_aload_n dX3_addCloud_47 rfl ?_
    refine gz_getf 2 dX3_addCloud_48 rfl rfl wf_Heliographs_Plan_68 (by decide) (zv_i ((zb_u_a _ _ (by decide)).trans ((zb_u_a _ _ (by decide)).trans ((zb_u_a _ _ (by decide)).trans h0)))) ?_
    refine gz_iload dX3_addCloud_51 rfl ?_
    refine zc_iast (n := c) dX3_addCloud_53 rfl (by decide) rfl (by omega) rfl ?_
    refine gz_aload_n dX3_addCloud_54 rfl ?_
    refine gz_dup dX3_addCloud_55 rfl ?_
    refine gz_getf 2 dX3_addCloud_56 rfl rfl wf_Heliographs_Plan_68 (by decide) (zv_i ((zb_u_a _ _ (by decide)).trans ((zb_u_a _ _ (by decide)).trans ((zb_u_a _ _ (by decide)).trans ((zb_u_a _ _ (by decide)).trans h0))))) ?_
    refine zz_iconst dX3_addCloud_59 ?_
    refine zz_iadd dX3_addCloud_60 ?_
    refine zc_putf 2 dX3_addCloud_61 rfl rfl wf_Heliographs_Plan_68 (by decide) (by decide) jo_Heliographs_Plan ju_Heliographs_Plan rfl tyX3 tyX3_ok nmX3 rfl (fun _ => ⟨rfl, rfl⟩) rfl ?_
    refine gz_return_ dX3_addCloud_64 rfl ?_
    exact hq
  )
theorem zs_close {p c n : Nat} {x : Int} (hp : p = 368 ∨ p = 400) (hc : c < 12) (h0 : Z (p + 15) 0 = (c : Int)) (h5 : Z (p + 15) 5 = (n : Int)) : zk_Does l Γ mX2_close d 0 0 [.ref (p + 15), .int (iZ x)] (zb_M Z) F none (zb_M (zb_u (zb_u (zb_u Z (p + 16) c x) (p + 17) c (n : Int)) (p + 15) 0 ((c : Int) + 1))) F := by
  intro Q hq
  rcases hp with rfl | rfl <;> (
    simp only [Nat.reduceAdd] at h0 h5
    refine gz_aload_n dX2_close_0 rfl ?_
    refine gz_getf 0 dX2_close_1 rfl rfl wf_Heliographs_Orders_27 (by decide) (zv_i h0) ?_
    refine gz_aload_n dX2_close_4 rfl ?_
    refine gz_getf 1 dX2_close_5 rfl rfl wf_Heliographs_Orders_9 (by decide) rfl ?_
    refine gz_alen (k := 0) dX2_close_8 rfl (by decide) ?_
    refine zz_icmp_ge (tgt := 45) dX2_close_9 rfl (by omega) (fun b9 => ?_) (fun b9 => ?_)
    · exact absurd b9 (by omega)
    refine gz_aload_n dX2_close_12 rfl ?_
    refine gz_getf 1 dX2_close_13 rfl rfl wf_Heliographs_Orders_9 (by decide) rfl ?_
    refine gz_aload_n dX2_close_16 rfl ?_
    refine gz_getf 0 dX2_close_17 rfl rfl wf_Heliographs_Orders_27 (by decide) (zv_i h0) ?_
    refine gz_iload_n dX2_close_20 rfl ?_
    refine zc_iast (n := c) dX2_close_21 rfl (by decide) rfl (by omega) rfl ?_
    refine gz_aload_n dX2_close_22 rfl ?_
    refine gz_getf 2 dX2_close_23 rfl rfl wf_Heliographs_Orders_15 (by decide) rfl ?_
    refine gz_aload_n dX2_close_26 rfl ?_
    refine gz_getf 0 dX2_close_27 rfl rfl wf_Heliographs_Orders_27 (by decide) (zv_i ((zb_u_a _ _ (by decide)).trans h0)) ?_
    refine gz_aload_n dX2_close_30 rfl ?_
    refine gz_getf 5 dX2_close_31 rfl rfl wf_Heliographs_Orders_31 (by decide) (zv_i ((zb_u_a _ _ (by decide)).trans h5)) ?_
    refine zc_iast (n := c) dX2_close_34 rfl (by decide) rfl (by omega) rfl ?_
    refine gz_aload_n dX2_close_35 rfl ?_
    refine gz_dup dX2_close_36 rfl ?_
    refine gz_getf 0 dX2_close_37 rfl rfl wf_Heliographs_Orders_27 (by decide) (zv_i ((zb_u_a _ _ (by decide)).trans ((zb_u_a _ _ (by decide)).trans h0))) ?_
    refine zz_iconst dX2_close_40 ?_
    refine zz_iadd dX2_close_41 ?_
    refine zc_putf 0 dX2_close_42 rfl rfl wf_Heliographs_Orders_27 (by decide) (by decide) jo_Heliographs_Orders ju_Heliographs_Orders rfl tyX2 tyX2_ok nmX2 rfl (fun _ => ⟨rfl, rfl⟩) rfl ?_
    refine gz_return_ dX2_close_45 rfl ?_
    exact hq
  )
theorem rdA_peak {Z : zV} {p i np nw nc nm : Nat} {ts : List (Nat × Int)} {D : zV} {hs : zHs} (hp : p = 368 ∨ p = 400) {x y z : Int} (hc : np < 8) (g1 : x = D 1 np) (g2 : y = D 2 np) (g3 : z = D 3 np) (A2 : rdA Z p i ts D np nw nc nm hs) : rdA (zb_u (zb_u (zb_u (zb_u (zb_u Z (328) np (619 + (np : Int))) (p + 1) np x) (p + 2) np y) (p + 3) np z) (p) 0 ((np : Int) + 1)) p i ts D (np + 1) nw nc nm hs := by
  obtain ⟨h1, h2, h3, h4, h5, ⟨a1, a2, a3⟩, ⟨b1, b2, b3⟩, ⟨c1, c2, c3, c4⟩, ⟨d1, d2, d3, d4⟩⟩ := A2
  have o : ∀ a j, ¬ (a = 328 ∧ j = np) → ¬ (a = p + 1 ∧ j = np) → ¬ (a = p + 2 ∧ j = np) → ¬ (a = p + 3 ∧ j = np) → ¬ (a = p ∧ j = 0) → (zb_u (zb_u (zb_u (zb_u (zb_u Z (328) np (619 + (np : Int))) (p + 1) np x) (p + 2) np y) (p + 3) np z) (p) 0 ((np : Int) + 1)) a j = Z a j := fun a j q0 q1 q2 q3 q4 => by rw [zb_u_no _ _ (by omega), zb_u_no _ _ (by omega), zb_u_no _ _ (by omega), zb_u_no _ _ (by omega), zb_u_no _ _ (by omega)]
  have hnn := h2.2.1
  refine ⟨rdS_to (fun a j q => (o _ _ (by omega) (by omega) (by omega) (by omega) (by omega))) h1, ⟨⟨(show (zb_u (zb_u (zb_u (zb_u (zb_u Z (328) np (619 + (np : Int))) (p + 1) np x) (p + 2) np y) (p + 3) np z) (p) 0 ((np : Int) + 1)) p 0 = ((np + 1 : Nat) : Int) from by rw [zb_u_at]; omega), ((o _ _ (by omega) (by omega) (by omega) (by omega) (by omega)).trans h2.1.2.1), ((o _ _ (by omega) (by omega) (by omega) (by omega) (by omega)).trans h2.1.2.2)⟩, ⟨by omega, hnn.2.1, hnn.2.2⟩, (fun j hj => by
      by_cases q : j = np
      · rw [q]; exact (by rw [zb_u_no _ _ (by omega), zb_u_no _ _ (by omega), zb_u_no _ _ (by omega), zb_u_no _ _ (by omega), zb_u_at])
      · exact (o _ _ (by omega) (by omega) (by omega) (by omega) (by omega)).trans (h2.2.2.1 j (by omega))), (fun j hj => (o _ _ (by omega) (by omega) (by omega) (by omega) (by omega)).trans (h2.2.2.2.1 j hj)), (fun j hj => (o _ _ (by omega) (by omega) (by omega) (by omega) (by omega)).trans (h2.2.2.2.2 j hj))⟩, ⟨((o _ _ (by omega) (by omega) (by omega) (by omega) (by omega)).trans h3.1), h3.2.1, fun a j q => (o _ _ (by omega) (by omega) (by omega) (by omega) (by omega)).trans (h3.2.2 a j q)⟩, ⟨(o _ _ (by omega) (by omega) (by omega) (by omega) (by omega)).trans h4.1, h4.2⟩, hHd_to (m := hs.length) (n := hsLen hs) (fun a i q _ => (o _ _ (by omega) (by omega) (by omega) (by omega) (by omega))) (fun a i q _ => (o _ _ (by omega) (by omega) (by omega) (by omega) (by omega))) (by omega) (by omega) h5, ⟨dR_add (fun j hj => (o _ _ (by omega) (by omega) (by omega) (by omega) (by omega))) (by rw [zb_u_no _ _ (by omega), zb_u_no _ _ (by omega), zb_u_no _ _ (by omega), zb_u_at]; exact g1) a1, dR_add (fun j hj => (o _ _ (by omega) (by omega) (by omega) (by omega) (by omega))) (by rw [zb_u_no _ _ (by omega), zb_u_no _ _ (by omega), zb_u_at]; exact g2) a2, dR_add (fun j hj => (o _ _ (by omega) (by omega) (by omega) (by omega) (by omega))) (by rw [zb_u_no _ _ (by omega), zb_u_at]; exact g3) a3⟩, ⟨dR_to (fun j hj => (o _ _ (by omega) (by omega) (by omega) (by omega) (by omega))) b1, dR_to (fun j hj => (o _ _ (by omega) (by omega) (by omega) (by omega) (by omega))) b2, dR_to (fun j hj => (o _ _ (by omega) (by omega) (by omega) (by omega) (by omega))) b3⟩, ⟨dR_to (fun j hj => (o _ _ (by omega) (by omega) (by omega) (by omega) (by omega))) c1, dR_to (fun j hj => (o _ _ (by omega) (by omega) (by omega) (by omega) (by omega))) c2, dR_to (fun j hj => (o _ _ (by omega) (by omega) (by omega) (by omega) (by omega))) c3, dR_to (fun j hj => (o _ _ (by omega) (by omega) (by omega) (by omega) (by omega))) c4⟩, ⟨dR_to (fun j hj => (o _ _ (by omega) (by omega) (by omega) (by omega) (by omega))) d1, dR_to (fun j hj => (o _ _ (by omega) (by omega) (by omega) (by omega) (by omega))) d2, dR_to (fun j hj => (o _ _ (by omega) (by omega) (by omega) (by omega) (by omega))) d3, dR_to (fun j hj => (o _ _ (by omega) (by omega) (by omega) (by omega) (by omega))) d4⟩⟩
theorem rdA_pass {Z : zV} {p i np nw nc nm : Nat} {ts : List (Nat × Int)} {D : zV} {hs : zHs} (hp : p = 368 ∨ p = 400) {x y z : Int} (hc : nw < 12) (g4 : x = D 4 nw) (g5 : y = D 5 nw) (g6 : z = D 6 nw) (A2 : rdA Z p i ts D np nw nc nm hs) : rdA (zb_u (zb_u (zb_u (zb_u (zb_u Z (329) nw (878 + (nw : Int))) (p + 4) nw x) (p + 5) nw y) (p + 6) nw z) (p) 1 ((nw : Int) + 1)) p i ts D np (nw + 1) nc nm hs := by
  obtain ⟨h1, h2, h3, h4, h5, ⟨a1, a2, a3⟩, ⟨b1, b2, b3⟩, ⟨c1, c2, c3, c4⟩, ⟨d1, d2, d3, d4⟩⟩ := A2
  have o : ∀ a j, ¬ (a = 329 ∧ j = nw) → ¬ (a = p + 4 ∧ j = nw) → ¬ (a = p + 5 ∧ j = nw) → ¬ (a = p + 6 ∧ j = nw) → ¬ (a = p ∧ j = 1) → (zb_u (zb_u (zb_u (zb_u (zb_u Z (329) nw (878 + (nw : Int))) (p + 4) nw x) (p + 5) nw y) (p + 6) nw z) (p) 1 ((nw : Int) + 1)) a j = Z a j := fun a j q0 q1 q2 q3 q4 => by rw [zb_u_no _ _ (by omega), zb_u_no _ _ (by omega), zb_u_no _ _ (by omega), zb_u_no _ _ (by omega), zb_u_no _ _ (by omega)]
  have hnn := h2.2.1
  refine ⟨rdS_to (fun a j q => (o _ _ (by omega) (by omega) (by omega) (by omega) (by omega))) h1, ⟨⟨((o _ _ (by omega) (by omega) (by omega) (by omega) (by omega)).trans h2.1.1), (show (zb_u (zb_u (zb_u (zb_u (zb_u Z (329) nw (878 + (nw : Int))) (p + 4) nw x) (p + 5) nw y) (p + 6) nw z) (p) 1 ((nw : Int) + 1)) p 1 = ((nw + 1 : Nat) : Int) from by rw [zb_u_at]; omega), ((o _ _ (by omega) (by omega) (by omega) (by omega) (by omega)).trans h2.1.2.2)⟩, ⟨hnn.1, by omega, hnn.2.2⟩, (fun j hj => (o _ _ (by omega) (by omega) (by omega) (by omega) (by omega)).trans (h2.2.2.1 j hj)), (fun j hj => by
      by_cases q : j = nw
      · rw [q]; exact (by rw [zb_u_no _ _ (by omega), zb_u_no _ _ (by omega), zb_u_no _ _ (by omega), zb_u_no _ _ (by omega), zb_u_at])
      · exact (o _ _ (by omega) (by omega) (by omega) (by omega) (by omega)).trans (h2.2.2.2.1 j (by omega))), (fun j hj => (o _ _ (by omega) (by omega) (by omega) (by omega) (by omega)).trans (h2.2.2.2.2 j hj))⟩, ⟨((o _ _ (by omega) (by omega) (by omega) (by omega) (by omega)).trans h3.1), h3.2.1, fun a j q => (o _ _ (by omega) (by omega) (by omega) (by omega) (by omega)).trans (h3.2.2 a j q)⟩, ⟨(o _ _ (by omega) (by omega) (by omega) (by omega) (by omega)).trans h4.1, h4.2⟩, hHd_to (m := hs.length) (n := hsLen hs) (fun a i q _ => (o _ _ (by omega) (by omega) (by omega) (by omega) (by omega))) (fun a i q _ => (o _ _ (by omega) (by omega) (by omega) (by omega) (by omega))) (by omega) (by omega) h5, ⟨dR_to (fun j hj => (o _ _ (by omega) (by omega) (by omega) (by omega) (by omega))) a1, dR_to (fun j hj => (o _ _ (by omega) (by omega) (by omega) (by omega) (by omega))) a2, dR_to (fun j hj => (o _ _ (by omega) (by omega) (by omega) (by omega) (by omega))) a3⟩, ⟨dR_add (fun j hj => (o _ _ (by omega) (by omega) (by omega) (by omega) (by omega))) (by rw [zb_u_no _ _ (by omega), zb_u_no _ _ (by omega), zb_u_no _ _ (by omega), zb_u_at]; exact g4) b1, dR_add (fun j hj => (o _ _ (by omega) (by omega) (by omega) (by omega) (by omega))) (by rw [zb_u_no _ _ (by omega), zb_u_no _ _ (by omega), zb_u_at]; exact g5) b2, dR_add (fun j hj => (o _ _ (by omega) (by omega) (by omega) (by omega) (by omega))) (by rw [zb_u_no _ _ (by omega), zb_u_at]; exact g6) b3⟩, ⟨dR_to (fun j hj => (o _ _ (by omega) (by omega) (by omega) (by omega) (by omega))) c1, dR_to (fun j hj => (o _ _ (by omega) (by omega) (by omega) (by omega) (by omega))) c2, dR_to (fun j hj => (o _ _ (by omega) (by omega) (by omega) (by omega) (by omega))) c3, dR_to (fun j hj => (o _ _ (by omega) (by omega) (by omega) (by omega) (by omega))) c4⟩, ⟨dR_to (fun j hj => (o _ _ (by omega) (by omega) (by omega) (by omega) (by omega))) d1, dR_to (fun j hj => (o _ _ (by omega) (by omega) (by omega) (by omega) (by omega))) d2, dR_to (fun j hj => (o _ _ (by omega) (by omega) (by omega) (by omega) (by omega))) d3, dR_to (fun j hj => (o _ _ (by omega) (by omega) (by omega) (by omega) (by omega))) d4⟩⟩
theorem rdA_message {Z : zV} {p i np nw nc nm : Nat} {ts : List (Nat × Int)} {D : zV} {hs : zHs} (hp : p = 368 ∨ p = 400) {w x y z : Int} (hc : nm < 8) (g7 : w = D 7 nm) (g8 : x = D 8 nm) (g9 : y = D 9 nm) (g10 : z = D 10 nm) (A2 : rdA Z p i ts D np nw nc nm hs) : rdA (zb_u (zb_u (zb_u (zb_u (zb_u (zb_u Z (330) nm (508 + (nm : Int))) (p + 7) nm w) (p + 8) nm x) (p + 9) nm y) (p + 10) nm z) (p) 3 ((nm : Int) + 1)) p i ts D np nw nc (nm + 1) hs := by
  obtain ⟨h1, h2, h3, h4, h5, ⟨a1, a2, a3⟩, ⟨b1, b2, b3⟩, ⟨c1, c2, c3, c4⟩, ⟨d1, d2, d3, d4⟩⟩ := A2
  have o : ∀ a j, ¬ (a = 330 ∧ j = nm) → ¬ (a = p + 7 ∧ j = nm) → ¬ (a = p + 8 ∧ j = nm) → ¬ (a = p + 9 ∧ j = nm) → ¬ (a = p + 10 ∧ j = nm) → ¬ (a = p ∧ j = 3) → (zb_u (zb_u (zb_u (zb_u (zb_u (zb_u Z (330) nm (508 + (nm : Int))) (p + 7) nm w) (p + 8) nm x) (p + 9) nm y) (p + 10) nm z) (p) 3 ((nm : Int) + 1)) a j = Z a j := fun a j q0 q1 q2 q3 q4 q5 => by rw [zb_u_no _ _ (by omega), zb_u_no _ _ (by omega), zb_u_no _ _ (by omega), zb_u_no _ _ (by omega), zb_u_no _ _ (by omega), zb_u_no _ _ (by omega)]
  have hnn := h2.2.1
  refine ⟨rdS_to (fun a j q => (o _ _ (by omega) (by omega) (by omega) (by omega) (by omega) (by omega))) h1, ⟨⟨((o _ _ (by omega) (by omega) (by omega) (by omega) (by omega) (by omega)).trans h2.1.1), ((o _ _ (by omega) (by omega) (by omega) (by omega) (by omega) (by omega)).trans h2.1.2.1), (show (zb_u (zb_u (zb_u (zb_u (zb_u (zb_u Z (330) nm (508 + (nm : Int))) (p + 7) nm w) (p + 8) nm x) (p + 9) nm y) (p + 10) nm z) (p) 3 ((nm : Int) + 1)) p 3 = ((nm + 1 : Nat) : Int) from by rw [zb_u_at]; omega)⟩, ⟨hnn.1, hnn.2.1, by omega⟩, (fun j hj => (o _ _ (by omega) (by omega) (by omega) (by omega) (by omega) (by omega)).trans (h2.2.2.1 j hj)), (fun j hj => (o _ _ (by omega) (by omega) (by omega) (by omega) (by omega) (by omega)).trans (h2.2.2.2.1 j hj)), (fun j hj => by
      by_cases q : j = nm
      · rw [q]; exact (by rw [zb_u_no _ _ (by omega), zb_u_no _ _ (by omega), zb_u_no _ _ (by omega), zb_u_no _ _ (by omega), zb_u_no _ _ (by omega), zb_u_at])
      · exact (o _ _ (by omega) (by omega) (by omega) (by omega) (by omega) (by omega)).trans (h2.2.2.2.2 j (by omega)))⟩, ⟨((o _ _ (by omega) (by omega) (by omega) (by omega) (by omega) (by omega)).trans h3.1), h3.2.1, fun a j q => (o _ _ (by omega) (by omega) (by omega) (by omega) (by omega) (by omega)).trans (h3.2.2 a j q)⟩, ⟨(o _ _ (by omega) (by omega) (by omega) (by omega) (by omega) (by omega)).trans h4.1, h4.2⟩, hHd_to (m := hs.length) (n := hsLen hs) (fun a i q _ => (o _ _ (by omega) (by omega) (by omega) (by omega) (by omega) (by omega))) (fun a i q _ => (o _ _ (by omega) (by omega) (by omega) (by omega) (by omega) (by omega))) (by omega) (by omega) h5, ⟨dR_to (fun j hj => (o _ _ (by omega) (by omega) (by omega) (by omega) (by omega) (by omega))) a1, dR_to (fun j hj => (o _ _ (by omega) (by omega) (by omega) (by omega) (by omega) (by omega))) a2, dR_to (fun j hj => (o _ _ (by omega) (by omega) (by omega) (by omega) (by omega) (by omega))) a3⟩, ⟨dR_to (fun j hj => (o _ _ (by omega) (by omega) (by omega) (by omega) (by omega) (by omega))) b1, dR_to (fun j hj => (o _ _ (by omega) (by omega) (by omega) (by omega) (by omega) (by omega))) b2, dR_to (fun j hj => (o _ _ (by omega) (by omega) (by omega) (by omega) (by omega) (by omega))) b3⟩, ⟨dR_to (fun j hj => (o _ _ (by omega) (by omega) (by omega) (by omega) (by omega) (by omega))) c1, dR_to (fun j hj => (o _ _ (by omega) (by omega) (by omega) (by omega) (by omega) (by omega))) c2, dR_to (fun j hj => (o _ _ (by omega) (by omega) (by omega) (by omega) (by omega) (by omega))) c3, dR_to (fun j hj => (o _ _ (by omega) (by omega) (by omega) (by omega) (by omega) (by omega))) c4⟩, ⟨dR_add (fun j hj => (o _ _ (by omega) (by omega) (by omega) (by omega) (by omega) (by omega))) (by rw [zb_u_no _ _ (by omega), zb_u_no _ _ (by omega), zb_u_no _ _ (by omega), zb_u_no _ _ (by omega), zb_u_at]; exact g7) d1, dR_add (fun j hj => (o _ _ (by omega) (by omega) (by omega) (by omega) (by omega) (by omega))) (by rw [zb_u_no _ _ (by omega), zb_u_no _ _ (by omega), zb_u_no _ _ (by omega), zb_u_at]; exact g8) d2, dR_add (fun j hj => (o _ _ (by omega) (by omega) (by omega) (by omega) (by omega) (by omega))) (by rw [zb_u_no _ _ (by omega), zb_u_no _ _ (by omega), zb_u_at]; exact g9) d3, dR_add (fun j hj => (o _ _ (by omega) (by omega) (by omega) (by omega) (by omega) (by omega))) (by rw [zb_u_no _ _ (by omega), zb_u_at]; exact g10) d4⟩⟩
theorem rdA_cloud {Z : zV} {p i np nw nc nm : Nat} {ts : List (Nat × Int)} {D : zV} {hs : zHs} (hp : p = 368 ∨ p = 400) {w x y z : Int} (hc : nc < 8) (g11 : w = D 11 nc) (g12 : x = D 12 nc) (g13 : y = D 13 nc) (g14 : z = D 14 nc) (A2 : rdA Z p i ts D np nw nc nm hs) : rdA (zb_u (zb_u (zb_u (zb_u (zb_u Z (p + 11) nc w) (p + 12) nc x) (p + 13) nc y) (p + 14) nc z) (p) 2 ((nc : Int) + 1)) p i ts D np nw (nc + 1) nm hs := by
  obtain ⟨h1, h2, h3, h4, h5, ⟨a1, a2, a3⟩, ⟨b1, b2, b3⟩, ⟨c1, c2, c3, c4⟩, ⟨d1, d2, d3, d4⟩⟩ := A2
  have o : ∀ a j, ¬ (a = p + 11 ∧ j = nc) → ¬ (a = p + 12 ∧ j = nc) → ¬ (a = p + 13 ∧ j = nc) → ¬ (a = p + 14 ∧ j = nc) → ¬ (a = p ∧ j = 2) → (zb_u (zb_u (zb_u (zb_u (zb_u Z (p + 11) nc w) (p + 12) nc x) (p + 13) nc y) (p + 14) nc z) (p) 2 ((nc : Int) + 1)) a j = Z a j := fun a j q0 q1 q2 q3 q4 => by rw [zb_u_no _ _ (by omega), zb_u_no _ _ (by omega), zb_u_no _ _ (by omega), zb_u_no _ _ (by omega), zb_u_no _ _ (by omega)]
  have hnn := h2.2.1
  refine ⟨rdS_to (fun a j q => (o _ _ (by omega) (by omega) (by omega) (by omega) (by omega))) h1, ⟨⟨((o _ _ (by omega) (by omega) (by omega) (by omega) (by omega)).trans h2.1.1), ((o _ _ (by omega) (by omega) (by omega) (by omega) (by omega)).trans h2.1.2.1), ((o _ _ (by omega) (by omega) (by omega) (by omega) (by omega)).trans h2.1.2.2)⟩, ⟨hnn.1, hnn.2.1, hnn.2.2⟩, (fun j hj => (o _ _ (by omega) (by omega) (by omega) (by omega) (by omega)).trans (h2.2.2.1 j hj)), (fun j hj => (o _ _ (by omega) (by omega) (by omega) (by omega) (by omega)).trans (h2.2.2.2.1 j hj)), (fun j hj => (o _ _ (by omega) (by omega) (by omega) (by omega) (by omega)).trans (h2.2.2.2.2 j hj))⟩, ⟨(show (zb_u (zb_u (zb_u (zb_u (zb_u Z (p + 11) nc w) (p + 12) nc x) (p + 13) nc y) (p + 14) nc z) (p) 2 ((nc : Int) + 1)) p 2 = ((nc + 1 : Nat) : Int) from by rw [zb_u_at]; omega), by omega, fun a j q => (o _ _ (by omega) (by omega) (by omega) (by omega) (by omega)).trans (h3.2.2 a j q)⟩, ⟨(o _ _ (by omega) (by omega) (by omega) (by omega) (by omega)).trans h4.1, h4.2⟩, hHd_to (m := hs.length) (n := hsLen hs) (fun a i q _ => (o _ _ (by omega) (by omega) (by omega) (by omega) (by omega))) (fun a i q _ => (o _ _ (by omega) (by omega) (by omega) (by omega) (by omega))) (by omega) (by omega) h5, ⟨dR_to (fun j hj => (o _ _ (by omega) (by omega) (by omega) (by omega) (by omega))) a1, dR_to (fun j hj => (o _ _ (by omega) (by omega) (by omega) (by omega) (by omega))) a2, dR_to (fun j hj => (o _ _ (by omega) (by omega) (by omega) (by omega) (by omega))) a3⟩, ⟨dR_to (fun j hj => (o _ _ (by omega) (by omega) (by omega) (by omega) (by omega))) b1, dR_to (fun j hj => (o _ _ (by omega) (by omega) (by omega) (by omega) (by omega))) b2, dR_to (fun j hj => (o _ _ (by omega) (by omega) (by omega) (by omega) (by omega))) b3⟩, ⟨dR_add (fun j hj => (o _ _ (by omega) (by omega) (by omega) (by omega) (by omega))) (by rw [zb_u_no _ _ (by omega), zb_u_no _ _ (by omega), zb_u_no _ _ (by omega), zb_u_no _ _ (by omega), zb_u_at]; exact g11) c1, dR_add (fun j hj => (o _ _ (by omega) (by omega) (by omega) (by omega) (by omega))) (by rw [zb_u_no _ _ (by omega), zb_u_no _ _ (by omega), zb_u_no _ _ (by omega), zb_u_at]; exact g12) c2, dR_add (fun j hj => (o _ _ (by omega) (by omega) (by omega) (by omega) (by omega))) (by rw [zb_u_no _ _ (by omega), zb_u_no _ _ (by omega), zb_u_at]; exact g13) c3, dR_add (fun j hj => (o _ _ (by omega) (by omega) (by omega) (by omega) (by omega))) (by rw [zb_u_no _ _ (by omega), zb_u_at]; exact g14) c4⟩, ⟨dR_to (fun j hj => (o _ _ (by omega) (by omega) (by omega) (by omega) (by omega))) d1, dR_to (fun j hj => (o _ _ (by omega) (by omega) (by omega) (by omega) (by omega))) d2, dR_to (fun j hj => (o _ _ (by omega) (by omega) (by omega) (by omega) (by omega))) d3, dR_to (fun j hj => (o _ _ (by omega) (by omega) (by omega) (by omega) (by omega))) d4⟩⟩
theorem zs_peak_fin {p i np nw nc nm : Nat} {ts : List (Nat × Int)} {D : zV} {hs : zHs} (hp : p = 368 ∨ p = 400) {x y z : Int} (hc : np < 8) (g1 : x = D 1 np) (g2 : y = D 2 np) (g3 : z = D 3 np) (A : rdA Z p i ts D np nw nc nm hs) (hd : 2 ≤ d) {Q : Option Value → zk_M → (Heap → Prop) → Prop} (hq : ∀ Z', rdA Z' p i ts D (np + 1) nw nc nm hs → Q none (zb_M Z') F) : zk_Go l Γ mX4_readPeak d 0 0 Q 69 [some (.ref 327), some (.long (lZ (619 + (np : Int)))), none, some (.int (iZ x)), some (.int (iZ y)), some (.int (iZ z))] [] (zb_M Z) F := by
  have hp2 := hp
  rcases hp with rfl | rfl <;> (
    have hpl := congrArg Int.toNat A.1.2.2.2.2.2.1
    simp only [Int.toNat_natCast] at hpl
    refine gz_aload_n dX4_readPeak_69 rfl ?_
    refine gz_getf 5 dX4_readPeak_70 rfl rfl wf_Heliographs_Reader_34 (by decide) (zv_i A.1.2.2.2.2.2.2.1) ?_
    refine zz_if_ne (tgt := 116) dX4_readPeak_73 rfl (by omega) (fun b73 => ?_) (fun b73 => ?_)
    · exact absurd b73 (by omega)
    refine gz_aload_n dX4_readPeak_76 rfl ?_
    refine gz_getf 4 dX4_readPeak_77 rfl rfl wf_Heliographs_Reader_25 (by decide) (congrArg Value.ref hpl) ?_
    refine gz_getf 0 dX4_readPeak_80 rfl rfl wf_Heliographs_Reader_97 (by decide) (zv_i A.2.1.1.1) ?_
    refine gz_aload_n dX4_readPeak_83 rfl ?_
    refine gz_getf 0 dX4_readPeak_84 rfl rfl wf_Heliographs_Reader_9 (by decide) rfl ?_
    refine gz_alen (k := 1) dX4_readPeak_87 rfl (by decide) ?_
    refine zz_icmp_ge (tgt := 116) dX4_readPeak_88 rfl (by omega) (fun b88 => ?_) (fun b88 => ?_)
    · exact absurd b88 (by omega)
    refine gz_aload_n dX4_readPeak_91 rfl ?_
    refine gz_getf 0 dX4_readPeak_92 rfl rfl wf_Heliographs_Reader_9 (by decide) rfl ?_
    refine gz_aload_n dX4_readPeak_95 rfl ?_
    refine gz_getf 4 dX4_readPeak_96 rfl rfl wf_Heliographs_Reader_25 (by decide) (congrArg Value.ref hpl) ?_
    refine gz_getf 0 dX4_readPeak_99 rfl rfl wf_Heliographs_Reader_97 (by decide) (zv_i A.2.1.1.1) ?_
    refine gz_lload_n dX4_readPeak_102 rfl ?_
    refine zc_last (n := np) dX4_readPeak_103 rfl (by decide) rfl (by omega) rfl ?_
    refine gz_aload_n dX4_readPeak_104 rfl ?_
    refine gz_getf 4 dX4_readPeak_105 rfl rfl wf_Heliographs_Reader_25 (by decide) (congrArg Value.ref hpl) ?_
    refine gz_iload_n dX4_readPeak_108 rfl ?_
    refine gz_iload dX4_readPeak_109 rfl ?_
    refine gz_iload dX4_readPeak_111 rfl ?_
    refine gv_3 (J := mX3_addPeak) (d1 := d - 1) dX4_readPeak_113 wm_Heliographs_Reader_120 rfl jzX3_addPeak (Nat.le_of_ble_eq_true rfl) (Nat.le_of_ble_eq_true rfl) (by omega) ⟨Nat.le_refl _, Nat.le_refl _⟩ (zs_addPeak hp2 hc ((zb_u_a _ _ (by decide)).trans A.2.1.1.1)) ?_
    refine gz_return_ dX4_readPeak_116 rfl ?_
    exact hq _ (rdA_peak hp2 hc g1 g2 g3 A)
  )
theorem zs_pass_fin {p i np nw nc nm : Nat} {ts : List (Nat × Int)} {D : zV} {hs : zHs} (hp : p = 368 ∨ p = 400) {x y : Nat} {z : Int} (hc : nw < 12) (g4 : (x : Int) = D 4 nw) (g5 : (y : Int) = D 5 nw) (g6 : z = D 6 nw) (hx : x < np) (hy : y < np) (A : rdA Z p i ts D np nw nc nm hs) (hd : 3 ≤ d) {Q : Option Value → zk_M → (Heap → Prop) → Prop} (hq : ∀ Z', rdA Z' p i ts D np (nw + 1) nc nm hs → Q none (zb_M Z') F) : zk_Go l Γ mX4_readPass d 0 0 Q 69 [some (.ref 327), some (.long (lZ (878 + (nw : Int)))), none, some (.int (iZ (x : Int))), some (.int (iZ (y : Int))), some (.int (iZ z))] [] (zb_M Z) F := by
  have hp2 := hp
  rcases hp with rfl | rfl <;> (
    have hpl := congrArg Int.toNat A.1.2.2.2.2.2.1
    simp only [Int.toNat_natCast] at hpl
    refine gz_aload_n dX4_readPass_69 rfl ?_
    refine gz_getf 5 dX4_readPass_70 rfl rfl wf_Heliographs_Reader_34 (by decide) (zv_i A.1.2.2.2.2.2.2.1) ?_
    refine zz_if_ne (tgt := 116) dX4_readPass_73 rfl (by omega) (fun b73 => ?_) (fun b73 => ?_)
    · exact absurd b73 (by omega)
    refine gz_aload_n dX4_readPass_76 rfl ?_
    refine gz_getf 4 dX4_readPass_77 rfl rfl wf_Heliographs_Reader_25 (by decide) (congrArg Value.ref hpl) ?_
    refine gz_getf 1 dX4_readPass_80 rfl rfl wf_Heliographs_Reader_124 (by decide) (zv_i A.2.1.1.2.1) ?_
    refine gz_aload_n dX4_readPass_83 rfl ?_
    refine gz_getf 1 dX4_readPass_84 rfl rfl wf_Heliographs_Reader_15 (by decide) rfl ?_
    refine gz_alen (k := 1) dX4_readPass_87 rfl (by decide) ?_
    refine zz_icmp_ge (tgt := 116) dX4_readPass_88 rfl (by omega) (fun b88 => ?_) (fun b88 => ?_)
    · exact absurd b88 (by omega)
    refine gz_aload_n dX4_readPass_91 rfl ?_
    refine gz_getf 1 dX4_readPass_92 rfl rfl wf_Heliographs_Reader_15 (by decide) rfl ?_
    refine gz_aload_n dX4_readPass_95 rfl ?_
    refine gz_getf 4 dX4_readPass_96 rfl rfl wf_Heliographs_Reader_25 (by decide) (congrArg Value.ref hpl) ?_
    refine gz_getf 1 dX4_readPass_99 rfl rfl wf_Heliographs_Reader_124 (by decide) (zv_i A.2.1.1.2.1) ?_
    refine gz_lload_n dX4_readPass_102 rfl ?_
    refine zc_last (n := nw) dX4_readPass_103 rfl (by decide) rfl (by omega) rfl ?_
    refine gz_aload_n dX4_readPass_104 rfl ?_
    refine gz_getf 4 dX4_readPass_105 rfl rfl wf_Heliographs_Reader_25 (by decide) (congrArg Value.ref hpl) ?_
    refine gz_iload_n dX4_readPass_108 rfl ?_
    refine gz_iload dX4_readPass_109 rfl ?_
    refine gz_iload dX4_readPass_111 rfl ?_
    refine gv_3 (J := mX3_addPass) (d1 := d - 1) dX4_readPass_113 wm_Heliographs_Reader_144 rfl jzX3_addPass (Nat.le_of_ble_eq_true rfl) (Nat.le_of_ble_eq_true rfl) (by omega) ⟨Nat.le_refl _, Nat.le_refl _⟩ (zs_addPass hp2 hc ((zb_u_a _ _ (by decide)).trans A.2.1.1.2.1) ((zb_u_a _ _ (by decide)).trans A.2.1.1.1) A.2.1.2.1.1 hx hy (by omega)) ?_
    refine gz_return_ dX4_readPass_116 rfl ?_
    exact hq _ (rdA_pass hp2 hc g4 g5 g6 A)
  )
theorem zs_cloud_fin {p i np nw nc nm : Nat} {ts : List (Nat × Int)} {D : zV} {hs : zHs} (hp : p = 368 ∨ p = 400) {w x y z : Int} (hc : nc < 8) (g11 : w = D 11 nc) (g12 : x = D 12 nc) (g13 : y = D 13 nc) (g14 : z = D 14 nc) (hx : 1 ≤ x ∧ x ≤ 100) (A : rdA Z p i ts D np nw nc nm hs) (hd : 2 ≤ d) {Q : Option Value → zk_M → (Heap → Prop) → Prop} (hq : ∀ Z', rdA Z' p i ts D np nw (nc + 1) nm hs → Q none (zb_M Z') F) : zk_Go l Γ mX4_readCloud d 0 0 Q 94 [some (.ref 327), some (.int (iZ w)), some (.int (iZ x)), some (.int (iZ y)), some (.int (iZ z))] [] (zb_M Z) F := by
  have hp2 := hp
  rcases hp with rfl | rfl <;> (
    have hpl := congrArg Int.toNat A.1.2.2.2.2.2.1
    simp only [Int.toNat_natCast] at hpl
    refine gz_aload_n dX4_readCloud_94 rfl ?_
    refine gz_getf 5 dX4_readCloud_95 rfl rfl wf_Heliographs_Reader_34 (by decide) (zv_i A.1.2.2.2.2.2.2.1) ?_
    refine zz_if_ne (tgt := 113) dX4_readCloud_98 rfl (by omega) (fun b98 => ?_) (fun b98 => ?_)
    · exact absurd b98 (by omega)
    refine gz_aload_n dX4_readCloud_101 rfl ?_
    refine gz_getf 4 dX4_readCloud_102 rfl rfl wf_Heliographs_Reader_25 (by decide) (congrArg Value.ref hpl) ?_
    refine gz_iload_n dX4_readCloud_105 rfl ?_
    refine gz_iload_n dX4_readCloud_106 rfl ?_
    refine gz_iload_n dX4_readCloud_107 rfl ?_
    refine gz_iload dX4_readCloud_108 rfl ?_
    refine gv_4 (J := mX3_addCloud) (d1 := d - 1) dX4_readCloud_110 wm_Heliographs_Reader_163 rfl jzX3_addCloud (Nat.le_of_ble_eq_true rfl) (Nat.le_of_ble_eq_true rfl) (by omega) ⟨Nat.le_refl _, Nat.le_refl _⟩ (zs_addCloud hp2 hc A.2.2.1.1 hx) ?_
    refine gz_return_ dX4_readCloud_113 rfl ?_
    exact hq _ (rdA_cloud hp2 hc g11 g12 g13 g14 A)
  )
theorem zs_message_fin {p i np nw nc nm : Nat} {ts : List (Nat × Int)} {D : zV} {hs : zHs} (hp : p = 368 ∨ p = 400) {x y : Nat} {w z : Int} (hc : nm < 8) (g7 : w = D 7 nm) (g8 : (x : Int) = D 8 nm) (g9 : (y : Int) = D 9 nm) (g10 : z = D 10 nm) (hx : x < np) (hy : y < np) (A : rdA Z p i ts D np nw nc nm hs) (hd : 3 ≤ d) {Q : Option Value → zk_M → (Heap → Prop) → Prop} (hq : ∀ Z', rdA Z' p i ts D np nw nc (nm + 1) hs → Q none (zb_M Z') F) : zk_Go l Γ mX4_readMessage d 0 0 Q 87 [some (.ref 327), some (.long (lZ (508 + (nm : Int)))), none, some (.int (iZ w)), some (.int (iZ (x : Int))), some (.int (iZ (y : Int))), some (.int (iZ z))] [] (zb_M Z) F := by
  have hp2 := hp
  rcases hp with rfl | rfl <;> (
    have hpl := congrArg Int.toNat A.1.2.2.2.2.2.1
    simp only [Int.toNat_natCast] at hpl
    refine gz_aload_n dX4_readMessage_87 rfl ?_
    refine gz_getf 5 dX4_readMessage_88 rfl rfl wf_Heliographs_Reader_34 (by decide) (zv_i A.1.2.2.2.2.2.2.1) ?_
    refine zz_if_ne (tgt := 136) dX4_readMessage_91 rfl (by omega) (fun b91 => ?_) (fun b91 => ?_)
    · exact absurd b91 (by omega)
    refine gz_aload_n dX4_readMessage_94 rfl ?_
    refine gz_getf 4 dX4_readMessage_95 rfl rfl wf_Heliographs_Reader_25 (by decide) (congrArg Value.ref hpl) ?_
    refine gz_getf 3 dX4_readMessage_98 rfl rfl wf_Heliographs_Reader_167 (by decide) (zv_i A.2.1.1.2.2) ?_
    refine gz_aload_n dX4_readMessage_101 rfl ?_
    refine gz_getf 2 dX4_readMessage_102 rfl rfl wf_Heliographs_Reader_18 (by decide) rfl ?_
    refine gz_alen (k := 1) dX4_readMessage_105 rfl (by decide) ?_
    refine zz_icmp_ge (tgt := 136) dX4_readMessage_106 rfl (by omega) (fun b106 => ?_) (fun b106 => ?_)
    · exact absurd b106 (by omega)
    refine gz_aload_n dX4_readMessage_109 rfl ?_
    refine gz_getf 2 dX4_readMessage_110 rfl rfl wf_Heliographs_Reader_18 (by decide) rfl ?_
    refine gz_aload_n dX4_readMessage_113 rfl ?_
    refine gz_getf 4 dX4_readMessage_114 rfl rfl wf_Heliographs_Reader_25 (by decide) (congrArg Value.ref hpl) ?_
    refine gz_getf 3 dX4_readMessage_117 rfl rfl wf_Heliographs_Reader_167 (by decide) (zv_i A.2.1.1.2.2) ?_
    refine gz_lload_n dX4_readMessage_120 rfl ?_
    refine zc_last (n := nm) dX4_readMessage_121 rfl (by decide) rfl (by omega) rfl ?_
    refine gz_aload_n dX4_readMessage_122 rfl ?_
    refine gz_getf 4 dX4_readMessage_123 rfl rfl wf_Heliographs_Reader_25 (by decide) (congrArg Value.ref hpl) ?_
    refine gz_iload_n dX4_readMessage_126 rfl ?_
    refine gz_iload dX4_readMessage_127 rfl ?_
    refine gz_iload dX4_readMessage_129 rfl ?_
    refine gz_iload dX4_readMessage_131 rfl ?_
    refine gv_4 (J := mX3_addMessage) (d1 := d - 1) dX4_readMessage_133 wm_Heliographs_Reader_179 rfl jzX3_addMessage (Nat.le_of_ble_eq_true rfl) (Nat.le_of_ble_eq_true rfl) (by omega) ⟨Nat.le_refl _, Nat.le_refl _⟩ (zs_addMessage hp2 hc ((zb_u_a _ _ (by decide)).trans A.2.1.1.2.2) ((zb_u_a _ _ (by decide)).trans A.2.1.1.1) A.2.1.2.1.1 hx hy (by omega)) ?_
    refine gz_return_ dX4_readMessage_136 rfl ?_
    exact hq _ (rdA_message hp2 hc g7 g8 g9 g10 A)
  )
theorem zs_readPeak {p i np nw nc nm : Nat} {ts : List (Nat × Int)} {D : zV} {hs : zHs} (hp : p = 368 ∨ p = 400) (hc : np < 8) (g1 : 0 ≤ D 1 np ∧ D 1 np ≤ 120) (g2 : 0 ≤ D 2 np ∧ D 2 np ≤ 120) (g3 : 0 ≤ D 3 np ∧ D 3 np ≤ 4) (A0 : rdA Z p i ((44, 619 + (np : Int)) :: (1, 0) :: (2, 0) :: (45, D 1 np) :: (3, 0) :: (45, D 2 np) :: (4, 0) :: (45, D 3 np) :: ts) D np nw nc nm hs) (hd : 4 ≤ d) : zk_DoesR l Γ mX4_readPeak d [.ref 327] Z F none (fun Z' => rdA Z' p (i + 8) ts D (np + 1) nw nc nm hs) := by
  intro Q hq
  have hp2 := hp
  have A1 := rdA_adv hp A0
  have A2 := rdA_adv hp A1
  have A3 := rdA_adv hp A2
  have A4 := rdA_adv hp A3
  have A5 := rdA_adv hp A4
  have A6 := rdA_adv hp A5
  have A7 := rdA_adv hp A6
  have A8 := rdA_adv hp A7
  rcases hp with rfl | rfl <;> (
    have hpl := congrArg Int.toNat A0.1.2.2.2.2.2.1
    simp only [Int.toNat_natCast] at hpl
    refine gz_aload_n dX4_readPeak_0 rfl ?_
    refine gz_aload_n dX4_readPeak_1 rfl ?_
    refine gz_getf 0 dX4_readPeak_2 rfl rfl wf_Heliographs_Reader_9 (by decide) rfl ?_
    refine gz_aload_n dX4_readPeak_5 rfl ?_
    refine gz_getf 4 dX4_readPeak_6 rfl rfl wf_Heliographs_Reader_25 (by decide) (congrArg Value.ref hpl) ?_
    refine gz_getf 0 dX4_readPeak_9 rfl rfl wf_Heliographs_Reader_97 (by decide) (zv_i A0.2.1.1.1) ?_
    refine gv_2 (J := mX4_newName) (d1 := d - 1) dX4_readPeak_12 wm_Heliographs_Reader_100 rfl jzX4_newName (Nat.le_of_ble_eq_true rfl) (Nat.le_of_ble_eq_true rfl) (by omega) ⟨Nat.le_refl _, Nat.le_refl _⟩ (zs_newName (Or.inl ⟨rfl, rfl⟩) hc A0.2.1.2.2.1 (by omega) A0.1 (by omega)) ?_
    refine gz_lstore_n dX4_readPeak_15 (Nat.le_of_ble_eq_true rfl) rfl ?_
    refine gz_aload_n dX4_readPeak_16 rfl ?_
    refine gz_gets (v := .ref 1) dX4_readPeak_17 (by decide) wf_Heliographs_Reader_104 (by first | exact True.intro | (show _ < _; decide)) ?_
    refine gv_1 (J := mX4_expect) (d1 := d - 1) dX4_readPeak_20 wm_Heliographs_Reader_93 rfl jzX4_expect (Nat.le_of_ble_eq_true rfl) (Nat.le_of_ble_eq_true rfl) (by omega) ⟨Nat.le_refl _, Nat.le_refl _⟩ (zs_expect A1.1 (by omega)) ?_
    refine gz_aload_n dX4_readPeak_23 rfl ?_
    refine gz_gets (v := .ref 2) dX4_readPeak_24 (by decide) wf_Heliographs_Reader_107 (by first | exact True.intro | (show _ < _; decide)) ?_
    refine gv_1 (J := mX4_expect) (d1 := d - 1) dX4_readPeak_27 wm_Heliographs_Reader_93 rfl jzX4_expect (Nat.le_of_ble_eq_true rfl) (Nat.le_of_ble_eq_true rfl) (by omega) ⟨Nat.le_refl _, Nat.le_refl _⟩ (zs_expect A2.1 (by omega)) ?_
    refine gz_aload_n dX4_readPeak_30 rfl ?_
    refine zz_iconst dX4_readPeak_31 ?_
    refine zz_bipush (x := 120) dX4_readPeak_32 rfl ?_
    refine gv_2 (J := mX4_number) (d1 := d - 1) dX4_readPeak_34 wm_Heliographs_Reader_110 rfl jzX4_number (Nat.le_of_ble_eq_true rfl) (Nat.le_of_ble_eq_true rfl) (by omega) ⟨Nat.le_refl _, Nat.le_refl _⟩ (zs_number g1 (by omega) A3.1 (by omega)) ?_
    refine gz_istore_n dX4_readPeak_37 (Nat.le_of_ble_eq_true rfl) rfl ?_
    refine gz_aload_n dX4_readPeak_38 rfl ?_
    refine gz_gets (v := .ref 3) dX4_readPeak_39 (by decide) wf_Heliographs_Reader_114 (by first | exact True.intro | (show _ < _; decide)) ?_
    refine gv_1 (J := mX4_expect) (d1 := d - 1) dX4_readPeak_42 wm_Heliographs_Reader_93 rfl jzX4_expect (Nat.le_of_ble_eq_true rfl) (Nat.le_of_ble_eq_true rfl) (by omega) ⟨Nat.le_refl _, Nat.le_refl _⟩ (zs_expect A4.1 (by omega)) ?_
    refine gz_aload_n dX4_readPeak_45 rfl ?_
    refine zz_iconst dX4_readPeak_46 ?_
    refine zz_bipush (x := 120) dX4_readPeak_47 rfl ?_
    refine gv_2 (J := mX4_number) (d1 := d - 1) dX4_readPeak_49 wm_Heliographs_Reader_110 rfl jzX4_number (Nat.le_of_ble_eq_true rfl) (Nat.le_of_ble_eq_true rfl) (by omega) ⟨Nat.le_refl _, Nat.le_refl _⟩ (zs_number g2 (by omega) A5.1 (by omega)) ?_
    refine gz_istore dX4_readPeak_52 (Nat.le_of_ble_eq_true rfl) rfl ?_
    refine gz_aload_n dX4_readPeak_54 rfl ?_
    refine gz_gets (v := .ref 4) dX4_readPeak_55 (by decide) wf_Heliographs_Reader_117 (by first | exact True.intro | (show _ < _; decide)) ?_
    refine gv_1 (J := mX4_expect) (d1 := d - 1) dX4_readPeak_58 wm_Heliographs_Reader_93 rfl jzX4_expect (Nat.le_of_ble_eq_true rfl) (Nat.le_of_ble_eq_true rfl) (by omega) ⟨Nat.le_refl _, Nat.le_refl _⟩ (zs_expect A6.1 (by omega)) ?_
    refine gz_aload_n dX4_readPeak_61 rfl ?_
    refine zz_iconst dX4_readPeak_62 ?_
    refine zz_iconst dX4_readPeak_63 ?_
    refine gv_2 (J := mX4_number) (d1 := d - 1) dX4_readPeak_64 wm_Heliographs_Reader_110 rfl jzX4_number (Nat.le_of_ble_eq_true rfl) (Nat.le_of_ble_eq_true rfl) (by omega) ⟨Nat.le_refl _, Nat.le_refl _⟩ (zs_number g3 (by omega) A7.1 (by omega)) ?_
    refine gz_istore dX4_readPeak_67 (Nat.le_of_ble_eq_true rfl) rfl ?_
    exact zs_peak_fin (by decide) hc rfl rfl rfl A8 (by omega) (fun Z' h => hq Z' h)
  )
theorem zs_readPass {p i np nw nc nm : Nat} {ts : List (Nat × Int)} {D : zV} {hs : zHs} (hp : p = 368 ∨ p = 400) {x y : Nat} (hc : nw < 12) (g4 : (x : Int) = D 4 nw) (g5 : (y : Int) = D 5 nw) (hx : x < np) (hy : y < np) (hxy : y ≠ x) (g6 : 1 ≤ D 6 nw ∧ D 6 nw ≤ 20) (A0 : rdA Z p i ((44, 878 + (nw : Int)) :: (6, 0) :: (44, 619 + (x : Int)) :: (7, 0) :: (44, 619 + (y : Int)) :: (8, 0) :: (45, D 6 nw) :: ts) D np nw nc nm hs) (hd : 5 ≤ d) : zk_DoesR l Γ mX4_readPass d [.ref 327] Z F none (fun Z' => rdA Z' p (i + 7) ts D np (nw + 1) nc nm hs) := by
  intro Q hq
  have hp2 := hp
  have A1 := rdA_adv hp A0
  have A2 := rdA_adv hp A1
  have A3 := rdA_adv hp A2
  have A4 := rdA_adv hp A3
  have A5 := rdA_adv hp A4
  have A6 := rdA_adv hp A5
  have A7 := rdA_adv hp A6
  rcases hp with rfl | rfl <;> (
    have hpl := congrArg Int.toNat A0.1.2.2.2.2.2.1
    simp only [Int.toNat_natCast] at hpl
    refine gz_aload_n dX4_readPass_0 rfl ?_
    refine gz_aload_n dX4_readPass_1 rfl ?_
    refine gz_getf 1 dX4_readPass_2 rfl rfl wf_Heliographs_Reader_15 (by decide) rfl ?_
    refine gz_aload_n dX4_readPass_5 rfl ?_
    refine gz_getf 4 dX4_readPass_6 rfl rfl wf_Heliographs_Reader_25 (by decide) (congrArg Value.ref hpl) ?_
    refine gz_getf 1 dX4_readPass_9 rfl rfl wf_Heliographs_Reader_124 (by decide) (zv_i A0.2.1.1.2.1) ?_
    refine gv_2 (J := mX4_newName) (d1 := d - 1) dX4_readPass_12 wm_Heliographs_Reader_100 rfl jzX4_newName (Nat.le_of_ble_eq_true rfl) (Nat.le_of_ble_eq_true rfl) (by omega) ⟨Nat.le_refl _, Nat.le_refl _⟩ (zs_newName (Or.inr (Or.inl ⟨rfl, rfl⟩)) hc A0.2.1.2.2.2.1 (by omega) A0.1 (by omega)) ?_
    refine gz_lstore_n dX4_readPass_15 (Nat.le_of_ble_eq_true rfl) rfl ?_
    refine gz_aload_n dX4_readPass_16 rfl ?_
    refine gz_gets (v := .ref 6) dX4_readPass_17 (by decide) wf_Heliographs_Reader_127 (by first | exact True.intro | (show _ < _; decide)) ?_
    refine gv_1 (J := mX4_expect) (d1 := d - 1) dX4_readPass_20 wm_Heliographs_Reader_93 rfl jzX4_expect (Nat.le_of_ble_eq_true rfl) (Nat.le_of_ble_eq_true rfl) (by omega) ⟨Nat.le_refl _, Nat.le_refl _⟩ (zs_expect A1.1 (by omega)) ?_
    refine gz_aload_n dX4_readPass_23 rfl ?_
    refine gz_aload_n dX4_readPass_24 rfl ?_
    refine gz_getf 0 dX4_readPass_25 rfl rfl wf_Heliographs_Reader_9 (by decide) rfl ?_
    refine gz_aload_n dX4_readPass_28 rfl ?_
    refine gz_getf 4 dX4_readPass_29 rfl rfl wf_Heliographs_Reader_25 (by decide) (congrArg Value.ref hpl) ?_
    refine gz_getf 0 dX4_readPass_32 rfl rfl wf_Heliographs_Reader_97 (by decide) (zv_i A2.2.1.1.1) ?_
    refine gv_2 (J := mX4_oldName) (d1 := d - 1) dX4_readPass_35 wm_Heliographs_Reader_130 rfl jzX4_oldName (Nat.le_of_ble_eq_true rfl) (Nat.le_of_ble_eq_true rfl) (by omega) ⟨Nat.le_refl _, Nat.le_refl _⟩ (zs_oldName (Or.inl ⟨rfl, rfl⟩) A2.2.1.2.1.1 A2.2.1.2.2.1 (by omega) hx A2.1 (by omega)) ?_
    refine gz_istore_n dX4_readPass_38 (Nat.le_of_ble_eq_true rfl) rfl ?_
    refine gz_aload_n dX4_readPass_39 rfl ?_
    refine gz_gets (v := .ref 7) dX4_readPass_40 (by decide) wf_Heliographs_Reader_134 (by first | exact True.intro | (show _ < _; decide)) ?_
    refine gv_1 (J := mX4_expect) (d1 := d - 1) dX4_readPass_43 wm_Heliographs_Reader_93 rfl jzX4_expect (Nat.le_of_ble_eq_true rfl) (Nat.le_of_ble_eq_true rfl) (by omega) ⟨Nat.le_refl _, Nat.le_refl _⟩ (zs_expect A3.1 (by omega)) ?_
    refine gz_aload_n dX4_readPass_46 rfl ?_
    refine gz_iload_n dX4_readPass_47 rfl ?_
    refine gv_1 (J := mX4_otherPeak) (d1 := d - 1) dX4_readPass_48 wm_Heliographs_Reader_137 rfl jzX4_otherPeak (Nat.le_of_ble_eq_true rfl) (Nat.le_of_ble_eq_true rfl) (by omega) ⟨Nat.le_refl _, Nat.le_refl _⟩ (zs_otherPeak hp2 A4.2.1.1.1 A4.2.1.2.1.1 A4.2.1.2.2.1 (by omega) hy hx hxy A4.1 (by omega)) ?_
    refine gz_istore dX4_readPass_51 (Nat.le_of_ble_eq_true rfl) rfl ?_
    refine gz_aload_n dX4_readPass_53 rfl ?_
    refine gz_gets (v := .ref 8) dX4_readPass_54 (by decide) wf_Heliographs_Reader_141 (by first | exact True.intro | (show _ < _; decide)) ?_
    refine gv_1 (J := mX4_expect) (d1 := d - 1) dX4_readPass_57 wm_Heliographs_Reader_93 rfl jzX4_expect (Nat.le_of_ble_eq_true rfl) (Nat.le_of_ble_eq_true rfl) (by omega) ⟨Nat.le_refl _, Nat.le_refl _⟩ (zs_expect A5.1 (by omega)) ?_
    refine gz_aload_n dX4_readPass_60 rfl ?_
    refine zz_iconst dX4_readPass_61 ?_
    refine zz_bipush (x := 20) dX4_readPass_62 rfl ?_
    refine gv_2 (J := mX4_number) (d1 := d - 1) dX4_readPass_64 wm_Heliographs_Reader_110 rfl jzX4_number (Nat.le_of_ble_eq_true rfl) (Nat.le_of_ble_eq_true rfl) (by omega) ⟨Nat.le_refl _, Nat.le_refl _⟩ (zs_number g6 (by omega) A6.1 (by omega)) ?_
    refine gz_istore dX4_readPass_67 (Nat.le_of_ble_eq_true rfl) rfl ?_
    exact zs_pass_fin (by decide) hc g4 g5 rfl hx hy A7 (by omega) (fun Z' h => hq Z' h)
  )
theorem zs_readCloud {p i np nw nc nm : Nat} {ts : List (Nat × Int)} {D : zV} {hs : zHs} (hp : p = 368 ∨ p = 400) {x : Nat} (hc : nc < 8) (g11 : (x : Int) = D 11 nc) (hx : x < nw) (g12 : 2 ≤ D 12 nc ∧ D 12 nc ≤ 60) (g13 : 1 ≤ D 13 nc ∧ D 13 nc ≤ D 12 nc - 1) (g14 : 0 ≤ D 14 nc ∧ D 14 nc ≤ 59) (A0 : rdA Z p i ((9, 0) :: (10, 0) :: (44, 878 + (x : Int)) :: (11, 0) :: (45, D 12 nc) :: (12, 0) :: (45, D 13 nc) :: (2, 0) :: (45, D 14 nc) :: ts) D np nw nc nm hs) (hd : 4 ≤ d) : zk_DoesR l Γ mX4_readCloud d [.ref 327] Z F none (fun Z' => rdA Z' p (i + 9) ts D np nw (nc + 1) nm hs) := by
  intro Q hq
  have hp2 := hp
  have A1 := rdA_adv hp A0
  have A2 := rdA_adv hp A1
  have A3 := rdA_adv hp A2
  have A4 := rdA_adv hp A3
  have A5 := rdA_adv hp A4
  have A6 := rdA_adv hp A5
  have A7 := rdA_adv hp A6
  have A8 := rdA_adv hp A7
  have A9 := rdA_adv hp A8
  rcases hp with rfl | rfl <;> (
    have hpl := congrArg Int.toNat A0.1.2.2.2.2.2.1
    simp only [Int.toNat_natCast] at hpl
    refine gz_aload_n dX4_readCloud_0 rfl ?_
    refine gz_getf 4 dX4_readCloud_1 rfl rfl wf_Heliographs_Reader_25 (by decide) (congrArg Value.ref hpl) ?_
    refine gz_getf 2 dX4_readCloud_4 rfl rfl wf_Heliographs_Reader_147 (by decide) (zv_i A0.2.2.1.1) ?_
    refine zz_bipush (x := 8) dX4_readCloud_7 rfl ?_
    refine zz_icmp_lt (tgt := 17) dX4_readCloud_9 rfl (by omega) (fun b9 => ?_) (fun b9 => ?_)
    rotate_left
    · exact absurd b9 (by omega)
    refine gz_aload_n dX4_readCloud_17 rfl ?_
    refine gz_gets (v := .ref 9) dX4_readCloud_18 (by decide) wf_Heliographs_Reader_69 (by first | exact True.intro | (show _ < _; decide)) ?_
    refine gv_1 (J := mX4_expect) (d1 := d - 1) dX4_readCloud_21 wm_Heliographs_Reader_93 rfl jzX4_expect (Nat.le_of_ble_eq_true rfl) (Nat.le_of_ble_eq_true rfl) (by omega) ⟨Nat.le_refl _, Nat.le_refl _⟩ (zs_expect A0.1 (by omega)) ?_
    refine gz_aload_n dX4_readCloud_24 rfl ?_
    refine gz_gets (v := .ref 10) dX4_readCloud_25 (by decide) wf_Heliographs_Reader_154 (by first | exact True.intro | (show _ < _; decide)) ?_
    refine gv_1 (J := mX4_expect) (d1 := d - 1) dX4_readCloud_28 wm_Heliographs_Reader_93 rfl jzX4_expect (Nat.le_of_ble_eq_true rfl) (Nat.le_of_ble_eq_true rfl) (by omega) ⟨Nat.le_refl _, Nat.le_refl _⟩ (zs_expect A1.1 (by omega)) ?_
    refine gz_aload_n dX4_readCloud_31 rfl ?_
    refine gz_aload_n dX4_readCloud_32 rfl ?_
    refine gz_getf 1 dX4_readCloud_33 rfl rfl wf_Heliographs_Reader_15 (by decide) rfl ?_
    refine gz_aload_n dX4_readCloud_36 rfl ?_
    refine gz_getf 4 dX4_readCloud_37 rfl rfl wf_Heliographs_Reader_25 (by decide) (congrArg Value.ref hpl) ?_
    refine gz_getf 1 dX4_readCloud_40 rfl rfl wf_Heliographs_Reader_124 (by decide) (zv_i A2.2.1.1.2.1) ?_
    refine gv_2 (J := mX4_oldName) (d1 := d - 1) dX4_readCloud_43 wm_Heliographs_Reader_130 rfl jzX4_oldName (Nat.le_of_ble_eq_true rfl) (Nat.le_of_ble_eq_true rfl) (by omega) ⟨Nat.le_refl _, Nat.le_refl _⟩ (zs_oldName (Or.inr (Or.inl ⟨rfl, rfl⟩)) A2.2.1.2.1.2.1 A2.2.1.2.2.2.1 (by omega) hx A2.1 (by omega)) ?_
    refine gz_istore_n dX4_readCloud_46 (Nat.le_of_ble_eq_true rfl) rfl ?_
    refine gz_aload_n dX4_readCloud_47 rfl ?_
    refine gz_gets (v := .ref 11) dX4_readCloud_48 (by decide) wf_Heliographs_Reader_157 (by first | exact True.intro | (show _ < _; decide)) ?_
    refine gv_1 (J := mX4_expect) (d1 := d - 1) dX4_readCloud_51 wm_Heliographs_Reader_93 rfl jzX4_expect (Nat.le_of_ble_eq_true rfl) (Nat.le_of_ble_eq_true rfl) (by omega) ⟨Nat.le_refl _, Nat.le_refl _⟩ (zs_expect A3.1 (by omega)) ?_
    refine gz_aload_n dX4_readCloud_54 rfl ?_
    refine zz_iconst dX4_readCloud_55 ?_
    refine zz_bipush (x := 60) dX4_readCloud_56 rfl ?_
    refine gv_2 (J := mX4_number) (d1 := d - 1) dX4_readCloud_58 wm_Heliographs_Reader_110 rfl jzX4_number (Nat.le_of_ble_eq_true rfl) (Nat.le_of_ble_eq_true rfl) (by omega) ⟨Nat.le_refl _, Nat.le_refl _⟩ (zs_number g12 (by omega) A4.1 (by omega)) ?_
    refine gz_istore_n dX4_readCloud_61 (Nat.le_of_ble_eq_true rfl) rfl ?_
    refine gz_aload_n dX4_readCloud_62 rfl ?_
    refine gz_gets (v := .ref 12) dX4_readCloud_63 (by decide) wf_Heliographs_Reader_160 (by first | exact True.intro | (show _ < _; decide)) ?_
    refine gv_1 (J := mX4_expect) (d1 := d - 1) dX4_readCloud_66 wm_Heliographs_Reader_93 rfl jzX4_expect (Nat.le_of_ble_eq_true rfl) (Nat.le_of_ble_eq_true rfl) (by omega) ⟨Nat.le_refl _, Nat.le_refl _⟩ (zs_expect A5.1 (by omega)) ?_
    refine gz_aload_n dX4_readCloud_69 rfl ?_
    refine zz_iconst dX4_readCloud_70 ?_
    refine gz_iload_n dX4_readCloud_71 rfl ?_
    refine zz_iconst dX4_readCloud_72 ?_
    refine zz_isub dX4_readCloud_73 ?_
    refine gv_2 (J := mX4_number) (d1 := d - 1) dX4_readCloud_74 wm_Heliographs_Reader_110 rfl jzX4_number (Nat.le_of_ble_eq_true rfl) (Nat.le_of_ble_eq_true rfl) (by omega) ⟨Nat.le_refl _, Nat.le_refl _⟩ (zs_number g13 (by omega) A6.1 (by omega)) ?_
    refine gz_istore_n dX4_readCloud_77 (Nat.le_of_ble_eq_true rfl) rfl ?_
    refine gz_aload_n dX4_readCloud_78 rfl ?_
    refine gz_gets (v := .ref 2) dX4_readCloud_79 (by decide) wf_Heliographs_Reader_107 (by first | exact True.intro | (show _ < _; decide)) ?_
    refine gv_1 (J := mX4_expect) (d1 := d - 1) dX4_readCloud_82 wm_Heliographs_Reader_93 rfl jzX4_expect (Nat.le_of_ble_eq_true rfl) (Nat.le_of_ble_eq_true rfl) (by omega) ⟨Nat.le_refl _, Nat.le_refl _⟩ (zs_expect A7.1 (by omega)) ?_
    refine gz_aload_n dX4_readCloud_85 rfl ?_
    refine zz_iconst dX4_readCloud_86 ?_
    refine zz_bipush (x := 59) dX4_readCloud_87 rfl ?_
    refine gv_2 (J := mX4_number) (d1 := d - 1) dX4_readCloud_89 wm_Heliographs_Reader_110 rfl jzX4_number (Nat.le_of_ble_eq_true rfl) (Nat.le_of_ble_eq_true rfl) (by omega) ⟨Nat.le_refl _, Nat.le_refl _⟩ (zs_number g14 (by omega) A8.1 (by omega)) ?_
    refine gz_istore dX4_readCloud_92 (Nat.le_of_ble_eq_true rfl) rfl ?_
    exact zs_cloud_fin (by decide) hc g11 rfl rfl rfl (by omega) A9 (by omega) (fun Z' h => hq Z' h)
  )
theorem zs_readMessage {p i np nw nc nm : Nat} {ts : List (Nat × Int)} {D : zV} {hs : zHs} (hp : p = 368 ∨ p = 400) {x y : Nat} (hc : nm < 8) (g7 : 1 ≤ D 7 nm ∧ D 7 nm ≤ 40) (g8 : (x : Int) = D 8 nm) (g9 : (y : Int) = D 9 nm) (hx : x < np) (hy : y < np) (hxy : y ≠ x) (g10 : 0 ≤ D 10 nm ∧ D 10 nm ≤ 999) (A0 : rdA Z p i ((44, 508 + (nm : Int)) :: (14, 0) :: (45, D 7 nm) :: (15, 0) :: (44, 619 + (x : Int)) :: (3, 0) :: (44, 619 + (y : Int)) :: (16, 0) :: (45, D 10 nm) :: ts) D np nw nc nm hs) (hd : 5 ≤ d) : zk_DoesR l Γ mX4_readMessage d [.ref 327] Z F none (fun Z' => rdA Z' p (i + 9) ts D np nw nc (nm + 1) hs) := by
  intro Q hq
  have hp2 := hp
  have A1 := rdA_adv hp A0
  have A2 := rdA_adv hp A1
  have A3 := rdA_adv hp A2
  have A4 := rdA_adv hp A3
  have A5 := rdA_adv hp A4
  have A6 := rdA_adv hp A5
  have A7 := rdA_adv hp A6
  have A8 := rdA_adv hp A7
  have A9 := rdA_adv hp A8
  rcases hp with rfl | rfl <;> (
    have hpl := congrArg Int.toNat A0.1.2.2.2.2.2.1
    simp only [Int.toNat_natCast] at hpl
    refine gz_aload_n dX4_readMessage_0 rfl ?_
    refine gz_aload_n dX4_readMessage_1 rfl ?_
    refine gz_getf 2 dX4_readMessage_2 rfl rfl wf_Heliographs_Reader_18 (by decide) rfl ?_
    refine gz_aload_n dX4_readMessage_5 rfl ?_
    refine gz_getf 4 dX4_readMessage_6 rfl rfl wf_Heliographs_Reader_25 (by decide) (congrArg Value.ref hpl) ?_
    refine gz_getf 3 dX4_readMessage_9 rfl rfl wf_Heliographs_Reader_167 (by decide) (zv_i A0.2.1.1.2.2) ?_
    refine gv_2 (J := mX4_newName) (d1 := d - 1) dX4_readMessage_12 wm_Heliographs_Reader_100 rfl jzX4_newName (Nat.le_of_ble_eq_true rfl) (Nat.le_of_ble_eq_true rfl) (by omega) ⟨Nat.le_refl _, Nat.le_refl _⟩ (zs_newName (Or.inr (Or.inr ⟨rfl, rfl⟩)) hc A0.2.1.2.2.2.2 (by omega) A0.1 (by omega)) ?_
    refine gz_lstore_n dX4_readMessage_15 (Nat.le_of_ble_eq_true rfl) rfl ?_
    refine gz_aload_n dX4_readMessage_16 rfl ?_
    refine gz_gets (v := .ref 14) dX4_readMessage_17 (by decide) wf_Heliographs_Reader_170 (by first | exact True.intro | (show _ < _; decide)) ?_
    refine gv_1 (J := mX4_expect) (d1 := d - 1) dX4_readMessage_20 wm_Heliographs_Reader_93 rfl jzX4_expect (Nat.le_of_ble_eq_true rfl) (Nat.le_of_ble_eq_true rfl) (by omega) ⟨Nat.le_refl _, Nat.le_refl _⟩ (zs_expect A1.1 (by omega)) ?_
    refine gz_aload_n dX4_readMessage_23 rfl ?_
    refine zz_iconst dX4_readMessage_24 ?_
    refine zz_bipush (x := 40) dX4_readMessage_25 rfl ?_
    refine gv_2 (J := mX4_number) (d1 := d - 1) dX4_readMessage_27 wm_Heliographs_Reader_110 rfl jzX4_number (Nat.le_of_ble_eq_true rfl) (Nat.le_of_ble_eq_true rfl) (by omega) ⟨Nat.le_refl _, Nat.le_refl _⟩ (zs_number g7 (by omega) A2.1 (by omega)) ?_
    refine gz_istore_n dX4_readMessage_30 (Nat.le_of_ble_eq_true rfl) rfl ?_
    refine gz_aload_n dX4_readMessage_31 rfl ?_
    refine gz_gets (v := .ref 15) dX4_readMessage_32 (by decide) wf_Heliographs_Reader_173 (by first | exact True.intro | (show _ < _; decide)) ?_
    refine gv_1 (J := mX4_expect) (d1 := d - 1) dX4_readMessage_35 wm_Heliographs_Reader_93 rfl jzX4_expect (Nat.le_of_ble_eq_true rfl) (Nat.le_of_ble_eq_true rfl) (by omega) ⟨Nat.le_refl _, Nat.le_refl _⟩ (zs_expect A3.1 (by omega)) ?_
    refine gz_aload_n dX4_readMessage_38 rfl ?_
    refine gz_aload_n dX4_readMessage_39 rfl ?_
    refine gz_getf 0 dX4_readMessage_40 rfl rfl wf_Heliographs_Reader_9 (by decide) rfl ?_
    refine gz_aload_n dX4_readMessage_43 rfl ?_
    refine gz_getf 4 dX4_readMessage_44 rfl rfl wf_Heliographs_Reader_25 (by decide) (congrArg Value.ref hpl) ?_
    refine gz_getf 0 dX4_readMessage_47 rfl rfl wf_Heliographs_Reader_97 (by decide) (zv_i A4.2.1.1.1) ?_
    refine gv_2 (J := mX4_oldName) (d1 := d - 1) dX4_readMessage_50 wm_Heliographs_Reader_130 rfl jzX4_oldName (Nat.le_of_ble_eq_true rfl) (Nat.le_of_ble_eq_true rfl) (by omega) ⟨Nat.le_refl _, Nat.le_refl _⟩ (zs_oldName (Or.inl ⟨rfl, rfl⟩) A4.2.1.2.1.1 A4.2.1.2.2.1 (by omega) hx A4.1 (by omega)) ?_
    refine gz_istore dX4_readMessage_53 (Nat.le_of_ble_eq_true rfl) rfl ?_
    refine gz_aload_n dX4_readMessage_55 rfl ?_
    refine gz_gets (v := .ref 3) dX4_readMessage_56 (by decide) wf_Heliographs_Reader_114 (by first | exact True.intro | (show _ < _; decide)) ?_
    refine gv_1 (J := mX4_expect) (d1 := d - 1) dX4_readMessage_59 wm_Heliographs_Reader_93 rfl jzX4_expect (Nat.le_of_ble_eq_true rfl) (Nat.le_of_ble_eq_true rfl) (by omega) ⟨Nat.le_refl _, Nat.le_refl _⟩ (zs_expect A5.1 (by omega)) ?_
    refine gz_aload_n dX4_readMessage_62 rfl ?_
    refine gz_iload dX4_readMessage_63 rfl ?_
    refine gv_1 (J := mX4_otherPeak) (d1 := d - 1) dX4_readMessage_65 wm_Heliographs_Reader_137 rfl jzX4_otherPeak (Nat.le_of_ble_eq_true rfl) (Nat.le_of_ble_eq_true rfl) (by omega) ⟨Nat.le_refl _, Nat.le_refl _⟩ (zs_otherPeak hp2 A6.2.1.1.1 A6.2.1.2.1.1 A6.2.1.2.2.1 (by omega) hy hx hxy A6.1 (by omega)) ?_
    refine gz_istore dX4_readMessage_68 (Nat.le_of_ble_eq_true rfl) rfl ?_
    refine gz_aload_n dX4_readMessage_70 rfl ?_
    refine gz_gets (v := .ref 16) dX4_readMessage_71 (by decide) wf_Heliographs_Reader_176 (by first | exact True.intro | (show _ < _; decide)) ?_
    refine gv_1 (J := mX4_expect) (d1 := d - 1) dX4_readMessage_74 wm_Heliographs_Reader_93 rfl jzX4_expect (Nat.le_of_ble_eq_true rfl) (Nat.le_of_ble_eq_true rfl) (by omega) ⟨Nat.le_refl _, Nat.le_refl _⟩ (zs_expect A7.1 (by omega)) ?_
    refine gz_aload_n dX4_readMessage_77 rfl ?_
    refine zz_iconst dX4_readMessage_78 ?_
    refine zz_sipush (x := 999) dX4_readMessage_79 rfl ?_
    refine gv_2 (J := mX4_number) (d1 := d - 1) dX4_readMessage_82 wm_Heliographs_Reader_110 rfl jzX4_number (Nat.le_of_ble_eq_true rfl) (Nat.le_of_ble_eq_true rfl) (by omega) ⟨Nat.le_refl _, Nat.le_refl _⟩ (zs_number g10 (by omega) A8.1 (by omega)) ?_
    refine gz_istore dX4_readMessage_85 (Nat.le_of_ble_eq_true rfl) rfl ?_
    exact zs_message_fin (by decide) hc rfl g8 g9 rfl hx hy A9 (by omega) (fun Z' h => hq Z' h)
  )
theorem rdA_hold {Z Z2 : zV} {p i i2 np nw nc nm : Nat} {ts ts2 : List (Nat × Int)} {D : zV} {hs : zHs} {x : Nat} {es : List (Int × Int)} (hp : p = 368 ∨ p = 400) (hc : hs.length < 12) (A : rdA Z p i ts D np nw nc nm hs) (g : rdT p Z Z2 i2 (hsLen hs) es) (S : rdS Z2 p i2 (hsLen hs + es.length) ts2) :
    rdA (zb_u (zb_u (zb_u Z2 (p + 16) hs.length (x : Int)) (p + 17) hs.length ((hsLen hs + es.length : Nat) : Int)) (p + 15) 0 ((hs.length : Int) + 1)) p i2 ts2 D np nw nc nm (hs ++ [(x, es)]) := by
  obtain ⟨h1, h2, h3, h4, h5, ⟨a1, a2, a3⟩, ⟨b1, b2, b3⟩, ⟨c1, c2, c3, c4⟩, ⟨d1, d2, d3, d4⟩⟩ := A
  have o : ∀ a j, ¬ (a = p + 16 ∧ j = hs.length) → ¬ (a = p + 17 ∧ j = hs.length) → ¬ (a = p + 15 ∧ j = 0) → (zb_u (zb_u (zb_u Z2 (p + 16) hs.length (x : Int)) (p + 17) hs.length ((hsLen hs + es.length : Nat) : Int)) (p + 15) 0 ((hs.length : Int) + 1)) a j = Z2 a j := fun a j q0 q1 q2 => by rw [zb_u_no _ _ (by omega), zb_u_no _ _ (by omega), zb_u_no _ _ (by omega)]
  have oz : ∀ a j, (a ≠ 323 ∧ a ≠ p + 15 ∧ a ≠ p + 18 ∧ a ≠ p + 19 ∧ ¬ (a = p + 16 ∧ j = hs.length) ∧ ¬ (a = p + 17 ∧ j = hs.length)) ∨ (a = p + 18 ∨ a = p + 19) ∧ j < hsLen hs → (zb_u (zb_u (zb_u Z2 (p + 16) hs.length (x : Int)) (p + 17) hs.length ((hsLen hs + es.length : Nat) : Int)) (p + 15) 0 ((hs.length : Int) + 1)) a j = Z a j := fun a j q => (o a j (by omega) (by omega) (by omega)).trans (g.1 a j (by omega) (by omega) (by omega))
  have hl2 : (hs ++ [(x, es)]).length = hs.length + 1 := by rw [List.length_append]; rfl
  have hl3 : hsLen (hs ++ [(x, es)]) = hsLen hs + es.length := by rw [hsLen_app]; show hsLen hs + (es.length + 0) = _; omega
  have dr : ∀ {r c : Nat}, 1 ≤ r → r ≤ 14 → dR Z p r D c → dR (zb_u (zb_u (zb_u Z2 (p + 16) hs.length (x : Int)) (p + 17) hs.length ((hsLen hs + es.length : Nat) : Int)) (p + 15) 0 ((hs.length : Int) + 1)) p r D c := fun q1 q2 h => dR_to (fun j hj => oz _ _ (by omega)) h
  refine ⟨?_, ⟨⟨(oz _ _ (by omega)).trans h2.1.1, (oz _ _ (by omega)).trans h2.1.2.1, (oz _ _ (by omega)).trans h2.1.2.2⟩, h2.2.1, fun j hj => (oz _ _ (by omega)).trans (h2.2.2.1 j hj), fun j hj => (oz _ _ (by omega)).trans (h2.2.2.2.1 j hj), fun j hj => (oz _ _ (by omega)).trans (h2.2.2.2.2 j hj)⟩, ⟨(oz _ _ (by omega)).trans h3.1, h3.2.1, fun a j q => (oz _ _ (by omega)).trans (h3.2.2 a j q)⟩, ⟨by rw [zb_u_at, hl2]; omega, by omega⟩, ?_, ⟨dr (by omega) (by omega) a1, dr (by omega) (by omega) a2, dr (by omega) (by omega) a3⟩, ⟨dr (by omega) (by omega) b1, dr (by omega) (by omega) b2, dr (by omega) (by omega) b3⟩, ⟨dr (by omega) (by omega) c1, dr (by omega) (by omega) c2, dr (by omega) (by omega) c3, dr (by omega) (by omega) c4⟩, ⟨dr (by omega) (by omega) d1, dr (by omega) (by omega) d2, dr (by omega) (by omega) d3, dr (by omega) (by omega) d4⟩⟩
  · rw [hl3]
    exact rdS_to (fun a j q => o _ _ (by omega) (by omega) (by omega)) S
  · refine hHd_app (hHd_to (m := hs.length) (n := hsLen hs) (fun a j q1 q2 => oz _ _ (by omega)) (fun a j q1 q2 => oz _ _ (by omega)) (by omega) (by omega) h5) ⟨?_, ?_, ?_, trivial⟩
    · rw [Nat.zero_add, zb_u_no _ _ (by omega), zb_u_no _ _ (by omega), zb_u_at]
    · rw [Nat.zero_add, Nat.zero_add, zb_u_no _ _ (by omega), zb_u_at]
    · rw [Nat.zero_add]
      exact hEm_to (m := hsLen hs + es.length) (fun a j q1 q2 => o _ _ (by omega) (by omega) (by omega)) (Nat.le_refl _) g.2.2.2
theorem rdA_R {Z : zV} {p i np nw nc nm : Nat} {ts : List (Nat × Int)} {D : zV} {hs : zHs} (A : rdA Z p i ts D np nw nc nm hs) : rdT p Z Z i (hsLen hs) [] := rdT_refl A.1
theorem zs_readHold {p i np nw nc nm : Nat} {ts : List (Nat × Int)} {D : zV} {hs : zHs} (hp : p = 368 ∨ p = 400) {x k : Nat} {v2 : Int} {tt : List (Nat × Int)} {es : List (Int × Int)} (hc : hs.length < 12) (hx : x < nm) (hl : hsLen hs + es.length < 400) (hk : k ∉ ([7, 26, 35, 36, 37, 38] : List Nat)) (hT : zRd l Γ F p np nw nm (d - 1) mX4_readTest 0 [7, 26, 35, 36, 37, 38] tt es) (A0 : rdA Z p i ((17, 0) :: (44, 508 + (x : Int)) :: (18, 0) :: (tt ++ (k, v2) :: ts)) D np nw nc nm hs) (hd : 5 ≤ d) : zk_DoesR l Γ mX4_readHold d [.ref 327] Z F none (fun Z' => rdA Z' p (i + 3 + tt.length) ((k, v2) :: ts) D np nw nc nm (hs ++ [(x, es)])) := by
  intro Q hq
  have hp2 := hp
  have A1 := rdA_adv hp A0
  have A2 := rdA_adv hp A1
  have A3 := rdA_adv hp A2
  have hgo := hT _ _ _ _ _ _ A3.1 A3.2.1 hk hl
  have fin : ∀ Z2, rdT p (zb_u (zb_u (zb_u Z 323 4 ((i : Int) + 1)) 323 4 (((i + 1 : Nat) : Int) + 1)) 323 4 (((i + 1 + 1 : Nat) : Int) + 1)) Z2 (i + 1 + 1 + 1 + tt.length) (hsLen hs) es → Z2 327 5 = 0 ∧ Z2 327 4 = (p : Int) ∧ Z2 (p + 15) 0 = (hs.length : Int) ∧ Z2 (p + 15) 5 = ((hsLen hs + es.length : Nat) : Int) ∧ ∀ Z3, Z3 = (zb_u (zb_u (zb_u Z2 (p + 16) hs.length (x : Int)) (p + 17) hs.length ((hsLen hs + es.length : Nat) : Int)) (p + 15) 0 ((hs.length : Int) + 1)) → Q none (zb_M Z3) F := fun Z2 g => by
    have S := rdS_T (ts := tt) hp A3.1 g (by omega)
    exact ⟨S.2.2.2.2.2.2.1, S.2.2.2.2.2.1, (g.1 _ _ (by omega) (by omega) (by omega)).trans A3.2.2.2.1.1, g.2.2.1, fun Z3 e => by subst e; exact hq _ (rdA_hold hp hc A3 g S)⟩
  rcases hp with rfl | rfl <;> (
    have hpl := congrArg Int.toNat A0.1.2.2.2.2.2.1
    simp only [Int.toNat_natCast] at hpl
    refine gz_aload_n dX4_readHold_0 rfl ?_
    refine gz_getf 4 dX4_readHold_1 rfl rfl wf_Heliographs_Reader_25 (by decide) (congrArg Value.ref hpl) ?_
    refine gz_getf 14 dX4_readHold_4 rfl rfl wf_Heliographs_Reader_182 (by decide) rfl ?_
    refine gz_getf 0 dX4_readHold_7 rfl rfl wf_Heliographs_Reader_186 (by decide) (zv_i A0.2.2.2.1.1) ?_
    refine zz_bipush (x := 12) dX4_readHold_10 rfl ?_
    refine zz_icmp_lt (tgt := 20) dX4_readHold_12 rfl (by omega) (fun b12 => ?_) (fun b12 => ?_)
    rotate_left
    · exact absurd b12 (by omega)
    refine gz_aload_n dX4_readHold_20 rfl ?_
    refine gz_gets (v := .ref 17) dX4_readHold_21 (by decide) wf_Heliographs_Reader_81 (by first | exact True.intro | (show _ < _; decide)) ?_
    refine gv_1 (J := mX4_expect) (d1 := d - 1) dX4_readHold_24 wm_Heliographs_Reader_93 rfl jzX4_expect (Nat.le_of_ble_eq_true rfl) (Nat.le_of_ble_eq_true rfl) (by omega) ⟨Nat.le_refl _, Nat.le_refl _⟩ (zs_expect A0.1 (by omega)) ?_
    refine gz_aload_n dX4_readHold_27 rfl ?_
    refine gz_aload_n dX4_readHold_28 rfl ?_
    refine gz_getf 2 dX4_readHold_29 rfl rfl wf_Heliographs_Reader_18 (by decide) rfl ?_
    refine gz_aload_n dX4_readHold_32 rfl ?_
    refine gz_getf 4 dX4_readHold_33 rfl rfl wf_Heliographs_Reader_25 (by decide) (congrArg Value.ref hpl) ?_
    refine gz_getf 3 dX4_readHold_36 rfl rfl wf_Heliographs_Reader_167 (by decide) (zv_i A1.2.1.1.2.2) ?_
    refine gv_2 (J := mX4_oldName) (d1 := d - 1) dX4_readHold_39 wm_Heliographs_Reader_130 rfl jzX4_oldName (Nat.le_of_ble_eq_true rfl) (Nat.le_of_ble_eq_true rfl) (by omega) ⟨Nat.le_refl _, Nat.le_refl _⟩ (zs_oldName (Or.inr (Or.inr ⟨rfl, rfl⟩)) A1.2.1.2.1.2.2 A1.2.1.2.2.2.2 (by omega) hx A1.1 (by omega)) ?_
    refine gz_istore_n dX4_readHold_42 (Nat.le_of_ble_eq_true rfl) rfl ?_
    refine gz_aload_n dX4_readHold_43 rfl ?_
    refine gz_gets (v := .ref 18) dX4_readHold_44 (by decide) wf_Heliographs_Reader_191 (by first | exact True.intro | (show _ < _; decide)) ?_
    refine gv_1 (J := mX4_expect) (d1 := d - 1) dX4_readHold_47 wm_Heliographs_Reader_93 rfl jzX4_expect (Nat.le_of_ble_eq_true rfl) (Nat.le_of_ble_eq_true rfl) (by omega) ⟨Nat.le_refl _, Nat.le_refl _⟩ (zs_expect A2.1 (by omega)) ?_
    refine gz_aload_n dX4_readHold_50 rfl ?_
    refine zz_iconst dX4_readHold_51 ?_
    refine gq_1 (J := mX4_readTest) (d1 := d - 1) dX4_readHold_52 wm_Heliographs_Reader_194 rfl jzX4_readTest (Nat.le_of_ble_eq_true rfl) (Nat.le_of_ble_eq_true rfl) (by omega) (hgo) (fun Z52 hZ52 => ?_)
    have hpl2 := congrArg Int.toNat (fin _ hZ52).2.1
    simp only [Int.toNat_natCast] at hpl2
    refine gz_aload_n dX4_readHold_55 rfl ?_
    refine gz_getf 5 dX4_readHold_56 rfl rfl wf_Heliographs_Reader_34 (by decide) (zv_i (fin _ hZ52).1) ?_
    refine zz_if_ne (tgt := 73) dX4_readHold_59 rfl (by omega) (fun b59 => ?_) (fun b59 => ?_)
    · exact absurd b59 (by omega)
    refine gz_aload_n dX4_readHold_62 rfl ?_
    refine gz_getf 4 dX4_readHold_63 rfl rfl wf_Heliographs_Reader_25 (by decide) (congrArg Value.ref hpl2) ?_
    refine gz_getf 14 dX4_readHold_66 rfl rfl wf_Heliographs_Reader_182 (by decide) rfl ?_
    refine gz_iload_n dX4_readHold_69 rfl ?_
    refine gv_1 (J := mX2_close) (d1 := d - 1) dX4_readHold_70 wm_Heliographs_Reader_197 rfl jzX2_close (Nat.le_of_ble_eq_true rfl) (Nat.le_of_ble_eq_true rfl) (by omega) ⟨Nat.le_refl _, Nat.le_refl _⟩ (zs_close (by decide) hc (fin _ hZ52).2.2.1 (fin _ hZ52).2.2.2.1) ?_
    refine gz_return_ dX4_readHold_73 rfl ?_
    exact (fin _ hZ52).2.2.2.2 _ rfl
  )
end

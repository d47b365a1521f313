/-! THE READER: the tests of orders -/
section
variable {l : Launch} {Γ : zk_G} {d : Nat} {Z : Nat → Nat → Int} {F : Heap → Prop}
/-- the names that the reader knows -/
def rdN (Z : zV) (p np nw nm : Nat) : Prop := (Z p 0 = (np : Int) ∧ Z p 1 = (nw : Int) ∧ Z p 3 = (nm : Int)) ∧ (np ≤ 8 ∧ nw ≤ 12 ∧ nm ≤ 8) ∧ (∀ j : Nat, j < np → Z 328 j = 619 + (j : Int)) ∧ (∀ j : Nat, j < nw → Z 329 j = 878 + (j : Int)) ∧ (∀ j : Nat, j < nm → Z 330 j = 508 + (j : Int))
/-- operations of orders, from n on -/
def hEm (Z : zV) (p : Nat) : Nat → List (Int × Int) → Prop
  | _, [] => True
  | n, x :: es => Z (p + 18) n = x.1 ∧ Z (p + 19) n = x.2 ∧ hEm Z p (n + 1) es
theorem hEm_to {Z Z2 : zV} {p : Nat} : ∀ {es : List (Int × Int)} {n m : Nat}, (∀ a j, a = p + 18 ∨ a = p + 19 → j < m → Z2 a j = Z a j) → n + es.length ≤ m → hEm Z p n es → hEm Z2 p n es
  | [], _, _, _, _, _ => trivial
  | x :: es, n, m, h, hm, g => by
    have e : (x :: es).length = es.length + 1 := rfl
    exact ⟨(h _ n (Or.inl rfl) (by omega)).trans g.1, (h _ n (Or.inr rfl) (by omega)).trans g.2.1, hEm_to h (by omega) g.2.2⟩
theorem hEm_app {Z : zV} {p : Nat} : ∀ {es fs : List (Int × Int)} {n : Nat}, hEm Z p n es → hEm Z p (n + es.length) fs → hEm Z p n (es ++ fs)
  | [], _, _, _, g => g
  | x :: es, fs, n, h, g => ⟨h.1, h.2.1, hEm_app h.2.2 (by rw [show n + 1 + es.length = n + (es.length + 1) from by omega]; exact g)⟩
def rdT (p : Nat) (Z Z' : zV) (i' n : Nat) (es : List (Int × Int)) : Prop := (∀ a j, ¬ (a = 323 ∧ j = 4) → ¬ (a = p + 15 ∧ j = 5) → ¬ ((a = p + 18 ∨ a = p + 19) ∧ n ≤ j) → Z' a j = Z a j) ∧ Z' 323 4 = (i' : Int) ∧ Z' (p + 15) 5 = ((n + es.length : Nat) : Int) ∧ hEm Z' p n es
theorem rdT_refl {Z : zV} {p i n : Nat} {ts : List (Nat × Int)} (h : rdS Z p i n ts) : rdT p Z Z i n [] := ⟨fun _ _ _ _ _ => rfl, h.1, h.2.2.2.2.2.2.2.1, trivial⟩
theorem rdT_adv {Z Z1 : zV} {p i n : Nat} {es : List (Int × Int)} (hp : p = 368 ∨ p = 400) (h : rdT p Z Z1 i n es) : rdT p Z (zb_u Z1 323 4 ((i : Int) + 1)) (i + 1) n es :=
  ⟨fun a j q1 q2 q3 => (zb_u_no _ _ (by omega)).trans (h.1 a j q1 q2 q3), (zb_u_at _ _ _ _).trans (by omega), (zb_u_a _ _ (by omega)).trans h.2.2.1, hEm_to (m := n + es.length) (fun a j q1 q2 => zb_u_a _ _ (by omega)) (Nat.le_refl _) h.2.2.2⟩
theorem rdT_emit {Z Z1 : zV} {p i n : Nat} {es : List (Int × Int)} (hp : p = 368 ∨ p = 400) (op ov : Int) (h : rdT p Z Z1 i n es) : rdT p Z (zb_u (zb_u (zb_u Z1 (p + 18) (n + es.length) op) (p + 19) (n + es.length) ov) (p + 15) 5 (((n + es.length : Nat) : Int) + 1)) i n (es ++ [(op, ov)]) := by
  refine ⟨fun a j q1 q2 q3 => ?_, ?_, ?_, hEm_app (hEm_to (m := n + es.length) (fun a j q1 q2 => ?_) (Nat.le_refl _) h.2.2.2) ⟨?_, ?_, trivial⟩⟩
  · rw [zb_u_no _ _ (by omega), zb_u_no _ _ (by omega), zb_u_no _ _ (by omega)]; exact h.1 a j q1 q2 q3
  · rw [zb_u_no _ _ (by omega), zb_u_no _ _ (by omega), zb_u_no _ _ (by omega)]; exact h.2.1
  · rw [zb_u_at, List.length_append]; show _ = ((n + (es.length + 1) : Nat) : Int); omega
  · rw [zb_u_no _ _ (by omega), zb_u_no _ _ (by omega), zb_u_no _ _ (by omega)]
  · rw [zb_u_no _ _ (by omega), zb_u_no _ _ (by omega), zb_u_at]
  · rw [zb_u_no _ _ (by omega), zb_u_at]
theorem rdT_trans {Z Z1 Z2 : zV} {p i1 i2 n : Nat} {es fs : List (Int × Int)} (h : rdT p Z Z1 i1 n es) (g : rdT p Z1 Z2 i2 (n + es.length) fs) (hp : p = 368 ∨ p = 400) : rdT p Z Z2 i2 n (es ++ fs) := by
  refine ⟨fun a j q1 q2 q3 => (g.1 a j q1 q2 (by omega)).trans (h.1 a j q1 q2 q3), g.2.1, g.2.2.1.trans (by rw [List.length_append]; omega), hEm_app (hEm_to (m := n + es.length) (fun a j q1 q2 => g.1 a j (by omega) (by omega) (by omega)) (Nat.le_refl _) h.2.2.2) g.2.2.2⟩
theorem hTk_drop {Z : zV} : ∀ {ts r : List (Nat × Int)} {i : Nat}, hTk Z i (ts ++ r) → hTk Z (i + ts.length) r
  | [], _, _, h => h
  | x :: ts, r, i, h => by
    have q := hTk_drop h.2.2
    show hTk Z (i + (ts.length + 1)) r
    rw [show i + (ts.length + 1) = i + 1 + ts.length from by omega]
    exact q
theorem rdS_T {Z Z' : zV} {p i n : Nat} {ts r : List (Nat × Int)} {es : List (Int × Int)} (hp : p = 368 ∨ p = 400) (h : rdS Z p i n (ts ++ r)) (g : rdT p Z Z' (i + ts.length) n es) (hn : n + es.length ≤ 400) : rdS Z' p (i + ts.length) (n + es.length) r := by
  obtain ⟨h1, h2, h3, h4, h5, h6, h7, h8, h9⟩ := h
  rw [List.length_append] at h2 h3
  exact ⟨g.2.1, (g.1 323 3 (by omega) (by omega) (by omega)).trans (h2.trans (by omega)), by omega, hTk_to (fun a j q1 q2 => g.1 a j (by omega) (by omega) (by omega)) (hTk_drop h4), fun x hx => h5 x (List.mem_append_right _ hx), (g.1 _ _ (by omega) (by omega) (by omega)).trans h6, (g.1 _ _ (by omega) (by omega) (by omega)).trans h7, g.2.2.1, hn⟩
theorem rdN_T {Z Z' : zV} {p np nw nm i n : Nat} {es : List (Int × Int)} (hp : p = 368 ∨ p = 400) (h : rdN Z p np nw nm) (g : rdT p Z Z' i n es) : rdN Z' p np nw nm := by
  obtain ⟨⟨h1, h2, h3⟩, h4, h5, h6, h7⟩ := h
  have e : ∀ a j, a = p ∨ a = 328 ∨ a = 329 ∨ a = 330 → Z' a j = Z a j := fun a j q => g.1 a j (by omega) (by omega) (by omega)
  exact ⟨⟨(e _ _ (by omega)).trans h1, (e _ _ (by omega)).trans h2, (e _ _ (by omega)).trans h3⟩, h4, fun j hj => (e _ _ (by omega)).trans (h5 j hj), fun j hj => (e _ _ (by omega)).trans (h6 j hj), fun j hj => (e _ _ (by omega)).trans (h7 j hj)⟩
/-- a method of the reader reads these tokens, and tells these operations -/
def zRd (l : Launch) (Γ : zk_G) (F : Heap → Prop) (p np nw nm d : Nat) (J : zk_MI) (dep : Nat) (bad : List Nat) (ts : List (Nat × Int)) (es : List (Int × Int)) : Prop :=
  ∀ (Z : zV) (i n k : Nat) (v2 : Int) (r : List (Nat × Int)), rdS Z p i n (ts ++ (k, v2) :: r) → rdN Z p np nw nm → k ∉ bad → n + es.length < 400 → zk_DoesR l Γ J d [.ref 327, .int (iZ (dep : Int))] Z F none (fun Z' => rdT p Z Z' (i + ts.length) n es)
theorem bnot {k : Nat} {b : List Nat} {x : Nat} (h : k ∉ b) (hx : x ∈ b) : k ≠ x := fun e => h (e ▸ hx)
theorem rd_val_num {p np nw nm dep : Nat} (hp : p = 368 ∨ p = 400) {v : Int} (hv : 0 ≤ v ∧ v < 1000000) (hd : 4 ≤ d) : zRd l Γ F p np nw nm d mX4_readValue dep [] ([(45, v)]) ([(0, v)]) := by
  intro Z i n k v2 r h hN hb hn Q hq
  have hp2 := hp
  have h0 : rdS Z p i n ((45, v) :: (k, v2) :: r) := h
  have E0 := rdT_refl h0
  have hel : n + 1 < 400 := by have : ([(0, v)] : List (Int × Int)).length = 1 := rfl; omega
  have E1 := rdT_emit hp 0 v E0
  have h1 : rdS (zb_u (zb_u (zb_u Z (p + 18) n 0) (p + 19) n v) (p + 15) 5 ((n : Int) + 1)) p i (n + 1) ((45, v) :: (k, v2) :: r) := rdS_T (ts := []) hp h0 E1 (by show n + 1 ≤ 400; omega)
  rcases hp with rfl | rfl <;> (
    refine gz_aload_n dX4_readValue_0 rfl ?_
    refine gz_getf 3 dX4_readValue_1 rfl rfl wf_Heliographs_Reader_21 (by decide) rfl ?_
    refine gv_0 (J := mX6_kind) (d1 := d - 1) dX4_readValue_4 wm_Heliographs_Reader_41 rfl jzX6_kind (Nat.le_of_ble_eq_true rfl) (Nat.le_of_ble_eq_true rfl) (by omega) ⟨Nat.le_refl _, Nat.le_refl _⟩ (zs_kind h0) ?_
    refine gz_gets (v := .ref 45) dX4_readValue_7 (by decide) wf_Heliographs_Reader_275 (by first | exact True.intro | (show _ < _; decide)) ?_
    refine gz_acmp_ne (tgt := 36) dX4_readValue_10 rfl (by show (zb_s _).1 < 1000; decide) (by show (zb_s _).1 < 1000; decide) (by decide) (fun b10 => ?_) (fun b10 => ?_)
    · exact absurd b10 (by omega)
    refine gz_aload_n dX4_readValue_13 rfl ?_
    refine zz_iconst dX4_readValue_14 ?_
    refine gz_aload_n dX4_readValue_15 rfl ?_
    refine gz_getf 3 dX4_readValue_16 rfl rfl wf_Heliographs_Reader_21 (by decide) rfl ?_
    refine gv_0 (J := mX6_value) (d1 := d - 1) dX4_readValue_19 wm_Heliographs_Reader_278 rfl jzX6_value (Nat.le_of_ble_eq_true rfl) (Nat.le_of_ble_eq_true rfl) (by omega) ⟨Nat.le_refl _, Nat.le_refl _⟩ (zs_value h0 (Or.inr rfl)) ?_
    refine gz_l2i dX4_readValue_22 (lZ_i v) ?_
    refine gv_2 (J := mX4_emit) (d1 := d - 1) dX4_readValue_23 wm_Heliographs_Reader_206 rfl jzX4_emit (Nat.le_of_ble_eq_true rfl) (Nat.le_of_ble_eq_true rfl) (by omega) ⟨Nat.le_refl _, Nat.le_refl _⟩ (zs_emit hp2 h0.2.2.2.2.2.1 (by omega) h0.2.2.2.2.2.2.2.1 (by omega)) ?_
    refine gz_aload_n dX4_readValue_26 rfl ?_
    refine gz_getf 3 dX4_readValue_27 rfl rfl wf_Heliographs_Reader_21 (by decide) rfl ?_
    refine gv_0 (J := mX6_advance) (d1 := d - 1) dX4_readValue_30 wm_Heliographs_Reader_239 rfl jzX6_advance (Nat.le_of_ble_eq_true rfl) (Nat.le_of_ble_eq_true rfl) (by omega) ⟨Nat.le_refl _, Nat.le_refl _⟩ (zs_advance h1) ?_
    refine gz_goto (tgt := 280) dX4_readValue_33 rfl ?_
    refine gz_return_ dX4_readValue_280 rfl ?_
    exact hq _ (rdT_adv hp2 E1)
  )
theorem rd_val_minute {p np nw nm dep : Nat} (hp : p = 368 ∨ p = 400)  (hd : 4 ≤ d) : zRd l Γ F p np nw nm d mX4_readValue dep [] ([(19, 0)]) ([(1, 0)]) := by
  intro Z i n k v2 r h hN hb hn Q hq
  have hp2 := hp
  have h0 : rdS Z p i n ((19, 0) :: (k, v2) :: r) := h
  have E0 := rdT_refl h0
  have hel : n + 1 < 400 := by have : ([(1, 0)] : List (Int × Int)).length = 1 := rfl; omega
  have h1 := rdS_adv hp h0
  have E1 := rdT_adv hp E0
  have E2 := rdT_emit hp 1 0 E1
  rcases hp with rfl | rfl <;> (
    refine gz_aload_n dX4_readValue_0 rfl ?_
    refine gz_getf 3 dX4_readValue_1 rfl rfl wf_Heliographs_Reader_21 (by decide) rfl ?_
    refine gv_0 (J := mX6_kind) (d1 := d - 1) dX4_readValue_4 wm_Heliographs_Reader_41 rfl jzX6_kind (Nat.le_of_ble_eq_true rfl) (Nat.le_of_ble_eq_true rfl) (by omega) ⟨Nat.le_refl _, Nat.le_refl _⟩ (zs_kind h0) ?_
    refine gz_gets (v := .ref 45) dX4_readValue_7 (by decide) wf_Heliographs_Reader_275 (by first | exact True.intro | (show _ < _; decide)) ?_
    refine gz_acmp_ne (tgt := 36) dX4_readValue_10 rfl (by show (zb_s _).1 < 1000; decide) (by show (zb_s _).1 < 1000; decide) (by decide) (fun b10 => ?_) (fun b10 => ?_)
    rotate_left
    · exact absurd b10 (by omega)
    refine gz_aload_n dX4_readValue_36 rfl ?_
    refine gz_gets (v := .ref 19) dX4_readValue_37 (by decide) wf_Heliographs_Reader_282 (by first | exact True.intro | (show _ < _; decide)) ?_
    refine gv_1 (J := mX4_accept) (d1 := d - 1) dX4_readValue_40 wm_Heliographs_Reader_56 rfl jzX4_accept (Nat.le_of_ble_eq_true rfl) (Nat.le_of_ble_eq_true rfl) (by omega) ⟨Nat.le_refl _, Nat.le_refl _⟩ (zs_accept_t h0 (by omega)) ?_
    refine zz_if_eq (tgt := 55) dX4_readValue_43 rfl (by omega) (fun b43 => ?_) (fun b43 => ?_)
    · exact absurd b43 (by omega)
    refine gz_aload_n dX4_readValue_46 rfl ?_
    refine zz_iconst dX4_readValue_47 ?_
    refine zz_iconst dX4_readValue_48 ?_
    refine gv_2 (J := mX4_emit) (d1 := d - 1) dX4_readValue_49 wm_Heliographs_Reader_206 rfl jzX4_emit (Nat.le_of_ble_eq_true rfl) (Nat.le_of_ble_eq_true rfl) (by omega) ⟨Nat.le_refl _, Nat.le_refl _⟩ (zs_emit hp2 h1.2.2.2.2.2.1 (by omega) h1.2.2.2.2.2.2.2.1 (by omega)) ?_
    refine gz_goto (tgt := 280) dX4_readValue_52 rfl ?_
    refine gz_return_ dX4_readValue_280 rfl ?_
    exact hq _ E2
  )
theorem rd_val_queue {p np nw nm dep : Nat} (hp : p = 368 ∨ p = 400) {x : Nat} (hx : x < np) (hd : 5 ≤ d) : zRd l Γ F p np nw nm d mX4_readValue dep [] ([(20, 0), (44, 619 + (x : Int))]) ([(2, (x : Int))]) := by
  intro Z i n k v2 r h hN hb hn Q hq
  have hp2 := hp
  have h0 : rdS Z p i n ((20, 0) :: (44, 619 + (x : Int)) :: (k, v2) :: r) := h
  have E0 := rdT_refl h0
  have hel : n + 1 < 400 := by have : ([(2, (x : Int))] : List (Int × Int)).length = 1 := rfl; omega
  have h1 := rdS_adv hp h0
  have E1 := rdT_adv hp E0
  have N1 := rdN_T hp hN E1
  have h2 := rdS_adv hp h1
  have E2 := rdT_adv hp E1
  have E3 := rdT_emit hp 2 (x : Int) E2
  rcases hp with rfl | rfl <;> (
    have hpl := congrArg Int.toNat h1.2.2.2.2.2.1
    simp only [Int.toNat_natCast] at hpl
    refine gz_aload_n dX4_readValue_0 rfl ?_
    refine gz_getf 3 dX4_readValue_1 rfl rfl wf_Heliographs_Reader_21 (by decide) rfl ?_
    refine gv_0 (J := mX6_kind) (d1 := d - 1) dX4_readValue_4 wm_Heliographs_Reader_41 rfl jzX6_kind (Nat.le_of_ble_eq_true rfl) (Nat.le_of_ble_eq_true rfl) (by omega) ⟨Nat.le_refl _, Nat.le_refl _⟩ (zs_kind h0) ?_
    refine gz_gets (v := .ref 45) dX4_readValue_7 (by decide) wf_Heliographs_Reader_275 (by first | exact True.intro | (show _ < _; decide)) ?_
    refine gz_acmp_ne (tgt := 36) dX4_readValue_10 rfl (by show (zb_s _).1 < 1000; decide) (by show (zb_s _).1 < 1000; decide) (by decide) (fun b10 => ?_) (fun b10 => ?_)
    rotate_left
    · exact absurd b10 (by omega)
    refine gz_aload_n dX4_readValue_36 rfl ?_
    refine gz_gets (v := .ref 19) dX4_readValue_37 (by decide) wf_Heliographs_Reader_282 (by first | exact True.intro | (show _ < _; decide)) ?_
    refine gv_1 (J := mX4_accept) (d1 := d - 1) dX4_readValue_40 wm_Heliographs_Reader_56 rfl jzX4_accept (Nat.le_of_ble_eq_true rfl) (Nat.le_of_ble_eq_true rfl) (by omega) ⟨Nat.le_refl _, Nat.le_refl _⟩ (zs_accept_f h0 (by decide) (by decide) (by omega)) ?_
    refine zz_if_eq (tgt := 55) dX4_readValue_43 rfl (by omega) (fun b43 => ?_) (fun b43 => ?_)
    rotate_left
    · exact absurd b43 (by omega)
    refine gz_aload_n dX4_readValue_55 rfl ?_
    refine gz_gets (v := .ref 20) dX4_readValue_56 (by decide) wf_Heliographs_Reader_285 (by first | exact True.intro | (show _ < _; decide)) ?_
    refine gv_1 (J := mX4_accept) (d1 := d - 1) dX4_readValue_59 wm_Heliographs_Reader_56 rfl jzX4_accept (Nat.le_of_ble_eq_true rfl) (Nat.le_of_ble_eq_true rfl) (by omega) ⟨Nat.le_refl _, Nat.le_refl _⟩ (zs_accept_t h0 (by omega)) ?_
    refine zz_if_eq (tgt := 88) dX4_readValue_62 rfl (by omega) (fun b62 => ?_) (fun b62 => ?_)
    · exact absurd b62 (by omega)
    refine gz_aload_n dX4_readValue_65 rfl ?_
    refine zz_iconst dX4_readValue_66 ?_
    refine gz_aload_n dX4_readValue_67 rfl ?_
    refine gz_aload_n dX4_readValue_68 rfl ?_
    refine gz_getf 0 dX4_readValue_69 rfl rfl wf_Heliographs_Reader_9 (by decide) rfl ?_
    refine gz_aload_n dX4_readValue_72 rfl ?_
    refine gz_getf 4 dX4_readValue_73 rfl rfl wf_Heliographs_Reader_25 (by decide) (congrArg Value.ref hpl) ?_
    refine gz_getf 0 dX4_readValue_76 rfl rfl wf_Heliographs_Reader_97 (by decide) (zv_i N1.1.1) ?_
    refine gv_2 (J := mX4_oldName) (d1 := d - 1) dX4_readValue_79 wm_Heliographs_Reader_130 rfl jzX4_oldName (Nat.le_of_ble_eq_true rfl) (Nat.le_of_ble_eq_true rfl) (by omega) ⟨Nat.le_refl _, Nat.le_refl _⟩ (zs_oldName (Or.inl ⟨rfl, rfl⟩) N1.2.1.1 N1.2.2.1 (by omega) hx h1 (by omega)) ?_
    refine gv_2 (J := mX4_emit) (d1 := d - 1) dX4_readValue_82 wm_Heliographs_Reader_206 rfl jzX4_emit (Nat.le_of_ble_eq_true rfl) (Nat.le_of_ble_eq_true rfl) (by omega) ⟨Nat.le_refl _, Nat.le_refl _⟩ (zs_emit hp2 h2.2.2.2.2.2.1 (by omega) h2.2.2.2.2.2.2.2.1 (by omega)) ?_
    refine gz_goto (tgt := 280) dX4_readValue_85 rfl ?_
    refine gz_return_ dX4_readValue_280 rfl ?_
    exact hq _ E3
  )
theorem rd_val_left {p np nw nm dep : Nat} (hp : p = 368 ∨ p = 400) {x : Nat} (hx : x < nm) (hd : 5 ≤ d) : zRd l Γ F p np nw nm d mX4_readValue dep [] ([(21, 0), (44, 508 + (x : Int))]) ([(3, (x : Int))]) := by
  intro Z i n k v2 r h hN hb hn Q hq
  have hp2 := hp
  have h0 : rdS Z p i n ((21, 0) :: (44, 508 + (x : Int)) :: (k, v2) :: r) := h
  have E0 := rdT_refl h0
  have hel : n + 1 < 400 := by have : ([(3, (x : Int))] : List (Int × Int)).length = 1 := rfl; omega
  have h1 := rdS_adv hp h0
  have E1 := rdT_adv hp E0
  have N1 := rdN_T hp hN E1
  have h2 := rdS_adv hp h1
  have E2 := rdT_adv hp E1
  have E3 := rdT_emit hp 3 (x : Int) E2
  rcases hp with rfl | rfl <;> (
    have hpl := congrArg Int.toNat h1.2.2.2.2.2.1
    simp only [Int.toNat_natCast] at hpl
    refine gz_aload_n dX4_readValue_0 rfl ?_
    refine gz_getf 3 dX4_readValue_1 rfl rfl wf_Heliographs_Reader_21 (by decide) rfl ?_
    refine gv_0 (J := mX6_kind) (d1 := d - 1) dX4_readValue_4 wm_Heliographs_Reader_41 rfl jzX6_kind (Nat.le_of_ble_eq_true rfl) (Nat.le_of_ble_eq_true rfl) (by omega) ⟨Nat.le_refl _, Nat.le_refl _⟩ (zs_kind h0) ?_
    refine gz_gets (v := .ref 45) dX4_readValue_7 (by decide) wf_Heliographs_Reader_275 (by first | exact True.intro | (show _ < _; decide)) ?_
    refine gz_acmp_ne (tgt := 36) dX4_readValue_10 rfl (by show (zb_s _).1 < 1000; decide) (by show (zb_s _).1 < 1000; decide) (by decide) (fun b10 => ?_) (fun b10 => ?_)
    rotate_left
    · exact absurd b10 (by omega)
    refine gz_aload_n dX4_readValue_36 rfl ?_
    refine gz_gets (v := .ref 19) dX4_readValue_37 (by decide) wf_Heliographs_Reader_282 (by first | exact True.intro | (show _ < _; decide)) ?_
    refine gv_1 (J := mX4_accept) (d1 := d - 1) dX4_readValue_40 wm_Heliographs_Reader_56 rfl jzX4_accept (Nat.le_of_ble_eq_true rfl) (Nat.le_of_ble_eq_true rfl) (by omega) ⟨Nat.le_refl _, Nat.le_refl _⟩ (zs_accept_f h0 (by decide) (by decide) (by omega)) ?_
    refine zz_if_eq (tgt := 55) dX4_readValue_43 rfl (by omega) (fun b43 => ?_) (fun b43 => ?_)
    rotate_left
    · exact absurd b43 (by omega)
    refine gz_aload_n dX4_readValue_55 rfl ?_
    refine gz_gets (v := .ref 20) dX4_readValue_56 (by decide) wf_Heliographs_Reader_285 (by first | exact True.intro | (show _ < _; decide)) ?_
    refine gv_1 (J := mX4_accept) (d1 := d - 1) dX4_readValue_59 wm_Heliographs_Reader_56 rfl jzX4_accept (Nat.le_of_ble_eq_true rfl) (Nat.le_of_ble_eq_true rfl) (by omega) ⟨Nat.le_refl _, Nat.le_refl _⟩ (zs_accept_f h0 (by decide) (by decide) (by omega)) ?_
    refine zz_if_eq (tgt := 88) dX4_readValue_62 rfl (by omega) (fun b62 => ?_) (fun b62 => ?_)
    rotate_left
    · exact absurd b62 (by omega)
    refine gz_aload_n dX4_readValue_88 rfl ?_
    refine gz_gets (v := .ref 21) dX4_readValue_89 (by decide) wf_Heliographs_Reader_288 (by first | exact True.intro | (show _ < _; decide)) ?_
    refine gv_1 (J := mX4_accept) (d1 := d - 1) dX4_readValue_92 wm_Heliographs_Reader_56 rfl jzX4_accept (Nat.le_of_ble_eq_true rfl) (Nat.le_of_ble_eq_true rfl) (by omega) ⟨Nat.le_refl _, Nat.le_refl _⟩ (zs_accept_t h0 (by omega)) ?_
    refine zz_if_eq (tgt := 121) dX4_readValue_95 rfl (by omega) (fun b95 => ?_) (fun b95 => ?_)
    · exact absurd b95 (by omega)
    refine gz_aload_n dX4_readValue_98 rfl ?_
    refine zz_iconst dX4_readValue_99 ?_
    refine gz_aload_n dX4_readValue_100 rfl ?_
    refine gz_aload_n dX4_readValue_101 rfl ?_
    refine gz_getf 2 dX4_readValue_102 rfl rfl wf_Heliographs_Reader_18 (by decide) rfl ?_
    refine gz_aload_n dX4_readValue_105 rfl ?_
    refine gz_getf 4 dX4_readValue_106 rfl rfl wf_Heliographs_Reader_25 (by decide) (congrArg Value.ref hpl) ?_
    refine gz_getf 3 dX4_readValue_109 rfl rfl wf_Heliographs_Reader_167 (by decide) (zv_i N1.1.2.2) ?_
    refine gv_2 (J := mX4_oldName) (d1 := d - 1) dX4_readValue_112 wm_Heliographs_Reader_130 rfl jzX4_oldName (Nat.le_of_ble_eq_true rfl) (Nat.le_of_ble_eq_true rfl) (by omega) ⟨Nat.le_refl _, Nat.le_refl _⟩ (zs_oldName (Or.inr (Or.inr ⟨rfl, rfl⟩)) N1.2.1.2.2 N1.2.2.2.2 (by omega) hx h1 (by omega)) ?_
    refine gv_2 (J := mX4_emit) (d1 := d - 1) dX4_readValue_115 wm_Heliographs_Reader_206 rfl jzX4_emit (Nat.le_of_ble_eq_true rfl) (Nat.le_of_ble_eq_true rfl) (by omega) ⟨Nat.le_refl _, Nat.le_refl _⟩ (zs_emit hp2 h2.2.2.2.2.2.1 (by omega) h2.2.2.2.2.2.2.2.1 (by omega)) ?_
    refine gz_goto (tgt := 280) dX4_readValue_118 rfl ?_
    refine gz_return_ dX4_readValue_280 rfl ?_
    exact hq _ E3
  )
theorem rd_val_breaks {p np nw nm dep : Nat} (hp : p = 368 ∨ p = 400) {x : Nat} (hx : x < nm) (hd : 5 ≤ d) : zRd l Γ F p np nw nm d mX4_readValue dep [] ([(22, 0), (44, 508 + (x : Int))]) ([(4, (x : Int))]) := by
  intro Z i n k v2 r h hN hb hn Q hq
  have hp2 := hp
  have h0 : rdS Z p i n ((22, 0) :: (44, 508 + (x : Int)) :: (k, v2) :: r) := h
  have E0 := rdT_refl h0
  have hel : n + 1 < 400 := by have : ([(4, (x : Int))] : List (Int × Int)).length = 1 := rfl; omega
  have h1 := rdS_adv hp h0
  have E1 := rdT_adv hp E0
  have N1 := rdN_T hp hN E1
  have h2 := rdS_adv hp h1
  have E2 := rdT_adv hp E1
  have E3 := rdT_emit hp 4 (x : Int) E2
  rcases hp with rfl | rfl <;> (
    have hpl := congrArg Int.toNat h1.2.2.2.2.2.1
    simp only [Int.toNat_natCast] at hpl
    refine gz_aload_n dX4_readValue_0 rfl ?_
    refine gz_getf 3 dX4_readValue_1 rfl rfl wf_Heliographs_Reader_21 (by decide) rfl ?_
    refine gv_0 (J := mX6_kind) (d1 := d - 1) dX4_readValue_4 wm_Heliographs_Reader_41 rfl jzX6_kind (Nat.le_of_ble_eq_true rfl) (Nat.le_of_ble_eq_true rfl) (by omega) ⟨Nat.le_refl _, Nat.le_refl _⟩ (zs_kind h0) ?_
    refine gz_gets (v := .ref 45) dX4_readValue_7 (by decide) wf_Heliographs_Reader_275 (by first | exact True.intro | (show _ < _; decide)) ?_
    refine gz_acmp_ne (tgt := 36) dX4_readValue_10 rfl (by show (zb_s _).1 < 1000; decide) (by show (zb_s _).1 < 1000; decide) (by decide) (fun b10 => ?_) (fun b10 => ?_)
    rotate_left
    · exact absurd b10 (by omega)
    refine gz_aload_n dX4_readValue_36 rfl ?_
    refine gz_gets (v := .ref 19) dX4_readValue_37 (by decide) wf_Heliographs_Reader_282 (by first | exact True.intro | (show _ < _; decide)) ?_
    refine gv_1 (J := mX4_accept) (d1 := d - 1) dX4_readValue_40 wm_Heliographs_Reader_56 rfl jzX4_accept (Nat.le_of_ble_eq_true rfl) (Nat.le_of_ble_eq_true rfl) (by omega) ⟨Nat.le_refl _, Nat.le_refl _⟩ (zs_accept_f h0 (by decide) (by decide) (by omega)) ?_
    refine zz_if_eq (tgt := 55) dX4_readValue_43 rfl (by omega) (fun b43 => ?_) (fun b43 => ?_)
    rotate_left
    · exact absurd b43 (by omega)
    refine gz_aload_n dX4_readValue_55 rfl ?_
    refine gz_gets (v := .ref 20) dX4_readValue_56 (by decide) wf_Heliographs_Reader_285 (by first | exact True.intro | (show _ < _; decide)) ?_
    refine gv_1 (J := mX4_accept) (d1 := d - 1) dX4_readValue_59 wm_Heliographs_Reader_56 rfl jzX4_accept (Nat.le_of_ble_eq_true rfl) (Nat.le_of_ble_eq_true rfl) (by omega) ⟨Nat.le_refl _, Nat.le_refl _⟩ (zs_accept_f h0 (by decide) (by decide) (by omega)) ?_
    refine zz_if_eq (tgt := 88) dX4_readValue_62 rfl (by omega) (fun b62 => ?_) (fun b62 => ?_)
    rotate_left
    · exact absurd b62 (by omega)
    refine gz_aload_n dX4_readValue_88 rfl ?_
    refine gz_gets (v := .ref 21) dX4_readValue_89 (by decide) wf_Heliographs_Reader_288 (by first | exact True.intro | (show _ < _; decide)) ?_
    refine gv_1 (J := mX4_accept) (d1 := d - 1) dX4_readValue_92 wm_Heliographs_Reader_56 rfl jzX4_accept (Nat.le_of_ble_eq_true rfl) (Nat.le_of_ble_eq_true rfl) (by omega) ⟨Nat.le_refl _, Nat.le_refl _⟩ (zs_accept_f h0 (by decide) (by decide) (by omega)) ?_
    refine zz_if_eq (tgt := 121) dX4_readValue_95 rfl (by omega) (fun b95 => ?_) (fun b95 => ?_)
    rotate_left
    · exact absurd b95 (by omega)
    refine gz_aload_n dX4_readValue_121 rfl ?_
    refine gz_gets (v := .ref 22) dX4_readValue_122 (by decide) wf_Heliographs_Reader_291 (by first | exact True.intro | (show _ < _; decide)) ?_
    refine gv_1 (J := mX4_accept) (d1 := d - 1) dX4_readValue_125 wm_Heliographs_Reader_56 rfl jzX4_accept (Nat.le_of_ble_eq_true rfl) (Nat.le_of_ble_eq_true rfl) (by omega) ⟨Nat.le_refl _, Nat.le_refl _⟩ (zs_accept_t h0 (by omega)) ?_
    refine zz_if_eq (tgt := 154) dX4_readValue_128 rfl (by omega) (fun b128 => ?_) (fun b128 => ?_)
    · exact absurd b128 (by omega)
    refine gz_aload_n dX4_readValue_131 rfl ?_
    refine zz_iconst dX4_readValue_132 ?_
    refine gz_aload_n dX4_readValue_133 rfl ?_
    refine gz_aload_n dX4_readValue_134 rfl ?_
    refine gz_getf 2 dX4_readValue_135 rfl rfl wf_Heliographs_Reader_18 (by decide) rfl ?_
    refine gz_aload_n dX4_readValue_138 rfl ?_
    refine gz_getf 4 dX4_readValue_139 rfl rfl wf_Heliographs_Reader_25 (by decide) (congrArg Value.ref hpl) ?_
    refine gz_getf 3 dX4_readValue_142 rfl rfl wf_Heliographs_Reader_167 (by decide) (zv_i N1.1.2.2) ?_
    refine gv_2 (J := mX4_oldName) (d1 := d - 1) dX4_readValue_145 wm_Heliographs_Reader_130 rfl jzX4_oldName (Nat.le_of_ble_eq_true rfl) (Nat.le_of_ble_eq_true rfl) (by omega) ⟨Nat.le_refl _, Nat.le_refl _⟩ (zs_oldName (Or.inr (Or.inr ⟨rfl, rfl⟩)) N1.2.1.2.2 N1.2.2.2.2 (by omega) hx h1 (by omega)) ?_
    refine gv_2 (J := mX4_emit) (d1 := d - 1) dX4_readValue_148 wm_Heliographs_Reader_206 rfl jzX4_emit (Nat.le_of_ble_eq_true rfl) (Nat.le_of_ble_eq_true rfl) (by omega) ⟨Nat.le_refl _, Nat.le_refl _⟩ (zs_emit hp2 h2.2.2.2.2.2.1 (by omega) h2.2.2.2.2.2.2.2.1 (by omega)) ?_
    refine gz_goto (tgt := 280) dX4_readValue_151 rfl ?_
    refine gz_return_ dX4_readValue_280 rfl ?_
    exact hq _ E3
  )
def tlT : List (Nat × List (Nat × Int) × List (Int × Int)) → List (Nat × Int)
  | [] => []
  | x :: tl => (x.1, 0) :: (x.2.1 ++ tlT tl)
def tlE (f : Nat → Int) : List (Nat × List (Nat × Int) × List (Int × Int)) → List (Int × Int)
  | [] => []
  | x :: tl => x.2.2 ++ ((f x.1, 0) :: tlE f tl)
def opP (k : Nat) : Int := if k = 37 then 18 else 19
theorem rdT_cast {p n i i2 : Nat} {Z Z' : zV} {es es2 : List (Int × Int)} (h : rdT p Z Z' i n es) (e1 : i = i2) (e2 : es = es2) : rdT p Z Z' i2 n es2 := by rw [← e1, ← e2]; exact h
theorem tl_head (tl : List (Nat × List (Nat × Int) × List (Int × Int))) (c : Nat × Int) (r : List (Nat × Int)) : ∃ k v r2, tlT tl ++ c :: r = (k, v) :: r2 ∧ (tl = [] → k = c.1) ∧ ∀ x tl2, tl = x :: tl2 → k = x.1 := by
  cases tl with
  | nil => exact ⟨c.1, c.2, r, rfl, fun _ => rfl, fun x tl2 h => by cases h⟩
  | cons x tl2 => exact ⟨x.1, 0, x.2.1 ++ tlT tl2 ++ c :: r, rfl, fun h => (by cases h), fun y tl3 h => by cases h; rfl⟩
theorem rd_prod_loop {p np nw nm dep : Nat} (hp : p = 368 ∨ p = 400) (hd : 6 ≤ d) {Q : Option Value → zk_M → (Heap → Prop) → Prop} : ∀ (m : Nat) (tl : List (Nat × List (Nat × Int) × List (Int × Int))) (j i n k : Nat) (v2 : Int) (r : List (Nat × Int)) (Z : zV) (L3 : Option Value), tl.length = m → j + m < 400 → (∀ x, x ∈ tl → (x.1 = 37 ∨ x.1 = 38) ∧ zRd l Γ F p np nw nm (d - 1) mX4_readValue dep [] x.2.1 x.2.2) → rdS Z p i n (tlT tl ++ (k, v2) :: r) → rdN Z p np nw nm → k ∉ ([37, 38] : List Nat) → n + (tlE opP tl).length < 400 → (∀ Z', rdT p Z Z' (i + (tlT tl).length) n (tlE opP tl) → Q none (zb_M Z') F) → zk_Go l Γ mX4_readProduct d 0 0 Q 7 [some (.ref 327), some (.int (iZ (dep : Int))), some (.int (iZ (j : Int))), L3] [] (zb_M Z) F := by
  intro m
  induction m with
  | zero =>
    intro tl j i n k v2 r Z L3 hm hj hV h hN hk hn hq
    cases tl with
    | cons x tl => exact absurd hm (by show ¬ tl.length + 1 = 0; omega)
    | nil =>
    have h0 : rdS Z p i n ((k, v2) :: r) := h
    have hk48 : k < 48 := (rdS_len h0).2.2.2.1
    have hka : (zb_s k).1 < 1000 := by rw [(kind_text (Z := Z) hk48).1]; decide
    have hne1 : k ≠ 37 := bnot hk (by decide)
    have hne2 : k ≠ 38 := bnot hk (by decide)
    refine gz_iload_n dX4_readProduct_7 rfl ?_
    refine zz_sipush (x := 400) dX4_readProduct_8 rfl ?_
    refine zz_icmp_ge (tgt := 82) dX4_readProduct_11 rfl (by omega) (fun b11 => ?_) (fun b11 => ?_)
    · exact absurd b11 (by omega)
    refine gz_aload_n dX4_readProduct_14 rfl ?_
    refine gz_getf 3 dX4_readProduct_15 rfl rfl wf_Heliographs_Reader_21 (by decide) rfl ?_
    refine gv_0 (J := mX6_kind) (d1 := d - 1) dX4_readProduct_18 wm_Heliographs_Reader_41 rfl jzX6_kind (Nat.le_of_ble_eq_true rfl) (Nat.le_of_ble_eq_true rfl) (by omega) ⟨Nat.le_refl _, Nat.le_refl _⟩ (zs_kind h0) ?_
    refine gz_gets (v := .ref 37) dX4_readProduct_21 (by decide) wf_Heliographs_Reader_269 (by first | exact True.intro | (show _ < _; decide)) ?_
    refine gz_acmp_ne (tgt := 32) dX4_readProduct_24 rfl hka (by show (zb_s _).1 < 1000; decide) ⟨by omega, by decide⟩ (fun b24 => ?_) (fun b24 => ?_)
    rotate_left
    · exact absurd b24 hne1
    refine gz_aload_n dX4_readProduct_32 rfl ?_
    refine gz_getf 3 dX4_readProduct_33 rfl rfl wf_Heliographs_Reader_21 (by decide) rfl ?_
    refine gv_0 (J := mX6_kind) (d1 := d - 1) dX4_readProduct_36 wm_Heliographs_Reader_41 rfl jzX6_kind (Nat.le_of_ble_eq_true rfl) (Nat.le_of_ble_eq_true rfl) (by omega) ⟨Nat.le_refl _, Nat.le_refl _⟩ (zs_kind h0) ?_
    refine gz_gets (v := .ref 38) dX4_readProduct_39 (by decide) wf_Heliographs_Reader_272 (by first | exact True.intro | (show _ < _; decide)) ?_
    refine gz_acmp_ne (tgt := 50) dX4_readProduct_42 rfl hka (by show (zb_s _).1 < 1000; decide) ⟨by omega, by decide⟩ (fun b42 => ?_) (fun b42 => ?_)
    rotate_left
    · exact absurd b42 hne2
    refine zz_iconst dX4_readProduct_50 ?_
    refine gz_istore_n dX4_readProduct_51 (Nat.le_of_ble_eq_true rfl) rfl ?_
    refine gz_iload_n dX4_readProduct_52 rfl ?_
    refine zz_iconst dX4_readProduct_53 ?_
    refine zz_icmp_ne (tgt := 58) dX4_readProduct_54 rfl (by omega) (fun b54 => ?_) (fun b54 => ?_)
    · exact absurd b54 (by omega)
    refine gz_return_ dX4_readProduct_57 rfl ?_
    exact hq _ (rdT_refl h0)
  | succ m ih =>
    intro tl j i n k v2 r Z L3 hm hj hV h hN hk hn hq
    cases tl with
    | nil => exact absurd hm (by show ¬ 0 = m + 1; omega)
    | cons x tl =>
    obtain ⟨ok, ts, es⟩ := x
    have hm2 : tl.length = m := by have : ((ok, ts, es) :: tl).length = tl.length + 1 := rfl; omega
    obtain ⟨hop, hV1⟩ := hV _ List.mem_cons_self
    dsimp only at hop hV1
    have hEl : (tlE opP ((ok, ts, es) :: tl)).length = es.length + ((tlE opP tl).length + 1) := by show (es ++ _ :: _).length = _; rw [List.length_append]; rfl
    have hTl : (tlT ((ok, ts, es) :: tl)).length = ts.length + (tlT tl).length + 1 := by show (ts ++ tlT tl).length + 1 = _; rw [List.length_append]
    have h0 : rdS Z p i n ((ok, 0) :: (ts ++ (tlT tl ++ (k, v2) :: r))) := by rw [← List.append_assoc]; exact h
    have E1 := rdT_adv hp (rdT_refl h0)
    have h1 := rdS_adv hp h0
    have N1 := rdN_T hp hN E1
    obtain ⟨k9, v9, r9, e9, -, -⟩ := tl_head tl (k, v2) r
    rw [e9] at h1
    have hgo := hV1 _ _ _ _ _ _ h1 N1 (by simp) (by omega)
    have fin : ∀ (op : Int), opP ok = op → ∀ Z2, rdT p (zb_u Z 323 4 ((i : Int) + 1)) Z2 (i + 1 + ts.length) n es → ∀ L4, (∀ Z3, Z3 = zb_u (zb_u (zb_u Z2 (p + 18) (n + es.length) op) (p + 19) (n + es.length) 0) (p + 15) 5 (((n + es.length : Nat) : Int) + 1) → zk_Go l Γ mX4_readProduct d 0 0 Q 7 [some (.ref 327), some (.int (iZ (dep : Int))), some (.int (iZ ((j : Int) + 1))), L4] [] (zb_M Z3) F) := by
      intro op hop2 Z2 g2 L4 Z3 e3
      subst e3
      have g3 := rdT_emit hp op 0 g2
      have h2 : rdS _ p _ _ ((k9, v9) :: r9) := rdS_T (ts := ts) hp h1 g3 (by rw [List.length_append]; show n + (es.length + 1) ≤ 400; omega)
      rw [← e9] at h2
      have q := ih tl (j + 1) (i + 1 + ts.length) (n + (es ++ [(op, 0)]).length) k v2 r _ L4 hm2 (by omega) (fun x hx => hV x (List.mem_cons_of_mem _ hx)) h2 (rdN_T hp N1 g3) hk (by rw [List.length_append]; show n + (es.length + 1) + _ < 400; omega) (fun Z' g => hq Z' (rdT_cast (rdT_trans E1 (rdT_trans g3 g hp) hp) (by rw [hTl]; omega) (by show [] ++ ((es ++ [(op, 0)]) ++ tlE opP tl) = es ++ (opP ok, 0) :: tlE opP tl; rw [hop2]; simp)))
      rw [show ((j : Int) + 1) = ((j + 1 : Nat) : Int) from by omega]
      exact q
    rcases hop with rfl | rfl
    ·
      rcases hp with rfl | rfl <;> (
        refine gz_iload_n dX4_readProduct_7 rfl ?_
        refine zz_sipush (x := 400) dX4_readProduct_8 rfl ?_
        refine zz_icmp_ge (tgt := 82) dX4_readProduct_11 rfl (by omega) (fun b11 => ?_) (fun b11 => ?_)
        · exact absurd b11 (by omega)
        refine gz_aload_n dX4_readProduct_14 rfl ?_
        refine gz_getf 3 dX4_readProduct_15 rfl rfl wf_Heliographs_Reader_21 (by decide) rfl ?_
        refine gv_0 (J := mX6_kind) (d1 := d - 1) dX4_readProduct_18 wm_Heliographs_Reader_41 rfl jzX6_kind (Nat.le_of_ble_eq_true rfl) (Nat.le_of_ble_eq_true rfl) (by omega) ⟨Nat.le_refl _, Nat.le_refl _⟩ (zs_kind h0) ?_
        refine gz_gets (v := .ref 37) dX4_readProduct_21 (by decide) wf_Heliographs_Reader_269 (by first | exact True.intro | (show _ < _; decide)) ?_
        refine gz_acmp_ne (tgt := 32) dX4_readProduct_24 rfl (by show (zb_s _).1 < 1000; decide) (by show (zb_s _).1 < 1000; decide) (by decide) (fun b24 => ?_) (fun b24 => ?_)
        · exact absurd b24 (by omega)
        refine zz_bipush (x := 18) dX4_readProduct_27 rfl ?_
        refine gz_goto (tgt := 51) dX4_readProduct_29 rfl ?_
        refine gz_istore_n dX4_readProduct_51 (Nat.le_of_ble_eq_true rfl) rfl ?_
        refine gz_iload_n dX4_readProduct_52 rfl ?_
        refine zz_iconst dX4_readProduct_53 ?_
        refine zz_icmp_ne (tgt := 58) dX4_readProduct_54 rfl (by omega) (fun b54 => ?_) (fun b54 => ?_)
        rotate_left
        · exact absurd b54 (by omega)
        refine gz_aload_n dX4_readProduct_58 rfl ?_
        refine gz_getf 3 dX4_readProduct_59 rfl rfl wf_Heliographs_Reader_21 (by decide) rfl ?_
        refine gv_0 (J := mX6_advance) (d1 := d - 1) dX4_readProduct_62 wm_Heliographs_Reader_239 rfl jzX6_advance (Nat.le_of_ble_eq_true rfl) (Nat.le_of_ble_eq_true rfl) (by omega) ⟨Nat.le_refl _, Nat.le_refl _⟩ (zs_advance h0) ?_
        refine gz_aload_n dX4_readProduct_65 rfl ?_
        refine gz_iload_n dX4_readProduct_66 rfl ?_
        refine gq_1 (J := mX4_readValue) (d1 := d - 1) dX4_readProduct_67 wm_Heliographs_Reader_266 rfl jzX4_readValue (Nat.le_of_ble_eq_true rfl) (Nat.le_of_ble_eq_true rfl) (by omega) (hgo) (fun Z67 hZ67 => ?_)
        refine gz_aload_n dX4_readProduct_70 rfl ?_
        refine gz_iload_n dX4_readProduct_71 rfl ?_
        refine zz_iconst dX4_readProduct_72 ?_
        refine gv_2 (J := mX4_emit) (d1 := d - 1) dX4_readProduct_73 wm_Heliographs_Reader_206 rfl jzX4_emit (Nat.le_of_ble_eq_true rfl) (Nat.le_of_ble_eq_true rfl) (by omega) ⟨Nat.le_refl _, Nat.le_refl _⟩ (zs_emit (by decide) ((hZ67.1 _ _ (by omega) (by omega) (by omega)).trans h1.2.2.2.2.2.1) (by omega) hZ67.2.2.1 (by omega)) ?_
        refine zz_iinc dX4_readProduct_76 rfl rfl ?_
        refine gz_goto (tgt := 7) dX4_readProduct_79 rfl ?_
        exact fin 18 rfl _ hZ67 _ _ rfl
      )
    ·
      rcases hp with rfl | rfl <;> (
        refine gz_iload_n dX4_readProduct_7 rfl ?_
        refine zz_sipush (x := 400) dX4_readProduct_8 rfl ?_
        refine zz_icmp_ge (tgt := 82) dX4_readProduct_11 rfl (by omega) (fun b11 => ?_) (fun b11 => ?_)
        · exact absurd b11 (by omega)
        refine gz_aload_n dX4_readProduct_14 rfl ?_
        refine gz_getf 3 dX4_readProduct_15 rfl rfl wf_Heliographs_Reader_21 (by decide) rfl ?_
        refine gv_0 (J := mX6_kind) (d1 := d - 1) dX4_readProduct_18 wm_Heliographs_Reader_41 rfl jzX6_kind (Nat.le_of_ble_eq_true rfl) (Nat.le_of_ble_eq_true rfl) (by omega) ⟨Nat.le_refl _, Nat.le_refl _⟩ (zs_kind h0) ?_
        refine gz_gets (v := .ref 37) dX4_readProduct_21 (by decide) wf_Heliographs_Reader_269 (by first | exact True.intro | (show _ < _; decide)) ?_
        refine gz_acmp_ne (tgt := 32) dX4_readProduct_24 rfl (by show (zb_s _).1 < 1000; decide) (by show (zb_s _).1 < 1000; decide) (by decide) (fun b24 => ?_) (fun b24 => ?_)
        rotate_left
        · exact absurd b24 (by omega)
        refine gz_aload_n dX4_readProduct_32 rfl ?_
        refine gz_getf 3 dX4_readProduct_33 rfl rfl wf_Heliographs_Reader_21 (by decide) rfl ?_
        refine gv_0 (J := mX6_kind) (d1 := d - 1) dX4_readProduct_36 wm_Heliographs_Reader_41 rfl jzX6_kind (Nat.le_of_ble_eq_true rfl) (Nat.le_of_ble_eq_true rfl) (by omega) ⟨Nat.le_refl _, Nat.le_refl _⟩ (zs_kind h0) ?_
        refine gz_gets (v := .ref 38) dX4_readProduct_39 (by decide) wf_Heliographs_Reader_272 (by first | exact True.intro | (show _ < _; decide)) ?_
        refine gz_acmp_ne (tgt := 50) dX4_readProduct_42 rfl (by show (zb_s _).1 < 1000; decide) (by show (zb_s _).1 < 1000; decide) (by decide) (fun b42 => ?_) (fun b42 => ?_)
        · exact absurd b42 (by omega)
        refine zz_bipush (x := 19) dX4_readProduct_45 rfl ?_
        refine gz_goto (tgt := 51) dX4_readProduct_47 rfl ?_
        refine gz_istore_n dX4_readProduct_51 (Nat.le_of_ble_eq_true rfl) rfl ?_
        refine gz_iload_n dX4_readProduct_52 rfl ?_
        refine zz_iconst dX4_readProduct_53 ?_
        refine zz_icmp_ne (tgt := 58) dX4_readProduct_54 rfl (by omega) (fun b54 => ?_) (fun b54 => ?_)
        rotate_left
        · exact absurd b54 (by omega)
        refine gz_aload_n dX4_readProduct_58 rfl ?_
        refine gz_getf 3 dX4_readProduct_59 rfl rfl wf_Heliographs_Reader_21 (by decide) rfl ?_
        refine gv_0 (J := mX6_advance) (d1 := d - 1) dX4_readProduct_62 wm_Heliographs_Reader_239 rfl jzX6_advance (Nat.le_of_ble_eq_true rfl) (Nat.le_of_ble_eq_true rfl) (by omega) ⟨Nat.le_refl _, Nat.le_refl _⟩ (zs_advance h0) ?_
        refine gz_aload_n dX4_readProduct_65 rfl ?_
        refine gz_iload_n dX4_readProduct_66 rfl ?_
        refine gq_1 (J := mX4_readValue) (d1 := d - 1) dX4_readProduct_67 wm_Heliographs_Reader_266 rfl jzX4_readValue (Nat.le_of_ble_eq_true rfl) (Nat.le_of_ble_eq_true rfl) (by omega) (hgo) (fun Z67 hZ67 => ?_)
        refine gz_aload_n dX4_readProduct_70 rfl ?_
        refine gz_iload_n dX4_readProduct_71 rfl ?_
        refine zz_iconst dX4_readProduct_72 ?_
        refine gv_2 (J := mX4_emit) (d1 := d - 1) dX4_readProduct_73 wm_Heliographs_Reader_206 rfl jzX4_emit (Nat.le_of_ble_eq_true rfl) (Nat.le_of_ble_eq_true rfl) (by omega) ⟨Nat.le_refl _, Nat.le_refl _⟩ (zs_emit (by decide) ((hZ67.1 _ _ (by omega) (by omega) (by omega)).trans h1.2.2.2.2.2.1) (by omega) hZ67.2.2.1 (by omega)) ?_
        refine zz_iinc dX4_readProduct_76 rfl rfl ?_
        refine gz_goto (tgt := 7) dX4_readProduct_79 rfl ?_
        exact fin 19 rfl _ hZ67 _ _ rfl
      )
theorem rd_prod {p np nw nm dep : Nat} (hp : p = 368 ∨ p = 400) (hd : 6 ≤ d) {ts : List (Nat × Int)} {es : List (Int × Int)} (tl : List (Nat × List (Nat × Int) × List (Int × Int))) (hV : zRd l Γ F p np nw nm (d - 1) mX4_readValue dep [] ts es) (hm : tl.length < 100) (hT : ∀ x, x ∈ tl → (x.1 = 37 ∨ x.1 = 38) ∧ zRd l Γ F p np nw nm (d - 1) mX4_readValue dep [] x.2.1 x.2.2) : zRd l Γ F p np nw nm d mX4_readProduct dep [37, 38] (ts ++ tlT tl) (es ++ tlE opP tl) := by
  intro Z i n k v2 r h hN hb hn Q hq
  rw [List.append_assoc] at h
  rw [List.length_append] at hn
  obtain ⟨k9, v9, r9, e9, -, -⟩ := tl_head tl (k, v2) r
  have h0 := h
  rw [e9] at h0
  have hgo := hV _ _ _ _ _ _ h0 hN (by simp) (by omega)
  have fin : ∀ Z2, rdT p Z Z2 (i + ts.length) n es → zk_Go l Γ mX4_readProduct d 0 0 Q 7 [some (.ref 327), some (.int (iZ (dep : Int))), some (.int (iZ 0)), none] [] (zb_M Z2) F := by
    intro Z2 g
    exact rd_prod_loop hp hd tl.length tl 0 (i + ts.length) (n + es.length) k v2 r Z2 none rfl (by omega) hT (rdS_T (ts := ts) hp h g (by omega)) (rdN_T hp hN g) hb (by omega) (fun Z' g2 => hq Z' (rdT_cast (rdT_trans g g2 hp) (by rw [List.length_append]; omega) rfl))
  refine gz_aload_n dX4_readProduct_0 rfl ?_
  refine gz_iload_n dX4_readProduct_1 rfl ?_
  refine gq_1 (J := mX4_readValue) (d1 := d - 1) dX4_readProduct_2 wm_Heliographs_Reader_266 rfl jzX4_readValue (Nat.le_of_ble_eq_true rfl) (Nat.le_of_ble_eq_true rfl) (by omega) (hgo) (fun Z2 hZ2 => ?_)
  refine zz_iconst dX4_readProduct_5 ?_
  refine gz_istore_n dX4_readProduct_6 (Nat.le_of_ble_eq_true rfl) rfl ?_
  exact fin Z2 hZ2
theorem rd_sum {p np nw nm dep : Nat} (hp : p = 368 ∨ p = 400) (hd : 7 ≤ d) {ts : List (Nat × Int)} {es : List (Int × Int)} (hP : zRd l Γ F p np nw nm (d - 1) mX4_readProduct dep [37, 38] ts es) : zRd l Γ F p np nw nm d mX4_readSum dep [35, 36, 37, 38] ts es := by
  intro Z i n k v2 r h hN hb hn Q hq
  have hgo := hP _ _ _ _ _ _ h hN (fun q => hb (by simp at q ⊢; omega)) hn
  have hk48 : k < 48 := h.2.2.2.2.1 (k, v2) (List.mem_append_right _ List.mem_cons_self)
  have hka : (zb_s k).1 < 1000 := by rw [(kind_text (Z := Z) hk48).1]; decide
  have hne1 : k ≠ 35 := bnot hb (by decide)
  have hne2 : k ≠ 36 := bnot hb (by decide)
  refine gz_aload_n dX4_readSum_0 rfl ?_
  refine gz_iload_n dX4_readSum_1 rfl ?_
  refine gq_1 (J := mX4_readProduct) (d1 := d - 1) dX4_readSum_2 wm_Heliographs_Reader_257 rfl jzX4_readProduct (Nat.le_of_ble_eq_true rfl) (Nat.le_of_ble_eq_true rfl) (by omega) (hgo) (fun Z2 hZ2 => ?_)
  have h0 := rdS_T (ts := ts) hp h hZ2 (by omega)
  refine zz_iconst dX4_readSum_5 ?_
  refine gz_istore_n dX4_readSum_6 (Nat.le_of_ble_eq_true rfl) rfl ?_
  refine gz_iload_n dX4_readSum_7 rfl ?_
  refine zz_sipush (x := 400) dX4_readSum_8 rfl ?_
  refine zz_icmp_ge (tgt := 82) dX4_readSum_11 rfl (by omega) (fun b11 => ?_) (fun b11 => ?_)
  · exact absurd b11 (by omega)
  refine gz_aload_n dX4_readSum_14 rfl ?_
  refine gz_getf 3 dX4_readSum_15 rfl rfl wf_Heliographs_Reader_21 (by decide) rfl ?_
  refine gv_0 (J := mX6_kind) (d1 := d - 1) dX4_readSum_18 wm_Heliographs_Reader_41 rfl jzX6_kind (Nat.le_of_ble_eq_true rfl) (Nat.le_of_ble_eq_true rfl) (by omega) ⟨Nat.le_refl _, Nat.le_refl _⟩ (zs_kind h0) ?_
  refine gz_gets (v := .ref 35) dX4_readSum_21 (by decide) wf_Heliographs_Reader_260 (by first | exact True.intro | (show _ < _; decide)) ?_
  refine gz_acmp_ne (tgt := 32) dX4_readSum_24 rfl hka (by show (zb_s _).1 < 1000; decide) ⟨by omega, by decide⟩ (fun b24 => ?_) (fun b24 => ?_)
  rotate_left
  · exact absurd b24 hne1
  refine gz_aload_n dX4_readSum_32 rfl ?_
  refine gz_getf 3 dX4_readSum_33 rfl rfl wf_Heliographs_Reader_21 (by decide) rfl ?_
  refine gv_0 (J := mX6_kind) (d1 := d - 1) dX4_readSum_36 wm_Heliographs_Reader_41 rfl jzX6_kind (Nat.le_of_ble_eq_true rfl) (Nat.le_of_ble_eq_true rfl) (by omega) ⟨Nat.le_refl _, Nat.le_refl _⟩ (zs_kind h0) ?_
  refine gz_gets (v := .ref 36) dX4_readSum_39 (by decide) wf_Heliographs_Reader_263 (by first | exact True.intro | (show _ < _; decide)) ?_
  refine gz_acmp_ne (tgt := 50) dX4_readSum_42 rfl hka (by show (zb_s _).1 < 1000; decide) ⟨by omega, by decide⟩ (fun b42 => ?_) (fun b42 => ?_)
  rotate_left
  · exact absurd b42 hne2
  refine zz_iconst dX4_readSum_50 ?_
  refine gz_istore_n dX4_readSum_51 (Nat.le_of_ble_eq_true rfl) rfl ?_
  refine gz_iload_n dX4_readSum_52 rfl ?_
  refine zz_iconst dX4_readSum_53 ?_
  refine zz_icmp_ne (tgt := 58) dX4_readSum_54 rfl (by omega) (fun b54 => ?_) (fun b54 => ?_)
  · exact absurd b54 (by omega)
  refine gz_return_ dX4_readSum_57 rfl ?_
  exact hq _ hZ2
theorem zs_cmp {k : Nat} (hk : 39 ≤ k ∧ k ≤ 43) : zk_Does l Γ mX4_comparisonOf d 0 0 [.ref k] (zb_M Z) F (some (.int (iZ ((k : Int) - 28)))) (zb_M Z) F := by
  intro Q hq
  have hk2 := hk
  rcases (show k = 39 ∨ k = 40 ∨ k = 41 ∨ k = 42 ∨ k = 43 by omega) with rfl | rfl | rfl | rfl | rfl <;> (
    refine gz_aload_n dX4_comparisonOf_0 rfl ?_
    refine gz_gets (v := .ref 39) dX4_comparisonOf_1 (by decide) wf_Heliographs_Reader_242 (by first | exact True.intro | (show _ < _; decide)) ?_
    refine gz_acmp_ne (tgt := 10) dX4_comparisonOf_4 rfl (by show (zb_s _).1 < 1000; decide) (by show (zb_s _).1 < 1000; decide) (by decide) (fun b4 => ?_) (fun b4 => ?_)
    ·
      refine gz_aload_n dX4_comparisonOf_10 rfl ?_
      refine gz_gets (v := .ref 40) dX4_comparisonOf_11 (by decide) wf_Heliographs_Reader_245 (by first | exact True.intro | (show _ < _; decide)) ?_
      refine gz_acmp_ne (tgt := 20) dX4_comparisonOf_14 rfl (by show (zb_s _).1 < 1000; decide) (by show (zb_s _).1 < 1000; decide) (by decide) (fun b14 => ?_) (fun b14 => ?_)
      ·
        refine gz_aload_n dX4_comparisonOf_20 rfl ?_
        refine gz_gets (v := .ref 41) dX4_comparisonOf_21 (by decide) wf_Heliographs_Reader_248 (by first | exact True.intro | (show _ < _; decide)) ?_
        refine gz_acmp_ne (tgt := 30) dX4_comparisonOf_24 rfl (by show (zb_s _).1 < 1000; decide) (by show (zb_s _).1 < 1000; decide) (by decide) (fun b24 => ?_) (fun b24 => ?_)
        ·
          refine gz_aload_n dX4_comparisonOf_30 rfl ?_
          refine gz_gets (v := .ref 42) dX4_comparisonOf_31 (by decide) wf_Heliographs_Reader_251 (by first | exact True.intro | (show _ < _; decide)) ?_
          refine gz_acmp_ne (tgt := 40) dX4_comparisonOf_34 rfl (by show (zb_s _).1 < 1000; decide) (by show (zb_s _).1 < 1000; decide) (by decide) (fun b34 => ?_) (fun b34 => ?_)
          ·
            refine gz_aload_n dX4_comparisonOf_40 rfl ?_
            refine gz_gets (v := .ref 43) dX4_comparisonOf_41 (by decide) wf_Heliographs_Reader_254 (by first | exact True.intro | (show _ < _; decide)) ?_
            refine gz_acmp_ne (tgt := 52) dX4_comparisonOf_44 rfl (by show (zb_s _).1 < 1000; decide) (by show (zb_s _).1 < 1000; decide) (by decide) (fun b44 => ?_) (fun b44 => ?_)
            ·
              refine zz_iconst dX4_comparisonOf_52 ?_
              refine gz_ireturn dX4_comparisonOf_53 rfl rfl ?_
              first
                | exact hq
                | exact absurd rfl (by assumption)
                | (exfalso; omega)
            ·
              refine zz_bipush (x := 15) dX4_comparisonOf_47 rfl ?_
              refine gz_goto (tgt := 53) dX4_comparisonOf_49 rfl ?_
              refine gz_ireturn dX4_comparisonOf_53 rfl rfl ?_
              first
                | exact hq
                | exact absurd rfl (by assumption)
                | (exfalso; omega)
          ·
            refine zz_bipush (x := 14) dX4_comparisonOf_37 rfl ?_
            refine gz_ireturn dX4_comparisonOf_39 rfl rfl ?_
            first
              | exact hq
              | exact absurd rfl (by assumption)
              | (exfalso; omega)
        ·
          refine zz_bipush (x := 13) dX4_comparisonOf_27 rfl ?_
          refine gz_ireturn dX4_comparisonOf_29 rfl rfl ?_
          first
            | exact hq
            | exact absurd rfl (by assumption)
            | (exfalso; omega)
      ·
        refine zz_bipush (x := 12) dX4_comparisonOf_17 rfl ?_
        refine gz_ireturn dX4_comparisonOf_19 rfl rfl ?_
        first
          | exact hq
          | exact absurd rfl (by assumption)
          | (exfalso; omega)
    ·
      refine zz_bipush (x := 11) dX4_comparisonOf_7 rfl ?_
      refine gz_ireturn dX4_comparisonOf_9 rfl rfl ?_
      first
        | exact hq
        | exact absurd rfl (by assumption)
        | (exfalso; omega)
  )
theorem rd_one_open {p np nw nm dep : Nat} (hp : p = 368 ∨ p = 400) {x : Nat} (hx : x < nw) (hd : 5 ≤ d) : zRd l Γ F p np nw nm d mX4_readSingle dep [35, 36, 37, 38] ([(23, 0), (44, 878 + (x : Int))]) ([(5, (x : Int))]) := by
  intro Z i n k v2 r h hN hb hn Q hq
  have hp2 := hp
  have h0 : rdS Z p i n ((23, 0) :: (44, 878 + (x : Int)) :: (k, v2) :: r) := h
  have E0 := rdT_refl h0
  have hel : n + 1 < 400 := by have : ([(5, (x : Int))] : List (Int × Int)).length = 1 := rfl; omega
  have h1 := rdS_adv hp h0
  have E1 := rdT_adv hp E0
  have N1 := rdN_T hp hN E1
  have h2 := rdS_adv hp h1
  have E2 := rdT_adv hp E1
  have E3 := rdT_emit hp 5 (x : Int) E2
  rcases hp with rfl | rfl <;> (
    have hpl := congrArg Int.toNat h1.2.2.2.2.2.1
    simp only [Int.toNat_natCast] at hpl
    refine gz_aload_n dX4_readSingle_0 rfl ?_
    refine gz_getf 3 dX4_readSingle_1 rfl rfl wf_Heliographs_Reader_21 (by decide) rfl ?_
    refine gv_0 (J := mX6_kind) (d1 := d - 1) dX4_readSingle_4 wm_Heliographs_Reader_41 rfl jzX6_kind (Nat.le_of_ble_eq_true rfl) (Nat.le_of_ble_eq_true rfl) (by omega) ⟨Nat.le_refl _, Nat.le_refl _⟩ (zs_kind h0) ?_
    refine gz_gets (v := .ref 25) dX4_readSingle_7 (by decide) wf_Heliographs_Reader_213 (by first | exact True.intro | (show _ < _; decide)) ?_
    refine gz_acmp_ne (tgt := 41) dX4_readSingle_10 rfl (by show (zb_s _).1 < 1000; decide) (by show (zb_s _).1 < 1000; decide) (by decide) (fun b10 => ?_) (fun b10 => ?_)
    rotate_left
    · exact absurd b10 (by omega)
    refine gz_aload_n dX4_readSingle_41 rfl ?_
    refine gz_getf 3 dX4_readSingle_42 rfl rfl wf_Heliographs_Reader_21 (by decide) rfl ?_
    refine gv_0 (J := mX6_kind) (d1 := d - 1) dX4_readSingle_45 wm_Heliographs_Reader_41 rfl jzX6_kind (Nat.le_of_ble_eq_true rfl) (Nat.le_of_ble_eq_true rfl) (by omega) ⟨Nat.le_refl _, Nat.le_refl _⟩ (zs_kind h0) ?_
    refine gz_gets (v := .ref 31) dX4_readSingle_48 (by decide) wf_Heliographs_Reader_220 (by first | exact True.intro | (show _ < _; decide)) ?_
    refine gz_acmp_ne (tgt := 82) dX4_readSingle_51 rfl (by show (zb_s _).1 < 1000; decide) (by show (zb_s _).1 < 1000; decide) (by decide) (fun b51 => ?_) (fun b51 => ?_)
    rotate_left
    · exact absurd b51 (by omega)
    refine gz_aload_n dX4_readSingle_82 rfl ?_
    refine gz_gets (v := .ref 23) dX4_readSingle_83 (by decide) wf_Heliographs_Reader_226 (by first | exact True.intro | (show _ < _; decide)) ?_
    refine gv_1 (J := mX4_accept) (d1 := d - 1) dX4_readSingle_86 wm_Heliographs_Reader_56 rfl jzX4_accept (Nat.le_of_ble_eq_true rfl) (Nat.le_of_ble_eq_true rfl) (by omega) ⟨Nat.le_refl _, Nat.le_refl _⟩ (zs_accept_t h0 (by omega)) ?_
    refine zz_if_eq (tgt := 115) dX4_readSingle_89 rfl (by omega) (fun b89 => ?_) (fun b89 => ?_)
    · exact absurd b89 (by omega)
    refine gz_aload_n dX4_readSingle_92 rfl ?_
    refine zz_iconst dX4_readSingle_93 ?_
    refine gz_aload_n dX4_readSingle_94 rfl ?_
    refine gz_aload_n dX4_readSingle_95 rfl ?_
    refine gz_getf 1 dX4_readSingle_96 rfl rfl wf_Heliographs_Reader_15 (by decide) rfl ?_
    refine gz_aload_n dX4_readSingle_99 rfl ?_
    refine gz_getf 4 dX4_readSingle_100 rfl rfl wf_Heliographs_Reader_25 (by decide) (congrArg Value.ref hpl) ?_
    refine gz_getf 1 dX4_readSingle_103 rfl rfl wf_Heliographs_Reader_124 (by decide) (zv_i N1.1.2.1) ?_
    refine gv_2 (J := mX4_oldName) (d1 := d - 1) dX4_readSingle_106 wm_Heliographs_Reader_130 rfl jzX4_oldName (Nat.le_of_ble_eq_true rfl) (Nat.le_of_ble_eq_true rfl) (by omega) ⟨Nat.le_refl _, Nat.le_refl _⟩ (zs_oldName (Or.inr (Or.inl ⟨rfl, rfl⟩)) N1.2.1.2.1 N1.2.2.2.1 (by omega) hx h1 (by omega)) ?_
    refine gv_2 (J := mX4_emit) (d1 := d - 1) dX4_readSingle_109 wm_Heliographs_Reader_206 rfl jzX4_emit (Nat.le_of_ble_eq_true rfl) (Nat.le_of_ble_eq_true rfl) (by omega) ⟨Nat.le_refl _, Nat.le_refl _⟩ (zs_emit hp2 h2.2.2.2.2.2.1 (by omega) h2.2.2.2.2.2.2.2.1 (by omega)) ?_
    refine gz_goto (tgt := 195) dX4_readSingle_112 rfl ?_
    refine gz_return_ dX4_readSingle_195 rfl ?_
    exact hq _ E3
  )
theorem rd_one_carried {p np nw nm dep : Nat} (hp : p = 368 ∨ p = 400) {x : Nat} (hx : x < nm) (hd : 5 ≤ d) : zRd l Γ F p np nw nm d mX4_readSingle dep [35, 36, 37, 38] ([(24, 0), (44, 508 + (x : Int))]) ([(6, (x : Int))]) := by
  intro Z i n k v2 r h hN hb hn Q hq
  have hp2 := hp
  have h0 : rdS Z p i n ((24, 0) :: (44, 508 + (x : Int)) :: (k, v2) :: r) := h
  have E0 := rdT_refl h0
  have hel : n + 1 < 400 := by have : ([(6, (x : Int))] : List (Int × Int)).length = 1 := rfl; omega
  have h1 := rdS_adv hp h0
  have E1 := rdT_adv hp E0
  have N1 := rdN_T hp hN E1
  have h2 := rdS_adv hp h1
  have E2 := rdT_adv hp E1
  have E3 := rdT_emit hp 6 (x : Int) E2
  rcases hp with rfl | rfl <;> (
    have hpl := congrArg Int.toNat h1.2.2.2.2.2.1
    simp only [Int.toNat_natCast] at hpl
    refine gz_aload_n dX4_readSingle_0 rfl ?_
    refine gz_getf 3 dX4_readSingle_1 rfl rfl wf_Heliographs_Reader_21 (by decide) rfl ?_
    refine gv_0 (J := mX6_kind) (d1 := d - 1) dX4_readSingle_4 wm_Heliographs_Reader_41 rfl jzX6_kind (Nat.le_of_ble_eq_true rfl) (Nat.le_of_ble_eq_true rfl) (by omega) ⟨Nat.le_refl _, Nat.le_refl _⟩ (zs_kind h0) ?_
    refine gz_gets (v := .ref 25) dX4_readSingle_7 (by decide) wf_Heliographs_Reader_213 (by first | exact True.intro | (show _ < _; decide)) ?_
    refine gz_acmp_ne (tgt := 41) dX4_readSingle_10 rfl (by show (zb_s _).1 < 1000; decide) (by show (zb_s _).1 < 1000; decide) (by decide) (fun b10 => ?_) (fun b10 => ?_)
    rotate_left
    · exact absurd b10 (by omega)
    refine gz_aload_n dX4_readSingle_41 rfl ?_
    refine gz_getf 3 dX4_readSingle_42 rfl rfl wf_Heliographs_Reader_21 (by decide) rfl ?_
    refine gv_0 (J := mX6_kind) (d1 := d - 1) dX4_readSingle_45 wm_Heliographs_Reader_41 rfl jzX6_kind (Nat.le_of_ble_eq_true rfl) (Nat.le_of_ble_eq_true rfl) (by omega) ⟨Nat.le_refl _, Nat.le_refl _⟩ (zs_kind h0) ?_
    refine gz_gets (v := .ref 31) dX4_readSingle_48 (by decide) wf_Heliographs_Reader_220 (by first | exact True.intro | (show _ < _; decide)) ?_
    refine gz_acmp_ne (tgt := 82) dX4_readSingle_51 rfl (by show (zb_s _).1 < 1000; decide) (by show (zb_s _).1 < 1000; decide) (by decide) (fun b51 => ?_) (fun b51 => ?_)
    rotate_left
    · exact absurd b51 (by omega)
    refine gz_aload_n dX4_readSingle_82 rfl ?_
    refine gz_gets (v := .ref 23) dX4_readSingle_83 (by decide) wf_Heliographs_Reader_226 (by first | exact True.intro | (show _ < _; decide)) ?_
    refine gv_1 (J := mX4_accept) (d1 := d - 1) dX4_readSingle_86 wm_Heliographs_Reader_56 rfl jzX4_accept (Nat.le_of_ble_eq_true rfl) (Nat.le_of_ble_eq_true rfl) (by omega) ⟨Nat.le_refl _, Nat.le_refl _⟩ (zs_accept_f h0 (by decide) (by decide) (by omega)) ?_
    refine zz_if_eq (tgt := 115) dX4_readSingle_89 rfl (by omega) (fun b89 => ?_) (fun b89 => ?_)
    rotate_left
    · exact absurd b89 (by omega)
    refine gz_aload_n dX4_readSingle_115 rfl ?_
    refine gz_gets (v := .ref 24) dX4_readSingle_116 (by decide) wf_Heliographs_Reader_229 (by first | exact True.intro | (show _ < _; decide)) ?_
    refine gv_1 (J := mX4_accept) (d1 := d - 1) dX4_readSingle_119 wm_Heliographs_Reader_56 rfl jzX4_accept (Nat.le_of_ble_eq_true rfl) (Nat.le_of_ble_eq_true rfl) (by omega) ⟨Nat.le_refl _, Nat.le_refl _⟩ (zs_accept_t h0 (by omega)) ?_
    refine zz_if_eq (tgt := 149) dX4_readSingle_122 rfl (by omega) (fun b122 => ?_) (fun b122 => ?_)
    · exact absurd b122 (by omega)
    refine gz_aload_n dX4_readSingle_125 rfl ?_
    refine zz_bipush (x := 6) dX4_readSingle_126 rfl ?_
    refine gz_aload_n dX4_readSingle_128 rfl ?_
    refine gz_aload_n dX4_readSingle_129 rfl ?_
    refine gz_getf 2 dX4_readSingle_130 rfl rfl wf_Heliographs_Reader_18 (by decide) rfl ?_
    refine gz_aload_n dX4_readSingle_133 rfl ?_
    refine gz_getf 4 dX4_readSingle_134 rfl rfl wf_Heliographs_Reader_25 (by decide) (congrArg Value.ref hpl) ?_
    refine gz_getf 3 dX4_readSingle_137 rfl rfl wf_Heliographs_Reader_167 (by decide) (zv_i N1.1.2.2) ?_
    refine gv_2 (J := mX4_oldName) (d1 := d - 1) dX4_readSingle_140 wm_Heliographs_Reader_130 rfl jzX4_oldName (Nat.le_of_ble_eq_true rfl) (Nat.le_of_ble_eq_true rfl) (by omega) ⟨Nat.le_refl _, Nat.le_refl _⟩ (zs_oldName (Or.inr (Or.inr ⟨rfl, rfl⟩)) N1.2.1.2.2 N1.2.2.2.2 (by omega) hx h1 (by omega)) ?_
    refine gv_2 (J := mX4_emit) (d1 := d - 1) dX4_readSingle_143 wm_Heliographs_Reader_206 rfl jzX4_emit (Nat.le_of_ble_eq_true rfl) (Nat.le_of_ble_eq_true rfl) (by omega) ⟨Nat.le_refl _, Nat.le_refl _⟩ (zs_emit hp2 h2.2.2.2.2.2.1 (by omega) h2.2.2.2.2.2.2.2.1 (by omega)) ?_
    refine gz_goto (tgt := 195) dX4_readSingle_146 rfl ?_
    refine gz_return_ dX4_readSingle_195 rfl ?_
    exact hq _ E3
  )
theorem zs_goDeeper {p i n k : Nat} {v : Int} {r : List (Nat × Int)} (h : rdS Z p i n ((k, v) :: r)) {dep : Nat} (hdep : dep < 8) (hd : 2 ≤ d) : zk_Does l Γ mX4_goDeeper d 0 0 [.ref 327, .ref k, .int (iZ (dep : Int))] (zb_M Z) F (some (.int (iZ 1))) (zb_M (zb_u Z 323 4 ((i : Int) + 1))) F := by
  intro Q hq
  refine gz_iload_n dX4_goDeeper_0 rfl ?_
  refine zz_bipush (x := 8) dX4_goDeeper_1 rfl ?_
  refine zz_icmp_ge (tgt := 16) dX4_goDeeper_3 rfl (by omega) (fun b3 => ?_) (fun b3 => ?_)
  · exact absurd b3 (by omega)
  refine gz_aload_n dX4_goDeeper_6 rfl ?_
  refine gz_aload_n dX4_goDeeper_7 rfl ?_
  refine gv_1 (J := mX4_accept) (d1 := d - 1) dX4_goDeeper_8 wm_Heliographs_Reader_56 rfl jzX4_accept (Nat.le_of_ble_eq_true rfl) (Nat.le_of_ble_eq_true rfl) (by omega) ⟨Nat.le_refl _, Nat.le_refl _⟩ (zs_accept_t h (by omega)) ?_
  refine zz_if_eq (tgt := 16) dX4_goDeeper_11 rfl (by omega) (fun b11 => ?_) (fun b11 => ?_)
  · exact absurd b11 (by omega)
  refine zz_iconst dX4_goDeeper_14 ?_
  refine gz_ireturn dX4_goDeeper_15 rfl rfl ?_
  exact hq
theorem rd_not {p np nw nm dep : Nat} (hp : p = 368 ∨ p = 400) {ts : List (Nat × Int)} {es : List (Int × Int)} (hdep : dep < 8) (hS : zRd l Γ F p np nw nm (d - 1) mX4_readSingle (dep + 1) [35, 36, 37, 38] ts es) (hd : 6 ≤ d) : zRd l Γ F p np nw nm d mX4_readSingle dep [35, 36, 37, 38] ((25, 0) :: ts) (es ++ [(8, 0)]) := by
  intro Z i n k v2 r h hN hb hn Q hq
  have hp2 := hp
  have h0 : rdS Z p i n ((25, 0) :: (ts ++ (k, v2) :: r)) := h
  have E0 := rdT_refl h0
  simp only [List.length_append, List.length_cons, List.length_nil] at hn
  have h1 := rdS_adv hp h0
  have E1 := rdT_adv hp E0
  have N1 := rdN_T hp hN E1
  have hgo := hS _ _ _ _ _ _ h1 N1 hb (by omega)
  have fin : ∀ Z2, rdT p (zb_u Z 323 4 ((i : Int) + 1)) Z2 (i + 1 + ts.length) n es → ∀ Z3, Z3 = (zb_u (zb_u (zb_u Z2 (p + 18) (n + es.length) 8) (p + 19) (n + es.length) 0) (p + 15) 5 (((n + es.length : Nat) : Int) + 1)) → Q none (zb_M Z3) F := fun Z2 g Z3 e3 => by
    subst e3
    exact hq _ (rdT_cast (rdT_trans E1 (rdT_emit hp 8 0 g) hp) (by show i + 1 + ts.length = i + (ts.length + 1); omega) rfl)
  rcases hp with rfl | rfl <;> (
    refine gz_aload_n dX4_readSingle_0 rfl ?_
    refine gz_getf 3 dX4_readSingle_1 rfl rfl wf_Heliographs_Reader_21 (by decide) rfl ?_
    refine gv_0 (J := mX6_kind) (d1 := d - 1) dX4_readSingle_4 wm_Heliographs_Reader_41 rfl jzX6_kind (Nat.le_of_ble_eq_true rfl) (Nat.le_of_ble_eq_true rfl) (by omega) ⟨Nat.le_refl _, Nat.le_refl _⟩ (zs_kind h0) ?_
    refine gz_gets (v := .ref 25) dX4_readSingle_7 (by decide) wf_Heliographs_Reader_213 (by first | exact True.intro | (show _ < _; decide)) ?_
    refine gz_acmp_ne (tgt := 41) dX4_readSingle_10 rfl (by show (zb_s _).1 < 1000; decide) (by show (zb_s _).1 < 1000; decide) (by decide) (fun b10 => ?_) (fun b10 => ?_)
    · exact absurd b10 (by omega)
    refine gz_aload_n dX4_readSingle_13 rfl ?_
    refine gz_gets (v := .ref 25) dX4_readSingle_14 (by decide) wf_Heliographs_Reader_213 (by first | exact True.intro | (show _ < _; decide)) ?_
    refine gz_iload_n dX4_readSingle_17 rfl ?_
    refine gv_2 (J := mX4_goDeeper) (d1 := d - 1) dX4_readSingle_18 wm_Heliographs_Reader_216 rfl jzX4_goDeeper (Nat.le_of_ble_eq_true rfl) (Nat.le_of_ble_eq_true rfl) (by omega) ⟨Nat.le_refl _, Nat.le_refl _⟩ (zs_goDeeper h0 hdep (by omega)) ?_
    refine zz_if_eq (tgt := 195) dX4_readSingle_21 rfl (by omega) (fun b21 => ?_) (fun b21 => ?_)
    · exact absurd b21 (by omega)
    refine gz_aload_n dX4_readSingle_24 rfl ?_
    refine gz_iload_n dX4_readSingle_25 rfl ?_
    refine zz_iconst dX4_readSingle_26 ?_
    refine zz_iadd dX4_readSingle_27 ?_
    refine gq_1 (J := mX4_readSingle) (d1 := d - 1) dX4_readSingle_28 wm_Heliographs_Reader_210 rfl jzX4_readSingle (Nat.le_of_ble_eq_true rfl) (Nat.le_of_ble_eq_true rfl) (by omega) (hgo) (fun Z28 hZ28 => ?_)
    refine gz_aload_n dX4_readSingle_31 rfl ?_
    refine zz_bipush (x := 8) dX4_readSingle_32 rfl ?_
    refine zz_iconst dX4_readSingle_34 ?_
    refine gv_2 (J := mX4_emit) (d1 := d - 1) dX4_readSingle_35 wm_Heliographs_Reader_206 rfl jzX4_emit (Nat.le_of_ble_eq_true rfl) (Nat.le_of_ble_eq_true rfl) (by omega) ⟨Nat.le_refl _, Nat.le_refl _⟩ (zs_emit (by decide) ((hZ28.1 _ _ (by omega) (by omega) (by omega)).trans h1.2.2.2.2.2.1) (by omega) hZ28.2.2.1 (by omega)) ?_
    refine gz_goto (tgt := 195) dX4_readSingle_38 rfl ?_
    refine gz_return_ dX4_readSingle_195 rfl ?_
    exact fin _ hZ28 _ rfl
  )
theorem rd_bracket {p np nw nm dep : Nat} (hp : p = 368 ∨ p = 400) {ts : List (Nat × Int)} {es : List (Int × Int)} (hdep : dep < 8) (hS : zRd l Γ F p np nw nm (d - 1) mX4_readTest (dep + 1) [7, 26, 35, 36, 37, 38] ts es) (hd : 6 ≤ d) : zRd l Γ F p np nw nm d mX4_readSingle dep [35, 36, 37, 38] ((31, 0) :: (ts ++ [(32, 0)])) (es) := by
  intro Z i n k v2 r h hN hb hn Q hq
  have hp2 := hp
  have h0 : rdS Z p i n ((31, 0) :: (ts ++ ((32, 0) :: (k, v2) :: r))) := by
    have e : ((31, 0) :: (ts ++ [(32, 0)])) ++ (k, v2) :: r = ((31, 0) :: (ts ++ ((32, 0) :: (k, v2) :: r)) : List (Nat × Int)) := by simp
    rw [← e]; exact h
  have E0 := rdT_refl h0
  have h1 := rdS_adv hp h0
  have E1 := rdT_adv hp E0
  have N1 := rdN_T hp hN E1
  have hgo := hS _ _ _ _ _ _ h1 N1 (by decide) hn
  have fin : ∀ Z2, rdT p (zb_u Z 323 4 ((i : Int) + 1)) Z2 (i + 1 + ts.length) n es → rdS Z2 p (i + 1 + ts.length) (n + es.length) ((32, 0) :: (k, v2) :: r) ∧ Q none (zb_M (zb_u Z2 323 4 (((i + 1 + ts.length : Nat) : Int) + 1))) F := fun Z2 g => ⟨rdS_T (ts := ts) hp h1 g (by omega), hq _ (rdT_cast (rdT_trans E1 (rdT_adv hp g) hp) (by show i + 1 + ts.length + 1 = i + ((ts ++ [(32, 0)]).length + 1); rw [List.length_append]; show _ = i + (ts.length + 1 + 1); omega) rfl)⟩
  rcases hp with rfl | rfl <;> (
    refine gz_aload_n dX4_readSingle_0 rfl ?_
    refine gz_getf 3 dX4_readSingle_1 rfl rfl wf_Heliographs_Reader_21 (by decide) rfl ?_
    refine gv_0 (J := mX6_kind) (d1 := d - 1) dX4_readSingle_4 wm_Heliographs_Reader_41 rfl jzX6_kind (Nat.le_of_ble_eq_true rfl) (Nat.le_of_ble_eq_true rfl) (by omega) ⟨Nat.le_refl _, Nat.le_refl _⟩ (zs_kind h0) ?_
    refine gz_gets (v := .ref 25) dX4_readSingle_7 (by decide) wf_Heliographs_Reader_213 (by first | exact True.intro | (show _ < _; decide)) ?_
    refine gz_acmp_ne (tgt := 41) dX4_readSingle_10 rfl (by show (zb_s _).1 < 1000; decide) (by show (zb_s _).1 < 1000; decide) (by decide) (fun b10 => ?_) (fun b10 => ?_)
    rotate_left
    · exact absurd b10 (by omega)
    refine gz_aload_n dX4_readSingle_41 rfl ?_
    refine gz_getf 3 dX4_readSingle_42 rfl rfl wf_Heliographs_Reader_21 (by decide) rfl ?_
    refine gv_0 (J := mX6_kind) (d1 := d - 1) dX4_readSingle_45 wm_Heliographs_Reader_41 rfl jzX6_kind (Nat.le_of_ble_eq_true rfl) (Nat.le_of_ble_eq_true rfl) (by omega) ⟨Nat.le_refl _, Nat.le_refl _⟩ (zs_kind h0) ?_
    refine gz_gets (v := .ref 31) dX4_readSingle_48 (by decide) wf_Heliographs_Reader_220 (by first | exact True.intro | (show _ < _; decide)) ?_
    refine gz_acmp_ne (tgt := 82) dX4_readSingle_51 rfl (by show (zb_s _).1 < 1000; decide) (by show (zb_s _).1 < 1000; decide) (by decide) (fun b51 => ?_) (fun b51 => ?_)
    · exact absurd b51 (by omega)
    refine gz_aload_n dX4_readSingle_54 rfl ?_
    refine gz_gets (v := .ref 31) dX4_readSingle_55 (by decide) wf_Heliographs_Reader_220 (by first | exact True.intro | (show _ < _; decide)) ?_
    refine gz_iload_n dX4_readSingle_58 rfl ?_
    refine gv_2 (J := mX4_goDeeper) (d1 := d - 1) dX4_readSingle_59 wm_Heliographs_Reader_216 rfl jzX4_goDeeper (Nat.le_of_ble_eq_true rfl) (Nat.le_of_ble_eq_true rfl) (by omega) ⟨Nat.le_refl _, Nat.le_refl _⟩ (zs_goDeeper h0 hdep (by omega)) ?_
    refine zz_if_eq (tgt := 195) dX4_readSingle_62 rfl (by omega) (fun b62 => ?_) (fun b62 => ?_)
    · exact absurd b62 (by omega)
    refine gz_aload_n dX4_readSingle_65 rfl ?_
    refine gz_iload_n dX4_readSingle_66 rfl ?_
    refine zz_iconst dX4_readSingle_67 ?_
    refine zz_iadd dX4_readSingle_68 ?_
    refine gq_1 (J := mX4_readTest) (d1 := d - 1) dX4_readSingle_69 wm_Heliographs_Reader_194 rfl jzX4_readTest (Nat.le_of_ble_eq_true rfl) (Nat.le_of_ble_eq_true rfl) (by omega) (hgo) (fun Z69 hZ69 => ?_)
    refine gz_aload_n dX4_readSingle_72 rfl ?_
    refine gz_gets (v := .ref 32) dX4_readSingle_73 (by decide) wf_Heliographs_Reader_223 (by first | exact True.intro | (show _ < _; decide)) ?_
    refine gv_1 (J := mX4_expect) (d1 := d - 1) dX4_readSingle_76 wm_Heliographs_Reader_93 rfl jzX4_expect (Nat.le_of_ble_eq_true rfl) (Nat.le_of_ble_eq_true rfl) (by omega) ⟨Nat.le_refl _, Nat.le_refl _⟩ (zs_expect (fin _ hZ69).1 (by omega)) ?_
    refine gz_goto (tgt := 195) dX4_readSingle_79 rfl ?_
    refine gz_return_ dX4_readSingle_195 rfl ?_
    exact (fin _ hZ69).2
  )
theorem rd_cmp {p np nw nm dep : Nat} (hp : p = 368 ∨ p = 400) {k1 ck : Nat} {v1 : Int} {ts ts2 : List (Nat × Int)} {es es2 : List (Int × Int)} (hk1 : k1 ≠ 25 ∧ k1 ≠ 31 ∧ k1 ≠ 23 ∧ k1 ≠ 24) (hck : 39 ≤ ck ∧ ck ≤ 43) (hS1 : zRd l Γ F p np nw nm (d - 1) mX4_readSum dep [35, 36, 37, 38] ((k1, v1) :: ts) es) (hS2 : zRd l Γ F p np nw nm (d - 1) mX4_readSum dep [35, 36, 37, 38] ts2 es2) (hd : 8 ≤ d) : zRd l Γ F p np nw nm d mX4_readSingle dep [35, 36, 37, 38] (((k1, v1) :: ts) ++ (ck, 0) :: ts2) (es ++ (es2 ++ [((ck : Int) - 28, 0)])) := by
  intro Z i n k v2 r h hN hb hn Q hq
  have hp2 := hp
  simp only [List.length_append, List.length_cons, List.length_nil] at hn
  have h0 : rdS Z p i n ((k1, v1) :: (ts ++ ((ck, 0) :: (ts2 ++ (k, v2) :: r)))) := by
    have e : (((k1, v1) :: ts) ++ (ck, 0) :: ts2) ++ (k, v2) :: r = ((k1, v1) :: (ts ++ ((ck, 0) :: (ts2 ++ (k, v2) :: r))) : List (Nat × Int)) := by simp
    rw [← e]; exact h
  have hk48 : k1 < 48 := (rdS_len h0).2.2.2.1
  have hka : (zb_s k1).1 < 1000 := by rw [(kind_text (Z := Z) hk48).1]; decide
  have hgo1 := hS1 Z i n ck 0 (ts2 ++ (k, v2) :: r) h0 hN (by simp; omega) (by omega)
  have fin1 : ∀ Z2, rdT p Z Z2 (i + ((k1, v1) :: ts).length) n es → rdS Z2 p (i + ((k1, v1) :: ts).length) (n + es.length) ((ck, 0) :: (ts2 ++ (k, v2) :: r)) ∧ zk_DoesR l Γ mX4_readSum (d - 1) [.ref 327, .int (iZ (dep : Int))] (zb_u Z2 323 4 (((i + ((k1, v1) :: ts).length : Nat) : Int) + 1)) F none (fun Z' => rdT p (zb_u Z2 323 4 (((i + ((k1, v1) :: ts).length : Nat) : Int) + 1)) Z' (i + ((k1, v1) :: ts).length + 1 + ts2.length) (n + es.length) es2) ∧ (zb_u Z2 323 4 (((i + ((k1, v1) :: ts).length : Nat) : Int) + 1)) 327 4 = (p : Int) := fun Z2 g => by
    have hz := rdS_T (ts := (k1, v1) :: ts) (r := (ck, 0) :: (ts2 ++ (k, v2) :: r)) hp h0 g (by omega)
    have hz1 := rdS_adv hp hz
    exact ⟨hz, hS2 _ _ _ _ _ _ hz1 (rdN_T hp (rdN_T hp hN g) (rdT_adv hp (rdT_refl hz))) hb (by omega), hz1.2.2.2.2.2.1⟩
  have fin2 : ∀ Z2 Z3, rdT p Z Z2 (i + ((k1, v1) :: ts).length) n es → rdT p (zb_u Z2 323 4 (((i + ((k1, v1) :: ts).length : Nat) : Int) + 1)) Z3 (i + ((k1, v1) :: ts).length + 1 + ts2.length) (n + es.length) es2 → ∀ Z4, Z4 = (zb_u (zb_u (zb_u Z3 (p + 18) (n + es.length + es2.length) ((ck : Int) - 28)) (p + 19) (n + es.length + es2.length) 0) (p + 15) 5 (((n + es.length + es2.length : Nat) : Int) + 1)) → Q none (zb_M Z4) F := fun Z2 Z3 g g3 Z4 e4 => by
    subst e4
    exact hq _ (rdT_cast (rdT_trans (rdT_adv hp g) (rdT_emit hp ((ck : Int) - 28) 0 g3) hp) (by show _ = i + ((k1, v1) :: (ts ++ (ck, 0) :: ts2)).length; simp only [List.length_append, List.length_cons]; omega) rfl)
  rcases hp with rfl | rfl <;> (
    refine gz_aload_n dX4_readSingle_0 rfl ?_
    refine gz_getf 3 dX4_readSingle_1 rfl rfl wf_Heliographs_Reader_21 (by decide) rfl ?_
    refine gv_0 (J := mX6_kind) (d1 := d - 1) dX4_readSingle_4 wm_Heliographs_Reader_41 rfl jzX6_kind (Nat.le_of_ble_eq_true rfl) (Nat.le_of_ble_eq_true rfl) (by omega) ⟨Nat.le_refl _, Nat.le_refl _⟩ (zs_kind h0) ?_
    refine gz_gets (v := .ref 25) dX4_readSingle_7 (by decide) wf_Heliographs_Reader_213 (by first | exact True.intro | (show _ < _; decide)) ?_
    refine gz_acmp_ne (tgt := 41) dX4_readSingle_10 rfl hka (by show (zb_s _).1 < 1000; decide) ⟨by omega, by decide⟩ (fun b10 => ?_) (fun b10 => ?_)
    rotate_left
    · exact absurd b10 hk1.1
    refine gz_aload_n dX4_readSingle_41 rfl ?_
    refine gz_getf 3 dX4_readSingle_42 rfl rfl wf_Heliographs_Reader_21 (by decide) rfl ?_
    refine gv_0 (J := mX6_kind) (d1 := d - 1) dX4_readSingle_45 wm_Heliographs_Reader_41 rfl jzX6_kind (Nat.le_of_ble_eq_true rfl) (Nat.le_of_ble_eq_true rfl) (by omega) ⟨Nat.le_refl _, Nat.le_refl _⟩ (zs_kind h0) ?_
    refine gz_gets (v := .ref 31) dX4_readSingle_48 (by decide) wf_Heliographs_Reader_220 (by first | exact True.intro | (show _ < _; decide)) ?_
    refine gz_acmp_ne (tgt := 82) dX4_readSingle_51 rfl hka (by show (zb_s _).1 < 1000; decide) ⟨by omega, by decide⟩ (fun b51 => ?_) (fun b51 => ?_)
    rotate_left
    · exact absurd b51 hk1.2.1
    refine gz_aload_n dX4_readSingle_82 rfl ?_
    refine gz_gets (v := .ref 23) dX4_readSingle_83 (by decide) wf_Heliographs_Reader_226 (by first | exact True.intro | (show _ < _; decide)) ?_
    refine gv_1 (J := mX4_accept) (d1 := d - 1) dX4_readSingle_86 wm_Heliographs_Reader_56 rfl jzX4_accept (Nat.le_of_ble_eq_true rfl) (Nat.le_of_ble_eq_true rfl) (by omega) ⟨Nat.le_refl _, Nat.le_refl _⟩ (zs_accept_f h0 hk1.2.2.1 (by decide) (by omega)) ?_
    refine zz_if_eq (tgt := 115) dX4_readSingle_89 rfl (by omega) (fun b89 => ?_) (fun b89 => ?_)
    rotate_left
    · exact absurd b89 (by omega)
    refine gz_aload_n dX4_readSingle_115 rfl ?_
    refine gz_gets (v := .ref 24) dX4_readSingle_116 (by decide) wf_Heliographs_Reader_229 (by first | exact True.intro | (show _ < _; decide)) ?_
    refine gv_1 (J := mX4_accept) (d1 := d - 1) dX4_readSingle_119 wm_Heliographs_Reader_56 rfl jzX4_accept (Nat.le_of_ble_eq_true rfl) (Nat.le_of_ble_eq_true rfl) (by omega) ⟨Nat.le_refl _, Nat.le_refl _⟩ (zs_accept_f h0 hk1.2.2.2 (by decide) (by omega)) ?_
    refine zz_if_eq (tgt := 149) dX4_readSingle_122 rfl (by omega) (fun b122 => ?_) (fun b122 => ?_)
    rotate_left
    · exact absurd b122 (by omega)
    refine gz_aload_n dX4_readSingle_149 rfl ?_
    refine gz_iload_n dX4_readSingle_150 rfl ?_
    refine gq_1 (J := mX4_readSum) (d1 := d - 1) dX4_readSingle_151 wm_Heliographs_Reader_232 rfl jzX4_readSum (Nat.le_of_ble_eq_true rfl) (Nat.le_of_ble_eq_true rfl) (by omega) (hgo1) (fun Z151 hZ151 => ?_)
    refine gz_aload_n dX4_readSingle_154 rfl ?_
    refine gz_getf 3 dX4_readSingle_155 rfl rfl wf_Heliographs_Reader_21 (by decide) rfl ?_
    refine gv_0 (J := mX6_kind) (d1 := d - 1) dX4_readSingle_158 wm_Heliographs_Reader_41 rfl jzX6_kind (Nat.le_of_ble_eq_true rfl) (Nat.le_of_ble_eq_true rfl) (by omega) ⟨Nat.le_refl _, Nat.le_refl _⟩ (zs_kind (fin1 _ hZ151).1) ?_
    refine gs_1 (J := mX4_comparisonOf) (d1 := d - 1) dX4_readSingle_161 wm_Heliographs_Reader_235 jzX4_comparisonOf (Nat.le_of_ble_eq_true rfl) (Nat.le_of_ble_eq_true rfl) (by omega) ⟨Nat.le_refl _, Nat.le_refl _⟩ (zs_cmp hck) ?_
    refine gz_istore_n dX4_readSingle_164 (Nat.le_of_ble_eq_true rfl) rfl ?_
    refine gz_iload_n dX4_readSingle_165 rfl ?_
    refine zz_iconst dX4_readSingle_166 ?_
    refine zz_icmp_ne (tgt := 177) dX4_readSingle_167 rfl (by omega) (fun b167 => ?_) (fun b167 => ?_)
    rotate_left
    · exact absurd b167 (by omega)
    refine gz_aload_n dX4_readSingle_177 rfl ?_
    refine gz_getf 3 dX4_readSingle_178 rfl rfl wf_Heliographs_Reader_21 (by decide) rfl ?_
    refine gv_0 (J := mX6_advance) (d1 := d - 1) dX4_readSingle_181 wm_Heliographs_Reader_239 rfl jzX6_advance (Nat.le_of_ble_eq_true rfl) (Nat.le_of_ble_eq_true rfl) (by omega) ⟨Nat.le_refl _, Nat.le_refl _⟩ (zs_advance (fin1 _ hZ151).1) ?_
    refine gz_aload_n dX4_readSingle_184 rfl ?_
    refine gz_iload_n dX4_readSingle_185 rfl ?_
    refine gq_1 (J := mX4_readSum) (d1 := d - 1) dX4_readSingle_186 wm_Heliographs_Reader_232 rfl jzX4_readSum (Nat.le_of_ble_eq_true rfl) (Nat.le_of_ble_eq_true rfl) (by omega) ((fin1 _ hZ151).2.1) (fun Z186 hZ186 => ?_)
    refine gz_aload_n dX4_readSingle_189 rfl ?_
    refine gz_iload_n dX4_readSingle_190 rfl ?_
    refine zz_iconst dX4_readSingle_191 ?_
    refine gv_2 (J := mX4_emit) (d1 := d - 1) dX4_readSingle_192 wm_Heliographs_Reader_206 rfl jzX4_emit (Nat.le_of_ble_eq_true rfl) (Nat.le_of_ble_eq_true rfl) (by omega) ⟨Nat.le_refl _, Nat.le_refl _⟩ (zs_emit (by decide) ((hZ186.1 _ _ (by omega) (by omega) (by omega)).trans (fin1 _ hZ151).2.2) (by omega) hZ186.2.2.1 (by omega)) ?_
    refine gz_return_ dX4_readSingle_195 rfl ?_
    exact fin2 _ _ hZ151 hZ186 _ rfl
  )
theorem rd_both1 {p np nw nm dep : Nat} (hp : p = 368 ∨ p = 400) (hd : 9 ≤ d) {ts : List (Nat × Int)} {es : List (Int × Int)} (hS : zRd l Γ F p np nw nm (d - 1) mX4_readSingle dep [35, 36, 37, 38] ts es) : zRd l Γ F p np nw nm d mX4_readBoth dep [7, 35, 36, 37, 38] ts es := by
  intro Z i n k v2 r h hN hb hn Q hq
  have hgo := hS _ _ _ _ _ _ h hN (fun q => hb (by simp at q ⊢; omega)) hn
  have hne1 : k ≠ 7 := bnot hb (by decide)
  refine gz_aload_n dX4_readBoth_0 rfl ?_
  refine gz_iload_n dX4_readBoth_1 rfl ?_
  refine gq_1 (J := mX4_readSingle) (d1 := d - 1) dX4_readBoth_2 wm_Heliographs_Reader_210 rfl jzX4_readSingle (Nat.le_of_ble_eq_true rfl) (Nat.le_of_ble_eq_true rfl) (by omega) (hgo) (fun Z2 hZ2 => ?_)
  have h0 := rdS_T (ts := ts) hp h hZ2 (by omega)
  refine zz_iconst dX4_readBoth_5 ?_
  refine gz_istore_n dX4_readBoth_6 (Nat.le_of_ble_eq_true rfl) rfl ?_
  refine gz_iload_n dX4_readBoth_7 rfl ?_
  refine zz_sipush (x := 400) dX4_readBoth_8 rfl ?_
  refine zz_icmp_ge (tgt := 42) dX4_readBoth_11 rfl (by omega) (fun b11 => ?_) (fun b11 => ?_)
  · exact absurd b11 (by omega)
  refine gz_aload_n dX4_readBoth_14 rfl ?_
  refine gz_gets (v := .ref 7) dX4_readBoth_15 (by decide) wf_Heliographs_Reader_134 (by first | exact True.intro | (show _ < _; decide)) ?_
  refine gv_1 (J := mX4_accept) (d1 := d - 1) dX4_readBoth_18 wm_Heliographs_Reader_56 rfl jzX4_accept (Nat.le_of_ble_eq_true rfl) (Nat.le_of_ble_eq_true rfl) (by omega) ⟨Nat.le_refl _, Nat.le_refl _⟩ (zs_accept_f h0 hne1 (by decide) (by omega)) ?_
  refine zz_if_eq (tgt := 42) dX4_readBoth_21 rfl (by omega) (fun b21 => ?_) (fun b21 => ?_)
  rotate_left
  · exact absurd b21 (by omega)
  refine gz_return_ dX4_readBoth_42 rfl ?_
  exact hq _ hZ2
theorem rd_both2 {p np nw nm dep : Nat} (hp : p = 368 ∨ p = 400) (hd : 9 ≤ d) {ts ts2 : List (Nat × Int)} {es es2 : List (Int × Int)} (hS : zRd l Γ F p np nw nm (d - 1) mX4_readSingle dep [35, 36, 37, 38] ts es) (hS2 : zRd l Γ F p np nw nm (d - 1) mX4_readSingle dep [35, 36, 37, 38] ts2 es2) : zRd l Γ F p np nw nm d mX4_readBoth dep [7, 35, 36, 37, 38] (ts ++ (7, 0) :: ts2) (es ++ (es2 ++ [(9, 0)])) := by
  intro Z i n k v2 r h hN hb hn Q hq
  simp only [List.length_append, List.length_cons, List.length_nil] at hn
  have h9 : rdS Z p i n (ts ++ ((7, 0) :: (ts2 ++ (k, v2) :: r))) := by
    have e : (ts ++ (7, 0) :: ts2) ++ (k, v2) :: r = (ts ++ ((7, 0) :: (ts2 ++ (k, v2) :: r)) : List (Nat × Int)) := by simp
    rw [← e]; exact h
  have hgo := hS _ _ _ _ _ _ h9 hN (by decide) (by omega)
  have hne1 : k ≠ 7 := bnot hb (by decide)
  have fin1 : ∀ Z2, rdT p Z Z2 (i + ts.length) n es → rdS Z2 p (i + ts.length) (n + es.length) ((7, 0) :: (ts2 ++ (k, v2) :: r)) ∧ zk_DoesR l Γ mX4_readSingle (d - 1) [.ref 327, .int (iZ (dep : Int))] (zb_u Z2 323 4 (((i + ts.length : Nat) : Int) + 1)) F none (fun Z' => rdT p (zb_u Z2 323 4 (((i + ts.length : Nat) : Int) + 1)) Z' (i + ts.length + 1 + ts2.length) (n + es.length) es2) ∧ (zb_u Z2 323 4 (((i + ts.length : Nat) : Int) + 1)) 327 4 = (p : Int) := fun Z2 g => by
    have hz := rdS_T (ts := ts) hp h9 g (by omega)
    have hz1 := rdS_adv hp hz
    exact ⟨hz, hS2 _ _ _ _ _ _ hz1 (rdN_T hp (rdN_T hp hN g) (rdT_adv hp (rdT_refl hz))) (fun q => hb (by simp at q ⊢; omega)) (by omega), hz1.2.2.2.2.2.1⟩
  have fin2 : ∀ Z2 Z3, rdT p Z Z2 (i + ts.length) n es → rdT p (zb_u Z2 323 4 (((i + ts.length : Nat) : Int) + 1)) Z3 (i + ts.length + 1 + ts2.length) (n + es.length) es2 → ∀ Z4, Z4 = (zb_u (zb_u (zb_u Z3 (p + 18) (n + es.length + es2.length) 9) (p + 19) (n + es.length + es2.length) 0) (p + 15) 5 (((n + es.length + es2.length : Nat) : Int) + 1)) → (∃ i2 n2, rdS Z4 p i2 n2 ((k, v2) :: r)) ∧ Q none (zb_M Z4) F := fun Z2 Z3 g g3 Z4 e4 => by
    subst e4
    have hz := rdS_T (ts := ts) hp h9 g (by omega)
    have hz1 := rdS_adv hp hz
    have g4 := rdT_emit hp 9 0 g3
    exact ⟨⟨_, _, rdS_T (ts := ts2) hp hz1 g4 (by rw [List.length_append]; show n + es.length + (es2.length + 1) ≤ 400; omega)⟩, hq _ (rdT_cast (rdT_trans (rdT_adv hp g) g4 hp) (by simp only [List.length_append, List.length_cons]; omega) rfl)⟩
  rcases hp with rfl | rfl <;> (
    refine gz_aload_n dX4_readBoth_0 rfl ?_
    refine gz_iload_n dX4_readBoth_1 rfl ?_
    refine gq_1 (J := mX4_readSingle) (d1 := d - 1) dX4_readBoth_2 wm_Heliographs_Reader_210 rfl jzX4_readSingle (Nat.le_of_ble_eq_true rfl) (Nat.le_of_ble_eq_true rfl) (by omega) (hgo) (fun Z2 hZ2 => ?_)
    refine zz_iconst dX4_readBoth_5 ?_
    refine gz_istore_n dX4_readBoth_6 (Nat.le_of_ble_eq_true rfl) rfl ?_
    refine gz_iload_n dX4_readBoth_7 rfl ?_
    refine zz_sipush (x := 400) dX4_readBoth_8 rfl ?_
    refine zz_icmp_ge (tgt := 42) dX4_readBoth_11 rfl (by omega) (fun b11 => ?_) (fun b11 => ?_)
    · exact absurd b11 (by omega)
    refine gz_aload_n dX4_readBoth_14 rfl ?_
    refine gz_gets (v := .ref 7) dX4_readBoth_15 (by decide) wf_Heliographs_Reader_134 (by first | exact True.intro | (show _ < _; decide)) ?_
    refine gv_1 (J := mX4_accept) (d1 := d - 1) dX4_readBoth_18 wm_Heliographs_Reader_56 rfl jzX4_accept (Nat.le_of_ble_eq_true rfl) (Nat.le_of_ble_eq_true rfl) (by omega) ⟨Nat.le_refl _, Nat.le_refl _⟩ (zs_accept_t (fin1 _ hZ2).1 (by omega)) ?_
    refine zz_if_eq (tgt := 42) dX4_readBoth_21 rfl (by omega) (fun b21 => ?_) (fun b21 => ?_)
    · exact absurd b21 (by omega)
    refine gz_aload_n dX4_readBoth_24 rfl ?_
    refine gz_iload_n dX4_readBoth_25 rfl ?_
    refine gq_1 (J := mX4_readSingle) (d1 := d - 1) dX4_readBoth_26 wm_Heliographs_Reader_210 rfl jzX4_readSingle (Nat.le_of_ble_eq_true rfl) (Nat.le_of_ble_eq_true rfl) (by omega) ((fin1 _ hZ2).2.1) (fun Z26 hZ26 => ?_)
    refine gz_aload_n dX4_readBoth_29 rfl ?_
    refine zz_bipush (x := 9) dX4_readBoth_30 rfl ?_
    refine zz_iconst dX4_readBoth_32 ?_
    refine gv_2 (J := mX4_emit) (d1 := d - 1) dX4_readBoth_33 wm_Heliographs_Reader_206 rfl jzX4_emit (Nat.le_of_ble_eq_true rfl) (Nat.le_of_ble_eq_true rfl) (by omega) ⟨Nat.le_refl _, Nat.le_refl _⟩ (zs_emit (by decide) ((hZ26.1 _ _ (by omega) (by omega) (by omega)).trans (fin1 _ hZ2).2.2) (by omega) hZ26.2.2.1 (by omega)) ?_
    refine zz_iinc dX4_readBoth_36 rfl rfl ?_
    refine gz_goto (tgt := 7) dX4_readBoth_39 rfl ?_
    obtain ⟨i2, n2, h8⟩ := (fin2 _ _ hZ2 hZ26 _ rfl).1
    refine gz_iload_n dX4_readBoth_7 rfl ?_
    refine zz_sipush (x := 400) dX4_readBoth_8 rfl ?_
    refine zz_icmp_ge (tgt := 42) dX4_readBoth_11 rfl (by omega) (fun b11 => ?_) (fun b11 => ?_)
    · exact absurd b11 (by omega)
    refine gz_aload_n dX4_readBoth_14 rfl ?_
    refine gz_gets (v := .ref 7) dX4_readBoth_15 (by decide) wf_Heliographs_Reader_134 (by first | exact True.intro | (show _ < _; decide)) ?_
    refine gv_1 (J := mX4_accept) (d1 := d - 1) dX4_readBoth_18 wm_Heliographs_Reader_56 rfl jzX4_accept (Nat.le_of_ble_eq_true rfl) (Nat.le_of_ble_eq_true rfl) (by omega) ⟨Nat.le_refl _, Nat.le_refl _⟩ (zs_accept_f h8 hne1 (by decide) (by omega)) ?_
    refine zz_if_eq (tgt := 42) dX4_readBoth_21 rfl (by omega) (fun b21 => ?_) (fun b21 => ?_)
    rotate_left
    · exact absurd b21 (by omega)
    refine gz_return_ dX4_readBoth_42 rfl ?_
    exact (fin2 _ _ hZ2 hZ26 _ rfl).2
  )
theorem rd_test1 {p np nw nm dep : Nat} (hp : p = 368 ∨ p = 400) (hd : 9 ≤ d) {ts : List (Nat × Int)} {es : List (Int × Int)} (hS : zRd l Γ F p np nw nm (d - 1) mX4_readBoth dep [7, 35, 36, 37, 38] ts es) : zRd l Γ F p np nw nm d mX4_readTest dep [7, 26, 35, 36, 37, 38] ts es := by
  intro Z i n k v2 r h hN hb hn Q hq
  have hgo := hS _ _ _ _ _ _ h hN (fun q => hb (by simp at q ⊢; omega)) hn
  have hne1 : k ≠ 26 := bnot hb (by decide)
  refine gz_aload_n dX4_readTest_0 rfl ?_
  refine gz_iload_n dX4_readTest_1 rfl ?_
  refine gq_1 (J := mX4_readBoth) (d1 := d - 1) dX4_readTest_2 wm_Heliographs_Reader_200 rfl jzX4_readBoth (Nat.le_of_ble_eq_true rfl) (Nat.le_of_ble_eq_true rfl) (by omega) (hgo) (fun Z2 hZ2 => ?_)
  have h0 := rdS_T (ts := ts) hp h hZ2 (by omega)
  refine zz_iconst dX4_readTest_5 ?_
  refine gz_istore_n dX4_readTest_6 (Nat.le_of_ble_eq_true rfl) rfl ?_
  refine gz_iload_n dX4_readTest_7 rfl ?_
  refine zz_sipush (x := 400) dX4_readTest_8 rfl ?_
  refine zz_icmp_ge (tgt := 42) dX4_readTest_11 rfl (by omega) (fun b11 => ?_) (fun b11 => ?_)
  · exact absurd b11 (by omega)
  refine gz_aload_n dX4_readTest_14 rfl ?_
  refine gz_gets (v := .ref 26) dX4_readTest_15 (by decide) wf_Heliographs_Reader_203 (by first | exact True.intro | (show _ < _; decide)) ?_
  refine gv_1 (J := mX4_accept) (d1 := d - 1) dX4_readTest_18 wm_Heliographs_Reader_56 rfl jzX4_accept (Nat.le_of_ble_eq_true rfl) (Nat.le_of_ble_eq_true rfl) (by omega) ⟨Nat.le_refl _, Nat.le_refl _⟩ (zs_accept_f h0 hne1 (by decide) (by omega)) ?_
  refine zz_if_eq (tgt := 42) dX4_readTest_21 rfl (by omega) (fun b21 => ?_) (fun b21 => ?_)
  rotate_left
  · exact absurd b21 (by omega)
  refine gz_return_ dX4_readTest_42 rfl ?_
  exact hq _ hZ2
theorem rd_test2 {p np nw nm dep : Nat} (hp : p = 368 ∨ p = 400) (hd : 9 ≤ d) {ts ts2 : List (Nat × Int)} {es es2 : List (Int × Int)} (hS : zRd l Γ F p np nw nm (d - 1) mX4_readBoth dep [7, 35, 36, 37, 38] ts es) (hS2 : zRd l Γ F p np nw nm (d - 1) mX4_readBoth dep [7, 35, 36, 37, 38] ts2 es2) : zRd l Γ F p np nw nm d mX4_readTest dep [7, 26, 35, 36, 37, 38] (ts ++ (26, 0) :: ts2) (es ++ (es2 ++ [(10, 0)])) := by
  intro Z i n k v2 r h hN hb hn Q hq
  simp only [List.length_append, List.length_cons, List.length_nil] at hn
  have h9 : rdS Z p i n (ts ++ ((26, 0) :: (ts2 ++ (k, v2) :: r))) := by
    have e : (ts ++ (26, 0) :: ts2) ++ (k, v2) :: r = (ts ++ ((26, 0) :: (ts2 ++ (k, v2) :: r)) : List (Nat × Int)) := by simp
    rw [← e]; exact h
  have hgo := hS _ _ _ _ _ _ h9 hN (by decide) (by omega)
  have hne1 : k ≠ 26 := bnot hb (by decide)
  have fin1 : ∀ Z2, rdT p Z Z2 (i + ts.length) n es → rdS Z2 p (i + ts.length) (n + es.length) ((26, 0) :: (ts2 ++ (k, v2) :: r)) ∧ zk_DoesR l Γ mX4_readBoth (d - 1) [.ref 327, .int (iZ (dep : Int))] (zb_u Z2 323 4 (((i + ts.length : Nat) : Int) + 1)) F none (fun Z' => rdT p (zb_u Z2 323 4 (((i + ts.length : Nat) : Int) + 1)) Z' (i + ts.length + 1 + ts2.length) (n + es.length) es2) ∧ (zb_u Z2 323 4 (((i + ts.length : Nat) : Int) + 1)) 327 4 = (p : Int) := fun Z2 g => by
    have hz := rdS_T (ts := ts) hp h9 g (by omega)
    have hz1 := rdS_adv hp hz
    exact ⟨hz, hS2 _ _ _ _ _ _ hz1 (rdN_T hp (rdN_T hp hN g) (rdT_adv hp (rdT_refl hz))) (fun q => hb (by simp at q ⊢; omega)) (by omega), hz1.2.2.2.2.2.1⟩
  have fin2 : ∀ Z2 Z3, rdT p Z Z2 (i + ts.length) n es → rdT p (zb_u Z2 323 4 (((i + ts.length : Nat) : Int) + 1)) Z3 (i + ts.length + 1 + ts2.length) (n + es.length) es2 → ∀ Z4, Z4 = (zb_u (zb_u (zb_u Z3 (p + 18) (n + es.length + es2.length) 10) (p + 19) (n + es.length + es2.length) 0) (p + 15) 5 (((n + es.length + es2.length : Nat) : Int) + 1)) → (∃ i2 n2, rdS Z4 p i2 n2 ((k, v2) :: r)) ∧ Q none (zb_M Z4) F := fun Z2 Z3 g g3 Z4 e4 => by
    subst e4
    have hz := rdS_T (ts := ts) hp h9 g (by omega)
    have hz1 := rdS_adv hp hz
    have g4 := rdT_emit hp 10 0 g3
    exact ⟨⟨_, _, rdS_T (ts := ts2) hp hz1 g4 (by rw [List.length_append]; show n + es.length + (es2.length + 1) ≤ 400; omega)⟩, hq _ (rdT_cast (rdT_trans (rdT_adv hp g) g4 hp) (by simp only [List.length_append, List.length_cons]; omega) rfl)⟩
  rcases hp with rfl | rfl <;> (
    refine gz_aload_n dX4_readTest_0 rfl ?_
    refine gz_iload_n dX4_readTest_1 rfl ?_
    refine gq_1 (J := mX4_readBoth) (d1 := d - 1) dX4_readTest_2 wm_Heliographs_Reader_200 rfl jzX4_readBoth (Nat.le_of_ble_eq_true rfl) (Nat.le_of_ble_eq_true rfl) (by omega) (hgo) (fun Z2 hZ2 => ?_)
    refine zz_iconst dX4_readTest_5 ?_
    refine gz_istore_n dX4_readTest_6 (Nat.le_of_ble_eq_true rfl) rfl ?_
    refine gz_iload_n dX4_readTest_7 rfl ?_
    refine zz_sipush (x := 400) dX4_readTest_8 rfl ?_
    refine zz_icmp_ge (tgt := 42) dX4_readTest_11 rfl (by omega) (fun b11 => ?_) (fun b11 => ?_)
    · exact absurd b11 (by omega)
    refine gz_aload_n dX4_readTest_14 rfl ?_
    refine gz_gets (v := .ref 26) dX4_readTest_15 (by decide) wf_Heliographs_Reader_203 (by first | exact True.intro | (show _ < _; decide)) ?_
    refine gv_1 (J := mX4_accept) (d1 := d - 1) dX4_readTest_18 wm_Heliographs_Reader_56 rfl jzX4_accept (Nat.le_of_ble_eq_true rfl) (Nat.le_of_ble_eq_true rfl) (by omega) ⟨Nat.le_refl _, Nat.le_refl _⟩ (zs_accept_t (fin1 _ hZ2).1 (by omega)) ?_
    refine zz_if_eq (tgt := 42) dX4_readTest_21 rfl (by omega) (fun b21 => ?_) (fun b21 => ?_)
    · exact absurd b21 (by omega)
    refine gz_aload_n dX4_readTest_24 rfl ?_
    refine gz_iload_n dX4_readTest_25 rfl ?_
    refine gq_1 (J := mX4_readBoth) (d1 := d - 1) dX4_readTest_26 wm_Heliographs_Reader_200 rfl jzX4_readBoth (Nat.le_of_ble_eq_true rfl) (Nat.le_of_ble_eq_true rfl) (by omega) ((fin1 _ hZ2).2.1) (fun Z26 hZ26 => ?_)
    refine gz_aload_n dX4_readTest_29 rfl ?_
    refine zz_bipush (x := 10) dX4_readTest_30 rfl ?_
    refine zz_iconst dX4_readTest_32 ?_
    refine gv_2 (J := mX4_emit) (d1 := d - 1) dX4_readTest_33 wm_Heliographs_Reader_206 rfl jzX4_emit (Nat.le_of_ble_eq_true rfl) (Nat.le_of_ble_eq_true rfl) (by omega) ⟨Nat.le_refl _, Nat.le_refl _⟩ (zs_emit (by decide) ((hZ26.1 _ _ (by omega) (by omega) (by omega)).trans (fin1 _ hZ2).2.2) (by omega) hZ26.2.2.1 (by omega)) ?_
    refine zz_iinc dX4_readTest_36 rfl rfl ?_
    refine gz_goto (tgt := 7) dX4_readTest_39 rfl ?_
    obtain ⟨i2, n2, h8⟩ := (fin2 _ _ hZ2 hZ26 _ rfl).1
    refine gz_iload_n dX4_readTest_7 rfl ?_
    refine zz_sipush (x := 400) dX4_readTest_8 rfl ?_
    refine zz_icmp_ge (tgt := 42) dX4_readTest_11 rfl (by omega) (fun b11 => ?_) (fun b11 => ?_)
    · exact absurd b11 (by omega)
    refine gz_aload_n dX4_readTest_14 rfl ?_
    refine gz_gets (v := .ref 26) dX4_readTest_15 (by decide) wf_Heliographs_Reader_203 (by first | exact True.intro | (show _ < _; decide)) ?_
    refine gv_1 (J := mX4_accept) (d1 := d - 1) dX4_readTest_18 wm_Heliographs_Reader_56 rfl jzX4_accept (Nat.le_of_ble_eq_true rfl) (Nat.le_of_ble_eq_true rfl) (by omega) ⟨Nat.le_refl _, Nat.le_refl _⟩ (zs_accept_f h8 hne1 (by decide) (by omega)) ?_
    refine zz_if_eq (tgt := 42) dX4_readTest_21 rfl (by omega) (fun b21 => ?_) (fun b21 => ?_)
    rotate_left
    · exact absurd b21 (by omega)
    refine gz_return_ dX4_readTest_42 rfl ?_
    exact (fin2 _ _ hZ2 hZ26 _ rfl).2
  )
end

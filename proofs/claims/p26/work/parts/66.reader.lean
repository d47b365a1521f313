/-! THE READER: tokens taken, names, numbers -/
section
variable {l : Launch} {Γ : zk_G} {d : Nat} {Z : Nat → Nat → Int} {F : Heap → Prop}
/-- the reader before the tokens ts: at place i, the plan at p, n operations of orders told -/
def rdS (Z : zV) (p i n : Nat) (ts : List (Nat × Int)) : Prop := Z 323 4 = (i : Int) ∧ Z 323 3 = ((i + ts.length : Nat) : Int) ∧ i + ts.length ≤ 401 ∧ hTk Z i ts ∧ (∀ x, x ∈ ts → x.1 < 48) ∧ Z 327 4 = (p : Int) ∧ Z 327 5 = 0 ∧ Z (p + 15) 5 = (n : Int) ∧ n ≤ 400
theorem hTk_to {Z Z2 : zV} (h : ∀ a j, 324 ≤ a → a ≤ 326 → Z2 a j = Z a j) : ∀ {ts : List (Nat × Int)} {i : Nat}, hTk Z i ts → hTk Z2 i ts
  | [], _, _ => trivial
  | x :: ts, i, g => ⟨(h 324 i (by omega) (by omega)).trans g.1, fun q => (h 326 i (by omega) (by omega)).trans (g.2.1 q), hTk_to h g.2.2⟩
theorem rdS_len {Z : zV} {p i n : Nat} {x : Nat × Int} {r : List (Nat × Int)} (h : rdS Z p i n (x :: r)) : Z 323 4 = (i : Int) ∧ Z 323 3 = ((i + r.length + 1 : Nat) : Int) ∧ i + r.length + 1 ≤ 401 ∧ x.1 < 48 ∧ Z 324 i = (x.1 : Int) ∧ ((x.1 = 44 ∨ x.1 = 45) → Z 326 i = x.2) := by
  obtain ⟨h1, h2, h3, h4, h5, -⟩ := h
  have e : (x :: r).length = r.length + 1 := rfl
  rw [e] at h2 h3
  exact ⟨h1, by rw [h2]; omega, by omega, h5 x List.mem_cons_self, h4.1, h4.2.1⟩
theorem rdS_adv {Z : zV} {p i n : Nat} (hp : p = 368 ∨ p = 400) {x : Nat × Int} {r : List (Nat × Int)} (h : rdS Z p i n (x :: r)) : rdS (zb_u Z 323 4 ((i : Int) + 1)) p (i + 1) n r := by
  have q := rdS_len h
  obtain ⟨h1, h2, h3, h4, h5, h6, h7, h8, h9⟩ := h
  exact ⟨(zb_u_at _ _ _ _).trans (by omega), (zb_u_j _ _ (by decide)).trans (q.2.1.trans (by omega)), by omega, hTk_to (fun a j q1 q2 => zb_u_a _ _ (by omega)) h4.2.2, fun y hy => h5 y (List.mem_cons_of_mem _ hy), (zb_u_a _ _ (by decide)).trans h6, (zb_u_a _ _ (by decide)).trans h7, (zb_u_a _ _ (by omega)).trans h8, h9⟩
theorem lZ_i (v : Int) : (lZ v).toInt32 = iZ v := by
  unfold lZ iZ
  first | exact Int64.toInt32_ofInt v | simp
theorem zs_kind {p i n k : Nat} {v : Int} {r : List (Nat × Int)} (h : rdS Z p i n ((k, v) :: r)) : zk_Does l Γ mX6_kind d 0 0 [.ref 323] (zb_M Z) F (some (.ref k)) (zb_M Z) F := by
  intro Q hq
  have g := rdS_len h
  refine gz_aload_n dX6_kind_0 rfl ?_
  refine gz_getf 4 dX6_kind_1 rfl rfl wf_Heliographs_Tokens_29 (by decide) (zv_i g.1) ?_
  refine gz_aload_n dX6_kind_4 rfl ?_
  refine gz_getf 3 dX6_kind_5 rfl rfl wf_Heliographs_Tokens_25 (by decide) (zv_i g.2.1) ?_
  refine zz_icmp_ge (tgt := 35) dX6_kind_8 rfl (by omega) (fun b8 => ?_) (fun b8 => ?_)
  · exact absurd b8 (by omega)
  refine gz_aload_n dX6_kind_11 rfl ?_
  refine gz_getf 4 dX6_kind_12 rfl rfl wf_Heliographs_Tokens_29 (by decide) (zv_i g.1) ?_
  refine gz_aload_n dX6_kind_15 rfl ?_
  refine gz_getf 0 dX6_kind_16 rfl rfl wf_Heliographs_Tokens_11 (by decide) rfl ?_
  refine gz_alen (k := 4) dX6_kind_19 rfl (by decide) ?_
  refine zz_icmp_ge (tgt := 35) dX6_kind_20 rfl (by omega) (fun b20 => ?_) (fun b20 => ?_)
  · exact absurd b20 (by omega)
  refine gz_aload_n dX6_kind_23 rfl ?_
  refine gz_getf 0 dX6_kind_24 rfl rfl wf_Heliographs_Tokens_11 (by decide) rfl ?_
  refine gz_aload_n dX6_kind_27 rfl ?_
  refine gz_getf 4 dX6_kind_28 rfl rfl wf_Heliographs_Tokens_29 (by decide) (zv_i g.1) ?_
  refine gz_aald (k := 4) (n := i) dX6_kind_31 rfl (by decide) rfl (by omega) (by show zb_r (Z 324 i) = _; rw [g.2.2.2.2.1, zb_r_n]) ?_
  refine gz_goto (tgt := 38) dX6_kind_32 rfl ?_
  refine gz_areturn dX6_kind_38 rfl (Or.inl ⟨_, rfl⟩) ?_
  exact hq
theorem zs_value {p i n k : Nat} {v : Int} {r : List (Nat × Int)} (h : rdS Z p i n ((k, v) :: r)) (hk : k = 44 ∨ k = 45) : zk_Does l Γ mX6_value d 0 0 [.ref 323] (zb_M Z) F (some (.long (lZ v))) (zb_M Z) F := by
  intro Q hq
  have g := rdS_len h
  refine gz_aload_n dX6_value_0 rfl ?_
  refine gz_getf 4 dX6_value_1 rfl rfl wf_Heliographs_Tokens_29 (by decide) (zv_i g.1) ?_
  refine gz_aload_n dX6_value_4 rfl ?_
  refine gz_getf 3 dX6_value_5 rfl rfl wf_Heliographs_Tokens_25 (by decide) (zv_i g.2.1) ?_
  refine zz_icmp_ge (tgt := 35) dX6_value_8 rfl (by omega) (fun b8 => ?_) (fun b8 => ?_)
  · exact absurd b8 (by omega)
  refine gz_aload_n dX6_value_11 rfl ?_
  refine gz_getf 4 dX6_value_12 rfl rfl wf_Heliographs_Tokens_29 (by decide) (zv_i g.1) ?_
  refine gz_aload_n dX6_value_15 rfl ?_
  refine gz_getf 2 dX6_value_16 rfl rfl wf_Heliographs_Tokens_21 (by decide) rfl ?_
  refine gz_alen (k := 1) dX6_value_19 rfl (by decide) ?_
  refine zz_icmp_ge (tgt := 35) dX6_value_20 rfl (by omega) (fun b20 => ?_) (fun b20 => ?_)
  · exact absurd b20 (by omega)
  refine gz_aload_n dX6_value_23 rfl ?_
  refine gz_getf 2 dX6_value_24 rfl rfl wf_Heliographs_Tokens_21 (by decide) rfl ?_
  refine gz_aload_n dX6_value_27 rfl ?_
  refine gz_getf 4 dX6_value_28 rfl rfl wf_Heliographs_Tokens_29 (by decide) (zv_i g.1) ?_
  refine gz_lald (n := i) dX6_value_31 rfl rfl (by omega) (zv_l (g.2.2.2.2.2 hk)) ?_
  refine gz_goto (tgt := 36) dX6_value_32 rfl ?_
  refine gz_lreturn dX6_value_36 rfl ?_
  exact hq
theorem zs_advance {p i n k : Nat} {v : Int} {r : List (Nat × Int)} (h : rdS Z p i n ((k, v) :: r)) : zk_Does l Γ mX6_advance d 0 0 [.ref 323] (zb_M Z) F none (zb_M (zb_u Z 323 4 ((i : Int) + 1))) F := by
  intro Q hq
  have g := rdS_len h
  refine gz_aload_n dX6_advance_0 rfl ?_
  refine gz_getf 4 dX6_advance_1 rfl rfl wf_Heliographs_Tokens_29 (by decide) (zv_i g.1) ?_
  refine gz_aload_n dX6_advance_4 rfl ?_
  refine gz_getf 3 dX6_advance_5 rfl rfl wf_Heliographs_Tokens_25 (by decide) (zv_i g.2.1) ?_
  refine zz_icmp_ge (tgt := 21) dX6_advance_8 rfl (by omega) (fun b8 => ?_) (fun b8 => ?_)
  · exact absurd b8 (by omega)
  refine gz_aload_n dX6_advance_11 rfl ?_
  refine gz_dup dX6_advance_12 rfl ?_
  refine gz_getf 4 dX6_advance_13 rfl rfl wf_Heliographs_Tokens_29 (by decide) (zv_i g.1) ?_
  refine zz_iconst dX6_advance_16 ?_
  refine zz_iadd dX6_advance_17 ?_
  refine zc_putf 4 dX6_advance_18 rfl rfl wf_Heliographs_Tokens_29 (by decide) (by decide) jo_Heliographs_Tokens ju_Heliographs_Tokens rfl tyX6 tyX6_ok nmX6 rfl (fun _ => ⟨rfl, rfl⟩) rfl ?_
  refine gz_return_ dX6_advance_21 rfl ?_
  exact hq
theorem zs_accept_t {p i n k : Nat} {v : Int} {r : List (Nat × Int)} (h : rdS Z p i n ((k, v) :: r)) (hd : 1 ≤ d) : zk_Does l Γ mX4_accept d 0 0 [.ref 327, .ref k] (zb_M Z) F (some (.int (iZ 1))) (zb_M (zb_u Z 323 4 ((i : Int) + 1))) F := by
  intro Q hq
  have hk2 := (rdS_len h).2.2.2.1
  have g := rdS_len h
  have hka : (zb_s k).1 < 1000 := by rw [(kind_text (Z := Z) g.2.2.2.1).1]; decide
  have hkb := hka
  refine gz_aload_n dX4_accept_0 rfl ?_
  refine gz_getf 3 dX4_accept_1 rfl rfl wf_Heliographs_Reader_21 (by decide) rfl ?_
  refine gv_0 (J := mX6_kind) (d1 := d - 1) dX4_accept_4 wm_Heliographs_Reader_41 rfl jzX6_kind (Nat.le_of_ble_eq_true rfl) (Nat.le_of_ble_eq_true rfl) (by omega) ⟨Nat.le_refl _, Nat.le_refl _⟩ (zs_kind h) ?_
  refine gz_aload_n dX4_accept_7 rfl ?_
  refine gz_acmp_eq (tgt := 13) dX4_accept_8 rfl hka hkb ⟨by omega, by omega⟩ (fun b8 => ?_) (fun b8 => ?_)
  rotate_left
  · exact absurd rfl b8
  refine gz_aload_n dX4_accept_13 rfl ?_
  refine gz_getf 3 dX4_accept_14 rfl rfl wf_Heliographs_Reader_21 (by decide) rfl ?_
  refine gv_0 (J := mX6_advance) (d1 := d - 1) dX4_accept_17 wm_Heliographs_Reader_239 rfl jzX6_advance (Nat.le_of_ble_eq_true rfl) (Nat.le_of_ble_eq_true rfl) (by omega) ⟨Nat.le_refl _, Nat.le_refl _⟩ (zs_advance h) ?_
  refine zz_iconst dX4_accept_20 ?_
  refine gz_ireturn dX4_accept_21 rfl rfl ?_
  exact hq
theorem zs_accept_f {p i n k k2 : Nat} {v : Int} {r : List (Nat × Int)} (h : rdS Z p i n ((k, v) :: r)) (hne : k ≠ k2) (hk2 : k2 < 48) (hd : 1 ≤ d) : zk_Does l Γ mX4_accept d 0 0 [.ref 327, .ref k2] (zb_M Z) F (some (.int (iZ 0))) (zb_M Z) F := by
  intro Q hq
  have g := rdS_len h
  have hka : (zb_s k).1 < 1000 := by rw [(kind_text (Z := Z) g.2.2.2.1).1]; decide
  have hkb : (zb_s k2).1 < 1000 := by rw [(kind_text (Z := Z) hk2).1]; decide
  refine gz_aload_n dX4_accept_0 rfl ?_
  refine gz_getf 3 dX4_accept_1 rfl rfl wf_Heliographs_Reader_21 (by decide) rfl ?_
  refine gv_0 (J := mX6_kind) (d1 := d - 1) dX4_accept_4 wm_Heliographs_Reader_41 rfl jzX6_kind (Nat.le_of_ble_eq_true rfl) (Nat.le_of_ble_eq_true rfl) (by omega) ⟨Nat.le_refl _, Nat.le_refl _⟩ (zs_kind h) ?_
  refine gz_aload_n dX4_accept_7 rfl ?_
  refine gz_acmp_eq (tgt := 13) dX4_accept_8 rfl hka hkb ⟨by omega, by omega⟩ (fun b8 => ?_) (fun b8 => ?_)
  · exact absurd b8 hne
  refine zz_iconst dX4_accept_11 ?_
  refine gz_ireturn dX4_accept_12 rfl rfl ?_
  exact hq
theorem zs_expect {p i n k : Nat} {v : Int} {r : List (Nat × Int)} (h : rdS Z p i n ((k, v) :: r)) (hd : 2 ≤ d) : zk_Does l Γ mX4_expect d 0 0 [.ref 327, .ref k] (zb_M Z) F none (zb_M (zb_u Z 323 4 ((i : Int) + 1))) F := by
  intro Q hq
  refine gz_aload_n dX4_expect_0 rfl ?_
  refine gz_aload_n dX4_expect_1 rfl ?_
  refine gv_1 (J := mX4_accept) (d1 := d - 1) dX4_expect_2 wm_Heliographs_Reader_56 rfl jzX4_accept (Nat.le_of_ble_eq_true rfl) (Nat.le_of_ble_eq_true rfl) (by omega) ⟨Nat.le_refl _, Nat.le_refl _⟩ (zs_accept_t h (by omega)) ?_
  refine zz_if_ne (tgt := 12) dX4_expect_5 rfl (by omega) (fun b5 => ?_) (fun b5 => ?_)
  rotate_left
  · exact absurd b5 (by omega)
  refine gz_return_ dX4_expect_12 rfl ?_
  exact hq
theorem zs_find_loop {a len c x : Nat} {base : Int} (ha : (a = 328 ∧ len = 8) ∨ (a = 329 ∧ len = 12) ∨ (a = 330 ∧ len = 8)) (hc : c ≤ len) (hnm : ∀ j : Nat, j < c → Z a j = base + (j : Int)) (hb : 0 ≤ base ∧ base ≤ 1000) (hx : x ≤ c) {Q : Option Value → zk_M → (Heap → Prop) → Prop} : ∀ (m j : Nat), j + m = c → j ≤ x → Q (some (.int (iZ (if x < c then (x : Int) else -1)))) (zb_M Z) F → zk_Go l Γ mX4_find d 0 0 Q 3 [some (.ref a), some (.int (iZ (c : Int))), some (.long (lZ (base + (x : Int)))), none, some (.int (iZ (j : Int)))] [] (zb_M Z) F := by
  intro m
  induction m with
  | zero =>
    intro j hj hjx hq
    rcases ha with ⟨rfl, rfl⟩ | ⟨rfl, rfl⟩ | ⟨rfl, rfl⟩ <;> (
      refine gz_iload dX4_find_3 rfl ?_
      refine gz_iload_n dX4_find_5 rfl ?_
      refine zz_icmp_ge (tgt := 34) dX4_find_6 rfl (by omega) (fun b6 => ?_) (fun b6 => ?_)
      rotate_left
      · exact absurd b6 (by omega)
      refine zz_iconst dX4_find_34 ?_
      refine gz_ireturn dX4_find_35 rfl rfl ?_
      rw [if_neg (by omega)] at hq
      exact hq
    )
  | succ m ih =>
    intro j hj hjx hq
    rcases ha with ⟨rfl, rfl⟩ | ⟨rfl, rfl⟩ | ⟨rfl, rfl⟩ <;> (
      refine gz_iload dX4_find_3 rfl ?_
      refine gz_iload_n dX4_find_5 rfl ?_
      refine zz_icmp_ge (tgt := 34) dX4_find_6 rfl (by omega) (fun b6 => ?_) (fun b6 => ?_)
      · exact absurd b6 (by omega)
      refine gz_iload dX4_find_9 rfl ?_
      refine gz_aload_n dX4_find_11 rfl ?_
      refine gz_alen (k := 1) dX4_find_12 rfl (by decide) ?_
      refine zz_icmp_ge (tgt := 34) dX4_find_13 rfl (by omega) (fun b13 => ?_) (fun b13 => ?_)
      · exact absurd b13 (by omega)
      refine gz_aload_n dX4_find_16 rfl ?_
      refine gz_iload dX4_find_17 rfl ?_
      refine gz_lald (v := .long (lZ (base + (j : Int)))) (n := j) dX4_find_19 rfl rfl (by omega) (zv_l (hnm j (by omega))) ?_
      refine gz_lload_n dX4_find_20 rfl ?_
      refine zz_lcmp dX4_find_21 (by omega) (by omega) ?_
      refine zz_if_ne (tgt := 28) dX4_find_22 rfl (cmpZ_bd _ _) (fun b22 => ?_) (fun b22 => ?_)
      ·
        refine zz_iinc dX4_find_28 rfl rfl ?_
        refine gz_goto (tgt := 3) dX4_find_31 rfl ?_
        have e9 : ¬ (base + (j : Int) = base + (x : Int)) := fun e => b22 (cmpZ_0.mpr e)
        exact ih (j + 1) (by omega) (by omega) hq
      ·
        refine gz_iload dX4_find_25 rfl ?_
        refine gz_ireturn dX4_find_27 rfl rfl ?_
        have e9 := cmpZ_0.mp b22
        rw [if_pos (by omega), show (x : Int) = (j : Int) from by omega] at hq
        exact hq
    )
theorem zs_find {a len c x : Nat} {base : Int} (ha : (a = 328 ∧ len = 8) ∨ (a = 329 ∧ len = 12) ∨ (a = 330 ∧ len = 8)) (hc : c ≤ len) (hnm : ∀ j : Nat, j < c → Z a j = base + (j : Int)) (hb : 0 ≤ base ∧ base ≤ 1000) (hx : x ≤ c) : zk_Does l Γ mX4_find d 0 0 [.ref a, .int (iZ (c : Int)), .long (lZ (base + (x : Int)))] (zb_M Z) F (some (.int (iZ (if x < c then (x : Int) else -1)))) (zb_M Z) F := by
  intro Q hq
  refine zz_iconst dX4_find_0 ?_
  refine gz_istore dX4_find_1 (Nat.le_of_ble_eq_true rfl) rfl ?_
  exact zs_find_loop ha hc hnm hb hx c 0 (by omega) (by omega) hq
theorem zs_find_old {a len c x : Nat} {base : Int} (ha : (a = 328 ∧ len = 8) ∨ (a = 329 ∧ len = 12) ∨ (a = 330 ∧ len = 8)) (hc : c ≤ len) (hnm : ∀ j : Nat, j < c → Z a j = base + (j : Int)) (hb : 0 ≤ base ∧ base ≤ 1000) (hx : x < c) : zk_Does l Γ mX4_find d 0 0 [.ref a, .int (iZ (c : Int)), .long (lZ (base + (x : Int)))] (zb_M Z) F (some (.int (iZ (x : Int)))) (zb_M Z) F := by
  have q := zs_find (l := l) (Γ := Γ) (d := d) (F := F) ha hc hnm hb (Nat.le_of_lt hx)
  rw [if_pos hx] at q
  exact q
theorem zs_find_new {a len c : Nat} {base : Int} (ha : (a = 328 ∧ len = 8) ∨ (a = 329 ∧ len = 12) ∨ (a = 330 ∧ len = 8)) (hc : c ≤ len) (hnm : ∀ j : Nat, j < c → Z a j = base + (j : Int)) (hb : 0 ≤ base ∧ base ≤ 1000) : zk_Does l Γ mX4_find d 0 0 [.ref a, .int (iZ (c : Int)), .long (lZ (base + (c : Int)))] (zb_M Z) F (some (.int (iZ (-1)))) (zb_M Z) F := by
  have q := zs_find (l := l) (Γ := Γ) (d := d) (F := F) ha hc hnm hb (Nat.le_refl c)
  rw [if_neg (Nat.lt_irrefl c)] at q
  exact q
theorem zs_newName {p i n : Nat} {r : List (Nat × Int)} {a len c : Nat} {base : Int} (ha : (a = 328 ∧ len = 8) ∨ (a = 329 ∧ len = 12) ∨ (a = 330 ∧ len = 8)) (hc : c < len) (hnm : ∀ j : Nat, j < c → Z a j = base + (j : Int)) (hb : 0 ≤ base ∧ base ≤ 1000) (h : rdS Z p i n ((44, base + (c : Int)) :: r)) (hd : 1 ≤ d) : zk_Does l Γ mX4_newName d 0 0 [.ref 327, .ref a, .int (iZ (c : Int))] (zb_M Z) F (some (.long (lZ (base + (c : Int))))) (zb_M (zb_u Z 323 4 ((i : Int) + 1))) F := by
  intro Q hq
  have ha2 := ha
  rcases ha with ⟨rfl, rfl⟩ | ⟨rfl, rfl⟩ | ⟨rfl, rfl⟩ <;> (
    refine gz_aload_n dX4_newName_0 rfl ?_
    refine gz_getf 3 dX4_newName_1 rfl rfl wf_Heliographs_Reader_21 (by decide) rfl ?_
    refine gv_0 (J := mX6_kind) (d1 := d - 1) dX4_newName_4 wm_Heliographs_Reader_41 rfl jzX6_kind (Nat.le_of_ble_eq_true rfl) (Nat.le_of_ble_eq_true rfl) (by omega) ⟨Nat.le_refl _, Nat.le_refl _⟩ (zs_kind h) ?_
    refine gz_gets (v := .ref 44) dX4_newName_7 (by decide) wf_Heliographs_Reader_312 (by first | exact True.intro | (show _ < _; decide)) ?_
    refine gz_acmp_eq (tgt := 19) dX4_newName_10 rfl (by show (zb_s _).1 < 1000; decide) (by show (zb_s _).1 < 1000; decide) (by decide) (fun b10 => ?_) (fun b10 => ?_)
    rotate_left
    · exact absurd b10 (by omega)
    refine gz_aload_n dX4_newName_19 rfl ?_
    refine gz_getf 3 dX4_newName_20 rfl rfl wf_Heliographs_Reader_21 (by decide) rfl ?_
    refine gv_0 (J := mX6_value) (d1 := d - 1) dX4_newName_23 wm_Heliographs_Reader_278 rfl jzX6_value (Nat.le_of_ble_eq_true rfl) (Nat.le_of_ble_eq_true rfl) (by omega) ⟨Nat.le_refl _, Nat.le_refl _⟩ (zs_value h (Or.inl rfl)) ?_
    refine gz_lstore_n dX4_newName_26 (Nat.le_of_ble_eq_true rfl) rfl ?_
    refine gz_aload_n dX4_newName_27 rfl ?_
    refine gz_iload_n dX4_newName_28 rfl ?_
    refine gz_lload_n dX4_newName_29 rfl ?_
    refine gs_3 (J := mX4_find) (d1 := d - 1) dX4_newName_30 wm_Heliographs_Reader_315 jzX4_find (Nat.le_of_ble_eq_true rfl) (Nat.le_of_ble_eq_true rfl) (by omega) ⟨Nat.le_refl _, Nat.le_refl _⟩ (zs_find_new ha2 (by omega) hnm hb) ?_
    refine zz_if_lt (tgt := 44) dX4_newName_33 rfl (by omega) (fun b33 => ?_) (fun b33 => ?_)
    rotate_left
    · exact absurd b33 (by omega)
    refine gz_iload_n dX4_newName_44 rfl ?_
    refine gz_aload_n dX4_newName_45 rfl ?_
    refine gz_alen (k := 1) dX4_newName_46 rfl (by decide) ?_
    refine zz_icmp_lt (tgt := 55) dX4_newName_47 rfl (by omega) (fun b47 => ?_) (fun b47 => ?_)
    rotate_left
    · exact absurd b47 (by omega)
    refine gz_aload_n dX4_newName_55 rfl ?_
    refine gz_getf 3 dX4_newName_56 rfl rfl wf_Heliographs_Reader_21 (by decide) rfl ?_
    refine gv_0 (J := mX6_advance) (d1 := d - 1) dX4_newName_59 wm_Heliographs_Reader_239 rfl jzX6_advance (Nat.le_of_ble_eq_true rfl) (Nat.le_of_ble_eq_true rfl) (by omega) ⟨Nat.le_refl _, Nat.le_refl _⟩ (zs_advance h) ?_
    refine gz_lload_n dX4_newName_62 rfl ?_
    refine gz_lreturn dX4_newName_63 rfl ?_
    exact hq
  )
theorem zs_oldName {p i n : Nat} {r : List (Nat × Int)} {a len c x : Nat} {base : Int} (ha : (a = 328 ∧ len = 8) ∨ (a = 329 ∧ len = 12) ∨ (a = 330 ∧ len = 8)) (hc : c ≤ len) (hnm : ∀ j : Nat, j < c → Z a j = base + (j : Int)) (hb : 0 ≤ base ∧ base ≤ 1000) (hx : x < c) (h : rdS Z p i n ((44, base + (x : Int)) :: r)) (hd : 1 ≤ d) : zk_Does l Γ mX4_oldName d 0 0 [.ref 327, .ref a, .int (iZ (c : Int))] (zb_M Z) F (some (.int (iZ (x : Int)))) (zb_M (zb_u Z 323 4 ((i : Int) + 1))) F := by
  intro Q hq
  have ha2 := ha
  have hlx : c ≤ 12 := by omega
  rcases ha with ⟨rfl, rfl⟩ | ⟨rfl, rfl⟩ | ⟨rfl, rfl⟩ <;> (
    refine gz_aload_n dX4_oldName_0 rfl ?_
    refine gz_getf 3 dX4_oldName_1 rfl rfl wf_Heliographs_Reader_21 (by decide) rfl ?_
    refine gv_0 (J := mX6_kind) (d1 := d - 1) dX4_oldName_4 wm_Heliographs_Reader_41 rfl jzX6_kind (Nat.le_of_ble_eq_true rfl) (Nat.le_of_ble_eq_true rfl) (by omega) ⟨Nat.le_refl _, Nat.le_refl _⟩ (zs_kind h) ?_
    refine gz_gets (v := .ref 44) dX4_oldName_7 (by decide) wf_Heliographs_Reader_312 (by first | exact True.intro | (show _ < _; decide)) ?_
    refine gz_acmp_eq (tgt := 19) dX4_oldName_10 rfl (by show (zb_s _).1 < 1000; decide) (by show (zb_s _).1 < 1000; decide) (by decide) (fun b10 => ?_) (fun b10 => ?_)
    rotate_left
    · exact absurd b10 (by omega)
    refine gz_aload_n dX4_oldName_19 rfl ?_
    refine gz_iload_n dX4_oldName_20 rfl ?_
    refine gz_aload_n dX4_oldName_21 rfl ?_
    refine gz_getf 3 dX4_oldName_22 rfl rfl wf_Heliographs_Reader_21 (by decide) rfl ?_
    refine gv_0 (J := mX6_value) (d1 := d - 1) dX4_oldName_25 wm_Heliographs_Reader_278 rfl jzX6_value (Nat.le_of_ble_eq_true rfl) (Nat.le_of_ble_eq_true rfl) (by omega) ⟨Nat.le_refl _, Nat.le_refl _⟩ (zs_value h (Or.inl rfl)) ?_
    refine gs_3 (J := mX4_find) (d1 := d - 1) dX4_oldName_28 wm_Heliographs_Reader_315 jzX4_find (Nat.le_of_ble_eq_true rfl) (Nat.le_of_ble_eq_true rfl) (by omega) ⟨Nat.le_refl _, Nat.le_refl _⟩ (zs_find_old ha2 hc hnm hb hx) ?_
    refine gz_istore_n dX4_oldName_31 (Nat.le_of_ble_eq_true rfl) rfl ?_
    refine gz_iload_n dX4_oldName_32 rfl ?_
    refine zz_if_ge (tgt := 41) dX4_oldName_33 rfl (by omega) (fun b33 => ?_) (fun b33 => ?_)
    rotate_left
    · exact absurd b33 (by omega)
    refine gz_aload_n dX4_oldName_41 rfl ?_
    refine gz_getf 3 dX4_oldName_42 rfl rfl wf_Heliographs_Reader_21 (by decide) rfl ?_
    refine gv_0 (J := mX6_advance) (d1 := d - 1) dX4_oldName_45 wm_Heliographs_Reader_239 rfl jzX6_advance (Nat.le_of_ble_eq_true rfl) (Nat.le_of_ble_eq_true rfl) (by omega) ⟨Nat.le_refl _, Nat.le_refl _⟩ (zs_advance h) ?_
    refine gz_iload_n dX4_oldName_48 rfl ?_
    refine gz_ireturn dX4_oldName_49 rfl rfl ?_
    exact hq
  )
theorem zs_otherPeak {p i n : Nat} {r : List (Nat × Int)} {c x y : Nat} {base : Int} (hp : p = 368 ∨ p = 400) (hc0 : Z p 0 = (c : Int)) (hc : c ≤ 8) (hnm : ∀ j : Nat, j < c → Z 328 j = base + (j : Int)) (hb : 0 ≤ base ∧ base ≤ 1000) (hx : x < c) (hy : y < c) (hne : x ≠ y) (h : rdS Z p i n ((44, base + (x : Int)) :: r)) (hd : 2 ≤ d) : zk_Does l Γ mX4_otherPeak d 0 0 [.ref 327, .int (iZ (y : Int))] (zb_M Z) F (some (.int (iZ (x : Int)))) (zb_M (zb_u Z 323 4 ((i : Int) + 1))) F := by
  intro Q hq
  have ha2 : (328 = 328 ∧ 8 = 8) ∨ (328 = 329 ∧ 8 = 12) ∨ (328 = 330 ∧ 8 = 8) := Or.inl ⟨rfl, rfl⟩
  rcases hp with rfl | rfl <;> (
    have hpl := congrArg Int.toNat h.2.2.2.2.2.1
    simp only [Int.toNat_natCast] at hpl
    refine gz_aload_n dX4_otherPeak_0 rfl ?_
    refine gz_getf 3 dX4_otherPeak_1 rfl rfl wf_Heliographs_Reader_21 (by decide) rfl ?_
    refine gv_0 (J := mX6_kind) (d1 := d - 1) dX4_otherPeak_4 wm_Heliographs_Reader_41 rfl jzX6_kind (Nat.le_of_ble_eq_true rfl) (Nat.le_of_ble_eq_true rfl) (by omega) ⟨Nat.le_refl _, Nat.le_refl _⟩ (zs_kind h) ?_
    refine gz_gets (v := .ref 44) dX4_otherPeak_7 (by decide) wf_Heliographs_Reader_312 (by first | exact True.intro | (show _ < _; decide)) ?_
    refine gz_acmp_ne (tgt := 17) dX4_otherPeak_10 rfl (by show (zb_s _).1 < 1000; decide) (by show (zb_s _).1 < 1000; decide) (by decide) (fun b10 => ?_) (fun b10 => ?_)
    · exact absurd b10 (by omega)
    refine zz_iconst dX4_otherPeak_13 ?_
    refine gz_goto (tgt := 18) dX4_otherPeak_14 rfl ?_
    refine gz_istore_n dX4_otherPeak_18 (Nat.le_of_ble_eq_true rfl) rfl ?_
    refine gz_iload_n dX4_otherPeak_19 rfl ?_
    refine zz_if_eq (tgt := 57) dX4_otherPeak_20 rfl (by omega) (fun b20 => ?_) (fun b20 => ?_)
    · exact absurd b20 (by omega)
    refine gz_iload_n dX4_otherPeak_23 rfl ?_
    refine zz_if_lt (tgt := 57) dX4_otherPeak_24 rfl (by omega) (fun b24 => ?_) (fun b24 => ?_)
    · exact absurd b24 (by omega)
    refine gz_aload_n dX4_otherPeak_27 rfl ?_
    refine gz_getf 0 dX4_otherPeak_28 rfl rfl wf_Heliographs_Reader_9 (by decide) rfl ?_
    refine gz_aload_n dX4_otherPeak_31 rfl ?_
    refine gz_getf 4 dX4_otherPeak_32 rfl rfl wf_Heliographs_Reader_25 (by decide) (congrArg Value.ref hpl) ?_
    refine gz_getf 0 dX4_otherPeak_35 rfl rfl wf_Heliographs_Reader_97 (by decide) (zv_i hc0) ?_
    refine gz_aload_n dX4_otherPeak_38 rfl ?_
    refine gz_getf 3 dX4_otherPeak_39 rfl rfl wf_Heliographs_Reader_21 (by decide) rfl ?_
    refine gv_0 (J := mX6_value) (d1 := d - 1) dX4_otherPeak_42 wm_Heliographs_Reader_278 rfl jzX6_value (Nat.le_of_ble_eq_true rfl) (Nat.le_of_ble_eq_true rfl) (by omega) ⟨Nat.le_refl _, Nat.le_refl _⟩ (zs_value h (Or.inl rfl)) ?_
    refine gs_3 (J := mX4_find) (d1 := d - 1) dX4_otherPeak_45 wm_Heliographs_Reader_315 jzX4_find (Nat.le_of_ble_eq_true rfl) (Nat.le_of_ble_eq_true rfl) (by omega) ⟨Nat.le_refl _, Nat.le_refl _⟩ (zs_find_old ha2 hc hnm hb hx) ?_
    refine gz_iload_n dX4_otherPeak_48 rfl ?_
    refine zz_icmp_ne (tgt := 57) dX4_otherPeak_49 rfl (by omega) (fun b49 => ?_) (fun b49 => ?_)
    rotate_left
    · exact absurd b49 (by omega)
    refine gz_aload_n dX4_otherPeak_57 rfl ?_
    refine gz_aload_n dX4_otherPeak_58 rfl ?_
    refine gz_getf 0 dX4_otherPeak_59 rfl rfl wf_Heliographs_Reader_9 (by decide) rfl ?_
    refine gz_aload_n dX4_otherPeak_62 rfl ?_
    refine gz_getf 4 dX4_otherPeak_63 rfl rfl wf_Heliographs_Reader_25 (by decide) (congrArg Value.ref hpl) ?_
    refine gz_getf 0 dX4_otherPeak_66 rfl rfl wf_Heliographs_Reader_97 (by decide) (zv_i hc0) ?_
    refine gv_2 (J := mX4_oldName) (d1 := d - 1) dX4_otherPeak_69 wm_Heliographs_Reader_130 rfl jzX4_oldName (Nat.le_of_ble_eq_true rfl) (Nat.le_of_ble_eq_true rfl) (by omega) ⟨Nat.le_refl _, Nat.le_refl _⟩ (zs_oldName ha2 hc hnm hb hx h (by omega)) ?_
    refine gz_ireturn dX4_otherPeak_72 rfl rfl ?_
    exact hq
  )
theorem zs_number {p i n : Nat} {v lo hi : Int} {r : List (Nat × Int)} (hv : lo ≤ v ∧ v ≤ hi) (hlo : 0 ≤ lo ∧ hi ≤ 100000) (h : rdS Z p i n ((45, v) :: r)) (hd : 1 ≤ d) : zk_Does l Γ mX4_number d 0 0 [.ref 327, .int (iZ lo), .int (iZ hi)] (zb_M Z) F (some (.int (iZ v))) (zb_M (zb_u Z 323 4 ((i : Int) + 1))) F := by
  intro Q hq
  refine gz_aload_n dX4_number_0 rfl ?_
  refine gz_getf 3 dX4_number_1 rfl rfl wf_Heliographs_Reader_21 (by decide) rfl ?_
  refine gv_0 (J := mX6_kind) (d1 := d - 1) dX4_number_4 wm_Heliographs_Reader_41 rfl jzX6_kind (Nat.le_of_ble_eq_true rfl) (Nat.le_of_ble_eq_true rfl) (by omega) ⟨Nat.le_refl _, Nat.le_refl _⟩ (zs_kind h) ?_
  refine gz_gets (v := .ref 45) dX4_number_7 (by decide) wf_Heliographs_Reader_275 (by first | exact True.intro | (show _ < _; decide)) ?_
  refine gz_acmp_eq (tgt := 19) dX4_number_10 rfl (by show (zb_s _).1 < 1000; decide) (by show (zb_s _).1 < 1000; decide) (by decide) (fun b10 => ?_) (fun b10 => ?_)
  rotate_left
  · exact absurd b10 (by omega)
  refine gz_aload_n dX4_number_19 rfl ?_
  refine gz_getf 3 dX4_number_20 rfl rfl wf_Heliographs_Reader_21 (by decide) rfl ?_
  refine gv_0 (J := mX6_value) (d1 := d - 1) dX4_number_23 wm_Heliographs_Reader_278 rfl jzX6_value (Nat.le_of_ble_eq_true rfl) (Nat.le_of_ble_eq_true rfl) (by omega) ⟨Nat.le_refl _, Nat.le_refl _⟩ (zs_value h (Or.inr rfl)) ?_
  refine gz_l2i dX4_number_26 (lZ_i v) ?_
  refine gz_istore_n dX4_number_27 (Nat.le_of_ble_eq_true rfl) rfl ?_
  refine gz_iload_n dX4_number_28 rfl ?_
  refine gz_iload_n dX4_number_29 rfl ?_
  refine zz_icmp_lt (tgt := 38) dX4_number_30 rfl (by omega) (fun b30 => ?_) (fun b30 => ?_)
  · exact absurd b30 (by omega)
  refine gz_iload_n dX4_number_33 rfl ?_
  refine gz_iload_n dX4_number_34 rfl ?_
  refine zz_icmp_le (tgt := 43) dX4_number_35 rfl (by omega) (fun b35 => ?_) (fun b35 => ?_)
  rotate_left
  · exact absurd b35 (by omega)
  refine gz_aload_n dX4_number_43 rfl ?_
  refine gz_getf 3 dX4_number_44 rfl rfl wf_Heliographs_Reader_21 (by decide) rfl ?_
  refine gv_0 (J := mX6_advance) (d1 := d - 1) dX4_number_47 wm_Heliographs_Reader_239 rfl jzX6_advance (Nat.le_of_ble_eq_true rfl) (Nat.le_of_ble_eq_true rfl) (by omega) ⟨Nat.le_refl _, Nat.le_refl _⟩ (zs_advance h) ?_
  refine gz_iload_n dX4_number_50 rfl ?_
  refine gz_ireturn dX4_number_51 rfl rfl ?_
  exact hq
theorem zs_append {p n : Nat} {op ov : Int} (hp : p = 368 ∨ p = 400) (hn : n < 400) (h5 : Z (p + 15) 5 = (n : Int)) : zk_Does l Γ mX2_append d 0 0 [.ref (p + 15), .int (iZ op), .int (iZ ov)] (zb_M Z) F none (zb_M (zb_u (zb_u (zb_u Z (p + 18) n op) (p + 19) n ov) (p + 15) 5 ((n : Int) + 1))) F := by
  intro Q hq
  rcases hp with rfl | rfl <;> (
    simp only [Nat.reduceAdd] at h5
    refine gz_aload_n dX2_append_0 rfl ?_
    refine gz_getf 5 dX2_append_1 rfl rfl wf_Heliographs_Orders_31 (by decide) (zv_i h5) ?_
    refine gz_aload_n dX2_append_4 rfl ?_
    refine gz_getf 3 dX2_append_5 rfl rfl wf_Heliographs_Orders_18 (by decide) rfl ?_
    refine gz_alen (k := 0) dX2_append_8 rfl (by decide) ?_
    refine zz_icmp_ge (tgt := 42) dX2_append_9 rfl (by omega) (fun b9 => ?_) (fun b9 => ?_)
    · exact absurd b9 (by omega)
    refine gz_aload_n dX2_append_12 rfl ?_
    refine gz_getf 3 dX2_append_13 rfl rfl wf_Heliographs_Orders_18 (by decide) rfl ?_
    refine gz_aload_n dX2_append_16 rfl ?_
    refine gz_getf 5 dX2_append_17 rfl rfl wf_Heliographs_Orders_31 (by decide) (zv_i h5) ?_
    refine gz_iload_n dX2_append_20 rfl ?_
    refine zc_iast (n := n) dX2_append_21 rfl (by decide) rfl (by omega) rfl ?_
    refine gz_aload_n dX2_append_22 rfl ?_
    refine gz_getf 4 dX2_append_23 rfl rfl wf_Heliographs_Orders_21 (by decide) rfl ?_
    refine gz_aload_n dX2_append_26 rfl ?_
    refine gz_getf 5 dX2_append_27 rfl rfl wf_Heliographs_Orders_31 (by decide) (zv_i ((zb_u_a _ _ (by decide)).trans h5)) ?_
    refine gz_iload_n dX2_append_30 rfl ?_
    refine zc_iast (n := n) dX2_append_31 rfl (by decide) rfl (by omega) rfl ?_
    refine gz_aload_n dX2_append_32 rfl ?_
    refine gz_dup dX2_append_33 rfl ?_
    refine gz_getf 5 dX2_append_34 rfl rfl wf_Heliographs_Orders_31 (by decide) (zv_i ((zb_u_a _ _ (by decide)).trans ((zb_u_a _ _ (by decide)).trans h5))) ?_
    refine zz_iconst dX2_append_37 ?_
    refine zz_iadd dX2_append_38 ?_
    refine zc_putf 5 dX2_append_39 rfl rfl wf_Heliographs_Orders_31 (by decide) (by decide) jo_Heliographs_Orders ju_Heliographs_Orders rfl tyX2 tyX2_ok nmX2 rfl (fun _ => ⟨rfl, rfl⟩) rfl ?_
    refine gz_return_ dX2_append_42 rfl ?_
    exact hq
  )
theorem zs_emit {p n : Nat} {op ov : Int} (hp : p = 368 ∨ p = 400) (h4 : Z 327 4 = (p : Int)) (hn : n < 400) (h5 : Z (p + 15) 5 = (n : Int)) (hd : 1 ≤ d) : zk_Does l Γ mX4_emit d 0 0 [.ref 327, .int (iZ op), .int (iZ ov)] (zb_M Z) F none (zb_M (zb_u (zb_u (zb_u Z (p + 18) n op) (p + 19) n ov) (p + 15) 5 ((n : Int) + 1))) F := by
  intro Q hq
  have hp2 := hp
  rcases hp with rfl | rfl <;> (
    have hpl := congrArg Int.toNat h4
    simp only [Int.toNat_natCast] at hpl
    refine gz_aload_n dX4_emit_0 rfl ?_
    refine gz_getf 4 dX4_emit_1 rfl rfl wf_Heliographs_Reader_25 (by decide) (congrArg Value.ref hpl) ?_
    refine gz_getf 14 dX4_emit_4 rfl rfl wf_Heliographs_Reader_182 (by decide) rfl ?_
    refine gz_iload_n dX4_emit_7 rfl ?_
    refine gz_iload_n dX4_emit_8 rfl ?_
    refine gv_2 (J := mX2_append) (d1 := d - 1) dX4_emit_9 wm_Heliographs_Reader_319 rfl jzX2_append (Nat.le_of_ble_eq_true rfl) (Nat.le_of_ble_eq_true rfl) (by omega) ⟨Nat.le_refl _, Nat.le_refl _⟩ (zs_append hp2 hn h5) ?_
    refine gz_return_ dX4_emit_12 rfl ?_
    exact hq
  )
end

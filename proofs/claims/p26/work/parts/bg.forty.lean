/-! THE LAW UP TO THE LAST QUESTION -/
section
variable {l : Launch} {Γ : zk_G} {d : Nat} {F : Heap → Prop}
theorem zl_loop {c : Nat → Nat} {π : zV} {p : Nat} {H : zV → Nat → Bool} {t o : Int} {kc ks : Nat} {Q : Option Value → zk_M → (Heap → Prop) → Prop} {len : Nat} {s : Nat → Int32} (hlen : len < 2147483648) (hl : l.stackTraces = false) (h56 : Γ.2.2.2.1 56 < Γ.2.1.size) (ht : 0 ≤ t ∧ t ≤ 2000) (ho : 0 ≤ o ∧ o ≤ 12) (h0 : 1 ≤ π 0 0) (h1 : 1 ≤ π 0 1) (h3 : 1 ≤ π 0 3) (hd : 40 ≤ d)
    (kk : ∀ (E : Nat → Nat × Nat) (e : Nat) (W σ : zV) (N : Int) (L8 L9 L10 L11 L12 L13 L14 L15 L16 L17 L18 L19 L20 L21 L22 L23 L24 L25 L26 L27 : Option Value), lJ E e c W p H π σ t o N → N ≤ 23000 → σ 0 1 ≤ 9000 → σ 0 2 = -1 → zk_Go l Γ mL_law d kc ks Q 1393 [some (.ref 56), none, some (.ref 424), some (.ref 320), some (.int (iZ (π 0 0))), some (.int (iZ (π 0 1))), some (.int (iZ (π 0 3))), some (.int (iZ (((40 : Nat) : Int)))), L8, L9, L10, L11, L12, L13, L14, L15, L16, L17, L18, L19, L20, L21, L22, L23, L24, L25, L26, L27] [] (zG E e W) F) :
    ∀ (n tm : Nat) (E : Nat → Nat × Nat) (e : Nat) (W σ : zV) (N : Int) (L8 L9 L10 L11 L12 L13 L14 L15 L16 L17 L18 L19 L20 L21 L22 L23 L24 L25 L26 L27 : Option Value), tm + n = 40 → lJ E e c W p H π σ t o N → N ≤ 560 * tm → σ 0 1 ≤ 61 * tm → σ 0 2 = -1 → E 56 = (100, len) → (∀ j, j < len → W 56 j = (s j).toInt) → zk_Go l Γ mL_law d (kc + 560 * n) (ks + 4500 * n) Q 59 [some (.ref 56), none, some (.ref 424), some (.ref 320), some (.int (iZ (π 0 0))), some (.int (iZ (π 0 1))), some (.int (iZ (π 0 3))), some (.int (iZ ((tm : Int)))), L8, L9, L10, L11, L12, L13, L14, L15, L16, L17, L18, L19, L20, L21, L22, L23, L24, L25, L26, L27] [] (zG E e W) F
  | 0, tm, E, e, W, σ, N, L8, L9, L10, L11, L12, L13, L14, L15, L16, L17, L18, L19, L20, L21, L22, L23, L24, L25, L26, L27, hn, hJ, hN, hmin, hsh, e56, hs => by
    have e : tm = 40 := by omega
    subst e
    refine gz_iload dL_law_59 rfl ?_
    refine zz_bipush (x := 40) dL_law_61 rfl ?_
    refine zz_icmp_ge (tgt := 1393) dL_law_63 rfl (by omega) (fun b => ?_) (fun b => absurd b (by omega))
    exact kk E _ W σ N L8 L9 L10 L11 L12 L13 L14 L15 L16 L17 L18 L19 L20 L21 L22 L23 L24 L25 L26 L27 hJ (by omega) (by omega) hsh
  | n + 1, tm, E, e, W, σ, N, L8, L9, L10, L11, L12, L13, L14, L15, L16, L17, L18, L19, L20, L21, L22, L23, L24, L25, L26, L27, hn, hJ, hN, hmin, hsh, e56, hs => by
    have hJ2 := hJ
    obtain ⟨hE, hE0, hz, hSt, hS, hh, hH, hO⟩ := hJ2
    have h48 := hE.2.2.2.1
    have g1 := hS.1
    have rest : ∀ x : Int32, zk_Go l Γ mL_law d (kc + 560 * (n + 1)) (ks + 4500 * (n + 1)) Q 92 [some (.ref 56), none, some (.ref 424), some (.ref 320), some (.int (iZ (π 0 0))), some (.int (iZ (π 0 1))), some (.int (iZ (π 0 3))), some (.int (iZ ((tm : Int)))), some (.int x), L9, L10, L11, L12, L13, L14, L15, L16, L17, L18, L19, L20, L21, L22, L23, L24, L25, L26, L27] [] (zG E e W) F := fun x => by
      refine gz_aload_n dL_law_92 rfl ?_
      refine gz_aload_n dL_law_93 rfl ?_
      refine gz_iload dL_law_94 rfl ?_
      refine gz_invsW (hh := hL_act) (J := mL_act) (d1 := d - 1) (kc1 := 540) (ks1 := 4320) (n := 3) (Q1 := fun v M' F' => ∃ (E' : Nat → Nat × Nat) (e' : Nat) (W' σ' : zV) (N' : Int), lJ E' e' c W' p H π σ' t o N' ∧ N ≤ N' ∧ N' ≤ N + 541 ∧ σ 0 1 ≤ σ' 0 1 ∧ σ' 0 1 ≤ σ 0 1 + 60 ∧ σ' 0 2 = σ 0 2 ∧ e ≤ e' ∧ (∀ a, a < e → E' a = E a) ∧ (∀ a j, (a = 56 ∨ 468 ≤ a) → a < e → W' a j = W a j) ∧ v = some (.int (iZ 1)) ∧ M' = zG E' e' W' ∧ F' = F) [.ref 320, .ref 424, .int x] [] dL_law_96 rfl wm_HeliographsLaw_190 jiL_act jn_HeliographsLaw jcL_act jpL_act rfl ⟨Nat.le_of_ble_eq_true rfl, Nat.le_of_ble_eq_true rfl⟩ (Nat.le_of_ble_eq_true rfl) (by omega) ⟨by omega, by omega⟩ (by decide)
        ((zL_act (kc := 0) (ks := 0) hJ h56 hl (by omega) ⟨by omega, by omega⟩ (by omega) (fun E' e' W' σ' N' q1 q2 q3 q4 q5 q6 q7 q8 q9 => ⟨E', e', W', σ', N', q1, q2, q3, q4, q5, q6, q7, q8, q9, rfl, rfl, rfl⟩)).le (by omega) (by omega)) (fun v M' F' hy => ?_)
      obtain ⟨E', e', W', σ', N', q1, q2, q3, q4, q5, q6, q7, q8, q9, eq1, eq2, eq3⟩ := hy
      rw [eq1, eq2, eq3]
      refine zz_if_ne (x := 1) (tgt := 104) dL_law_99 rfl (by omega) (fun b => ?_) (fun b => absurd b (by decide))
      refine zk_Go.le (kc := (kc + 560 * n) + 13) (ks := (ks + 4500 * n) + 104) ?_ (by omega) (by omega)
      refine zl_once q1 h56 ht ho h1 h3 (by omega) (by omega) (q6.trans hsh) (by omega) (fun E1 e1 W1 L8 L9 L10 L11 L12 L13 L14 L15 L16 L17 L18 L19 L20 L21 L22 L23 L24 L25 L26 L27 w1 w2 w3 w4 => ?_)
      have t1 : (zap (sRun π H 1 σ')) 0 1 = σ' 0 1 + 1 := sRun_t π H 1 σ'
      have t2 : (zap (sRun π H 1 σ')) 0 2 = σ' 0 2 := sRun_o π H (i := 0) (j := 2) (by omega) 1 σ'
      exact zl_loop hlen hl h56 ht ho h0 h1 h3 hd kk n (tm + 1) E1 e1 W1 _ (N' + 9) L8 L9 L10 L11 L12 L13 L14 L15 L16 L17 L18 L19 L20 L21 L22 L23 L24 L25 L26 L27 (by omega) w1 (by omega) (by rw [t1]; omega) (t2.trans (q6.trans hsh)) ((w3 56 (by omega)).trans ((q8 56 (by omega)).trans e56)) (fun j hj => (w4 56 j (Or.inl rfl) (by omega)).trans ((q9 56 j (Or.inl rfl) (by omega)).trans (hs j hj)))
    refine gz_iload dL_law_59 rfl ?_
    refine zz_bipush (x := 40) dL_law_61 rfl ?_
    refine zz_icmp_ge (tgt := 1393) dL_law_63 rfl (by omega) (fun b => absurd b (by omega)) (fun b => ?_)
    refine gz_aload_n dL_law_66 rfl ?_
    refine gz_iload dL_law_67 rfl ?_
    refine zz_bipush (x := 16) dL_law_69 rfl ?_
    refine zz_irem dL_law_71 (by omega) ?_
    rw [show (tm : Int) % 16 = ((tm % 16 : Nat) : Int) by omega]
    refine gb_s (J := mL_cell) (d1 := d - 1) (kc1 := 0) (ks1 := 0) [.ref 56, .int (iZ ((tm % 16 : Nat) : Int))] _ dL_law_72 rfl wm_HeliographsLaw_77 jzL_cell rfl (Nat.le_of_ble_eq_true rfl) (Nat.le_of_ble_eq_true rfl) (by omega) ⟨by omega, by omega⟩ (zDo_of (zL_cell (s := s) (len := len) e56 (fun j hj => by
      show zG_v E W 56 j = _
      unfold zG_v
      rw [if_pos rfl, hs j hj, iZ_of]) hlen (by omega))) (fun v M' hy => ?_)
    obtain ⟨rfl, rfl⟩ := hy
    refine gz_iload dL_law_75 rfl ?_
    refine zz_bipush (x := 16) dL_law_77 rfl ?_
    refine zz_idiv dL_law_79 (by omega) ?_
    refine zz_bipush (x := 6) dL_law_80 rfl ?_
    refine zz_imul dL_law_82 ?_
    refine gz_ishr dL_law_83 ?_
    refine zz_bipush (x := 47) dL_law_84 rfl ?_
    refine gz_iload dL_law_86 rfl ?_
    refine zz_imul dL_law_88 ?_
    refine gz_iadd dL_law_89 ?_
    exact gz_istore dL_law_90 (Nat.le_of_ble_eq_true rfl) rfl (rest _)
end

/-! NEW ROWS OF ROWS -/
section
variable {l : Launch} {Γ : zk_G} {d : Nat} {F : Heap → Prop}
theorem zk_Rl.pushN {Γ : zk_G} {ρ : Nat → Nat} {M M' : zk_M} {F : Heap → Prop} {H H1 : Heap} (h : zk_Rl Γ ρ M F H) (hn : M.2.1 ≤ M'.2.1) (hsame : ∀ a, a < M.2.1 → M'.1 a = M.1 a ∧ M'.2.2 a = M.2.2 a) (z1 : H1.size = H.size + (M'.2.1 - M.2.1)) (o1 : ∀ q : Nat, q < H.size → H1[q]? = H[q]?)
    (hfr : ∀ a j x, M.2.1 ≤ a → a < M'.2.1 → j < (M'.1 a).2 → M'.2.2 a j = .ref x → x < M'.2.1) (hok : ∀ ρ' : Nat → Nat, (∀ a, M.2.1 ≤ a → ρ' a = H.size + (a - M.2.1)) → ∀ a, M.2.1 ≤ a → a < M'.2.1 → zk_ok Γ ρ' H1 a (M'.1 a) (M'.2.2 a)) :
    ∃ ρ' : Nat → Nat, (∀ a, a < M.2.1 → ρ' a = ρ a) ∧ (∀ a, M.2.1 ≤ a → ρ' a = H.size + (a - M.2.1)) ∧ zk_Rl Γ ρ' M' F H1 ∧ zk_ext ρ M H ρ' M' H1 := by
  have hg := h.grow (by omega) o1
  obtain ⟨⟨b1, b2, b3, b4, b5, b6, b7⟩, f1, f2, f3, f4⟩ := hg
  have hlt : ∀ a, a < M.2.1 → (M.1 a).1 < 1000 → ρ a < H.size := fun a ha hk => (h.1.1 a ha).lt hk
  obtain ⟨ρ', hρ⟩ : ∃ r : Nat → Nat, r = fun a => if a < M.2.1 then ρ a else H.size + (a - M.2.1) := ⟨_, rfl⟩
  have ho : ∀ a, a < M.2.1 → ρ' a = ρ a := fun a ha => by rw [hρ]; exact if_pos ha
  have hn2 : ∀ a, M.2.1 ≤ a → ρ' a = H.size + (a - M.2.1) := fun a ha => by rw [hρ]; exact if_neg (by omega)
  have e1 : ∀ a, a < M.2.1 → M'.1 a = M.1 a := fun a ha => (hsame a ha).1
  have e2 : ∀ a, a < M.2.1 → M'.2.2 a = M.2.2 a := fun a ha => (hsame a ha).2
  have hsz := h.1.2.2.1.2
  refine ⟨ρ', ho, hn2, ⟨⟨fun a ha => ?_, fun a b ha hb ka kb hab e => ?_, b3, fun a h1 h2 h3 => ?_, fun a ha => (ho a (by omega)).trans (b5 a ha), fun a j x ha hj hx => ?_, by omega⟩, f1, f2, f3, fun a h1 h2 h3 => ?_⟩, ⟨fun a ha => ⟨ho a ha, Or.inl (e1 a ha)⟩, hn, by omega, fun a h1 h2 h3 => ?_⟩⟩
  · by_cases q : M.2.1 ≤ a
    · exact hok ρ' hn2 a q ha
    · have ha2 : a < M.2.1 := by omega
      rw [e1 a ha2, e2 a ha2]
      exact (b1 a ha2).re (fun j hj => zk_v_re ho (zk_inM ⟨b1, b2, b3, b4, b5, b6, b7⟩ ha2 hj)) (ho a ha2)
  · by_cases qa : a < M.2.1
    · rw [e1 a qa] at ka
      have la := hlt a qa ka
      rw [ho a qa] at e
      by_cases qb : b < M.2.1
      · rw [e1 b qb] at kb
        rw [ho b qb] at e
        exact b2 a b qa qb ka kb hab e
      · rw [hn2 b (by omega)] at e
        omega
    · rw [hn2 a (by omega)] at e
      by_cases qb : b < M.2.1
      · rw [e1 b qb] at kb
        have lb := hlt b qb kb
        rw [ho b qb] at e
        omega
      · rw [hn2 b (by omega)] at e
        omega
  · by_cases q : a < M.2.1
    · rw [e1 a q] at h3
      rw [ho a q]
      exact b4 a h1 q h3
    · rw [hn2 a (by omega)]
      omega
  · by_cases q : a < M.2.1
    · rw [e1 a q] at hj
      rw [e2 a q] at hx
      exact Nat.lt_of_lt_of_le (b6 a j x q hj hx) hn
    · exact hfr a j x (by omega) ha hj hx
  · by_cases q : a < M.2.1
    · rw [e1 a q] at h3
      rw [ho a q]
      exact f4 a h1 q h3
    · rw [hn2 a (by omega)]
      intro hf
      have := (h.2.2.2.1 _ hf).1
      omega
  · rw [hn2 a h1]
    omega
/-- a row of rows of numbers behind what there is -/
def zG_E (E : Nat → Nat × Nat) (e n k : Nat) : Nat → Nat × Nat := fun a => if a < e then E a else if a = e then (105, n) else (100, k)
def zG_W (e : Nat) (W : zV) : zV := fun a j => if a < e then W a j else 0
theorem zG_vE {E : Nat → Nat × Nat} {e n k a : Nat} {W : zV} (h : a < e) : zG_v (zG_E E e n k) (zG_W e W) a = zG_v E W a := by
  funext j
  unfold zG_v zG_E zG_W
  simp only [if_pos h]
theorem zE_E {E : Nat → Nat × Nat} {e : Nat} {c : Nat → Nat} {n k : Nat} (h : zE E e c) : zE (zG_E E e n k) (e + 1 + n) c := by
  obtain ⟨h1, h2, h3, h4, h5⟩ := h
  have f : ∀ a, a < e → zG_E E e n k a = E a := fun a ha => if_pos ha
  refine ⟨(f _ (by omega)).trans h1, fun q hq => (f _ (by omega)).trans (h2 q hq), fun q hq j hj => (f _ ?_).trans (h3 q hq j hj), by omega, h5⟩
  rcases (show q = 0 ∨ q = 1 ∨ q = 2 ∨ q = 3 ∨ q = 4 by omega) with rfl | rfl | rfl | rfl | rfl <;> (simp only [zG_b]; omega)
section
variable {I : zk_MI} {kc ks : Nat} {Q : Option Value → zk_M → (Heap → Prop) → Prop} {pc : Nat} {L : List (Option Value)} {st : List Value} {E : Nat → Nat × Nat} {e : Nat} {c : Nat → Nat} {W : zV}
theorem wa_mult : Cond.arrayClass .int ∈ zk_tg := zk_in 51 (by decide +kernel) rfl
theorem gg_mna (he : 480 ≤ e) {idx n k : Nat} {zn zk : Int} (hd : decode I.2.1 pc = .ok (.multianewarray idx 2, 4)) (hw : Cond.classLink I.1.cls idx ("[" ++ (FieldType.array .int).toString) ∈ zk_tg) (hzn : zn = (n : Int)) (hzk : zk = (k : Int)) (hn : n ≤ 1000) (hk : k ≤ 1000) (hkc : 1 + n ≤ kc ∧ n + n * k ≤ ks)
    (kk : zk_Go l Γ I d (kc - (1 + n)) (ks - (n + n * k)) Q (pc + 4) L (.ref e :: st) (zG (zG_E E e n k) (e + 1 + n) (zG_W e W)) F) : zk_Go l Γ I d kc ks Q pc L (.int (iZ zk) :: .int (iZ zn) :: st) (zG E e W) F := by
  intro p ev R s m args below meth cd H locs cells slots Qf A ρ ls hc hr hs9 hR hA hS hL hW hE T hT X
  subst hT
  have hn9 : ¬ iZ zn < 0 := by rw [iZ_0, iZ_lt ⟨by omega, by omega, by omega, by omega⟩]; omega
  have hN9 : (iZ zn).toNatClampNeg = n := by rw [hzn, iZ_clamp ⟨by omega, by omega⟩, Int.toNat_natCast]
  have hk9 : ¬ iZ zk < 0 := by rw [iZ_0, iZ_lt ⟨by omega, by omega, by omega, by omega⟩]; omega
  have hK9 : (iZ zk).toNatClampNeg = k := by rw [hzk, iZ_clamp ⟨by omega, by omega⟩, Int.toNat_natCast]
  have c4 : componentBytes .int = 4 := rfl
  obtain ⟨vm₁, cA, comp, hWm, fA, fC, -, -, X', step⟩ := X.multianewarray2K hc.1 hc.2.2.2.1 (hc.2.2.2.2.1 _ hw) (hc.2.2.2.2.2.2.2.2.2.2.2.2.2.2.2.2.1) (hc.2.2.2.2.1 _ wa_mult) (g := F0 m pc ls (.int (iZ zk) :: .int (iZ zn) :: st.map (zk_v ρ))) rfl (by rw [hc.2.1]; exact hd) rfl hn9 hk9 (by rw [hN9]; omega) (by rw [hK9, c4]; omega) (by rw [hK9]; omega) rfl rfl (by rw [hN9]; omega) (by rw [hN9, hK9]; omega)
  rw [hN9, hK9] at X' step
  generalize hF : Jvm.Free.Multi.fill (T.setVm vm₁) cA comp n k (defaultValue .int) n = U at X' step
  have hTh : (T.setVm vm₁).heap = T.heap := rfl
  obtain ⟨f1, f2, -, -⟩ := Jvm.Free.Multi.fill_facts (T.setVm vm₁) cA comp n k (defaultValue .int) n
  rw [hF, hTh] at f1 f2
  have hold : ∀ x : Nat, x < T.heap.size → U.heap[x]? = T.heap[x]? := fun x hx => by
    have := Jvm.Free.Multi.fill_old (T.setVm vm₁) cA comp n k (defaultValue .int) (a := x) (by rw [hTh]; exact hx) n
    rw [hF, hTh] at this
    exact this
  have hrow : ∀ j : Nat, j < n → U.heap[T.heap.size + 1 + j]? = some (Jvm.Free.Multi.innerC comp k (defaultValue .int)) := fun j hj => by
    have := Jvm.Free.Multi.fill_inner (T.setVm vm₁) cA comp n k (defaultValue .int) n j hj
    rw [hF, hTh] at this
    exact this
  have hge : zk_N ≤ e := by show 320 ≤ e; omega
  have hKa := hc.2.2.2.2.2.2.2.2.2.1.1
  have eA : ∀ a, zk_N ≤ a → Γ.2.2.1 5 a = cA := fun a ha => Option.some.inj ((hKa 5 a (by omega) ha).1.symm.trans fA)
  have eC : ∀ a, zk_N ≤ a → Γ.2.2.1 0 a = comp := fun a ha => Option.some.inj ((hKa 0 a (by omega) ha).1.symm.trans fC)
  have m1 : ∀ a, a < e → zG_E E e n k a = E a := fun a ha => if_pos ha
  have m2 : zG_E E e n k e = (105, n) := by unfold zG_E; rw [if_neg (by omega), if_pos rfl]
  have m3 : ∀ a, e < a → zG_E E e n k a = (100, k) := fun a ha => by unfold zG_E; rw [if_neg (by omega), if_neg (by omega)]
  have v2 : ∀ j, zG_v (zG_E E e n k) (zG_W e W) e j = .ref (e + 1 + j) := fun j => by
    rw [zG_ref (by omega) (by rw [m2])]
    congr 1
    unfold zG_r
    split <;> first | omega | rfl
  have v3 : ∀ a j, e < a → zG_v (zG_E E e n k) (zG_W e W) a j = .int (iZ 0) := fun a j ha => by
    rw [zG_int (by omega) (by rw [m3 a ha]; show 100 ≠ 105; decide)]
    unfold zG_W
    rw [if_neg (by omega)]
  have hfr : ∀ a j x, e ≤ a → a < e + 1 + n → j < (zG_E E e n k a).2 → zG_v (zG_E E e n k) (zG_W e W) a j = .ref x → x < e + 1 + n := by
    intro a j x h1 h2 hj hx
    have h1' : e ≤ a := h1
    have h2' : a < e + 1 + n := h2
    by_cases q : a = e
    · subst q
      have hx2 : zG_v (zG_E E a n k) (zG_W a W) a j = .ref x := hx
      rw [v2] at hx2
      cases hx2
      have hj2 : j < (zG_E E a n k a).2 := hj
      rw [m2] at hj2
      have hj3 : j < n := hj2
      show a + 1 + j < a + 1 + n
      omega
    · have hx2 : zG_v (zG_E E e n k) (zG_W e W) a j = .ref x := hx
      rw [v3 a j (by omega)] at hx2
      cases hx2
  have hok : ∀ ρ' : Nat → Nat, (∀ a, e ≤ a → ρ' a = T.heap.size + (a - e)) → ∀ a, e ≤ a → a < e + 1 + n → zk_ok Γ ρ' U.heap a (zG_E E e n k a) (zG_v (zG_E E e n k) (zG_W e W) a) := by
    intro ρ' hρ a h1 h2
    have h1' : e ≤ a := h1
    have h2' : a < e + 1 + n := h2
    have hρ2 : ∀ a, e ≤ a → ρ' a = T.heap.size + (a - e) := hρ
    by_cases q : a = e
    · subst q
      show zk_ok Γ ρ' U.heap a (zG_E E a n k a) (zG_v (zG_E E a n k) (zG_W a W) a)
      rw [m2]
      obtain ⟨o1, o2, o3⟩ := Jvm.Free.Multi.outerC_facts cA n T.heap.size n
      refine ⟨fun q => absurd (show 105 < 100 from q) (by omega), fun _ _ => ⟨show 105 < 106 by omega, show n < 2 ^ 31 by omega, fun q => absurd q (by omega), _, by rw [hρ2 a (Nat.le_refl _), Nat.sub_self]; exact f2, ?_, (by rw [o2]; exact fun q => nomatch q), (by rw [o2]; rfl), fun _ => o2, ?_, fun j hj => ?_⟩⟩
      · rw [o1]; exact (eA a hge).symm
      · show (Jvm.Free.Multi.outerC cA n T.heap.size n).slots.size = n
        exact o3
      · rw [v2]
        show (Jvm.Free.Multi.outerC cA n T.heap.size n).slots[j]? = some (.ref (ρ' (a + 1 + j)))
        rw [hρ2 _ (by omega), show T.heap.size + (a + 1 + j - a) = T.heap.size + 1 + j by omega]
        have hj3 : j < n := hj
        have q9 := Jvm.Free.Multi.outerC_slot cA n T.heap.size n j hj3
        rw [if_pos hj3] at q9
        exact q9
    · show zk_ok Γ ρ' U.heap a (zG_E E e n k a) (zG_v (zG_E E e n k) (zG_W e W) a)
      rw [m3 a (by omega)]
      have hrj := hrow (a - e - 1) (by omega)
      refine ⟨fun q => absurd (show 100 < 100 from q) (by omega), fun _ _ => ⟨show 100 < 106 by omega, show k < 2 ^ 31 by omega, fun q => absurd q (by omega), _, by rw [hρ2 a h1', show T.heap.size + (a - e) = T.heap.size + 1 + (a - e - 1) by omega]; exact hrj, ?_, (by show VmData.none ≠ VmData.unknown; exact fun q => nomatch q), rfl, fun _ => rfl, ?_, fun j hj => ?_⟩⟩
      · exact (eC a (by omega)).symm
      · simp [Jvm.Free.Multi.innerC]
      · rw [v3 a j (by omega)]
        have hj3 : j < k := hj
        simp [Jvm.Free.Multi.innerC, hj3]
        rfl
  obtain ⟨ρ', r1, r2, hR', hx⟩ := hR.pushN (M' := zG (zG_E E e n k) (e + 1 + n) (zG_W e W)) (H1 := U.heap) (by show e ≤ e + 1 + n; omega) (fun a ha => ⟨m1 a ha, zG_vE ha⟩) (by rw [f1]; show _ = _ + (e + 1 + n - e); omega) hold hfr hok
  obtain ⟨hW2, hst2⟩ := zk_wf.later hx hW.2.2
  have hsz : T.heap.size ≤ U.heap.size := by rw [f1]; omega
  have hS' : va_S A s.heap U.heap (locs ++ (List.range n).map fun j => ⟨T.heap.size, j⟩) := ⟨Nat.le_trans hS.1 hsz, fun q g1 g2 => (hold q (Nat.lt_of_lt_of_le g1 hS.1)).trans (hS.2.1 q g1 g2), fun q hq => by
    rcases List.mem_append.mp hq with hq | hq
    · exact hS.2.2 q hq
    · obtain ⟨j, -, rfl⟩ := List.mem_map.mp hq
      exact hA.2.1 _ hS.1⟩
  have hgo := kk p ev R s m args below meth cd U.heap _ (cells + 1 + n) (slots + n + n * k) Qf A ρ' ls hc hr ⟨by omega, by omega⟩ hR' (hA.later hx hS.1) hS' (hL.later hx) ⟨by show e < e + 1 + n; omega, hW2⟩ (hE.later hx (by omega) (by omega)) U rfl X'
  rw [List.map_cons, hst2, show zk_v ρ' (.ref e) = .ref T.heap.size from congrArg Value.ref ((r2 e (Nat.le_refl _)).trans (by show _ + (e - e) = _; omega))] at hgo
  obtain ⟨t, a1, b1⟩ := hgo
  exact ⟨t, step t a1, b1⟩
end
end

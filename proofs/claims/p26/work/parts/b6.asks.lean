/-! THE LAW ASKS -/
section
variable {l : Launch} {Γ : zk_G} {d : Nat} {F : Heap → Prop}
section
variable {I : zk_MI} {kc ks : Nat} {Q : Option Value → zk_M → (Heap → Prop) → Prop} {pc idx : Nat} {L : List (Option Value)} {st : List Value} {E : Nat → Nat × Nat} {e : Nat} {c : Nat → Nat} {W π σ : zV} {p : Nat} {H : zV → Nat → Bool} {t o N : Int}
theorem gJ_q {J : zk_MI} {d1 n : Nat} {v : Value} (As : List Value) {st0 : List Value} (hd : decode I.2.1 pc = .ok (.invokevirtual idx, 3)) (hst : st0 = As.reverse ++ .ref 320 :: st) (hw : Cond.methodLink I.1.cls idx J.1 ∈ zk_tg) (hJ7 : zk_V J n 0) (hn : As.length = n) (hm : (zk_es (.ref 320 :: As)).length ≤ J.2.2.1)
    (hsum : (st.map fun v => v.category).sum ≤ 8) (hd1 : d1 + 1 ≤ d) (hJ : lJ E e c W p H π σ t o N) (h56 : Γ.2.2.2.1 56 < Γ.2.1.size) (hAs : ∀ v ∈ As, ∃ x, v = .int x) (hv : ∀ x, v ≠ .ref x) (hcl : ∀ (Γ : zk_G) (F : Heap → Prop), zk_Does l Γ J d1 0 0 (.ref 320 :: As) (zb_M W) F (some v) (zb_M W) F)
    (kk : zk_Go l Γ I d kc ks Q (pc + 3) L (v :: st) (zG E e W) F) : zk_Go l Γ I d kc ks Q pc L st0 (zG E e W) F := by
  have h48 := hJ.1.2.2.2.1
  refine gA_call (kc1 := 0) (ks1 := 0) As st hd hst hw rfl ⟨by decide, by decide⟩ hJ7 hn hm hsum hd1 ⟨Nat.zero_le _, Nat.zero_le _⟩ (zK_of hcl) hJ.2.1 (by omega) hJ.2.2.1 h56 (fun v hv => by obtain ⟨x, rfl⟩ := hAs v hv; trivial) (fun v' Z' hr w hw' => ?_) (fun v' Z' hr _ => ?_)
  · rw [hr.1] at hw'
    cases hw'
    cases v with
    | ref x => exact absurd rfl (hv x)
    | _ => trivial
  · obtain ⟨rfl, rfl⟩ := hr
    rw [zL_W]
    exact kk
theorem lJ_same (hJ : lJ E e c W p H π σ t o N) {Z : zV} (hz : zin Z) (hSt : St Z p H π σ t o N) : lJ E e c (zL Z W) p H π σ t o N := lJ_next hJ hz hSt hJ.2.2.2.2.1 (fun _ _ _ _ => rfl) hJ.2.2.2.2.2.2.2
theorem gJ_r {J : zk_MI} {d1 n : Nat} {v : Value} (As : List Value) {st0 : List Value} (hd : decode I.2.1 pc = .ok (.invokevirtual idx, 3)) (hst : st0 = As.reverse ++ .ref 320 :: st) (hw : Cond.methodLink I.1.cls idx J.1 ∈ zk_tg) (hJ7 : zk_V J n 0) (hn : As.length = n) (hm : (zk_es (.ref 320 :: As)).length ≤ J.2.2.1)
    (hsum : (st.map fun v => v.category).sum ≤ 8) (hd1 : d1 + 1 ≤ d) (hJ : lJ E e c W p H π σ t o N) (h56 : Γ.2.2.2.1 56 < Γ.2.1.size) (hAs : ∀ v ∈ As, ∃ x, v = .int x) (hv : ∀ x, v ≠ .ref x) (hcl : ∀ (Γ : zk_G) (F : Heap → Prop), zk_DoesR l Γ J d1 (.ref 320 :: As) W F (some v) (fun Z2 => St Z2 p H π σ t o N))
    (kk : ∀ W', lJ E e c W' p H π σ t o N → (∀ a j, (a = 56 ∨ 424 ≤ a) → W' a j = W a j) → zk_Go l Γ I d kc ks Q (pc + 3) L (v :: st) (zG E e W') F) : zk_Go l Γ I d kc ks Q pc L st0 (zG E e W) F := by
  have h48 := hJ.1.2.2.2.1
  refine gA_call (kc1 := 0) (ks1 := 0) As st hd hst hw rfl ⟨by decide, by decide⟩ hJ7 hn hm hsum hd1 ⟨Nat.zero_le _, Nat.zero_le _⟩ (zK_ofR hcl) hJ.2.1 (by omega) hJ.2.2.1 h56 (fun v hv => by obtain ⟨x, rfl⟩ := hAs v hv; trivial) (fun v' Z' hr w hw' => ?_) (fun v' Z' hr hz => ?_)
  · rw [hr.1] at hw'
    cases hw'
    cases v with
    | ref x => exact absurd rfl (hv x)
    | _ => trivial
  · obtain ⟨rfl, hS⟩ := hr
    exact kk _ (lJ_same hJ hz hS) (fun a j h => if_neg (by omega))
theorem gJ_e {J : zk_MI} {d1 n : Nat} {lo hi : Int} (As : List Value) {st0 : List Value} (hd : decode I.2.1 pc = .ok (.invokevirtual idx, 3)) (hst : st0 = As.reverse ++ .ref 320 :: st) (hw : Cond.methodLink I.1.cls idx J.1 ∈ zk_tg) (hJ7 : zk_V J n 0) (hn : As.length = n) (hm : (zk_es (.ref 320 :: As)).length ≤ J.2.2.1)
    (hsum : (st.map fun v => v.category).sum ≤ 8) (hd1 : d1 + 1 ≤ d) (hJ : lJ E e c W p H π σ t o N) (h56 : Γ.2.2.2.1 56 < Γ.2.1.size) (hAs : ∀ v ∈ As, ∃ x, v = .int x) (hcl : ∀ (Γ : zk_G) (F : Heap → Prop), zk_DoesE l Γ J d1 (.ref 320 :: As) W F (fun v Z2 => ∃ z, v = some (.int (iZ z)) ∧ (lo ≤ z ∧ z < hi) ∧ St Z2 p H π σ t o N))
    (kk : ∀ (z : Int) (W' : zV), (lo ≤ z ∧ z < hi) → lJ E e c W' p H π σ t o N → (∀ a j, (a = 56 ∨ 424 ≤ a) → W' a j = W a j) → zk_Go l Γ I d kc ks Q (pc + 3) L (.int (iZ z) :: st) (zG E e W') F) : zk_Go l Γ I d kc ks Q pc L st0 (zG E e W) F := by
  have h48 := hJ.1.2.2.2.1
  refine gA_call (kc1 := 0) (ks1 := 0) (R := fun v Z2 => ∃ z, v = some (.int (iZ z)) ∧ (lo ≤ z ∧ z < hi) ∧ St Z2 p H π σ t o N) As st hd hst hw rfl ⟨by decide, by decide⟩ hJ7 hn hm hsum hd1 ⟨Nat.zero_le _, Nat.zero_le _⟩ (fun Γ F Q1 hq1 => hcl Γ F Q1 (fun v Z2 hr => hq1 v Z2 hr)) hJ.2.1 (by omega) hJ.2.2.1 h56 (fun v hv => by obtain ⟨x, rfl⟩ := hAs v hv; trivial) (fun v' Z' hr w hw' => ?_) (fun v' Z' hr hz => ?_)
  · obtain ⟨z, e1, -⟩ := hr
    rw [e1] at hw'
    cases hw'
    trivial
  · obtain ⟨z, rfl, hb, hS⟩ := hr
    exact kk z _ hb (lJ_same hJ hz hS) (fun a j h => if_neg (by omega))
theorem nr_i {x : Int32} : ∀ y, Value.int x ≠ .ref y := fun _ q => nomatch q
theorem nr_l {x : Int64} : ∀ y, Value.long x ≠ .ref y := fun _ q => nomatch q
theorem nr_d {x : UInt64} : ∀ y, Value.double x ≠ .ref y := fun _ q => nomatch q
theorem in1 {x : Int32} : ∀ v ∈ ([.int x] : List Value), ∃ x, v = .int x := fun v hv => by rw [List.mem_singleton.mp hv]; exact ⟨_, rfl⟩
theorem in2 {x y : Int32} : ∀ v ∈ ([.int x, .int y] : List Value), ∃ x, v = .int x := fun v hv => by
  simp only [List.mem_cons, List.mem_nil_iff, or_false] at hv
  rcases hv with rfl | rfl <;> exact ⟨_, rfl⟩
theorem gJ_msg {m : Nat} {y v : Int} (hd : decode I.2.1 pc = .ok (.invokevirtual idx, 3)) (hw : Cond.methodLink I.1.cls idx yX7_message ∈ zk_tg) (hJ : lJ E e c W p H π σ t o N) (h56 : Γ.2.2.2.1 56 < Γ.2.1.size) (hm : (m : Int) < π 0 3) (hy : 0 ≤ y ∧ y ≤ 8) (hv : sMs π σ (m : Int) y = v) (hsum : (st.map fun v => v.category).sum ≤ 8) (hd9 : 12 ≤ d)
    (kk : zk_Go l Γ I d kc ks Q (pc + 3) L (.int (iZ v) :: st) (zG E e W) F) : zk_Go l Γ I d kc ks Q pc L (.int (iZ y) :: .int (iZ (m : Int)) :: .ref 320 :: st) (zG E e W) F := by
  rw [← hv] at kk
  exact gJ_q (J := mX7_message) (d1 := d - 1) [.int (iZ (m : Int)), .int (iZ y)] hd rfl hw jzX7_message rfl (Nat.le_of_ble_eq_true rfl) hsum (by omega) hJ h56 in2 nr_i (fun Γ F => zh_message hJ.2.2.2.1 (by omega) hy (by omega)) kk
theorem gJ_pass {w : Nat} {y v : Int} (hd : decode I.2.1 pc = .ok (.invokevirtual idx, 3)) (hw : Cond.methodLink I.1.cls idx yX7_pass ∈ zk_tg) (hJ : lJ E e c W p H π σ t o N) (h56 : Γ.2.2.2.1 56 < Γ.2.1.size) (hm : (w : Int) < π 0 1) (hy : 0 ≤ y ∧ y ≤ 5) (hv : sPs π σ (w : Int) y = v) (hsum : (st.map fun v => v.category).sum ≤ 8) (hd9 : 12 ≤ d)
    (kk : zk_Go l Γ I d kc ks Q (pc + 3) L (.int (iZ v) :: st) (zG E e W) F) : zk_Go l Γ I d kc ks Q pc L (.int (iZ y) :: .int (iZ (w : Int)) :: .ref 320 :: st) (zG E e W) F := by
  rw [← hv] at kk
  exact gJ_q (J := mX7_pass) (d1 := d - 1) [.int (iZ (w : Int)), .int (iZ y)] hd rfl hw jzX7_pass rfl (Nat.le_of_ble_eq_true rfl) hsum (by omega) hJ h56 in2 nr_i (fun Γ F => zh_pass hJ.2.2.2.1 (by omega) hy (by omega)) kk
theorem gJ_peak {k : Nat} {y v : Int} (hd : decode I.2.1 pc = .ok (.invokevirtual idx, 3)) (hw : Cond.methodLink I.1.cls idx yX7_peak ∈ zk_tg) (hJ : lJ E e c W p H π σ t o N) (h56 : Γ.2.2.2.1 56 < Γ.2.1.size) (hm : (k : Int) < π 0 0) (hy : 0 ≤ y ∧ y ≤ 6) (hv : sPk π σ (k : Int) y = v) (hsum : (st.map fun v => v.category).sum ≤ 8) (hd9 : 12 ≤ d)
    (kk : zk_Go l Γ I d kc ks Q (pc + 3) L (.int (iZ v) :: st) (zG E e W) F) : zk_Go l Γ I d kc ks Q pc L (.int (iZ y) :: .int (iZ (k : Int)) :: .ref 320 :: st) (zG E e W) F := by
  rw [← hv] at kk
  exact gJ_q (J := mX7_peak) (d1 := d - 1) [.int (iZ (k : Int)), .int (iZ y)] hd rfl hw jzX7_peak rfl (Nat.le_of_ble_eq_true rfl) hsum (by omega) hJ h56 in2 nr_i (fun Γ F => zh_peak hJ.2.2.2.1 (by omega) hy (by omega)) kk
theorem gJ_count {y v : Int} (hd : decode I.2.1 pc = .ok (.invokevirtual idx, 3)) (hw : Cond.methodLink I.1.cls idx yX7_count ∈ zk_tg) (hJ : lJ E e c W p H π σ t o N) (h56 : Γ.2.2.2.1 56 < Γ.2.1.size) (hy : 0 ≤ y ∧ y ≤ 13) (hv : sCount π σ t o y = v) (hsum : (st.map fun v => v.category).sum ≤ 8) (hd9 : 12 ≤ d)
    (kk : zk_Go l Γ I d kc ks Q (pc + 3) L (.int (iZ v) :: st) (zG E e W) F) : zk_Go l Γ I d kc ks Q pc L (.int (iZ y) :: .ref 320 :: st) (zG E e W) F := by
  rw [← hv] at kk
  exact gJ_q (J := mX7_count) (d1 := d - 1) [.int (iZ y)] hd rfl hw jzX7_count rfl (Nat.le_of_ble_eq_true rfl) hsum (by omega) hJ h56 in1 nr_i (fun Γ F => zh_count hJ.2.2.2.1 hy (by omega)) kk
theorem gJ_sun {k : Nat} {m : Int} (hd : decode I.2.1 pc = .ok (.invokevirtual idx, 3)) (hw : Cond.methodLink I.1.cls idx yX7_hasSun ∈ zk_tg) (hJ : lJ E e c W p H π σ t o N) (h56 : Γ.2.2.2.1 56 < Γ.2.1.size) (hk : (k : Int) < π 0 0) (hm : 0 ≤ m ∧ m ≤ 9999) (hsum : (st.map fun v => v.category).sum ≤ 8) (hd9 : 12 ≤ d)
    (kk : zk_Go l Γ I d kc ks Q (pc + 3) L (.int (iZ (bI (sSun π k m))) :: st) (zG E e W) F) : zk_Go l Γ I d kc ks Q pc L (.int (iZ m) :: .int (iZ (k : Int)) :: .ref 320 :: st) (zG E e W) F :=
  gJ_q (J := mX7_hasSun) (d1 := d - 1) [.int (iZ (k : Int)), .int (iZ m)] hd rfl hw jzX7_hasSun rfl (Nat.le_of_ble_eq_true rfl) hsum (by omega) hJ h56 in2 nr_i (fun Γ F => zh_hasSun hJ.2.2.2.1 (x := (k : Int)) (by omega) hm (by omega)) kk
theorem gJ_open {w : Nat} {m : Int} (hd : decode I.2.1 pc = .ok (.invokevirtual idx, 3)) (hw : Cond.methodLink I.1.cls idx yX7_isOpen ∈ zk_tg) (hJ : lJ E e c W p H π σ t o N) (h56 : Γ.2.2.2.1 56 < Γ.2.1.size) (hk : (w : Int) < π 0 1) (hm : 0 ≤ m ∧ m ≤ 9999) (hsum : (st.map fun v => v.category).sum ≤ 8) (hd9 : 12 ≤ d)
    (kk : zk_Go l Γ I d kc ks Q (pc + 3) L (.int (iZ (bI (sPass π σ w m))) :: st) (zG E e W) F) : zk_Go l Γ I d kc ks Q pc L (.int (iZ m) :: .int (iZ (w : Int)) :: .ref 320 :: st) (zG E e W) F :=
  gJ_q (J := mX7_isOpen) (d1 := d - 1) [.int (iZ (w : Int)), .int (iZ m)] hd rfl hw jzX7_isOpen rfl (Nat.le_of_ble_eq_true rfl) hsum (by omega) hJ h56 in2 nr_i (fun Γ F => zh_isOpen hJ.2.2.2.1 (x := (w : Int)) (by omega) hm (by omega)) kk
theorem gJ_opens {w : Nat} (hd : decode I.2.1 pc = .ok (.invokevirtual idx, 3)) (hw : Cond.methodLink I.1.cls idx yX7_opens ∈ zk_tg) (hJ : lJ E e c W p H π σ t o N) (h56 : Γ.2.2.2.1 56 < Γ.2.1.size) (hk : (w : Int) < π 0 1) (hsum : (st.map fun v => v.category).sum ≤ 8) (hd9 : 12 ≤ d)
    (kk : zk_Go l Γ I d kc ks Q (pc + 3) L (.int (iZ (sOpens π σ w)) :: st) (zG E e W) F) : zk_Go l Γ I d kc ks Q pc L (.int (iZ (w : Int)) :: .ref 320 :: st) (zG E e W) F :=
  gJ_q (J := mX7_opens) (d1 := d - 1) [.int (iZ (w : Int))] hd rfl hw jzX7_opens rfl (Nat.le_of_ble_eq_true rfl) hsum (by omega) hJ h56 in1 nr_i (fun Γ F => zh_opens hJ.2.2.2.1 (x := (w : Int)) (by omega) (by omega)) kk
theorem gJ_way {a b : Nat} (hd : decode I.2.1 pc = .ok (.invokevirtual idx, 3)) (hw : Cond.methodLink I.1.cls idx yX7_way ∈ zk_tg) (hJ : lJ E e c W p H π σ t o N) (h56 : Γ.2.2.2.1 56 < Γ.2.1.size) (ha : (a : Int) < π 0 0) (hb : (b : Int) < π 0 0) (hsum : (st.map fun v => v.category).sum ≤ 8) (hd9 : 12 ≤ d)
    (kk : ∀ W', lJ E e c W' p H π σ t o N → (∀ a j, (a = 56 ∨ 424 ≤ a) → W' a j = W a j) → zk_Go l Γ I d kc ks Q (pc + 3) L (.int (iZ (sWay π σ (a : Int) (b : Int))) :: st) (zG E e W') F) : zk_Go l Γ I d kc ks Q pc L (.int (iZ (b : Int)) :: .int (iZ (a : Int)) :: .ref 320 :: st) (zG E e W) F :=
  gJ_r (J := mX7_way) (d1 := d - 1) [.int (iZ (a : Int)), .int (iZ (b : Int))] hd rfl hw jzX7_way rfl (Nat.le_of_ble_eq_true rfl) hsum (by omega) hJ h56 in2 nr_i (fun Γ F => zh_way hJ.2.2.2.1 (by omega) (by omega) (by omega)) kk
theorem gJ_first {a b : Nat} (hd : decode I.2.1 pc = .ok (.invokevirtual idx, 3)) (hw : Cond.methodLink I.1.cls idx yX7_first ∈ zk_tg) (hJ : lJ E e c W p H π σ t o N) (h56 : Γ.2.2.2.1 56 < Γ.2.1.size) (ha : (a : Int) < π 0 0) (hb : (b : Int) < π 0 0) (hsum : (st.map fun v => v.category).sum ≤ 8) (hd9 : 12 ≤ d)
    (kk : ∀ W', lJ E e c W' p H π σ t o N → (∀ a j, (a = 56 ∨ 424 ≤ a) → W' a j = W a j) → zk_Go l Γ I d kc ks Q (pc + 3) L (.int (iZ (sFst2 π σ (a : Int) (b : Int))) :: st) (zG E e W') F) : zk_Go l Γ I d kc ks Q pc L (.int (iZ (b : Int)) :: .int (iZ (a : Int)) :: .ref 320 :: st) (zG E e W) F :=
  gJ_r (J := mX7_first) (d1 := d - 1) [.int (iZ (a : Int)), .int (iZ (b : Int))] hd rfl hw jzX7_first rfl (Nat.le_of_ble_eq_true rfl) hsum (by omega) hJ h56 in2 nr_i (fun Γ F => zh_first hJ.2.2.2.1 (by omega) (by omega) (by omega)) kk
theorem gJ_foresee {n : Nat} {y : Int} (hd : decode I.2.1 pc = .ok (.invokevirtual idx, 3)) (hw : Cond.methodLink I.1.cls idx yX7_foresee ∈ zk_tg) (hJ : lJ E e c W p H π σ t o N) (h56 : Γ.2.2.2.1 56 < Γ.2.1.size) (hn : 1 ≤ n ∧ n ≤ 240) (hN : N + 9 * n ≤ 90000) (hy : 8 ≤ y ∧ y ≤ 12) (hsum : (st.map fun v => v.category).sum ≤ 8) (hd9 : 12 ≤ d)
    (kk : ∀ W', lJ E e c W' p H π σ t o N → (∀ a j, (a = 56 ∨ 424 ≤ a) → W' a j = W a j) → zk_Go l Γ I d kc ks Q (pc + 3) L (.int (iZ (sTally π (zap (sRun π H n σ)) y)) :: st) (zG E e W') F) : zk_Go l Γ I d kc ks Q pc L (.int (iZ y) :: .int (iZ (n : Int)) :: .ref 320 :: st) (zG E e W) F :=
  gJ_r (J := mX7_foresee) (d1 := d - 1) [.int (iZ (n : Int)), .int (iZ y)] hd rfl hw jzX7_foresee rfl (Nat.le_of_ble_eq_true rfl) hsum (by omega) hJ h56 in2 nr_i (fun Γ F => zh_foresee hJ.2.2.2.1 hn hN hy (by omega)) kk
theorem gJ_until {m : Nat} (hd : decode I.2.1 pc = .ok (.invokevirtual idx, 3)) (hw : Cond.methodLink I.1.cls idx yX7_until ∈ zk_tg) (hJ : lJ E e c W p H π σ t o N) (h56 : Γ.2.2.2.1 56 < Γ.2.1.size) (hN : N + 9 * 361 ≤ 90000) (hm : (m : Int) < π 0 3) (hsum : (st.map fun v => v.category).sum ≤ 8) (hd9 : 12 ≤ d)
    (kk : ∀ W', lJ E e c W' p H π σ t o N → (∀ a j, (a = 56 ∨ 424 ≤ a) → W' a j = W a j) → zk_Go l Γ I d kc ks Q (pc + 3) L (.int (iZ (sUnt π H m 361 0 σ)) :: st) (zG E e W') F) : zk_Go l Γ I d kc ks Q pc L (.int (iZ (m : Int)) :: .ref 320 :: st) (zG E e W) F :=
  gJ_r (J := mX7_until) (d1 := d - 1) [.int (iZ (m : Int))] hd rfl hw jzX7_until rfl (Nat.le_of_ble_eq_true rfl) hsum (by omega) hJ h56 in1 nr_i (fun Γ F => zh_until hJ.2.2.2.1 hN hm (by omega)) kk
theorem gJ_missed {n : Nat} (hd : decode I.2.1 pc = .ok (.invokevirtual idx, 3)) (hw : Cond.methodLink I.1.cls idx yX7_missed ∈ zk_tg) (hJ : lJ E e c W p H π σ t o N) (h56 : Γ.2.2.2.1 56 < Γ.2.1.size) (hN : N + 9 * n ≤ 90000) (hn : 1 ≤ n ∧ n ≤ 240) (hp : 1 ≤ π 0 1) (hsum : (st.map fun v => v.category).sum ≤ 8) (hd9 : 12 ≤ d)
    (kk : ∀ (z : Int) (W' : zV), (0 ≤ z ∧ z < π 0 1) → lJ E e c W' p H π σ t o N → (∀ a j, (a = 56 ∨ 424 ≤ a) → W' a j = W a j) → zk_Go l Γ I d kc ks Q (pc + 3) L (.int (iZ z) :: st) (zG E e W') F) : zk_Go l Γ I d kc ks Q pc L (.int (iZ (n : Int)) :: .ref 320 :: st) (zG E e W) F :=
  gJ_e (J := mX7_missed) (d1 := d - 1) [.int (iZ (n : Int))] hd rfl hw jzX7_missed rfl (Nat.le_of_ble_eq_true rfl) hsum (by omega) hJ h56 in1 (fun Γ F => zh_missed hJ.2.2.2.1 hN hn hp (by omega)) kk
theorem gJ_advise {n : Nat} (hd : decode I.2.1 pc = .ok (.invokevirtual idx, 3)) (hw : Cond.methodLink I.1.cls idx yX7_advise ∈ zk_tg) (hJ : lJ E e c W p H π σ t o N) (h56 : Γ.2.2.2.1 56 < Γ.2.1.size) (hN : N + 9 * n ≤ 90000) (hn : 1 ≤ n ∧ n ≤ 240) (hsum : (st.map fun v => v.category).sum ≤ 8) (hd9 : 12 ≤ d)
    (kk : ∀ (z : Int) (W' : zV), (-1 ≤ z ∧ z < π 0 0) → lJ E e c W' p H π σ t o N → (∀ a j, (a = 56 ∨ 424 ≤ a) → W' a j = W a j) → zk_Go l Γ I d kc ks Q (pc + 3) L (.int (iZ z) :: st) (zG E e W') F) : zk_Go l Γ I d kc ks Q pc L (.int (iZ (n : Int)) :: .ref 320 :: st) (zG E e W) F :=
  gJ_e (J := mX7_advise) (d1 := d - 1) [.int (iZ (n : Int))] hd rfl hw jzX7_advise rfl (Nat.le_of_ble_eq_true rfl) hsum (by omega) hJ h56 in1 (fun Γ F => zh_advise hJ.2.2.2.1 hN hn (by omega)) kk
theorem gJ_digest (hd : decode I.2.1 pc = .ok (.invokevirtual idx, 3)) (hw : Cond.methodLink I.1.cls idx yX7_digest ∈ zk_tg) (hJ : lJ E e c W p H π σ t o N) (h56 : Γ.2.2.2.1 56 < Γ.2.1.size) (ht : 0 ≤ t ∧ t ≤ 2000) (ho : 0 ≤ o ∧ o ≤ 12) (hsum : (st.map fun v => v.category).sum ≤ 8) (hd9 : 12 ≤ d)
    (kk : zk_Go l Γ I d kc ks Q (pc + 3) L (.long (lZ (sDig π σ t o)) :: st) (zG E e W) F) : zk_Go l Γ I d kc ks Q pc L (.ref 320 :: st) (zG E e W) F :=
  gJ_q (J := mX7_digest) (d1 := d - 1) [] hd rfl hw jzX7_digest rfl (Nat.le_of_ble_eq_true rfl) hsum (by omega) hJ h56 (fun v hv => absurd hv List.not_mem_nil) nr_l (fun Γ F => zh_digest hJ.2.2.2.1 ht ho (by omega)) kk
theorem gJ_mean (hd : decode I.2.1 pc = .ok (.invokevirtual idx, 3)) (hw : Cond.methodLink I.1.cls idx yX7_mean ∈ zk_tg) (hJ : lJ E e c W p H π σ t o N) (h56 : Γ.2.2.2.1 56 < Γ.2.1.size) (hsum : (st.map fun v => v.category).sum ≤ 8) (hd9 : 12 ≤ d)
    (kk : zk_Go l Γ I d kc ks Q (pc + 3) L (.double (sMean π σ) :: st) (zG E e W) F) : zk_Go l Γ I d kc ks Q pc L (.ref 320 :: st) (zG E e W) F :=
  gJ_q (J := mX7_mean) (d1 := d - 1) [] hd rfl hw jzX7_mean rfl (Nat.le_of_ble_eq_true rfl) hsum (by omega) hJ h56 (fun v hv => absurd hv List.not_mem_nil) nr_d (fun Γ F => zh_mean hJ.2.2.2.1 (by omega)) kk
/-- a row of numbers is made: the two stand side by side still -/
theorem lJ_newa (hJ : lJ E e c W p H π σ t o N) (n : Nat) : lJ (zG_N E e n) (e + 1) c (zG_W e W) p H π σ t o N := by
  obtain ⟨hE, hE0, hz, hSt, hS, hh, hH, hO⟩ := hJ
  have h48 := hE.2.2.2.1
  have hb := hE.2.2.2.2
  have hk : ∀ a j, a < e → zG_W e W a j = W a j := fun a j h => if_pos h
  refine ⟨zE_N hE, fun a h1 h2 => (if_pos (by omega)).trans (hE0 a h1 h2), zin_424 hz (fun a j h => hk a j (by omega)), St_424 hSt (fun a j h1 h2 => hk a j (by omega)), sm_kept hS ⟨by omega, by omega, by omega, by omega⟩ (fun a j q1 q2 => hk a j (by omega)), hRow_k (fun a j h1 h2 => hk a j (by omega)) hb.2.2.2.2 hh, fun N τ h1 h2 hl k h3 => ?_, hO⟩
  rw [hH N τ h1 h2 hl k h3]
  refine any_eq (fun i hi => ?_)
  have g : ∀ j, zG_W e W (468 + i) j = W (468 + i) j := fun j => hk _ _ (by omega)
  unfold sHs
  rw [g 0, g 1, g 2, g 3, g 4, g 5]
/-- a number of such a row is written -/
theorem lJ_put (hJ : lJ E e c W p H π σ t o N) {a j : Nat} (ha : 480 ≤ a) (z : Int) : lJ E e c (zb_u W a j z) p H π σ t o N := by
  obtain ⟨hE, hE0, hz, hSt, hS, hh, hH, hO⟩ := hJ
  have hb := hE.2.2.2.2
  have hk : ∀ x y, x < 480 → zb_u W a j z x y = W x y := fun x y h => zb_u_no _ _ (by omega)
  refine ⟨hE, hE0, zin_424 hz (fun x y h => hk x y (by omega)), St_424 hSt (fun x y h1 h2 => hk x y (by omega)), sm_kept hS ⟨by omega, by omega, by omega, by omega⟩ (fun x y q1 q2 => hk x y (by omega)), hRow_k (fun x y h1 h2 => hk x y (by omega)) hb.2.2.2.2 hh, fun N τ h1 h2 hl k h3 => ?_, hO⟩
  rw [hH N τ h1 h2 hl k h3]
  refine any_eq (fun i hi => ?_)
  have g : ∀ y, zb_u W a j z (468 + i) y = W (468 + i) y := fun y => hk _ _ (by omega)
  unfold sHs
  rw [g 0, g 1, g 2, g 3, g 4, g 5]
end
end

/-! THE CHAIN BY HAND: ways -/
section
variable {l : Launch} {Γ : zk_G} {d : Nat} {F : Heap → Prop}
theorem gP_tri {n : Nat} {G : Nat → Nat → Int → Prop} (hG : gE n G) {P1 P2 : Nat → Bool} {u b : Nat} {R1 R2 : Nat → Int} (h1 : gP n G P1 u R1) (h2 : gP n G P2 b R2) (hu : P2 u = true) : ∀ (q a : Nat), a < n → P1 a = true → (R1 a).toNat = q → P2 a = true ∧ R2 a ≤ R1 a + R2 u := by
  intro q
  induction q using Nat.strongRecOn with
  | _ q ih =>
    intro a ha hp hq
    by_cases e : a = u
    · subst e
      exact ⟨hu, by rw [h1.1.2]; omega⟩
    · obtain ⟨y, f, g1, g2, g3⟩ := h1.2.2.1 a ha e hp
      have g4 := hG a y f g1
      have g5 := h1.2.1 y g4.2.1 g2
      obtain ⟨k1, k2⟩ := ih (R1 y).toNat (by omega) y g4.2.1 g2 rfl
      obtain ⟨k3, k4⟩ := h2.2.2.2 a y f g1 k1
      exact ⟨k3, by omega⟩
/-- a step over one peak -/
def mFW (k : Nat) (m : Nat → Nat → Int) : Nat → Nat → Int := fun a b => if m a k + m k b < m a b then m a k + m k b else m a b
def mOk (n : Nat) (G : Nat → Nat → Int → Prop) (m : Nat → Nat → Int) : Prop := ∀ a, a < n → ∀ b, b < n → (0 ≤ m a b ∧ m a b ≤ 9999) ∧ m a a = 0 ∧ (m a b < 9999 → ∀ P R, gP n G P b R → P a = true ∧ R a ≤ m a b)
def mEd (G : Nat → Nat → Int → Prop) (m : Nat → Nat → Int) : Prop := ∀ a b f, G a b f → m a b ≤ f
def mTri (n k : Nat) (m : Nat → Nat → Int) : Prop := ∀ c, c < k → ∀ a, a < n → ∀ b, b < n → m a b ≤ m a c + m c b
theorem mFW_le (k : Nat) (m : Nat → Nat → Int) (a b : Nat) : mFW k m a b ≤ m a b ∧ mFW k m a b ≤ m a k + m k b ∧ (mFW k m a b = m a b ∨ mFW k m a b = m a k + m k b) := by
  unfold mFW
  split <;> omega
theorem mFW_ok {n k : Nat} {G : Nat → Nat → Int → Prop} {m : Nat → Nat → Int} (hG : gE n G) (hk : k < n) (h : mOk n G m) : mOk n G (mFW k m) := by
  intro a ha b hb
  obtain ⟨x1, x2, x3⟩ := h a ha b hb
  obtain ⟨y1, y2, y3⟩ := h a ha k hk
  obtain ⟨z1, z2, z3⟩ := h k hk b hb
  obtain ⟨w1, -, -⟩ := h k hk a ha
  refine ⟨?_, ?_, fun hl P R hP => ?_⟩
  · unfold mFW; split <;> omega
  · unfold mFW; split <;> omega
  · obtain ⟨q1, q2, q3⟩ := mFW_le k m a b
    rcases q3 with q | q
    · rw [q] at hl ⊢
      exact x3 hl P R hP
    · rw [q] at hl ⊢
      obtain ⟨Pk, Rk, hPk⟩ := gP_ex hG k
      obtain ⟨s1, s2⟩ := y3 (by omega) Pk Rk hPk
      obtain ⟨t1, t2⟩ := z3 (by omega) P R hP
      obtain ⟨u1, u2⟩ := gP_tri hG hPk hP t1 _ a ha s1 rfl
      exact ⟨u1, by omega⟩
theorem mFW_ed {k : Nat} {G : Nat → Nat → Int → Prop} {m : Nat → Nat → Int} (h : mEd G m) : mEd G (mFW k m) := fun a b f hg => Int.le_trans (mFW_le k m a b).1 (h a b f hg)
theorem mFW_col {k a : Nat} {m : Nat → Nat → Int} (h : m k k = 0) : mFW k m a k = m a k := by unfold mFW; split <;> omega
theorem mFW_row {k b : Nat} {m : Nat → Nat → Int} (h : m k k = 0) : mFW k m k b = m k b := by unfold mFW; split <;> omega
theorem mFW_tri {n k : Nat} {G : Nat → Nat → Int → Prop} {m : Nat → Nat → Int} (hk : k < n) (h : mOk n G m) (ht : mTri n k m) : mTri n (k + 1) (mFW k m) := by
  intro c hc a ha b hb
  obtain ⟨q1, q2, q3⟩ := mFW_le k m a b
  have h00 := (h k hk k hk).2.1
  by_cases e : c = k
  · subst e
    rw [mFW_col h00, mFW_row h00]
    exact q2
  · have hck : c < k := by omega
    obtain ⟨-, -, r3⟩ := mFW_le k m a c
    obtain ⟨-, -, s3⟩ := mFW_le k m c b
    have t1 := ht c hck a ha b hb
    have t2 := ht c hck k hk b hb
    have t3 := ht c hck a ha k hk
    have p1 := (h k hk c (by omega)).1
    have p2 := (h c (by omega) k hk).1
    rcases r3 with r | r <;> rcases s3 with s | s <;> rw [r, s] <;> omega
/-- what the ways are at the end -/
def mWay (π τ : zV) (m : Nat → Nat → Int) : Prop := ∀ a b : Nat, (a : Int) < π 0 0 → (b : Int) < π 0 0 → (sD π τ b a < 1000000 → m a b = sD π τ b a ∧ 0 ≤ m a b ∧ m a b ≤ 160) ∧ (¬ sD π τ b a < 1000000 → m a b = 9999)
theorem mFin {π τ : zV} (hw : wP π) {m : Nat → Nat → Int} (h : mOk (π 0 0).toNat (sE π τ) m) (he : mEd (sE π τ) m) (ht : mTri (π 0 0).toNat (π 0 0).toNat m) : mWay π τ m := by
  have hn := wP_n hw
  have hG := sE_ok hw τ
  have hx : ∀ b, b < (π 0 0).toNat → gX (π 0 0).toNat (sE π τ) 9999 b (fun a => m a b) := fun b hb => by
    obtain ⟨P, R, hP⟩ := gP_ex hG b
    refine ⟨P, R, hP, fun a ha => ?_⟩
    have hub : ∀ (q a : Nat), a < (π 0 0).toNat → P a = true → (R a).toNat = q → m a b ≤ R a := by
      intro q
      induction q using Nat.strongRecOn with
      | _ q ih =>
        intro a ha hp hq
        by_cases e : a = b
        · subst e
          rw [(h a ha a ha).2.1]
          exact hP.2.1 a ha hp
        · obtain ⟨y, f, g1, g2, g3⟩ := hP.2.2.1 a ha e hp
          have g4 := hG a y f g1
          have g5 := hP.2.1 y g4.2.1 g2
          have g6 := ih (R y).toNat (by omega) y g4.2.1 g2 rfl
          have g7 := ht y g4.2.1 a ha b hb
          have g8 := he a y f g1
          omega
    obtain ⟨x1, x2, x3⟩ := h a ha b hb
    by_cases hp : P a = true
    · rw [if_pos hp]
      have k1 := hub _ a ha hp rfl
      have k2 := gP_160 (by omega) hG hP ha hp
      have k3 := (x3 (by omega) P R hP).2
      show m a b = R a
      omega
    · rw [if_neg hp]
      by_cases q : m a b < 9999
      · exact absurd (x3 q P R hP).1 hp
      · show m a b = 9999
        omega
  intro a b ha hb
  have q := gX_one (k := a) (by omega) hG (hx b (by omega)) (sD_ok hw τ b) (by decide) (by decide) (by omega)
  have q2 := sD_bd hw τ b ha
  refine ⟨fun hl => ?_, fun hl => ?_⟩
  · have k1 := q.1.mpr hl
    have k2 := q.2.1 k1
    exact ⟨k2.1, k2.2⟩
  · have k1 : ¬ m a b < 9999 := fun k => hl (q.1.mp k)
    have k2 := (h a (by omega) b (by omega)).1
    omega
theorem js_min : Cond.static Lib.Math.min.name ∈ zk_tg := zk_in 701 (by decide +kernel) rfl
theorem jc_min : Cond.code Lib.Math.min.name Lib.Math.min.code 2 (some .int) ∈ zk_tg := zk_in 702 (by decide +kernel) rfl
section
variable {I : zk_MI} {kc ks : Nat} {Q : Option Value → zk_M → (Heap → Prop) → Prop} {pc : Nat} {L : List (Option Value)} {st : List Value} {M : zk_M} {E : Nat → Nat × Nat} {e : Nat} {W : zV}
theorem gz_min {idx : Nat} {x y z : Int} (hd : decode I.2.1 pc = .ok (.invokestatic idx, 3)) (hw : Cond.methodLink I.1.cls idx Lib.Math.min.name ∈ zk_tg) (hb : (-2147483648 ≤ x ∧ x < 2147483648) ∧ (-2147483648 ≤ y ∧ y < 2147483648)) (hz : z = if y < x then y else x) (hsum : (st.map fun v => v.category).sum ≤ 8) (hd1 : 1 ≤ d) (kk : zk_Go l Γ I d kc ks Q (pc + 3) L (.int (iZ z) :: st) M F) : zk_Go l Γ I d kc ks Q pc L (.int (iZ y) :: .int (iZ x) :: st) M F := by
  intro p ev R s m args below meth c H locs cells slots Qf A ρ ls hc hr hs9 hR hA hS hL hW hE
  have e9 : ((st.map (zk_v ρ)).map fun v => v.category) = st.map fun v => v.category := by
    rw [List.map_map]
    congr 1
    funext v
    exact zk_v_cat ρ v
  refine va_mmin hc.1 hc.2.1 (hc.2.2.1.trans hL.1.symm) hc.2.2.2.1 (hc.2.2.2.2.1 _ hw) (hc.2.2.2.2.1 _ js_min) (hc.2.2.2.2.1 _ jn_Math) (hc.2.2.2.2.1 _ jc_min) (by omega) (by rw [e9]; omega) (by omega) (by omega) hd ?_
  have hgo := kk p ev R s m args below meth c H locs cells slots Qf A ρ ls hc hr hs9 hR hA hS hL ⟨trivial, hW.2.2⟩ hE
  have ez : (if iZ y < iZ x then iZ y else iZ x) = iZ z := by
    rw [hz]
    by_cases q : y < x
    · rw [if_pos q, if_pos ((iZ_lt ⟨by omega, by omega, by omega, by omega⟩).mpr q)]
    · rw [if_neg q, if_neg (fun k => q ((iZ_lt ⟨by omega, by omega, by omega, by omega⟩).mp k))]
  rw [ez]
  exact hgo
theorem gw_aald {a j len r : Nat} {z : Int} (hd : decode I.2.1 pc = .ok (.aaload, 1)) (hs : E a = (105, len)) (ha : 480 ≤ a) (hz : z = (j : Int)) (hj : j < len) (hr : r = a + 1 + j) (kk : zk_Go l Γ I d kc ks Q (pc + 1) L (.ref r :: st) (zG E e W) F) : zk_Go l Γ I d kc ks Q pc L (.int (iZ z) :: .ref a :: st) (zG E e W) F := by
  refine gz_aald (M := zG E e W) (k := 5) (n := j) hd hs (Or.inr rfl) hz hj ?_ kk
  show zG_v E W a j = _
  rw [zG_ref (by omega) (by rw [hs]), hr]
  congr 1
  unfold zG_r
  split <;> first | omega | rfl
theorem gw_iald {a q len : Nat} {z v : Int} (hd : decode I.2.1 pc = .ok (.iaload, 1)) (hs : E a = (100, len)) (ha : 480 ≤ a) (hz : z = (q : Int)) (hq : q < len) (hv : W a q = v) (kk : zk_Go l Γ I d kc ks Q (pc + 1) L (.int (iZ v) :: st) (zG E e W) F) : zk_Go l Γ I d kc ks Q pc L (.int (iZ z) :: .ref a :: st) (zG E e W) F := by
  refine gz_iald (M := zG E e W) (n := q) hd hs hz hq ?_ kk
  show zG_v E W a q = _
  rw [zG_int (by omega) (by rw [hs]; show 100 ≠ 105; decide), hv]
theorem gw_iast {a q len : Nat} {z x : Int} (hd : decode I.2.1 pc = .ok (.iastore, 1)) (hs : E a = (100, len)) (ha : 480 ≤ a) (hz : z = (q : Int)) (hq : q < len) (kk : zk_Go l Γ I d kc ks Q (pc + 1) L st (zG E e (zb_u W a q x)) F) : zk_Go l Γ I d kc ks Q pc L (.int (iZ x) :: .int (iZ z) :: .ref a :: st) (zG E e W) F := by
  refine gz_iast (M := zG E e W) (n := q) hd hs (by show 320 ≤ a; omega) hz hq ?_
  rw [zG_up (by omega) (by rw [hs]; show 100 ≠ 105; decide)]
  exact kk
end
end

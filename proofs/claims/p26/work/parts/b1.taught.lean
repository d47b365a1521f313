/-! A TEXT IS TAUGHT -/
section
variable {l : Launch} {Γ : zk_G} {d : Nat} {F : Heap → Prop}
/-- a cell that the view doesn't reach -/
def zfr (ι : Nat → Nat) (a : Nat) : Prop := ∀ b, b < 424 → (zb_s b).1 < 1000 → ι b ≠ a
/-- what lies outside of the view stays -/
def zOut (ι : Nat → Nat) (M M' : zk_M) : Prop := M'.2.1 = M.2.1 ∧ ∀ a, a < M.2.1 → zfr ι a → M'.1 a = M.1 a ∧ M'.2.2 a = M.2.2 a
/-- the old cells' shapes -/
def zOs (M : zk_M) : Prop := ∀ a, a < 320 → a ≠ 56 → M.1 a = zo_s a
theorem zk_vw.same {ι : Nat → Nat} {M2 M M' : zk_M} (h : zk_vw ι M2 M) (hn : M.2.1 ≤ M'.2.1) (e : ∀ a, a < M2.2.1 → (M2.1 a).1 < 1000 → M'.1 (ι a) = M.1 (ι a) ∧ M'.2.2 (ι a) = M.2.2 (ι a)) : zk_vw ι M2 M' := by
  obtain ⟨h1, h2, h3, h4, h5, h6⟩ := h
  refine ⟨fun a ha => ⟨(h1 a ha).1, ?_⟩, h2, fun a ha => Nat.lt_of_lt_of_le (h3 a ha) hn, fun a ha hl => ?_, h5, h6⟩
  · by_cases q : (M2.1 a).1 < 1000
    · have k := (e a (by omega) q).1
      have k2 := (h4 a (by omega) q).1
      rw [(h1 a ha).1] at k k2
      exact Or.inl (k.trans k2)
    · exact Or.inr (by omega)
  · obtain ⟨q1, q2, q3⟩ := h4 a ha hl
    obtain ⟨k1, k2⟩ := e a ha hl
    exact ⟨k1.trans q1, q2, fun j hj => by rw [k2]; exact q3 j hj⟩
theorem zk_vw.congr {ι ι' : Nat → Nat} {M2 M : zk_M} (h : zk_vw ι' M2 M) (e : ∀ b, b < M2.2.1 → ι' b = ι b) : zk_vw ι M2 M := by
  obtain ⟨h1, h2, h3, h4, h5, h6⟩ := h
  refine ⟨fun a ha => by rw [← e a (by omega)]; exact h1 a ha, h2, fun a ha => by rw [← e a ha]; exact h3 a ha, fun a ha hl => ?_, fun a b ha hb la lb q => h5 a b ha hb la lb (by rw [e a ha, e b hb]; exact q), h6⟩
  obtain ⟨q1, q2, q3⟩ := h4 a ha hl
  rw [← e a ha]
  refine ⟨q1, q2, fun j hj => (q3 j hj).trans ?_⟩
  cases hv : M2.2.2 a j with
  | ref x => exact congrArg Value.ref (e x (h6 a j x ha hj hv))
  | _ => rfl
theorem zOut.os {ι : Nat → Nat} {Z : zV} {M M' : zk_M} (h : zOut ι M M') (hv : zk_vw ι (zb_M Z) M') (hO : zOs M) (h9 : 320 ≤ M.2.1) : zOs M' := fun a ha h56 => by
  obtain ⟨h1, h2, h3, h4, h5, h6⟩ := hv
  have es : zb_s a = zo_s a := if_pos ha
  by_cases q : (zb_s a).1 < 1000
  · have k := (h4 a (show a < 424 by omega) q).1
    rw [(h1 a ha).1] at k
    exact k.trans es
  · refine ((h.2 a (by omega) (fun b hb hl e => ?_)).1).trans (hO a ha h56)
    by_cases b9 : b < 320
    · rw [(h1 b b9).1] at e
      rw [e] at hl
      exact q hl
    · have := (h4 b hb hl).2.1 (by omega)
      omega
theorem zR_class {J : zk_MI} {kc ks : Nat} {As : List Value} {ι : Nat → Nat} {Z : zV} {M : zk_M} {R : Option Value → zV → Prop} {Q : Option Value → zk_M → (Heap → Prop) → Prop}
    (h : zK l J d kc ks As Z R) (hv : zk_vw ι (zb_M Z) M) (hO : zOs M) (h9 : 320 ≤ M.2.1) (h56 : Γ.2.2.2.1 56 < Γ.2.1.size) (hAs : ∀ v ∈ As, zk_in_n 424 v) (hRv : ∀ v Z', R v Z' → ∃ x, v = some (.int x))
    (hq : ∀ v Z' M', R v Z' → zk_vw ι (zb_M Z') M' → zOut ι M M' → zOs M' → Q v M' F) : zk_Go l Γ J d kc ks Q 0 (zk_ent J.2.2.1 (As.map (zk_v ι))) [] M F := by
  refine zk_lift (l := l) (Γ := Γ) (d := d) (F := F) (J := J) (kc := kc) (ks := ks) (As2 := As) (ι := ι) (M2 := zb_M Z) (M := M) (R := fun v M2' => ∃ Z', R v Z' ∧ M2' = zb_M Z') (Q := Q)
    (fun Γ F Q1 hQ => h Γ F Q1 (fun v Z' hr => hQ v _ ⟨Z', hr, rfl⟩)) hv (fun a ha h1 h2 => ?_) hAs ?_
  · by_cases q : a = 56
    · rw [q]; exact h56
    · have h1' : 1000 ≤ (zb_s a).1 := h1
      rw [show zb_s a = zo_s a from if_pos ha] at h1'
      rw [hO a ha q] at h2
      omega
  · intro v M2' M' hr hf
    obtain ⟨Z', hr', rfl⟩ := hr
    obtain ⟨g1, -, w, g4⟩ := hf
    obtain ⟨x, rfl⟩ := hRv v Z' hr'
    have g1' : M'.2.1 = M.2.1 := by rw [g1]; show M.2.1 + (424 - 424) = M.2.1; omega
    have w' : zk_vw ι (zb_M Z') M' := w.congr (fun b hb => zk_io_lt hb)
    have ho : zOut ι M M' := ⟨g1', fun a ha hf => g4 a ha hf⟩
    exact hq _ Z' M' hr' w' ho (ho.os w' hO h9)
section
variable {I : zk_MI} {kc ks : Nat} {Q : Option Value → zk_M → (Heap → Prop) → Prop} {pc : Nat} {L : List (Option Value)} {ι : Nat → Nat} {Z : zV} {M : zk_M}
theorem gR_call {J : zk_MI} {d1 n k len b idx : Nat} {R : Option Value → zV → Prop} (As st : List Value) {st0 : List Value} (hd : decode I.2.1 pc = .ok (.invokevirtual idx, 3)) (hst : st0 = As.reverse ++ .ref (ι b) :: st) (hw : Cond.methodLink I.1.cls idx J.1 ∈ zk_tg) (hs : zb_s b = (k, len)) (hb : b < 424 ∧ k < 1000) (hJ : zk_V J n k) (hn : As.length = n) (hm : (zk_es (.ref b :: As)).length ≤ J.2.2.1)
    (hsum : (st.map fun v => v.category).sum ≤ 8) (hd1 : d1 + 1 ≤ d) (hcl : zK l J d1 0 0 (.ref b :: As) Z R) (hv : zk_vw ι (zb_M Z) M) (hO : zOs M) (h9 : 320 ≤ M.2.1) (h56 : Γ.2.2.2.1 56 < Γ.2.1.size) (hAs : ∀ v ∈ As, ∃ x, v = .int x) (hRv : ∀ v Z', R v Z' → ∃ x, v = some (.int x))
    (kk : ∀ x Z' M', R (some (.int x)) Z' → zk_vw ι (zb_M Z') M' → zOut ι M M' → zOs M' → zk_Go l Γ I d kc ks Q (pc + 3) L (.int x :: st) M' F) : zk_Go l Γ I d kc ks Q pc L st0 M F := by
  have eA : As.map (zk_v ι) = As := by
    refine List.map_congr_left (g := id) (fun v hv => ?_) |>.trans (List.map_id As)
    obtain ⟨x, rfl⟩ := hAs v hv
    rfl
  have hsh : M.1 (ι b) = (k, len) := by
    rw [(hv.2.2.2.1 b hb.1 (show (zb_s b).1 < 1000 by rw [hs]; exact hb.2)).1]
    exact hs
  refine gz_invv (kc1 := 0) (ks1 := 0) (Q1 := fun v M' F' => ∃ Z', R v Z' ∧ zk_vw ι (zb_M Z') M' ∧ zOut ι M M' ∧ zOs M' ∧ F' = F) As st hd hst hsh hJ.2.2.2.2.2.2.1 hJ.2.2.2.2.2.2.2.1 hw hJ.1 hJ.2.1 hJ.2.2.1 hJ.2.2.2.1 hJ.2.2.2.2.1 hn ⟨hJ.2.2.2.2.2.1, hm⟩ hsum hd1 ⟨by omega, by omega⟩ hJ.2.2.2.2.2.2.2.2 ?_ (fun v M' F' h => ?_)
  · have key := zR_class (Γ := Γ) (F := F) (ι := ι) (M := M) (Q := fun v M' F' => ∃ Z', R v Z' ∧ zk_vw ι (zb_M Z') M' ∧ zOut ι M M' ∧ zOs M' ∧ F' = F) hcl hv hO h9 h56 (fun v hv => ?_) hRv (fun v Z' M' h1 h2 h3 h4 => ⟨Z', h1, h2, h3, h4, rfl⟩)
    · rw [List.map_cons, eA] at key
      exact key
    · rcases List.mem_cons.mp hv with q | q
      · rw [q]; exact hb.1
      · obtain ⟨x, rfl⟩ := hAs v q
        trivial
  · obtain ⟨Z', h1, h2, h3, h4, rfl⟩ := h
    obtain ⟨x, rfl⟩ := hRv v Z' h1
    exact kk x Z' M' h1 h2 h3 h4
end
theorem sh8 {n m : Nat} (hn : n < 8388608) (hm : m < 256) : (iZ (n : Int) <<< (iZ 8 &&& 31)) ||| iZ (m : Int) = iZ ((n : Int) * 256 + (m : Int)) := by
  have e8 : (iZ 8 &&& 31 : Int32) = 8 := by decide
  have en : ∀ k : Nat, (iZ (k : Int)).toBitVec = BitVec.ofNat 32 k := fun k => BitVec.ofInt_natCast 32 k
  have e1 : ∀ x : Int32, (x <<< (8 : Int32)).toBitVec = x.toBitVec <<< (8 : Nat) := fun x => rfl
  rw [e8, show ((n : Int) * 256 + (m : Int)) = ((n * 256 + m : Nat) : Int) by omega]
  apply Int32.toBitVec_inj.mp
  rw [Int32.toBitVec_or, e1, en, en, en]
  apply BitVec.eq_of_toNat_eq
  rw [BitVec.toNat_or, BitVec.toNat_shiftLeft, BitVec.toNat_ofNat, BitVec.toNat_ofNat, BitVec.toNat_ofNat, Nat.mod_eq_of_lt (by omega : n < 2 ^ 32), Nat.mod_eq_of_lt (by omega : m < 2 ^ 32), Nat.mod_eq_of_lt (by omega : n * 256 + m < 2 ^ 32), Nat.shiftLeft_eq, Nat.mod_eq_of_lt (by omega : n * 2 ^ 8 < 2 ^ 32), ← Nat.shiftLeft_eq, ← Nat.shiftLeft_add_eq_or_of_lt (by omega : m < 2 ^ 8), Nat.shiftLeft_eq]
/-- the text, with blanks behind it -/
def tp (T : List Int) (i : Nat) : Int := if i < T.length then T.getD i 0 else 32
def sP (T : List Int) (n : Nat) : List Int := (List.range n).map (tp T)
theorem sP_len {T : List Int} {n : Nat} : (sP T n).length = n := by unfold sP; rw [List.length_map, List.length_range]
theorem sP_add {T : List Int} {n : Nat} : ∀ m, sP T n ++ (List.range m).map (fun i => tp T (n + i)) = sP T (n + m)
  | 0 => List.append_nil _
  | m + 1 => by
    rw [List.range_succ, List.map_append, ← List.append_assoc, sP_add m]
    show _ = (List.range (n + m + 1)).map (tp T)
    rw [List.range_succ, List.map_append]
    rfl
theorem sP_self {T : List Int} : sP T T.length = T := by
  refine List.ext_getElem? (fun i => ?_)
  unfold sP
  rw [List.getElem?_map]
  by_cases h : i < T.length
  · rw [List.getElem?_range h, List.getElem?_eq_getElem h]
    refine congrArg some ?_
    unfold tp
    rw [if_pos h, List.getD_eq_getElem?_getD, List.getElem?_eq_getElem h]
    rfl
  · rw [List.getElem?_eq_none (l := T) (by omega), List.getElem?_eq_none (by rw [List.length_range]; omega)]
    rfl
theorem tg {f : Nat → Int} {i n : Nat} (h : i < n) : ((List.range n).map f).getD i 0 = f i := by
  rw [List.getD_eq_getElem?_getD, List.getElem?_map, List.getElem?_range h]
  rfl
theorem tp_bd {T : List Int} (h : ∀ c ∈ T, 0 ≤ c ∧ c < 128) (i : Nat) : 0 ≤ tp T i ∧ tp T i < 128 := by
  unfold tp
  split
  · rename_i q
    rw [List.getD_eq_getElem?_getD, List.getElem?_eq_getElem q]
    exact h _ (List.getElem_mem q)
  · decide
section
variable {ι : Nat → Nat} {M0 : zk_M} {x y : Nat} {T : List Int} {Z : zV} {X : zk_M} {v : Nat → Int}
def zTI (ι : Nat → Nat) (M0 : zk_M) (x y : Nat) (T : List Int) (Z : zV) (X : zk_M) (v : Nat → Int) : Prop :=
  zk_vw ι (zb_M Z) X ∧ zOs X ∧ X.2.1 = M0.2.1 + 1 ∧ X.1 M0.2.1 = (100, 5) ∧ (∀ j, j < 5 → X.2.2 M0.2.1 j = .int (iZ (v j))) ∧ zSg X x y T ∧ ∀ a, a < M0.2.1 → zfr ι a → X.1 a = M0.1 a ∧ X.2.2 a = M0.2.2 a
/-- what stands all along -/
def zTH (ι : Nat → Nat) (M0 : zk_M) (x y : Nat) : Prop := (zfr ι x ∧ zfr ι y ∧ x < M0.2.1 ∧ y < M0.2.1) ∧ (∀ b, b < 424 → ι b < M0.2.1) ∧ 320 ≤ M0.2.1
theorem zTI.put (h : zTI ι M0 x y T Z X v) (hH : zTH ι M0 x y) {j : Nat} {z : Int} (hj : j < 5) : zTI ι M0 x y T Z (X.1, X.2.1, zk_up X.2.2 M0.2.1 j (.int (iZ z))) (fu v j z) := by
  obtain ⟨h1, h2, h3, h4, h5, h6, h7⟩ := h
  obtain ⟨⟨f1, f2, f3, f4⟩, g1, g2⟩ := hH
  refine ⟨h1.same (Nat.le_refl _) (fun a ha hl => ⟨rfl, ?_⟩), h2, h3, h4, fun i hi => ?_, zStr_keep h6 ⟨rfl, rfl⟩ ⟨?_, ?_⟩, fun a ha hf => ⟨(h7 a ha hf).1, ?_⟩⟩
  · have := g1 a ha
    exact zk_up_ne (by omega)
  · show zk_up X.2.2 M0.2.1 j _ M0.2.1 i = _
    rw [zk_up_row]
    unfold fu
    split
    · rfl
    · exact h5 i hi
  · exact zk_up_ne (by omega)
  · exact zk_up_ne (by omega)
  · exact (zk_up_ne (by omega)).trans (h7 a ha hf).2
theorem zTI.call {Z' : zV} {X' : zk_M} (h : zTI ι M0 x y T Z X v) (hH : zTH ι M0 x y) (g1 : zk_vw ι (zb_M Z') X') (g2 : zOut ι X X') (g3 : zOs X') : zTI ι M0 x y T Z' X' v := by
  obtain ⟨h1, h2, h3, h4, h5, h6, h7⟩ := h
  obtain ⟨⟨f1, f2, f3, f4⟩, k1, k2⟩ := hH
  have hq : zfr ι M0.2.1 := fun b hb _ e => by have := k1 b hb; omega
  obtain ⟨q1, q2⟩ := g2.2 M0.2.1 (by omega) hq
  obtain ⟨x1, x2⟩ := g2.2 x (by omega) f1
  obtain ⟨y1, y2⟩ := g2.2 y (by omega) f2
  refine ⟨g1, g3, by rw [g2.1]; exact h3, q1.trans h4, fun j hj => by rw [q2]; exact h5 j hj, zStr_keep h6 ⟨x1, y1⟩ ⟨x2, y2⟩, fun a ha hf => ?_⟩
  obtain ⟨a1, a2⟩ := g2.2 a (by omega) hf
  exact ⟨a1.trans (h7 a ha hf).1, a2.trans (h7 a ha hf).2⟩
theorem zt_step {kc ks : Nat} {Q : Option Value → zk_M → (Heap → Prop) → Prop} {f k w z : Nat} (h : zTI ι M0 x y T Z X v) (hH : zTH ι M0 x y) (hk : k < 5) (hf : f < 10000) (hw : f + 4 * k ≤ w ∧ w < f + 4 * k + 4) (hz : v k = (z : Int)) (hz9 : z < 8388608) (hd : 4 ≤ d) (kk : ∀ X', zTI ι M0 x y T Z X' (fu v k ((z : Int) * 256 + tp T w)) → zk_Go l Γ mL_taught d kc ks Q 42 [some (.ref (ι 320)), some (.ref x), some (.ref M0.2.1), some (.int (iZ (f : Int))), some (.int (iZ (k : Int))), some (.int (iZ ((w : Int) + 1)))] [] X' F) : zk_Go l Γ mL_taught d kc ks Q 42 [some (.ref (ι 320)), some (.ref x), some (.ref M0.2.1), some (.int (iZ (f : Int))), some (.int (iZ (k : Int))), some (.int (iZ (w : Int)))] [] X F := by
  have hT := tp_bd (T := T) (zSg_mem h.2.2.2.2.2.1) w
  obtain ⟨lenS, hS1, hS⟩ := h.2.2.2.2.2.1
  have hlen : T.length < 100000 := hS.2.2.2.2.1
  obtain ⟨c, hc⟩ : ∃ c : Nat, tp T w = (c : Int) := ⟨(tp T w).toNat, by omega⟩
  have fin : zk_Go l Γ mL_taught d kc ks Q 85 ([some (.ref (ι 320)), some (.ref x), some (.ref M0.2.1), some (.int (iZ (f : Int))), some (.int (iZ (k : Int))), some (.int (iZ (w : Int)))]) [.int (iZ (c : Int)), .int (iZ (z : Int) <<< (iZ 8 &&& 31)), .int (iZ (k : Int)), .ref M0.2.1] X F := by
    refine gz_ior dL_taught_85 ?_
    rw [sh8 hz9 (by omega)]
    refine gz_iast (n := k) dL_taught_86 h.2.2.2.1 (show 320 ≤ _ from hH.2.2) rfl hk ?_
    refine zz_iinc (L2 := [some (.ref (ι 320)), some (.ref x), some (.ref M0.2.1), some (.int (iZ (f : Int))), some (.int (iZ (k : Int))), some (.int (iZ ((w : Int) + 1)))]) dL_taught_87 rfl rfl ?_
    refine gz_goto (tgt := 42) dL_taught_90 rfl ?_
    refine kk _ ?_
    rw [hc]
    exact h.put hH hk
  refine gz_iload dL_taught_42 rfl ?_
  refine gz_iload_n dL_taught_44 rfl ?_
  refine zz_iconst dL_taught_45 ?_
  refine gz_iload dL_taught_46 rfl ?_
  refine zz_imul dL_taught_48 ?_
  refine zz_iadd dL_taught_49 ?_
  refine zz_iconst dL_taught_50 ?_
  refine zz_iadd dL_taught_51 ?_
  refine zz_icmp_ge (tgt := 93) dL_taught_52 rfl (by omega) (fun b52 => ?_) (fun b52 => ?_)
  · exact absurd b52 (by omega)
  refine gz_aload_n dL_taught_55 rfl ?_
  refine gz_iload dL_taught_56 rfl ?_
  refine gz_aload_n dL_taught_58 rfl ?_
  refine gz_iload dL_taught_59 rfl ?_
  refine gz_iald (n := k) dL_taught_61 h.2.2.2.1 rfl hk (h.2.2.2.2.1 k hk) ?_
  rw [hz]
  refine zz_bipush (x := 8) dL_taught_62 rfl ?_
  refine gz_ishl dL_taught_64 ?_
  refine gz_iload dL_taught_65 rfl ?_
  refine gz_aload_n dL_taught_67 rfl ?_
  refine gb_v (J := mJ0_length_8abf5) (d1 := d - 1) (kc1 := 0) (ks1 := 0) [] _ dL_taught_68 rfl hS1 wm_HeliographsLaw_15 jzJ0_length_8abf5 rfl (Nat.le_of_ble_eq_true rfl) (Nat.le_of_ble_eq_true rfl) (by omega) ⟨by omega, by omega⟩ (zDo_of (js_length h.2.2.2.2.2.1 (by omega))) (fun v68 M68 h68 => ?_)
  obtain ⟨rfl, rfl⟩ := h68
  refine zz_icmp_ge (tgt := 83) dL_taught_71 rfl (by omega) (fun b71 => ?_) (fun b71 => ?_)
  ·
    refine zz_bipush (x := 32) dL_taught_83 rfl ?_
    have ec : (c : Int) = _ := hc.symm
    unfold tp at ec
    first | (rw [if_pos (by omega)] at ec; rw [ec] at fin; exact fin) | (rw [if_neg (by omega)] at ec; rw [ec] at fin; exact fin)
  ·
    refine gz_aload_n dL_taught_74 rfl ?_
    refine gz_iload dL_taught_75 rfl ?_
    refine gb_v (J := mJ0_charAt_5068e) (d1 := d - 1) (kc1 := 0) (ks1 := 0) [.int (iZ (w : Int))] _ dL_taught_77 rfl hS1 wm_HeliographsLaw_21 jzJ0_charAt_5068e rfl (Nat.le_of_ble_eq_true rfl) (Nat.le_of_ble_eq_true rfl) (by omega) ⟨by omega, by omega⟩ (zDo_of (js_charAt h.2.2.2.2.2.1 (i := w) (by omega) (by omega))) (fun v77 M77 h77 => ?_)
    obtain ⟨rfl, rfl⟩ := h77
    refine gz_goto (tgt := 85) dL_taught_80 rfl ?_
    have ec : (c : Int) = _ := hc.symm
    unfold tp at ec
    first | (rw [if_pos (by omega)] at ec; rw [ec] at fin; exact fin) | (rw [if_neg (by omega)] at ec; rw [ec] at fin; exact fin)
theorem zt_word {kc ks : Nat} {Q : Option Value → zk_M → (Heap → Prop) → Prop} {f k : Nat} {L5 : Option Value} (h : zTI ι M0 x y T Z X v) (hH : zTH ι M0 x y) (hk : k < 5) (hf : f < 10000) (hd : 4 ≤ d) (kk : ∀ X' w, zTI ι M0 x y T Z X' (fu v k (((tp T (f + 4 * k) * 256 + tp T (f + 4 * k + 1)) * 256 + tp T (f + 4 * k + 2)) * 256 + tp T (f + 4 * k + 3))) → zk_Go l Γ mL_taught d kc ks Q 23 [some (.ref (ι 320)), some (.ref x), some (.ref M0.2.1), some (.int (iZ (f : Int))), some (.int (iZ ((k : Int) + 1))), some (.int (iZ w))] [] X' F) : zk_Go l Γ mL_taught d kc ks Q 23 [some (.ref (ι 320)), some (.ref x), some (.ref M0.2.1), some (.int (iZ (f : Int))), some (.int (iZ (k : Int))), L5] [] X F := by
  have hb := tp_bd (T := T) (zSg_mem h.2.2.2.2.2.1)
  have b0 := hb (f + 4 * k)
  have b1 := hb (f + 4 * k + 1)
  have b2 := hb (f + 4 * k + 2)
  have b3 := hb (f + 4 * k + 3)
  refine gz_iload dL_taught_23 rfl ?_
  refine zz_iconst dL_taught_25 ?_
  refine zz_icmp_ge (tgt := 99) dL_taught_26 rfl (by omega) (fun b26 => ?_) (fun b26 => ?_)
  · exact absurd b26 (by omega)
  refine gz_aload_n dL_taught_29 rfl ?_
  refine gz_iload dL_taught_30 rfl ?_
  refine zz_iconst dL_taught_32 ?_
  refine gz_iast (n := k) dL_taught_33 h.2.2.2.1 (show 320 ≤ _ from hH.2.2) rfl hk ?_
  have h0 := h.put (z := 0) hH hk
  refine gz_iload_n dL_taught_34 rfl ?_
  refine zz_iconst dL_taught_35 ?_
  refine gz_iload dL_taught_36 rfl ?_
  refine zz_imul dL_taught_38 ?_
  refine zz_iadd dL_taught_39 ?_
  refine gz_istore (L2 := [some (.ref (ι 320)), some (.ref x), some (.ref M0.2.1), some (.int (iZ (f : Int))), some (.int (iZ (k : Int))), some (.int (iZ ((f + 4 * k : Nat) : Int)))]) dL_taught_40 (Nat.le_of_ble_eq_true rfl) (by rw [show ((f + 4 * k : Nat) : Int) = (f : Int) + 4 * (k : Int) by omega]; rfl) ?_
  have fk : ∀ (u : Nat → Int) (z z' : Int), fu (fu u k z) k z' = fu u k z' := fun u z z' => fu_fu
  have fa : ∀ (u : Nat → Int) (z : Int), fu u k z k = z := fun u z => fu_a
  refine zt_step (z := 0) h0 hH hk hf ⟨by omega, by omega⟩ (fa _ _) (by omega) hd (fun X1 h1 => ?_)
  rw [fk] at h1
  rw [show ((f + 4 * k : Nat) : Int) + 1 = ((f + 4 * k + 1 : Nat) : Int) by omega]
  refine zt_step (z := (tp T (f + 4 * k)).toNat) h1 hH hk hf ⟨by omega, by omega⟩ ((fa _ _).trans (by omega)) (by omega) hd (fun X2 h2 => ?_)
  rw [fk, Int.toNat_of_nonneg b0.1] at h2
  rw [show ((f + 4 * k + 1 : Nat) : Int) + 1 = ((f + 4 * k + 2 : Nat) : Int) by omega]
  refine zt_step (z := (tp T (f + 4 * k) * 256 + tp T (f + 4 * k + 1)).toNat) h2 hH hk hf ⟨by omega, by omega⟩ ((fa _ _).trans (by omega)) (by omega) hd (fun X3 h3 => ?_)
  rw [fk, Int.toNat_of_nonneg (by omega)] at h3
  rw [show ((f + 4 * k + 2 : Nat) : Int) + 1 = ((f + 4 * k + 3 : Nat) : Int) by omega]
  refine zt_step (z := ((tp T (f + 4 * k) * 256 + tp T (f + 4 * k + 1)) * 256 + tp T (f + 4 * k + 2)).toNat) h3 hH hk hf ⟨by omega, by omega⟩ ((fa _ _).trans (by omega)) (by omega) hd (fun X4 h4 => ?_)
  rw [fk, Int.toNat_of_nonneg (by omega)] at h4
  refine gz_iload dL_taught_42 rfl ?_
  refine gz_iload_n dL_taught_44 rfl ?_
  refine zz_iconst dL_taught_45 ?_
  refine gz_iload dL_taught_46 rfl ?_
  refine zz_imul dL_taught_48 ?_
  refine zz_iadd dL_taught_49 ?_
  refine zz_iconst dL_taught_50 ?_
  refine zz_iadd dL_taught_51 ?_
  refine zz_icmp_ge (tgt := 93) dL_taught_52 rfl (by omega) (fun b52 => ?_) (fun b52 => ?_)
  rotate_left
  · exact absurd b52 (by omega)
  refine zz_iinc (L2 := [some (.ref (ι 320)), some (.ref x), some (.ref M0.2.1), some (.int (iZ (f : Int))), some (.int (iZ ((k : Int) + 1))), some (.int (iZ (((f + 4 * k + 3 : Nat) : Int) + 1)))]) dL_taught_93 rfl rfl ?_
  refine gz_goto (tgt := 23) dL_taught_96 rfl ?_
  exact kk X4 _ h4
/-- twenty letters from place f on -/
def ck (T : List Int) (f : Nat) : List Int := (List.range 20).map (fun i => tp T (f + i))
theorem ck_nb {f k : Nat} (hk : k < 5) : nb4 (ck T f) (4 * k) = ((tp T (f + 4 * k) * 256 + tp T (f + 4 * k + 1)) * 256 + tp T (f + 4 * k + 2)) * 256 + tp T (f + 4 * k + 3) := by
  unfold nb4 ck
  rw [tg (by omega), tg (by omega), tg (by omega), tg (by omega)]
  rfl
theorem zt_words {kc ks : Nat} {Q : Option Value → zk_M → (Heap → Prop) → Prop} {f : Nat} (hH : zTH ι M0 x y) (hf : f < 10000) (hd : 4 ≤ d) (kk : ∀ X' v' L5, zTI ι M0 x y T Z X' v' → (∀ j, j < 5 → v' j = nb4 (ck T f) (4 * j)) → zk_Go l Γ mL_taught d kc ks Q 99 [some (.ref (ι 320)), some (.ref x), some (.ref M0.2.1), some (.int (iZ (f : Int))), some (.int (iZ 5)), L5] [] X' F) : ∀ (m k : Nat) (X : zk_M) (v : Nat → Int) (L5 : Option Value), k + m = 5 → zTI ι M0 x y T Z X v → (∀ j, j < k → v j = nb4 (ck T f) (4 * j)) → zk_Go l Γ mL_taught d kc ks Q 23 [some (.ref (ι 320)), some (.ref x), some (.ref M0.2.1), some (.int (iZ (f : Int))), some (.int (iZ (k : Int))), L5] [] X F
  | 0, k, X, v, L5, hk, h, hv => by
    have e : k = 5 := by omega
    subst e
    refine gz_iload dL_taught_23 rfl ?_
    refine zz_iconst dL_taught_25 ?_
    refine zz_icmp_ge (tgt := 99) dL_taught_26 rfl (by omega) (fun b26 => ?_) (fun b26 => ?_)
    · exact kk X v L5 h hv
    · exact absurd b26 (by omega)
  | m + 1, k, X, v, L5, hk, h, hv => by
    refine zt_word h hH (by omega) hf hd (fun X' w h' => ?_)
    rw [show (k : Int) + 1 = ((k + 1 : Nat) : Int) by omega]
    refine zt_words hH hf hd kk m (k + 1) X' _ _ (by omega) h' (fun j hj => ?_)
    by_cases e : j = k
    · rw [e, fu_a, ck_nb (by omega)]
    · rw [fu_n e]
      exact hv j (by omega)
theorem ck_len {f : Nat} : (ck T f).length = 20 := by unfold ck; rw [List.length_map, List.length_range]
theorem zt_feeds {kc ks : Nat} {Q : Option Value → zk_M → (Heap → Prop) → Prop} (hH : zTH ι M0 x y) (hd : 6 ≤ d) (h56 : Γ.2.2.2.1 56 < Γ.2.1.size) (hT : T.length ≤ 1900) (kk : ∀ X' v' Z' n L4 L5 f, zTI ι M0 x y T Z' X' v' → hTp Z' 0 (sP T n) → T.length ≤ n → tpO Z Z' → zk_Go l Γ mL_taught d kc ks Q 125 [some (.ref (ι 320)), some (.ref x), some (.ref M0.2.1), some (.int (iZ (f : Int))), L4, L5] [] X' F) : ∀ (m c : Nat) (X : zk_M) (v : Nat → Int) (Z' : zV) (L4 L5 : Option Value), c + m = 96 → zTI ι M0 x y T Z' X v → hTp Z' 0 (sP T (20 * c)) → tpO Z Z' → zk_Go l Γ mL_taught d kc ks Q 12 [some (.ref (ι 320)), some (.ref x), some (.ref M0.2.1), some (.int (iZ ((20 * c : Nat) : Int))), L4, L5] [] X F
  | 0, c, X, v, Z', L4, L5, hm, h, ht, ho => by
    obtain ⟨lenS, hS1, hS⟩ := h.2.2.2.2.2.1
    refine gz_iload_n dL_taught_12 rfl ?_
    refine gz_aload_n dL_taught_13 rfl ?_
    refine gb_v (J := mJ0_length_8abf5) (d1 := d - 1) (kc1 := 0) (ks1 := 0) [] _ dL_taught_14 rfl hS1 wm_HeliographsLaw_15 jzJ0_length_8abf5 rfl (Nat.le_of_ble_eq_true rfl) (Nat.le_of_ble_eq_true rfl) (by omega) ⟨by omega, by omega⟩ (zDo_of (js_length h.2.2.2.2.2.1 (by omega))) (fun v14 M14 h14 => ?_)
    obtain ⟨rfl, rfl⟩ := h14
    refine zz_icmp_ge (tgt := 125) dL_taught_17 rfl (by omega) (fun b17 => ?_) (fun b17 => ?_)
    · exact kk M14 v Z' (20 * c) L4 L5 ((20 * c : Nat) : Int) h ht (by omega) ho
    · exact absurd b17 (by omega)
  | m + 1, c, X, v, Z', L4, L5, hm, h, ht, ho => by
    obtain ⟨lenS, hS1, hS⟩ := h.2.2.2.2.2.1
    have hb := tp_bd (T := T) (zSg_mem h.2.2.2.2.2.1)
    refine gz_iload_n dL_taught_12 rfl ?_
    refine gz_aload_n dL_taught_13 rfl ?_
    refine gb_v (J := mJ0_length_8abf5) (d1 := d - 1) (kc1 := 0) (ks1 := 0) [] _ dL_taught_14 rfl hS1 wm_HeliographsLaw_15 jzJ0_length_8abf5 rfl (Nat.le_of_ble_eq_true rfl) (Nat.le_of_ble_eq_true rfl) (by omega) ⟨by omega, by omega⟩ (zDo_of (js_length h.2.2.2.2.2.1 (by omega))) (fun v14 M14 h14 => ?_)
    obtain ⟨rfl, rfl⟩ := h14
    refine zz_icmp_ge (tgt := 125) dL_taught_17 rfl (by omega) (fun b17 => ?_) (fun b17 => ?_)
    · exact kk M14 v Z' (20 * c) L4 L5 ((20 * c : Nat) : Int) h ht (by omega) ho
    refine zz_iconst dL_taught_20 ?_
    refine gz_istore (L2 := [some (.ref (ι 320)), some (.ref x), some (.ref M0.2.1), some (.int (iZ ((20 * c : Nat) : Int))), some (.int (iZ ((0 : Nat) : Int))), L5]) dL_taught_21 (Nat.le_of_ble_eq_true rfl) rfl ?_
    refine zt_words hH (by omega) (by omega) (fun X1 v1 L51 h1 hv1 => ?_) 5 0 M14 v L5 rfl h (fun j hj => absurd hj (by omega))
    have g1 : ∀ j, j < 5 → X1.2.2 M0.2.1 j = .int (iZ (nb4 (ck T (20 * c)) (4 * j))) := fun j hj => by rw [h1.2.2.2.2.1 j hj, hv1 j hj]
    refine gz_aload_n dL_taught_99 rfl ?_
    refine gz_aload_n dL_taught_100 rfl ?_
    refine zz_iconst dL_taught_101 ?_
    refine gz_iald (n := 0) dL_taught_102 h1.2.2.2.1 rfl (by omega) (g1 0 (by omega)) ?_
    refine gz_aload_n dL_taught_103 rfl ?_
    refine zz_iconst dL_taught_104 ?_
    refine gz_iald (n := 1) dL_taught_105 h1.2.2.2.1 rfl (by omega) (g1 1 (by omega)) ?_
    refine gz_aload_n dL_taught_106 rfl ?_
    refine zz_iconst dL_taught_107 ?_
    refine gz_iald (n := 2) dL_taught_108 h1.2.2.2.1 rfl (by omega) (g1 2 (by omega)) ?_
    refine gz_aload_n dL_taught_109 rfl ?_
    refine zz_iconst dL_taught_110 ?_
    refine gz_iald (n := 3) dL_taught_111 h1.2.2.2.1 rfl (by omega) (g1 3 (by omega)) ?_
    refine gz_aload_n dL_taught_112 rfl ?_
    refine zz_iconst dL_taught_113 ?_
    refine gz_iald (n := 4) dL_taught_114 h1.2.2.2.1 rfl (by omega) (g1 4 (by omega)) ?_
    have hu := hTp_len ht
    rw [sP_len] at hu
    refine gR_call (J := mX7_feed) (d1 := d - 1) (b := 320) [.int (iZ (nb4 (ck T (20 * c)) 0)), .int (iZ (nb4 (ck T (20 * c)) 4)), .int (iZ (nb4 (ck T (20 * c)) 8)), .int (iZ (nb4 (ck T (20 * c)) 12)), .int (iZ (nb4 (ck T (20 * c)) 16))] [] dL_taught_115 rfl wm_HeliographsLaw_25 rfl ⟨by decide, by decide⟩ jzX7_feed rfl (Nat.le_of_ble_eq_true rfl) (Nat.le_of_ble_eq_true rfl) (by omega) (zK_ofR (fun Γ F => zh_feed ht (by rw [sP_len]; omega) ck_len (fun i hi => by unfold ck; rw [tg hi]; exact hb _) (by omega))) h1.1 h1.2.1 (by have := h1.2.2.1; have := hH.2.2; omega) h56 (fun v hv => by simp only [List.mem_cons, List.mem_nil_iff, or_false] at hv; rcases hv with rfl | rfl | rfl | rfl | rfl <;> exact ⟨_, rfl⟩) (fun v Z' hr => ⟨_, hr.1⟩) (fun x9 Z9 M9 hr hv9 ho9 hs9 => ?_)
    refine gz_pop dL_taught_118 rfl ?_
    refine zz_iinc (L2 := [some (.ref (ι 320)), some (.ref x), some (.ref M0.2.1), some (.int (iZ ((20 * (c + 1) : Nat) : Int))), some (.int (iZ 5)), L51]) dL_taught_119 rfl (by rw [show ((20 * (c + 1) : Nat) : Int) = ((20 * c : Nat) : Int) + 20 by omega]; rfl) ?_
    refine gz_goto (tgt := 12) dL_taught_122 rfl ?_
    refine zt_feeds hH hd h56 hT kk m (c + 1) M9 v1 Z9 _ _ (by omega) (h1.call hH hv9 ho9 hs9) ?_ (ho.trans hr.2.2)
    have q := hr.2.1
    unfold ck at q
    rw [sP_add] at q
    exact q
theorem zk_vw.ol {M2 M M' : zk_M} (h : zk_vw ι M2 M) (e : zOl M M') : zk_vw ι M2 M' := h.same e.1 (fun a ha _ => ⟨e.2.1 _ (h.2.2.1 a ha), e.2.2 _ (h.2.2.1 a ha)⟩)
end
/-- the text is taught -/
theorem zl_taught {ι : Nat → Nat} {M : zk_M} {x y : Nat} {C : Nat → Int32} {Z : zV} (hv : zk_vw ι (zb_M Z) M) (hO : zOs M) (hS : zSg M x y (aTx C)) (hx : (zfr ι x ∧ zfr ι y ∧ x < M.2.1 ∧ y < M.2.1)) (h9 : 320 ≤ M.2.1) (h56 : Γ.2.2.2.1 56 < Γ.2.1.size) (ht : hTp Z 0 []) (g0 : Z 336 0 = 368) (g5 : Z 320 5 = 400) (g1 : Z 336 1 = 0) (hd : 30 ≤ d) :
    zDo l Γ mL_taught d 1 5 [.ref (ι 320), .ref x] M F (fun v M' => ∃ Z', v = some (.int (iZ 0)) ∧ zk_vw ι (zb_M Z') M' ∧ zOs M' ∧ M'.2.1 = M.2.1 + 1 ∧ (∀ a, a < M.2.1 → zfr ι a → M'.1 a = M.1 a ∧ M'.2.2 a = M.2.2 a) ∧
      ∃ Y, St Z' 400 (hsH (fT (qM C)) (hoH (hsC C 0 (qH C)))) (vP Z' 400) (nC Z') 0 (qH C : Int) 0 ∧ agP (vP Z' 400) (lD C Y) (qP C) (qW C) (qC C) (qM C) ∧ sIni (vP Z' 400) (nC Z')) := by
  intro Q hq
  have qb := q_bd C
  have hlT := (aTx_len C).2.2.2.2
  have hH : zTH ι M x y := ⟨hx, hv.2.2.1, h9⟩
  refine zz_iconst dL_taught_0 ?_
  refine gq_newa (N := 5) dL_taught_1 rfl (by omega) (fun A o1 o2 o3 o4 => ?_)
  refine gz_astore_n (L2 := [some (.ref (ι 320)), some (.ref x), some (.ref M.2.1), none, none, none]) dL_taught_3 (Nat.le_of_ble_eq_true rfl) rfl ?_
  have h0 : zTI ι M x y (aTx C) Z A (fun _ => 0) := ⟨hv.ol o1, fun a ha h => (o1.2.1 a (by omega)).trans (hO a ha h), o2, o3, fun j hj => by rw [o4]; rfl, o1.sg hx.2.2 hS, fun a ha _ => ⟨o1.2.1 a ha, o1.2.2 a ha⟩⟩
  refine gz_aload_n dL_taught_4 rfl ?_
  refine zz_iconst dL_taught_5 ?_
  refine gR_call (J := mX7_trim) (d1 := d - 1) (b := 320) [.int (iZ 0)] [] dL_taught_6 rfl wm_HeliographsLaw_9 rfl ⟨by decide, by decide⟩ jzX7_trim rfl (Nat.le_of_ble_eq_true rfl) (Nat.le_of_ble_eq_true rfl) (by omega) (zK_ofR (fun Γ F => zh_trim (s := []) (t := []) (n := 0) ht rfl)) h0.1 h0.2.1 (by omega) h56 (fun v hv => by rw [List.mem_singleton.mp hv]; exact ⟨_, rfl⟩) (fun v Z' hr => ⟨_, hr.1⟩) (fun x9 Z9 M9 hr hv9 ho9 hs9 => ?_)
  refine gz_pop dL_taught_9 rfl ?_
  refine zz_iconst dL_taught_10 ?_
  refine gz_istore_n (L2 := [some (.ref (ι 320)), some (.ref x), some (.ref M.2.1), some (.int (iZ ((20 * 0 : Nat) : Int))), none, none]) dL_taught_11 (Nat.le_of_ble_eq_true rfl) rfl ?_
  refine zt_feeds (Z := Z9) (T := aTx C) hH (by omega) h56 (by omega) (fun X v1 Z1 n L4 L5 f h1 ht1 hn1 ho1 => ?_) 96 0 M9 _ Z9 none none rfl (h0.call hH hv9 ho9 hs9) hr.2.1 (fun _ _ _ _ => rfl)
  obtain ⟨lenS, hS1, hS2⟩ := h1.2.2.2.2.2.1
  refine gz_aload_n dL_taught_125 rfl ?_
  refine gz_aload_n dL_taught_126 rfl ?_
  refine gb_v (J := mJ0_length_8abf5) (d1 := d - 1) (kc1 := 0) (ks1 := 0) [] _ dL_taught_127 rfl hS1 wm_HeliographsLaw_15 jzJ0_length_8abf5 rfl (Nat.le_of_ble_eq_true rfl) (Nat.le_of_ble_eq_true rfl) (by omega) ⟨by omega, by omega⟩ (zDo_of (js_length h1.2.2.2.2.2.1 (by omega))) (fun v14 M14 h14 => ?_)
  obtain ⟨rfl, rfl⟩ := h14
  obtain ⟨m, rfl⟩ : ∃ m, n = (aTx C).length + m := ⟨n - (aTx C).length, by omega⟩
  rw [← sP_add, sP_self] at ht1
  refine gR_call (J := mX7_trim) (d1 := d - 1) (b := 320) [.int (iZ ((aTx C).length : Int))] [] dL_taught_130 rfl wm_HeliographsLaw_9 rfl ⟨by decide, by decide⟩ jzX7_trim rfl (Nat.le_of_ble_eq_true rfl) (Nat.le_of_ble_eq_true rfl) (by omega) (zK_ofR (fun Γ F => zh_trim (n := (aTx C).length) ht1 rfl)) h1.1 h1.2.1 (by have := h1.2.2.1; omega) h56 (fun v hv => by rw [List.mem_singleton.mp hv]; exact ⟨_, rfl⟩) (fun v Z' hr => ⟨_, hr.1⟩) (fun x2 Z2 M2 hr2 hv2 ho2 hs2 => ?_)
  have h2 := h1.call hH hv2 ho2 hs2
  refine gz_pop dL_taught_133 rfl ?_
  refine gz_aload_n dL_taught_134 rfl ?_
  have oo : tpO Z Z2 := (hr.2.2.trans ho1).trans hr2.2.2
  obtain ⟨xs, tb, r1, r2, r3, r4, r5⟩ := LX_read C Z2
  refine gR_call (J := mX7_teach) (d1 := d - 1) (b := 320) [] [] dL_taught_135 rfl wm_HeliographsLaw_29 rfl ⟨by decide, by decide⟩ jzX7_teach rfl (Nat.le_of_ble_eq_true rfl) (Nat.le_of_ble_eq_true rfl) (by omega) (zK_ofR (fun Γ F => zh_teach (D := lD C Z2) (f := fT (qM C)) (HS := hsC C 0 (qH C)) (by rw [r1]; exact hr2.2.1) r2 r3 r4 r5 (lD_wD C Z2) (by rw [hsC_len]; omega) (by have := hsC_hs C (qH C) 0; omega) (fun z hz => ?_) (fun z hz => ?_) ((oo _ _ (by omega) (by omega)).trans g0) ((oo _ _ (by omega) (by omega)).trans g5) ((oo _ _ (by omega) (by omega)).trans g1) (fun a j _ => ?_) (by omega))) h2.1 h2.2.1 (by have := h2.2.2.1; omega) h56 (fun v hv => absurd hv List.not_mem_nil) (fun v Z' hr => ⟨_, hr.1⟩) (fun x3 Z3 M3 hr3 hv3 ho3 hs3 => ?_)
  · obtain ⟨n, k, p, w, m2, e1, e2, e3, e4, e5, e6, e7, e8⟩ := hsC_mem (qH C) 0 hz
    refine ⟨e3, ?_⟩
    rw [e1, e2]
    exact rd_tests e4 ⟨e5, e6, e7, e8⟩ (by omega)
  · obtain ⟨z2, hz2, rfl⟩ := hoH_mem hz
    obtain ⟨n, k, p, w, m2, e1, e2, e3, e4, e5, e6, e7, e8⟩ := hsC_mem (qH C) 0 hz2
    refine ⟨by show z2.1 < 8; omega, ?_⟩
    show smO (qM C) z2.2.2 (fT (qM C) (z2.1, z2.2.2))
    rw [e2]
    exact sm_test e4 ⟨e5, by omega, by omega, e8⟩
  · show Z2 a j = if 1000 ≤ a + 1000 then Z2 (a + 1000 - 1000) j else _
    rw [if_pos (by omega), Nat.add_sub_cancel]
  have h3 := h2.call hH hv3 ho3 hs3
  obtain ⟨k1, k2, k3, k4⟩ := hr3
  refine gz_ireturn dL_taught_138 rfl rfl ?_
  have hfin := hq _ M3 ⟨Z3, rfl, h3.1, h3.2.1, h3.2.2.1, h3.2.2.2.2.2.2, Z2, by rw [hsC_len] at k2; exact k2, k3, k4⟩
  injection k1 with k1
  rw [← k1] at hfin
  exact hfin
end

/-! THE LIST: what its lines say, and how they are written -/
section
variable {l : Launch} {Γ : zk_G} {d : Nat} {F : Heap → Prop}
def sh (v : Int32) (k : Int) : Int32 := v >>> (iZ k &&& 31)
/-- how many there are -/
def qP (C : Nat → Int32) : Nat := (3 + lB (C 0) 4).toNat
def qW (C : Nat → Int32) : Nat := (2 + lB (C 2) 8).toNat
def qC (C : Nat → Int32) : Nat := (lB (C 5) 5).toNat
def qM (C : Nat → Int32) : Nat := (1 + lB (C 7) 6).toNat
def qH (C : Nat → Int32) : Nat := (lB (C 10) 5).toNat
theorem q_bd (C : Nat → Int32) : (3 ≤ qP C ∧ qP C ≤ 6 ∧ (qP C : Int) = 3 + lB (C 0) 4) ∧ (2 ≤ qW C ∧ qW C ≤ 9 ∧ (qW C : Int) = 2 + lB (C 2) 8) ∧ (qC C ≤ 4 ∧ (qC C : Int) = lB (C 5) 5) ∧ (1 ≤ qM C ∧ qM C ≤ 6 ∧ (qM C : Int) = 1 + lB (C 7) 6) ∧ (qH C ≤ 4 ∧ (qH C : Int) = lB (C 10) 5) := by
  have h0 := lB_bd (C 0) (n := 4) (by omega)
  have h1 := lB_bd (C 2) (n := 8) (by omega)
  have h2 := lB_bd (C 5) (n := 5) (by omega)
  have h3 := lB_bd (C 7) (n := 6) (by omega)
  have h4 := lB_bd (C 10) (n := 5) (by omega)
  unfold qP qW qC qM qH
  omega
/-- peaks -/
def dP (C : Nat → Int32) (p : Nat) : List Int :=
  let x := sh (C 1) (3 * (p : Int))
  [lB x (if lB (sh x 3) 3 = 0 then 121 else 30), if lB (sh x 2) 5 = 0 then lB (sh x 4) 121 else 121 - lB (sh x 4) 40 - 1, if lB (sh x 5) 4 = 0 then lB x 5 else 1 + lB (sh x 1) 2]
/-- passes -/
def dW (C : Nat → Int32) (w : Nat) : List Int :=
  let x := sh (C (3 + w % 2)) (3 * ((w / 2 : Nat) : Int))
  let a := if w < qP C then (w : Int) else lB x (qP C)
  [a, (a + 1 + lB (sh x 4) (if w < qP C then 2 else (qP C : Int) - 1)) % (qP C : Int), 1 + lB (sh x 2) (if lB (sh x 6) 2 = 0 then 20 else 6), 0]
/-- clouds -/
def dC (C : Nat → Int32) (c : Nat) : List Int :=
  let x := sh (C 6) (4 * (c : Int))
  let e := 2 + lB x (if lB (sh x 5) 2 = 0 then 59 else 12)
  [lB (sh x 2) (qW C), e, 1 + lB (sh x 3) (e - 1), lB (sh x 4) 60]
/-- messages -/
def dM (C : Nat → Int32) (m : Nat) : List Int :=
  let x := sh (C (8 + m % 2)) (4 * ((m / 2 : Nat) : Int))
  let w := 1 + lB x (if lB (sh x 6) 3 = 0 then 40 else 9)
  let a := lB (sh x 2) (qP C)
  [w, a, (a + 1 + lB (sh x 5) ((qP C : Int) - 1)) % (qP C : Int), lB (sh x 3) 30, 0, -1, w, 0, -1, 0]
/-- holds -/
def dH (C : Nat → Int32) (k : Nat) : List Int :=
  let x := C (11 + k)
  [lB x (qM C), lB (sh x 3) 8, lB (sh x 6) 120, lB (sh x 2) (qP C), lB (sh x 4) (qW C), lB (sh x 5) (qM C)]
section
variable {len : Nat} {s : Nat → Int32} {M : zk_M} {S : Nat} {tk c n : Nat → Nat} {r : Nat → Nat → Nat} {V : Nat → Nat → Nat → Int} {a b cap : Nat} {T : List Int}
variable {kc ks : Nat} {Q : Option Value → zk_M → (Heap → Prop) → Prop} {pc idx : Nat} {L : List (Option Value)} {st : List Value}
theorem gl_cell (k : Nat) {z : Int} (hd : decode mL_list.2.1 pc = .ok (.invokestatic 77, 3)) (h : zOl0 len s M) (hl : len < 2147483648) (hz : z = (k : Int)) (hk : k < 100000) (hsum : (st.map fun v => v.category).sum ≤ 8) (hd1 : 1 ≤ d) (kk : zk_Go l Γ mL_list d kc ks Q (pc + 3) L (.int (lC s len k) :: st) M F) : zk_Go l Γ mL_list d kc ks Q pc L (.int (iZ z) :: .ref 56 :: st) M F := by
  subst hz
  exact gs_2 (J := mL_cell) (d1 := d - 1) (kc1 := 0) (ks1 := 0) hd wm_HeliographsLaw_77 jzL_cell (Nat.le_of_ble_eq_true rfl) hsum (by omega) ⟨Nat.zero_le _, Nat.zero_le _⟩ (h.cell hl hk) kk
theorem gl_below {v : Int32} {z : Int} (hd : decode mL_list.2.1 pc = .ok (.invokestatic 83, 3)) (hz : 0 < z ∧ z < 2147483648) (hsum : (st.map fun v => v.category).sum ≤ 8) (hd1 : 1 ≤ d) (kk : zk_Go l Γ mL_list d kc ks Q (pc + 3) L (.int (iZ (lB v z)) :: st) M F) : zk_Go l Γ mL_list d kc ks Q pc L (.int (iZ z) :: .int v :: st) M F :=
  gs_2 (J := mL_below) (d1 := d - 1) (kc1 := 0) (ks1 := 0) hd wm_HeliographsLaw_83 jzL_below (Nat.le_of_ble_eq_true rfl) hsum (by omega) ⟨Nat.zero_le _, Nat.zero_le _⟩ (zL_below hz) kk
theorem gl_tab (k : Nat) (hd : decode mL_list.2.1 pc = .ok (.getfield idx, 3)) (hw : Cond.fieldLink "HeliographsLaw" idx (TX8 (3 + k)).1 (TX8 (3 + k)).2.1 (TX8 (3 + k)).2.2.1 ∈ zk_tg) (h : zLI M S tk c n r V) (hk : k < 5) (kk : zk_Go l Γ mL_list d kc ks Q (pc + 3) L (.ref (tk k) :: st) M F) : zk_Go l Γ mL_list d kc ks Q pc L (.ref S :: st) M F :=
  gz_getf (T := TX8) (N := 8) (3 + k) hd h.1.1 rfl hw (by omega) (h.2.1.2.2.2 k hk) kk
theorem zl_peakT {p x0 x1 x2 : Nat} {L5 L6 L7 L8 : Option Value} (hP : zLQ len s M S tk c n r V a b cap T) (hj : p < n 0 ∧ p < c 0) (hx0 : V 0 p 0 = (x0 : Int)) (hx1 : V 0 p 1 = (x1 : Int)) (hx2 : V 0 p 2 = (x2 : Int)) (hb : p < 1000 ∧ x0 < 1000 ∧ x1 < 1000 ∧ x2 < 1000) {np : Int} (hT : T.length + 60 ≤ 2000) (hd : 7 ≤ d)
    (kk : ∀ M' b' cap', zLQ len s M' S tk c n r V a b' cap' (T ++ tS105 ++ zDec p ++ tS106 ++ zDec x0 ++ tS107 ++ zDec x1 ++ tS108 ++ zDec x2 ++ tS93) → zk_Go l Γ mL_list d kc ks Q 31 [some (.ref 56), some (.ref a), some (.ref S), some (.int (iZ np)), some (.int (iZ ((p : Int) + 1))), L5, L6, L7, L8] [] M' F) : zk_Go l Γ mL_list d (kc + 9) (ks + 36900) Q 162 [some (.ref 56), some (.ref a), some (.ref S), some (.int (iZ np)), some (.int (iZ ((p : Int)))), L5, L6, L7, L8] [] M F := by
  have P0 := hP
  have lp := zDec_le p
  have lx0 := zDec_le x0
  have lx1 := zDec_le x1
  have lx2 := zDec_le x2
  refine gz_aload_n dL_list_162 rfl ?_
  refine gz_ldcS (q := 105) dL_list_163 zr_93 (by decide) ?_
  refine gq_S 105 dL_list_165 wm_HeliographsLaw_37 (zs_105 P0.1) (by decide) P0 (by simp only [List.length_append]; (try simp (decide := true) only [List.length_cons, List.length_nil, tS105]) <;> omega) (Nat.le_of_ble_eq_true rfl) (by omega) (fun M1 b1 c1 P1 => ?_)
  refine gz_iload dL_list_168 rfl ?_
  refine gq_I (x := p) dL_list_170 wm_HeliographsLaw_41 P1 (by omega) (by simp only [List.length_append]; (try simp (decide := true) only [List.length_cons, List.length_nil, tS105]) <;> omega) (Nat.le_of_ble_eq_true rfl) (by omega) (fun M2 b2 c2 P2 => ?_)
  refine gz_ldcS (q := 106) dL_list_173 zr_95 (by decide) ?_
  refine gq_S 106 dL_list_175 wm_HeliographsLaw_37 (zs_106 P2.1) (by decide) P2 (by simp only [List.length_append]; (try simp (decide := true) only [List.length_cons, List.length_nil, tS105, tS106]) <;> omega) (Nat.le_of_ble_eq_true rfl) (by omega) (fun M3 b3 c3 P3 => ?_)
  refine gz_aload_n dL_list_178 rfl ?_
  refine gl_tab 0 dL_list_179 wf_HeliographsLaw_89 P3.2.1 (by decide) ?_
  refine gz_iload dL_list_182 rfl ?_
  refine gq_tab (j := p) dL_list_184 P3 (by decide) rfl hj ?_
  refine zz_iconst dL_list_185 ?_
  refine gq_row (i := 0) (x := (x0 : Int)) dL_list_186 P3 (by decide) hj.1 rfl (by decide) hx0 ?_
  refine gq_I (x := x0) dL_list_187 wm_HeliographsLaw_41 P3 (by omega) (by simp only [List.length_append]; (try simp (decide := true) only [List.length_cons, List.length_nil, tS105, tS106]) <;> omega) (Nat.le_of_ble_eq_true rfl) (by omega) (fun M4 b4 c4 P4 => ?_)
  refine gz_ldcS (q := 107) dL_list_190 zr_97 (by decide) ?_
  refine gq_S 107 dL_list_192 wm_HeliographsLaw_37 (zs_107 P4.1) (by decide) P4 (by simp only [List.length_append]; (try simp (decide := true) only [List.length_cons, List.length_nil, tS105, tS106, tS107]) <;> omega) (Nat.le_of_ble_eq_true rfl) (by omega) (fun M5 b5 c5 P5 => ?_)
  refine gz_aload_n dL_list_195 rfl ?_
  refine gl_tab 0 dL_list_196 wf_HeliographsLaw_89 P5.2.1 (by decide) ?_
  refine gz_iload dL_list_199 rfl ?_
  refine gq_tab (j := p) dL_list_201 P5 (by decide) rfl hj ?_
  refine zz_iconst dL_list_202 ?_
  refine gq_row (i := 1) (x := (x1 : Int)) dL_list_203 P5 (by decide) hj.1 rfl (by decide) hx1 ?_
  refine gq_I (x := x1) dL_list_204 wm_HeliographsLaw_41 P5 (by omega) (by simp only [List.length_append]; (try simp (decide := true) only [List.length_cons, List.length_nil, tS105, tS106, tS107]) <;> omega) (Nat.le_of_ble_eq_true rfl) (by omega) (fun M6 b6 c6 P6 => ?_)
  refine gz_ldcS (q := 108) dL_list_207 zr_99 (by decide) ?_
  refine gq_S 108 dL_list_209 wm_HeliographsLaw_37 (zs_108 P6.1) (by decide) P6 (by simp only [List.length_append]; (try simp (decide := true) only [List.length_cons, List.length_nil, tS105, tS106, tS107, tS108]) <;> omega) (Nat.le_of_ble_eq_true rfl) (by omega) (fun M7 b7 c7 P7 => ?_)
  refine gz_aload_n dL_list_212 rfl ?_
  refine gl_tab 0 dL_list_213 wf_HeliographsLaw_89 P7.2.1 (by decide) ?_
  refine gz_iload dL_list_216 rfl ?_
  refine gq_tab (j := p) dL_list_218 P7 (by decide) rfl hj ?_
  refine zz_iconst dL_list_219 ?_
  refine gq_row (i := 2) (x := (x2 : Int)) dL_list_220 P7 (by decide) hj.1 rfl (by decide) hx2 ?_
  refine gq_I (x := x2) dL_list_221 wm_HeliographsLaw_41 P7 (by omega) (by simp only [List.length_append]; (try simp (decide := true) only [List.length_cons, List.length_nil, tS105, tS106, tS107, tS108]) <;> omega) (Nat.le_of_ble_eq_true rfl) (by omega) (fun M8 b8 c8 P8 => ?_)
  refine gz_ldcS (q := 93) dL_list_224 zr_101 (by decide) ?_
  refine gq_S 93 dL_list_226 wm_HeliographsLaw_37 (zs_93 P8.1) (by decide) P8 (by simp only [List.length_append]; (try simp (decide := true) only [List.length_cons, List.length_nil, tS105, tS106, tS107, tS108, tS93]) <;> omega) (Nat.le_of_ble_eq_true rfl) (by omega) (fun M9 b9 c9 P9 => ?_)
  refine gz_pop dL_list_229 rfl ?_
  refine zz_iinc (L2 := [some (.ref 56), some (.ref a), some (.ref S), some (.int (iZ np)), some (.int (iZ ((p : Int) + 1))), L5, L6, L7, L8]) dL_list_230 rfl rfl ?_
  refine gz_goto (tgt := 31) dL_list_233 rfl ?_
  exact kk _ _ _ P9
theorem zl_passT0 {w x0 x1 x2 : Nat} {L5 L8 : Option Value} (hP : zLQ len s M S tk c n r V a b cap T) (hj : w < n 1 ∧ w < c 1) (hx2 : V 1 w 2 = (x2 : Int)) (hb : w < 1000 ∧ x0 < 1000 ∧ x1 < 1000 ∧ x2 < 1000) {np : Int} (he : w % 2 = 0) (hT : T.length + 60 ≤ 2000) (hd : 7 ≤ d)
    (kk : ∀ M' b' cap', zLQ len s M' S tk c n r V a b' cap' (T ++ tS109 ++ zDec w ++ tS110 ++ zDec x0 ++ tS111 ++ zDec x1 ++ tS112 ++ zDec x2 ++ tS93) → zk_Go l Γ mL_list d kc ks Q 258 [some (.ref 56), some (.ref a), some (.ref S), some (.int (iZ np)), some (.int (iZ ((w : Int) + 1))), L5, some (.int (iZ ((x0 : Int)))), some (.int (iZ ((x1 : Int)))), L8] [] M' F) : zk_Go l Γ mL_list d (kc + 9) (ks + 36900) Q 390 [some (.ref 56), some (.ref a), some (.ref S), some (.int (iZ np)), some (.int (iZ ((w : Int)))), L5, some (.int (iZ ((x0 : Int)))), some (.int (iZ ((x1 : Int)))), L8] [] M F := by
  have P0 := hP
  have lw := zDec_le w
  have lx0 := zDec_le x0
  have lx1 := zDec_le x1
  have lx2 := zDec_le x2
  refine gz_aload_n dL_list_390 rfl ?_
  refine gz_ldcS (q := 109) dL_list_391 zr_106 (by decide) ?_
  refine gq_S 109 dL_list_393 wm_HeliographsLaw_37 (zs_109 P0.1) (by decide) P0 (by simp only [List.length_append]; (try simp (decide := true) only [List.length_cons, List.length_nil, tS109]) <;> omega) (Nat.le_of_ble_eq_true rfl) (by omega) (fun M1 b1 c1 P1 => ?_)
  refine gz_iload dL_list_396 rfl ?_
  refine gq_I (x := w) dL_list_398 wm_HeliographsLaw_41 P1 (by omega) (by simp only [List.length_append]; (try simp (decide := true) only [List.length_cons, List.length_nil, tS109]) <;> omega) (Nat.le_of_ble_eq_true rfl) (by omega) (fun M2 b2 c2 P2 => ?_)
  refine gz_ldcS (q := 110) dL_list_401 zr_108 (by decide) ?_
  refine gq_S 110 dL_list_403 wm_HeliographsLaw_37 (zs_110 P2.1) (by decide) P2 (by simp only [List.length_append]; (try simp (decide := true) only [List.length_cons, List.length_nil, tS109, tS110]) <;> omega) (Nat.le_of_ble_eq_true rfl) (by omega) (fun M3 b3 c3 P3 => ?_)
  refine gz_iload dL_list_406 rfl ?_
  refine gq_I (x := x0) dL_list_408 wm_HeliographsLaw_41 P3 (by omega) (by simp only [List.length_append]; (try simp (decide := true) only [List.length_cons, List.length_nil, tS109, tS110]) <;> omega) (Nat.le_of_ble_eq_true rfl) (by omega) (fun M4 b4 c4 P4 => ?_)
  refine gz_ldcS (q := 111) dL_list_411 zr_110 (by decide) ?_
  refine gq_S 111 dL_list_413 wm_HeliographsLaw_37 (zs_111 P4.1) (by decide) P4 (by simp only [List.length_append]; (try simp (decide := true) only [List.length_cons, List.length_nil, tS109, tS110, tS111]) <;> omega) (Nat.le_of_ble_eq_true rfl) (by omega) (fun M5 b5 c5 P5 => ?_)
  refine gz_iload dL_list_416 rfl ?_
  refine gq_I (x := x1) dL_list_418 wm_HeliographsLaw_41 P5 (by omega) (by simp only [List.length_append]; (try simp (decide := true) only [List.length_cons, List.length_nil, tS109, tS110, tS111]) <;> omega) (Nat.le_of_ble_eq_true rfl) (by omega) (fun M6 b6 c6 P6 => ?_)
  refine gz_ldcS (q := 112) dL_list_421 zr_112 (by decide) ?_
  refine gq_S 112 dL_list_423 wm_HeliographsLaw_37 (zs_112 P6.1) (by decide) P6 (by simp only [List.length_append]; (try simp (decide := true) only [List.length_cons, List.length_nil, tS109, tS110, tS111, tS112]) <;> omega) (Nat.le_of_ble_eq_true rfl) (by omega) (fun M7 b7 c7 P7 => ?_)
  refine gz_aload_n dL_list_426 rfl ?_
  refine gl_tab 1 dL_list_427 wf_HeliographsLaw_103 P7.2.1 (by decide) ?_
  refine gz_iload dL_list_430 rfl ?_
  refine gq_tab (j := w) dL_list_432 P7 (by decide) rfl hj ?_
  refine zz_iconst dL_list_433 ?_
  refine gq_row (i := 2) (x := (x2 : Int)) dL_list_434 P7 (by decide) hj.1 rfl (by decide) hx2 ?_
  refine gq_I (x := x2) dL_list_435 wm_HeliographsLaw_41 P7 (by omega) (by simp only [List.length_append]; (try simp (decide := true) only [List.length_cons, List.length_nil, tS109, tS110, tS111, tS112]) <;> omega) (Nat.le_of_ble_eq_true rfl) (by omega) (fun M8 b8 c8 P8 => ?_)
  refine gz_iload dL_list_438 rfl ?_
  refine zz_iconst dL_list_440 ?_
  refine zz_irem dL_list_441 (by omega) ?_
  refine zz_if_ne (tgt := 450) dL_list_442 rfl (by omega) (fun b442 => ?_) (fun b442 => ?_)
  · exact absurd b442 (by omega)
  refine gz_ldcS (q := 93) dL_list_445 zr_101 (by decide) ?_
  refine gz_goto (tgt := 452) dL_list_447 rfl ?_
  refine gq_S 93 dL_list_452 wm_HeliographsLaw_37 (zs_93 P8.1) (by decide) P8 (by simp only [List.length_append]; (try simp (decide := true) only [List.length_cons, List.length_nil, tS109, tS110, tS111, tS112, tS93]) <;> omega) (Nat.le_of_ble_eq_true rfl) (by omega) (fun M9 b9 c9 P9 => ?_)
  refine gz_pop dL_list_455 rfl ?_
  refine zz_iinc (L2 := [some (.ref 56), some (.ref a), some (.ref S), some (.int (iZ np)), some (.int (iZ ((w : Int) + 1))), L5, some (.int (iZ ((x0 : Int)))), some (.int (iZ ((x1 : Int)))), L8]) dL_list_456 rfl rfl ?_
  refine gz_goto (tgt := 258) dL_list_459 rfl ?_
  exact kk _ _ _ P9
theorem zl_passT1 {w x0 x1 x2 : Nat} {L5 L8 : Option Value} (hP : zLQ len s M S tk c n r V a b cap T) (hj : w < n 1 ∧ w < c 1) (hx2 : V 1 w 2 = (x2 : Int)) (hb : w < 1000 ∧ x0 < 1000 ∧ x1 < 1000 ∧ x2 < 1000) {np : Int} (he : w % 2 = 1) (hT : T.length + 60 ≤ 2000) (hd : 7 ≤ d)
    (kk : ∀ M' b' cap', zLQ len s M' S tk c n r V a b' cap' (T ++ tS109 ++ zDec w ++ tS110 ++ zDec x0 ++ tS111 ++ zDec x1 ++ tS112 ++ zDec x2 ++ tS113) → zk_Go l Γ mL_list d kc ks Q 258 [some (.ref 56), some (.ref a), some (.ref S), some (.int (iZ np)), some (.int (iZ ((w : Int) + 1))), L5, some (.int (iZ ((x0 : Int)))), some (.int (iZ ((x1 : Int)))), L8] [] M' F) : zk_Go l Γ mL_list d (kc + 9) (ks + 36900) Q 390 [some (.ref 56), some (.ref a), some (.ref S), some (.int (iZ np)), some (.int (iZ ((w : Int)))), L5, some (.int (iZ ((x0 : Int)))), some (.int (iZ ((x1 : Int)))), L8] [] M F := by
  have P0 := hP
  have lw := zDec_le w
  have lx0 := zDec_le x0
  have lx1 := zDec_le x1
  have lx2 := zDec_le x2
  refine gz_aload_n dL_list_390 rfl ?_
  refine gz_ldcS (q := 109) dL_list_391 zr_106 (by decide) ?_
  refine gq_S 109 dL_list_393 wm_HeliographsLaw_37 (zs_109 P0.1) (by decide) P0 (by simp only [List.length_append]; (try simp (decide := true) only [List.length_cons, List.length_nil, tS109]) <;> omega) (Nat.le_of_ble_eq_true rfl) (by omega) (fun M1 b1 c1 P1 => ?_)
  refine gz_iload dL_list_396 rfl ?_
  refine gq_I (x := w) dL_list_398 wm_HeliographsLaw_41 P1 (by omega) (by simp only [List.length_append]; (try simp (decide := true) only [List.length_cons, List.length_nil, tS109]) <;> omega) (Nat.le_of_ble_eq_true rfl) (by omega) (fun M2 b2 c2 P2 => ?_)
  refine gz_ldcS (q := 110) dL_list_401 zr_108 (by decide) ?_
  refine gq_S 110 dL_list_403 wm_HeliographsLaw_37 (zs_110 P2.1) (by decide) P2 (by simp only [List.length_append]; (try simp (decide := true) only [List.length_cons, List.length_nil, tS109, tS110]) <;> omega) (Nat.le_of_ble_eq_true rfl) (by omega) (fun M3 b3 c3 P3 => ?_)
  refine gz_iload dL_list_406 rfl ?_
  refine gq_I (x := x0) dL_list_408 wm_HeliographsLaw_41 P3 (by omega) (by simp only [List.length_append]; (try simp (decide := true) only [List.length_cons, List.length_nil, tS109, tS110]) <;> omega) (Nat.le_of_ble_eq_true rfl) (by omega) (fun M4 b4 c4 P4 => ?_)
  refine gz_ldcS (q := 111) dL_list_411 zr_110 (by decide) ?_
  refine gq_S 111 dL_list_413 wm_HeliographsLaw_37 (zs_111 P4.1) (by decide) P4 (by simp only [List.length_append]; (try simp (decide := true) only [List.length_cons, List.length_nil, tS109, tS110, tS111]) <;> omega) (Nat.le_of_ble_eq_true rfl) (by omega) (fun M5 b5 c5 P5 => ?_)
  refine gz_iload dL_list_416 rfl ?_
  refine gq_I (x := x1) dL_list_418 wm_HeliographsLaw_41 P5 (by omega) (by simp only [List.length_append]; (try simp (decide := true) only [List.length_cons, List.length_nil, tS109, tS110, tS111]) <;> omega) (Nat.le_of_ble_eq_true rfl) (by omega) (fun M6 b6 c6 P6 => ?_)
  refine gz_ldcS (q := 112) dL_list_421 zr_112 (by decide) ?_
  refine gq_S 112 dL_list_423 wm_HeliographsLaw_37 (zs_112 P6.1) (by decide) P6 (by simp only [List.length_append]; (try simp (decide := true) only [List.length_cons, List.length_nil, tS109, tS110, tS111, tS112]) <;> omega) (Nat.le_of_ble_eq_true rfl) (by omega) (fun M7 b7 c7 P7 => ?_)
  refine gz_aload_n dL_list_426 rfl ?_
  refine gl_tab 1 dL_list_427 wf_HeliographsLaw_103 P7.2.1 (by decide) ?_
  refine gz_iload dL_list_430 rfl ?_
  refine gq_tab (j := w) dL_list_432 P7 (by decide) rfl hj ?_
  refine zz_iconst dL_list_433 ?_
  refine gq_row (i := 2) (x := (x2 : Int)) dL_list_434 P7 (by decide) hj.1 rfl (by decide) hx2 ?_
  refine gq_I (x := x2) dL_list_435 wm_HeliographsLaw_41 P7 (by omega) (by simp only [List.length_append]; (try simp (decide := true) only [List.length_cons, List.length_nil, tS109, tS110, tS111, tS112]) <;> omega) (Nat.le_of_ble_eq_true rfl) (by omega) (fun M8 b8 c8 P8 => ?_)
  refine gz_iload dL_list_438 rfl ?_
  refine zz_iconst dL_list_440 ?_
  refine zz_irem dL_list_441 (by omega) ?_
  refine zz_if_ne (tgt := 450) dL_list_442 rfl (by omega) (fun b442 => ?_) (fun b442 => ?_)
  rotate_left
  · exact absurd b442 (by omega)
  refine gz_ldcS (q := 113) dL_list_450 zr_114 (by decide) ?_
  refine gq_S 113 dL_list_452 wm_HeliographsLaw_37 (zs_113 P8.1) (by decide) P8 (by simp only [List.length_append]; (try simp (decide := true) only [List.length_cons, List.length_nil, tS109, tS110, tS111, tS112, tS113]) <;> omega) (Nat.le_of_ble_eq_true rfl) (by omega) (fun M9 b9 c9 P9 => ?_)
  refine gz_pop dL_list_455 rfl ?_
  refine zz_iinc (L2 := [some (.ref 56), some (.ref a), some (.ref S), some (.int (iZ np)), some (.int (iZ ((w : Int) + 1))), L5, some (.int (iZ ((x0 : Int)))), some (.int (iZ ((x1 : Int)))), L8]) dL_list_456 rfl rfl ?_
  refine gz_goto (tgt := 258) dL_list_459 rfl ?_
  exact kk _ _ _ P9
theorem zl_cloudT {x0 x1 x2 x3 i : Nat} {L5 L7 L8 : Option Value} (hP : zLQ len s M S tk c n r V a b cap T) (hj : i < n 2 ∧ i < c 2) (hx0 : V 2 i 0 = (x0 : Int)) (hx2 : V 2 i 2 = (x2 : Int)) (hx3 : V 2 i 3 = (x3 : Int)) (hb : x0 < 1000 ∧ x1 < 1000 ∧ x2 < 1000 ∧ x3 < 1000) {np : Int} (hT : T.length + 60 ≤ 2000) (hd : 7 ≤ d)
    (kk : ∀ M' b' cap', zLQ len s M' S tk c n r V a b' cap' (T ++ tS114 ++ zDec x0 ++ tS115 ++ zDec x1 ++ tS116 ++ zDec x2 ++ tS117 ++ zDec x3 ++ tS93) → zk_Go l Γ mL_list d kc ks Q 481 [some (.ref 56), some (.ref a), some (.ref S), some (.int (iZ np)), some (.int (iZ ((i : Int) + 1))), L5, some (.int (iZ ((x1 : Int)))), L7, L8] [] M' F) : zk_Go l Γ mL_list d (kc + 9) (ks + 36900) Q 589 [some (.ref 56), some (.ref a), some (.ref S), some (.int (iZ np)), some (.int (iZ ((i : Int)))), L5, some (.int (iZ ((x1 : Int)))), L7, L8] [] M F := by
  have P0 := hP
  have lx0 := zDec_le x0
  have lx1 := zDec_le x1
  have lx2 := zDec_le x2
  have lx3 := zDec_le x3
  refine gz_aload_n dL_list_589 rfl ?_
  refine gz_ldcS (q := 114) dL_list_590 zr_119 (by decide) ?_
  refine gq_S 114 dL_list_592 wm_HeliographsLaw_37 (zs_114 P0.1) (by decide) P0 (by simp only [List.length_append]; (try simp (decide := true) only [List.length_cons, List.length_nil, tS114]) <;> omega) (Nat.le_of_ble_eq_true rfl) (by omega) (fun M1 b1 c1 P1 => ?_)
  refine gz_aload_n dL_list_595 rfl ?_
  refine gl_tab 2 dL_list_596 wf_HeliographsLaw_116 P1.2.1 (by decide) ?_
  refine gz_iload dL_list_599 rfl ?_
  refine gq_tab (j := i) dL_list_601 P1 (by decide) rfl hj ?_
  refine zz_iconst dL_list_602 ?_
  refine gq_row (i := 0) (x := (x0 : Int)) dL_list_603 P1 (by decide) hj.1 rfl (by decide) hx0 ?_
  refine gq_I (x := x0) dL_list_604 wm_HeliographsLaw_41 P1 (by omega) (by simp only [List.length_append]; (try simp (decide := true) only [List.length_cons, List.length_nil, tS114]) <;> omega) (Nat.le_of_ble_eq_true rfl) (by omega) (fun M2 b2 c2 P2 => ?_)
  refine gz_ldcS (q := 115) dL_list_607 zr_121 (by decide) ?_
  refine gq_S 115 dL_list_609 wm_HeliographsLaw_37 (zs_115 P2.1) (by decide) P2 (by simp only [List.length_append]; (try simp (decide := true) only [List.length_cons, List.length_nil, tS114, tS115]) <;> omega) (Nat.le_of_ble_eq_true rfl) (by omega) (fun M3 b3 c3 P3 => ?_)
  refine gz_iload dL_list_612 rfl ?_
  refine gq_I (x := x1) dL_list_614 wm_HeliographsLaw_41 P3 (by omega) (by simp only [List.length_append]; (try simp (decide := true) only [List.length_cons, List.length_nil, tS114, tS115]) <;> omega) (Nat.le_of_ble_eq_true rfl) (by omega) (fun M4 b4 c4 P4 => ?_)
  refine gz_ldcS (q := 116) dL_list_617 zr_123 (by decide) ?_
  refine gq_S 116 dL_list_619 wm_HeliographsLaw_37 (zs_116 P4.1) (by decide) P4 (by simp only [List.length_append]; (try simp (decide := true) only [List.length_cons, List.length_nil, tS114, tS115, tS116]) <;> omega) (Nat.le_of_ble_eq_true rfl) (by omega) (fun M5 b5 c5 P5 => ?_)
  refine gz_aload_n dL_list_622 rfl ?_
  refine gl_tab 2 dL_list_623 wf_HeliographsLaw_116 P5.2.1 (by decide) ?_
  refine gz_iload dL_list_626 rfl ?_
  refine gq_tab (j := i) dL_list_628 P5 (by decide) rfl hj ?_
  refine zz_iconst dL_list_629 ?_
  refine gq_row (i := 2) (x := (x2 : Int)) dL_list_630 P5 (by decide) hj.1 rfl (by decide) hx2 ?_
  refine gq_I (x := x2) dL_list_631 wm_HeliographsLaw_41 P5 (by omega) (by simp only [List.length_append]; (try simp (decide := true) only [List.length_cons, List.length_nil, tS114, tS115, tS116]) <;> omega) (Nat.le_of_ble_eq_true rfl) (by omega) (fun M6 b6 c6 P6 => ?_)
  refine gz_ldcS (q := 117) dL_list_634 zr_125 (by decide) ?_
  refine gq_S 117 dL_list_636 wm_HeliographsLaw_37 (zs_117 P6.1) (by decide) P6 (by simp only [List.length_append]; (try simp (decide := true) only [List.length_cons, List.length_nil, tS114, tS115, tS116, tS117]) <;> omega) (Nat.le_of_ble_eq_true rfl) (by omega) (fun M7 b7 c7 P7 => ?_)
  refine gz_aload_n dL_list_639 rfl ?_
  refine gl_tab 2 dL_list_640 wf_HeliographsLaw_116 P7.2.1 (by decide) ?_
  refine gz_iload dL_list_643 rfl ?_
  refine gq_tab (j := i) dL_list_645 P7 (by decide) rfl hj ?_
  refine zz_iconst dL_list_646 ?_
  refine gq_row (i := 3) (x := (x3 : Int)) dL_list_647 P7 (by decide) hj.1 rfl (by decide) hx3 ?_
  refine gq_I (x := x3) dL_list_648 wm_HeliographsLaw_41 P7 (by omega) (by simp only [List.length_append]; (try simp (decide := true) only [List.length_cons, List.length_nil, tS114, tS115, tS116, tS117]) <;> omega) (Nat.le_of_ble_eq_true rfl) (by omega) (fun M8 b8 c8 P8 => ?_)
  refine gz_ldcS (q := 93) dL_list_651 zr_101 (by decide) ?_
  refine gq_S 93 dL_list_653 wm_HeliographsLaw_37 (zs_93 P8.1) (by decide) P8 (by simp only [List.length_append]; (try simp (decide := true) only [List.length_cons, List.length_nil, tS114, tS115, tS116, tS117, tS93]) <;> omega) (Nat.le_of_ble_eq_true rfl) (by omega) (fun M9 b9 c9 P9 => ?_)
  refine gz_pop dL_list_656 rfl ?_
  refine zz_iinc (L2 := [some (.ref 56), some (.ref a), some (.ref S), some (.int (iZ np)), some (.int (iZ ((i : Int) + 1))), L5, some (.int (iZ ((x1 : Int)))), L7, L8]) dL_list_657 rfl rfl ?_
  refine gz_goto (tgt := 481) dL_list_660 rfl ?_
  exact kk _ _ _ P9
theorem zl_messageT {m x0 x1 x2 x3 : Nat} {L5 : Option Value} (hP : zLQ len s M S tk c n r V a b cap T) (hj : m < n 3 ∧ m < c 3) (hx3 : V 3 m 3 = (x3 : Int)) (hb : m < 1000 ∧ x0 < 1000 ∧ x1 < 1000 ∧ x2 < 1000 ∧ x3 < 1000) {np : Int} (hT : T.length + 60 ≤ 2000) (hd : 7 ≤ d)
    (kk : ∀ M' b' cap', zLQ len s M' S tk c n r V a b' cap' (T ++ tS118 ++ zDec m ++ tS119 ++ zDec x0 ++ tS120 ++ zDec x1 ++ tS121 ++ zDec x2 ++ tS122 ++ zDec x3 ++ tS93) → zk_Go l Γ mL_list d kc ks Q 686 [some (.ref 56), some (.ref a), some (.ref S), some (.int (iZ np)), some (.int (iZ ((m : Int) + 1))), L5, some (.int (iZ ((x0 : Int)))), some (.int (iZ ((x1 : Int)))), some (.int (iZ ((x2 : Int))))] [] M' F) : zk_Go l Γ mL_list d (kc + 11) (ks + 45100) Q 840 [some (.ref 56), some (.ref a), some (.ref S), some (.int (iZ np)), some (.int (iZ ((m : Int)))), L5, some (.int (iZ ((x0 : Int)))), some (.int (iZ ((x1 : Int)))), some (.int (iZ ((x2 : Int))))] [] M F := by
  have P0 := hP
  have lm := zDec_le m
  have lx0 := zDec_le x0
  have lx1 := zDec_le x1
  have lx2 := zDec_le x2
  have lx3 := zDec_le x3
  refine gz_aload_n dL_list_840 rfl ?_
  refine gz_ldcS (q := 118) dL_list_841 zr_130 (by decide) ?_
  refine gq_S 118 dL_list_843 wm_HeliographsLaw_37 (zs_118 P0.1) (by decide) P0 (by simp only [List.length_append]; (try simp (decide := true) only [List.length_cons, List.length_nil, tS118]) <;> omega) (Nat.le_of_ble_eq_true rfl) (by omega) (fun M1 b1 c1 P1 => ?_)
  refine gz_iload dL_list_846 rfl ?_
  refine gq_I (x := m) dL_list_848 wm_HeliographsLaw_41 P1 (by omega) (by simp only [List.length_append]; (try simp (decide := true) only [List.length_cons, List.length_nil, tS118]) <;> omega) (Nat.le_of_ble_eq_true rfl) (by omega) (fun M2 b2 c2 P2 => ?_)
  refine gz_ldcS (q := 119) dL_list_851 zr_132 (by decide) ?_
  refine gq_S 119 dL_list_853 wm_HeliographsLaw_37 (zs_119 P2.1) (by decide) P2 (by simp only [List.length_append]; (try simp (decide := true) only [List.length_cons, List.length_nil, tS118, tS119]) <;> omega) (Nat.le_of_ble_eq_true rfl) (by omega) (fun M3 b3 c3 P3 => ?_)
  refine gz_iload dL_list_856 rfl ?_
  refine gq_I (x := x0) dL_list_858 wm_HeliographsLaw_41 P3 (by omega) (by simp only [List.length_append]; (try simp (decide := true) only [List.length_cons, List.length_nil, tS118, tS119]) <;> omega) (Nat.le_of_ble_eq_true rfl) (by omega) (fun M4 b4 c4 P4 => ?_)
  refine gz_ldcS (q := 120) dL_list_861 zr_134 (by decide) ?_
  refine gq_S 120 dL_list_863 wm_HeliographsLaw_37 (zs_120 P4.1) (by decide) P4 (by simp only [List.length_append]; (try simp (decide := true) only [List.length_cons, List.length_nil, tS118, tS119, tS120]) <;> omega) (Nat.le_of_ble_eq_true rfl) (by omega) (fun M5 b5 c5 P5 => ?_)
  refine gz_iload dL_list_866 rfl ?_
  refine gq_I (x := x1) dL_list_868 wm_HeliographsLaw_41 P5 (by omega) (by simp only [List.length_append]; (try simp (decide := true) only [List.length_cons, List.length_nil, tS118, tS119, tS120]) <;> omega) (Nat.le_of_ble_eq_true rfl) (by omega) (fun M6 b6 c6 P6 => ?_)
  refine gz_ldcS (q := 121) dL_list_871 zr_136 (by decide) ?_
  refine gq_S 121 dL_list_873 wm_HeliographsLaw_37 (zs_121 P6.1) (by decide) P6 (by simp only [List.length_append]; (try simp (decide := true) only [List.length_cons, List.length_nil, tS118, tS119, tS120, tS121]) <;> omega) (Nat.le_of_ble_eq_true rfl) (by omega) (fun M7 b7 c7 P7 => ?_)
  refine gz_iload dL_list_876 rfl ?_
  refine gq_I (x := x2) dL_list_878 wm_HeliographsLaw_41 P7 (by omega) (by simp only [List.length_append]; (try simp (decide := true) only [List.length_cons, List.length_nil, tS118, tS119, tS120, tS121]) <;> omega) (Nat.le_of_ble_eq_true rfl) (by omega) (fun M8 b8 c8 P8 => ?_)
  refine gz_ldcS (q := 122) dL_list_881 zr_138 (by decide) ?_
  refine gq_S 122 dL_list_883 wm_HeliographsLaw_37 (zs_122 P8.1) (by decide) P8 (by simp only [List.length_append]; (try simp (decide := true) only [List.length_cons, List.length_nil, tS118, tS119, tS120, tS121, tS122]) <;> omega) (Nat.le_of_ble_eq_true rfl) (by omega) (fun M9 b9 c9 P9 => ?_)
  refine gz_aload_n dL_list_886 rfl ?_
  refine gl_tab 3 dL_list_887 wf_HeliographsLaw_127 P9.2.1 (by decide) ?_
  refine gz_iload dL_list_890 rfl ?_
  refine gq_tab (j := m) dL_list_892 P9 (by decide) rfl hj ?_
  refine zz_iconst dL_list_893 ?_
  refine gq_row (i := 3) (x := (x3 : Int)) dL_list_894 P9 (by decide) hj.1 rfl (by decide) hx3 ?_
  refine gq_I (x := x3) dL_list_895 wm_HeliographsLaw_41 P9 (by omega) (by simp only [List.length_append]; (try simp (decide := true) only [List.length_cons, List.length_nil, tS118, tS119, tS120, tS121, tS122]) <;> omega) (Nat.le_of_ble_eq_true rfl) (by omega) (fun M10 b10 c10 P10 => ?_)
  refine gz_ldcS (q := 93) dL_list_898 zr_101 (by decide) ?_
  refine gq_S 93 dL_list_900 wm_HeliographsLaw_37 (zs_93 P10.1) (by decide) P10 (by simp only [List.length_append]; (try simp (decide := true) only [List.length_cons, List.length_nil, tS118, tS119, tS120, tS121, tS122, tS93]) <;> omega) (Nat.le_of_ble_eq_true rfl) (by omega) (fun M11 b11 c11 P11 => ?_)
  refine gz_pop dL_list_903 rfl ?_
  refine zz_iinc (L2 := [some (.ref 56), some (.ref a), some (.ref S), some (.int (iZ np)), some (.int (iZ ((m : Int) + 1))), L5, some (.int (iZ ((x0 : Int)))), some (.int (iZ ((x1 : Int)))), some (.int (iZ ((x2 : Int))))]) dL_list_904 rfl rfl ?_
  refine gz_goto (tgt := 686) dL_list_907 rfl ?_
  exact kk _ _ _ P11
theorem zk_up_row {G : Nat → Nat → Value} {q i j : Nat} {v : Value} : zk_up G q i v q j = if j = i then v else G q j := by unfold zk_up; rw [if_pos rfl]
theorem zl_peakR {p : Nat} {L5 L6 L7 L8 : Option Value} (hP : zLQ len s M S tk c n r V a b cap T) (hl : len < 2147483648) (hc0 : c 0 = qP (lC s len)) (hj : n 0 = p ∧ p < c 0) (hd : 7 ≤ d)
    (kk : ∀ M' q L5 L6, zLQ len s M' S tk c (fu n 0 (p + 1)) (fu r 0 (fu (r 0) p q)) (fu V 0 (fu (V 0) p (fun y => (dP (lC s len) p).getD y 0))) a b cap T → zk_Go l Γ mL_list d kc ks Q 162 [some (.ref 56), some (.ref a), some (.ref S), some (.int (iZ (qP (lC s len) : Int))), some (.int (iZ (p : Int))), L5, L6, L7, L8] [] M' F) : zk_Go l Γ mL_list d (kc + 1) (ks + 3) Q 31 [some (.ref 56), some (.ref a), some (.ref S), some (.int (iZ ((qP (lC s len) : Int)))), some (.int (iZ ((p : Int)))), L5, L6, L7, L8] [] M F := by
  have hT := (hP.2.1.2.2.1 0 (by decide)).1
  have h320 := hP.1.1
  have qb := q_bd (lC s len)
  rw [hc0] at hj
  refine gz_iload dL_list_31 rfl ?_
  refine gz_iload_n dL_list_33 rfl ?_
  refine zz_icmp_ge (tgt := 236) dL_list_34 rfl (by omega) (fun b34 => ?_) (fun b34 => ?_)
  · exact absurd b34 (by omega)
  refine gz_aload_n dL_list_37 rfl ?_
  refine zz_iconst dL_list_38 ?_
  refine gl_cell (1) dL_list_39 hP.1 hl (by omega) (by omega) (Nat.le_of_ble_eq_true rfl) (by omega) ?_
  refine zz_iconst dL_list_42 ?_
  refine gz_iload dL_list_43 rfl ?_
  refine zz_imul dL_list_45 ?_
  refine gz_ishr dL_list_46 ?_
  obtain ⟨x, hx⟩ : ∃ z, sh (lC s len 1) (3 * (p : Int)) = z := ⟨_, rfl⟩
  refine gz_istore (L2 := [some (.ref 56), some (.ref a), some (.ref S), some (.int (iZ ((qP (lC s len) : Int)))), some (.int (iZ ((p : Int)))), some (.int (x)), L6, L7, L8]) dL_list_47 (Nat.le_of_ble_eq_true rfl) (by rw [← hx]; rfl) ?_
  refine gz_iload dL_list_49 rfl ?_
  refine gz_iload dL_list_51 rfl ?_
  refine zz_iconst dL_list_53 ?_
  refine gz_ishr dL_list_54 ?_
  refine zz_iconst dL_list_55 ?_
  refine gl_below (v := (sh x 3)) (z := 3) dL_list_56 (by omega) (Nat.le_of_ble_eq_true rfl) (by omega) ?_
  have e1 := lB_bd (sh x 3) (n := 3) (by omega)
  refine zz_if_ne (tgt := 67) dL_list_59 rfl (by omega) (fun b59 => ?_) (fun b59 => ?_)
  ·
    refine zz_bipush (x := 30) dL_list_67 rfl ?_
    refine gl_below (v := x) (z := 30) dL_list_69 (by omega) (Nat.le_of_ble_eq_true rfl) (by omega) ?_
    have e2 := lB_bd x (n := 30) (by omega)
    refine gz_istore (L2 := [some (.ref 56), some (.ref a), some (.ref S), some (.int (iZ ((qP (lC s len) : Int)))), some (.int (iZ ((p : Int)))), some (.int (x)), some (.int (iZ ((lB x 30)))), L7, L8]) dL_list_72 (Nat.le_of_ble_eq_true rfl) rfl ?_
    refine gz_aload_n dL_list_74 rfl ?_
    refine gl_tab 0 dL_list_75 wf_HeliographsLaw_89 hP.2.1 (by decide) ?_
    refine gz_iload dL_list_78 rfl ?_
    refine zz_iconst dL_list_80 ?_
    refine gq_newa (N := 3) dL_list_81 rfl (by omega) (fun A0 o0 z0 t0 w0 => ?_)
    have P1 := hP.ol o0
    refine gz_dup dL_list_83 rfl ?_
    refine zz_iconst dL_list_84 ?_
    refine gz_iload dL_list_85 rfl ?_
    refine gz_iast (n := 0) dL_list_87 t0 (by show 320 ≤ _; omega) rfl (by omega) ?_
    refine gz_dup dL_list_88 rfl ?_
    refine zz_iconst dL_list_89 ?_
    refine gz_iload dL_list_90 rfl ?_
    refine zz_iconst dL_list_92 ?_
    refine gz_ishr dL_list_93 ?_
    refine zz_iconst dL_list_94 ?_
    refine gl_below (v := (sh x 2)) (z := 5) dL_list_95 (by omega) (Nat.le_of_ble_eq_true rfl) (by omega) ?_
    have e3 := lB_bd (sh x 2) (n := 5) (by omega)
    refine zz_if_ne (tgt := 113) dL_list_98 rfl (by omega) (fun b98 => ?_) (fun b98 => ?_)
    ·
      refine zz_bipush (x := 121) dL_list_113 rfl ?_
      refine gz_iload dL_list_115 rfl ?_
      refine zz_iconst dL_list_117 ?_
      refine gz_ishr dL_list_118 ?_
      refine zz_bipush (x := 40) dL_list_119 rfl ?_
      refine gl_below (v := (sh x 4)) (z := 40) dL_list_121 (by omega) (Nat.le_of_ble_eq_true rfl) (by omega) ?_
      have e4 := lB_bd (sh x 4) (n := 40) (by omega)
      refine zz_isub dL_list_124 ?_
      refine zz_iconst dL_list_125 ?_
      refine zz_isub dL_list_126 ?_
      refine gz_iast (n := 1) dL_list_127 t0 (by show 320 ≤ _; omega) rfl (by omega) ?_
      refine gz_dup dL_list_128 rfl ?_
      refine zz_iconst dL_list_129 ?_
      refine gz_iload dL_list_130 rfl ?_
      refine zz_iconst dL_list_132 ?_
      refine gz_ishr dL_list_133 ?_
      refine zz_iconst dL_list_134 ?_
      refine gl_below (v := (sh x 5)) (z := 4) dL_list_135 (by omega) (Nat.le_of_ble_eq_true rfl) (by omega) ?_
      have e5 := lB_bd (sh x 5) (n := 4) (by omega)
      refine zz_if_ne (tgt := 150) dL_list_138 rfl (by omega) (fun b138 => ?_) (fun b138 => ?_)
      ·
        refine zz_iconst dL_list_150 ?_
        refine gz_iload dL_list_151 rfl ?_
        refine zz_iconst dL_list_153 ?_
        refine gz_ishr dL_list_154 ?_
        refine zz_iconst dL_list_155 ?_
        refine gl_below (v := (sh x 1)) (z := 2) dL_list_156 (by omega) (Nat.le_of_ble_eq_true rfl) (by omega) ?_
        have e6 := lB_bd (sh x 1) (n := 2) (by omega)
        refine zz_iadd dL_list_159 ?_
        refine gz_iast (n := 2) dL_list_160 t0 (by show 320 ≤ _; omega) rfl (by omega) ?_
        refine gz_aastI (n := p) dL_list_161 ((o0.2.1 _ hT.2.2).trans hT.1) hT.2.1 rfl (by omega) t0 (by show 320 ≤ _; omega) ?_
        have eW : dP (lC s len) p = [(lB x 30), ((121 - (lB (sh x 4) 40)) - 1), (1 + (lB (sh x 1) 2))] := by
          unfold dP
          dsimp only
          try rw [hx]
          simp only [if_neg b59, if_neg b98, if_neg b138]
        have P9 := hP.push (W := fun y => (dP (lC s len) p).getD y 0) (((o0.up (q := M.2.1) (i := 0) (v := .int (iZ ((lB x 30)))) (Nat.le_refl _)).up (q := M.2.1) (i := 1) (v := .int (iZ (((121 - (lB (sh x 4) 40)) - 1)))) (Nat.le_refl _)).up (q := M.2.1) (i := 2) (v := .int (iZ ((1 + (lB (sh x 1) 2))))) (Nat.le_refl _)) (show 0 < 5 by decide) hj.1 ⟨Nat.le_refl _, by show M.2.1 < A0.2.1; omega⟩ t0 (fun i hi => by
          have hi9 : i < 3 := hi
          rw [eW]
          rcases (show i = 0 ∨ i = 1 ∨ i = 2 by omega) with rfl | rfl | rfl <;> simp (decide := true) only [zk_up_row, if_true, if_false, List.getD_cons_zero, List.getD_cons_succ])
        exact kk _ _ _ _ P9
      ·
        refine gz_iload dL_list_141 rfl ?_
        refine zz_iconst dL_list_143 ?_
        refine gl_below (v := x) (z := 5) dL_list_144 (by omega) (Nat.le_of_ble_eq_true rfl) (by omega) ?_
        have e6 := lB_bd x (n := 5) (by omega)
        refine gz_goto (tgt := 160) dL_list_147 rfl ?_
        refine gz_iast (n := 2) dL_list_160 t0 (by show 320 ≤ _; omega) rfl (by omega) ?_
        refine gz_aastI (n := p) dL_list_161 ((o0.2.1 _ hT.2.2).trans hT.1) hT.2.1 rfl (by omega) t0 (by show 320 ≤ _; omega) ?_
        have eW : dP (lC s len) p = [(lB x 30), ((121 - (lB (sh x 4) 40)) - 1), (lB x 5)] := by
          unfold dP
          dsimp only
          try rw [hx]
          simp only [if_neg b59, if_neg b98, if_pos b138]
        have P9 := hP.push (W := fun y => (dP (lC s len) p).getD y 0) (((o0.up (q := M.2.1) (i := 0) (v := .int (iZ ((lB x 30)))) (Nat.le_refl _)).up (q := M.2.1) (i := 1) (v := .int (iZ (((121 - (lB (sh x 4) 40)) - 1)))) (Nat.le_refl _)).up (q := M.2.1) (i := 2) (v := .int (iZ ((lB x 5)))) (Nat.le_refl _)) (show 0 < 5 by decide) hj.1 ⟨Nat.le_refl _, by show M.2.1 < A0.2.1; omega⟩ t0 (fun i hi => by
          have hi9 : i < 3 := hi
          rw [eW]
          rcases (show i = 0 ∨ i = 1 ∨ i = 2 by omega) with rfl | rfl | rfl <;> simp (decide := true) only [zk_up_row, if_true, if_false, List.getD_cons_zero, List.getD_cons_succ])
        exact kk _ _ _ _ P9
    ·
      refine gz_iload dL_list_101 rfl ?_
      refine zz_iconst dL_list_103 ?_
      refine gz_ishr dL_list_104 ?_
      refine zz_bipush (x := 121) dL_list_105 rfl ?_
      refine gl_below (v := (sh x 4)) (z := 121) dL_list_107 (by omega) (Nat.le_of_ble_eq_true rfl) (by omega) ?_
      have e4 := lB_bd (sh x 4) (n := 121) (by omega)
      refine gz_goto (tgt := 127) dL_list_110 rfl ?_
      refine gz_iast (n := 1) dL_list_127 t0 (by show 320 ≤ _; omega) rfl (by omega) ?_
      refine gz_dup dL_list_128 rfl ?_
      refine zz_iconst dL_list_129 ?_
      refine gz_iload dL_list_130 rfl ?_
      refine zz_iconst dL_list_132 ?_
      refine gz_ishr dL_list_133 ?_
      refine zz_iconst dL_list_134 ?_
      refine gl_below (v := (sh x 5)) (z := 4) dL_list_135 (by omega) (Nat.le_of_ble_eq_true rfl) (by omega) ?_
      have e5 := lB_bd (sh x 5) (n := 4) (by omega)
      refine zz_if_ne (tgt := 150) dL_list_138 rfl (by omega) (fun b138 => ?_) (fun b138 => ?_)
      ·
        refine zz_iconst dL_list_150 ?_
        refine gz_iload dL_list_151 rfl ?_
        refine zz_iconst dL_list_153 ?_
        refine gz_ishr dL_list_154 ?_
        refine zz_iconst dL_list_155 ?_
        refine gl_below (v := (sh x 1)) (z := 2) dL_list_156 (by omega) (Nat.le_of_ble_eq_true rfl) (by omega) ?_
        have e6 := lB_bd (sh x 1) (n := 2) (by omega)
        refine zz_iadd dL_list_159 ?_
        refine gz_iast (n := 2) dL_list_160 t0 (by show 320 ≤ _; omega) rfl (by omega) ?_
        refine gz_aastI (n := p) dL_list_161 ((o0.2.1 _ hT.2.2).trans hT.1) hT.2.1 rfl (by omega) t0 (by show 320 ≤ _; omega) ?_
        have eW : dP (lC s len) p = [(lB x 30), (lB (sh x 4) 121), (1 + (lB (sh x 1) 2))] := by
          unfold dP
          dsimp only
          try rw [hx]
          simp only [if_neg b59, if_pos b98, if_neg b138]
        have P9 := hP.push (W := fun y => (dP (lC s len) p).getD y 0) (((o0.up (q := M.2.1) (i := 0) (v := .int (iZ ((lB x 30)))) (Nat.le_refl _)).up (q := M.2.1) (i := 1) (v := .int (iZ ((lB (sh x 4) 121)))) (Nat.le_refl _)).up (q := M.2.1) (i := 2) (v := .int (iZ ((1 + (lB (sh x 1) 2))))) (Nat.le_refl _)) (show 0 < 5 by decide) hj.1 ⟨Nat.le_refl _, by show M.2.1 < A0.2.1; omega⟩ t0 (fun i hi => by
          have hi9 : i < 3 := hi
          rw [eW]
          rcases (show i = 0 ∨ i = 1 ∨ i = 2 by omega) with rfl | rfl | rfl <;> simp (decide := true) only [zk_up_row, if_true, if_false, List.getD_cons_zero, List.getD_cons_succ])
        exact kk _ _ _ _ P9
      ·
        refine gz_iload dL_list_141 rfl ?_
        refine zz_iconst dL_list_143 ?_
        refine gl_below (v := x) (z := 5) dL_list_144 (by omega) (Nat.le_of_ble_eq_true rfl) (by omega) ?_
        have e6 := lB_bd x (n := 5) (by omega)
        refine gz_goto (tgt := 160) dL_list_147 rfl ?_
        refine gz_iast (n := 2) dL_list_160 t0 (by show 320 ≤ _; omega) rfl (by omega) ?_
        refine gz_aastI (n := p) dL_list_161 ((o0.2.1 _ hT.2.2).trans hT.1) hT.2.1 rfl (by omega) t0 (by show 320 ≤ _; omega) ?_
        have eW : dP (lC s len) p = [(lB x 30), (lB (sh x 4) 121), (lB x 5)] := by
          unfold dP
          dsimp only
          try rw [hx]
          simp only [if_neg b59, if_pos b98, if_pos b138]
        have P9 := hP.push (W := fun y => (dP (lC s len) p).getD y 0) (((o0.up (q := M.2.1) (i := 0) (v := .int (iZ ((lB x 30)))) (Nat.le_refl _)).up (q := M.2.1) (i := 1) (v := .int (iZ ((lB (sh x 4) 121)))) (Nat.le_refl _)).up (q := M.2.1) (i := 2) (v := .int (iZ ((lB x 5)))) (Nat.le_refl _)) (show 0 < 5 by decide) hj.1 ⟨Nat.le_refl _, by show M.2.1 < A0.2.1; omega⟩ t0 (fun i hi => by
          have hi9 : i < 3 := hi
          rw [eW]
          rcases (show i = 0 ∨ i = 1 ∨ i = 2 by omega) with rfl | rfl | rfl <;> simp (decide := true) only [zk_up_row, if_true, if_false, List.getD_cons_zero, List.getD_cons_succ])
        exact kk _ _ _ _ P9
  ·
    refine zz_bipush (x := 121) dL_list_62 rfl ?_
    refine gz_goto (tgt := 69) dL_list_64 rfl ?_
    refine gl_below (v := x) (z := 121) dL_list_69 (by omega) (Nat.le_of_ble_eq_true rfl) (by omega) ?_
    have e2 := lB_bd x (n := 121) (by omega)
    refine gz_istore (L2 := [some (.ref 56), some (.ref a), some (.ref S), some (.int (iZ ((qP (lC s len) : Int)))), some (.int (iZ ((p : Int)))), some (.int (x)), some (.int (iZ ((lB x 121)))), L7, L8]) dL_list_72 (Nat.le_of_ble_eq_true rfl) rfl ?_
    refine gz_aload_n dL_list_74 rfl ?_
    refine gl_tab 0 dL_list_75 wf_HeliographsLaw_89 hP.2.1 (by decide) ?_
    refine gz_iload dL_list_78 rfl ?_
    refine zz_iconst dL_list_80 ?_
    refine gq_newa (N := 3) dL_list_81 rfl (by omega) (fun A0 o0 z0 t0 w0 => ?_)
    have P1 := hP.ol o0
    refine gz_dup dL_list_83 rfl ?_
    refine zz_iconst dL_list_84 ?_
    refine gz_iload dL_list_85 rfl ?_
    refine gz_iast (n := 0) dL_list_87 t0 (by show 320 ≤ _; omega) rfl (by omega) ?_
    refine gz_dup dL_list_88 rfl ?_
    refine zz_iconst dL_list_89 ?_
    refine gz_iload dL_list_90 rfl ?_
    refine zz_iconst dL_list_92 ?_
    refine gz_ishr dL_list_93 ?_
    refine zz_iconst dL_list_94 ?_
    refine gl_below (v := (sh x 2)) (z := 5) dL_list_95 (by omega) (Nat.le_of_ble_eq_true rfl) (by omega) ?_
    have e3 := lB_bd (sh x 2) (n := 5) (by omega)
    refine zz_if_ne (tgt := 113) dL_list_98 rfl (by omega) (fun b98 => ?_) (fun b98 => ?_)
    ·
      refine zz_bipush (x := 121) dL_list_113 rfl ?_
      refine gz_iload dL_list_115 rfl ?_
      refine zz_iconst dL_list_117 ?_
      refine gz_ishr dL_list_118 ?_
      refine zz_bipush (x := 40) dL_list_119 rfl ?_
      refine gl_below (v := (sh x 4)) (z := 40) dL_list_121 (by omega) (Nat.le_of_ble_eq_true rfl) (by omega) ?_
      have e4 := lB_bd (sh x 4) (n := 40) (by omega)
      refine zz_isub dL_list_124 ?_
      refine zz_iconst dL_list_125 ?_
      refine zz_isub dL_list_126 ?_
      refine gz_iast (n := 1) dL_list_127 t0 (by show 320 ≤ _; omega) rfl (by omega) ?_
      refine gz_dup dL_list_128 rfl ?_
      refine zz_iconst dL_list_129 ?_
      refine gz_iload dL_list_130 rfl ?_
      refine zz_iconst dL_list_132 ?_
      refine gz_ishr dL_list_133 ?_
      refine zz_iconst dL_list_134 ?_
      refine gl_below (v := (sh x 5)) (z := 4) dL_list_135 (by omega) (Nat.le_of_ble_eq_true rfl) (by omega) ?_
      have e5 := lB_bd (sh x 5) (n := 4) (by omega)
      refine zz_if_ne (tgt := 150) dL_list_138 rfl (by omega) (fun b138 => ?_) (fun b138 => ?_)
      ·
        refine zz_iconst dL_list_150 ?_
        refine gz_iload dL_list_151 rfl ?_
        refine zz_iconst dL_list_153 ?_
        refine gz_ishr dL_list_154 ?_
        refine zz_iconst dL_list_155 ?_
        refine gl_below (v := (sh x 1)) (z := 2) dL_list_156 (by omega) (Nat.le_of_ble_eq_true rfl) (by omega) ?_
        have e6 := lB_bd (sh x 1) (n := 2) (by omega)
        refine zz_iadd dL_list_159 ?_
        refine gz_iast (n := 2) dL_list_160 t0 (by show 320 ≤ _; omega) rfl (by omega) ?_
        refine gz_aastI (n := p) dL_list_161 ((o0.2.1 _ hT.2.2).trans hT.1) hT.2.1 rfl (by omega) t0 (by show 320 ≤ _; omega) ?_
        have eW : dP (lC s len) p = [(lB x 121), ((121 - (lB (sh x 4) 40)) - 1), (1 + (lB (sh x 1) 2))] := by
          unfold dP
          dsimp only
          try rw [hx]
          simp only [if_pos b59, if_neg b98, if_neg b138]
        have P9 := hP.push (W := fun y => (dP (lC s len) p).getD y 0) (((o0.up (q := M.2.1) (i := 0) (v := .int (iZ ((lB x 121)))) (Nat.le_refl _)).up (q := M.2.1) (i := 1) (v := .int (iZ (((121 - (lB (sh x 4) 40)) - 1)))) (Nat.le_refl _)).up (q := M.2.1) (i := 2) (v := .int (iZ ((1 + (lB (sh x 1) 2))))) (Nat.le_refl _)) (show 0 < 5 by decide) hj.1 ⟨Nat.le_refl _, by show M.2.1 < A0.2.1; omega⟩ t0 (fun i hi => by
          have hi9 : i < 3 := hi
          rw [eW]
          rcases (show i = 0 ∨ i = 1 ∨ i = 2 by omega) with rfl | rfl | rfl <;> simp (decide := true) only [zk_up_row, if_true, if_false, List.getD_cons_zero, List.getD_cons_succ])
        exact kk _ _ _ _ P9
      ·
        refine gz_iload dL_list_141 rfl ?_
        refine zz_iconst dL_list_143 ?_
        refine gl_below (v := x) (z := 5) dL_list_144 (by omega) (Nat.le_of_ble_eq_true rfl) (by omega) ?_
        have e6 := lB_bd x (n := 5) (by omega)
        refine gz_goto (tgt := 160) dL_list_147 rfl ?_
        refine gz_iast (n := 2) dL_list_160 t0 (by show 320 ≤ _; omega) rfl (by omega) ?_
        refine gz_aastI (n := p) dL_list_161 ((o0.2.1 _ hT.2.2).trans hT.1) hT.2.1 rfl (by omega) t0 (by show 320 ≤ _; omega) ?_
        have eW : dP (lC s len) p = [(lB x 121), ((121 - (lB (sh x 4) 40)) - 1), (lB x 5)] := by
          unfold dP
          dsimp only
          try rw [hx]
          simp only [if_pos b59, if_neg b98, if_pos b138]
        have P9 := hP.push (W := fun y => (dP (lC s len) p).getD y 0) (((o0.up (q := M.2.1) (i := 0) (v := .int (iZ ((lB x 121)))) (Nat.le_refl _)).up (q := M.2.1) (i := 1) (v := .int (iZ (((121 - (lB (sh x 4) 40)) - 1)))) (Nat.le_refl _)).up (q := M.2.1) (i := 2) (v := .int (iZ ((lB x 5)))) (Nat.le_refl _)) (show 0 < 5 by decide) hj.1 ⟨Nat.le_refl _, by show M.2.1 < A0.2.1; omega⟩ t0 (fun i hi => by
          have hi9 : i < 3 := hi
          rw [eW]
          rcases (show i = 0 ∨ i = 1 ∨ i = 2 by omega) with rfl | rfl | rfl <;> simp (decide := true) only [zk_up_row, if_true, if_false, List.getD_cons_zero, List.getD_cons_succ])
        exact kk _ _ _ _ P9
    ·
      refine gz_iload dL_list_101 rfl ?_
      refine zz_iconst dL_list_103 ?_
      refine gz_ishr dL_list_104 ?_
      refine zz_bipush (x := 121) dL_list_105 rfl ?_
      refine gl_below (v := (sh x 4)) (z := 121) dL_list_107 (by omega) (Nat.le_of_ble_eq_true rfl) (by omega) ?_
      have e4 := lB_bd (sh x 4) (n := 121) (by omega)
      refine gz_goto (tgt := 127) dL_list_110 rfl ?_
      refine gz_iast (n := 1) dL_list_127 t0 (by show 320 ≤ _; omega) rfl (by omega) ?_
      refine gz_dup dL_list_128 rfl ?_
      refine zz_iconst dL_list_129 ?_
      refine gz_iload dL_list_130 rfl ?_
      refine zz_iconst dL_list_132 ?_
      refine gz_ishr dL_list_133 ?_
      refine zz_iconst dL_list_134 ?_
      refine gl_below (v := (sh x 5)) (z := 4) dL_list_135 (by omega) (Nat.le_of_ble_eq_true rfl) (by omega) ?_
      have e5 := lB_bd (sh x 5) (n := 4) (by omega)
      refine zz_if_ne (tgt := 150) dL_list_138 rfl (by omega) (fun b138 => ?_) (fun b138 => ?_)
      ·
        refine zz_iconst dL_list_150 ?_
        refine gz_iload dL_list_151 rfl ?_
        refine zz_iconst dL_list_153 ?_
        refine gz_ishr dL_list_154 ?_
        refine zz_iconst dL_list_155 ?_
        refine gl_below (v := (sh x 1)) (z := 2) dL_list_156 (by omega) (Nat.le_of_ble_eq_true rfl) (by omega) ?_
        have e6 := lB_bd (sh x 1) (n := 2) (by omega)
        refine zz_iadd dL_list_159 ?_
        refine gz_iast (n := 2) dL_list_160 t0 (by show 320 ≤ _; omega) rfl (by omega) ?_
        refine gz_aastI (n := p) dL_list_161 ((o0.2.1 _ hT.2.2).trans hT.1) hT.2.1 rfl (by omega) t0 (by show 320 ≤ _; omega) ?_
        have eW : dP (lC s len) p = [(lB x 121), (lB (sh x 4) 121), (1 + (lB (sh x 1) 2))] := by
          unfold dP
          dsimp only
          try rw [hx]
          simp only [if_pos b59, if_pos b98, if_neg b138]
        have P9 := hP.push (W := fun y => (dP (lC s len) p).getD y 0) (((o0.up (q := M.2.1) (i := 0) (v := .int (iZ ((lB x 121)))) (Nat.le_refl _)).up (q := M.2.1) (i := 1) (v := .int (iZ ((lB (sh x 4) 121)))) (Nat.le_refl _)).up (q := M.2.1) (i := 2) (v := .int (iZ ((1 + (lB (sh x 1) 2))))) (Nat.le_refl _)) (show 0 < 5 by decide) hj.1 ⟨Nat.le_refl _, by show M.2.1 < A0.2.1; omega⟩ t0 (fun i hi => by
          have hi9 : i < 3 := hi
          rw [eW]
          rcases (show i = 0 ∨ i = 1 ∨ i = 2 by omega) with rfl | rfl | rfl <;> simp (decide := true) only [zk_up_row, if_true, if_false, List.getD_cons_zero, List.getD_cons_succ])
        exact kk _ _ _ _ P9
      ·
        refine gz_iload dL_list_141 rfl ?_
        refine zz_iconst dL_list_143 ?_
        refine gl_below (v := x) (z := 5) dL_list_144 (by omega) (Nat.le_of_ble_eq_true rfl) (by omega) ?_
        have e6 := lB_bd x (n := 5) (by omega)
        refine gz_goto (tgt := 160) dL_list_147 rfl ?_
        refine gz_iast (n := 2) dL_list_160 t0 (by show 320 ≤ _; omega) rfl (by omega) ?_
        refine gz_aastI (n := p) dL_list_161 ((o0.2.1 _ hT.2.2).trans hT.1) hT.2.1 rfl (by omega) t0 (by show 320 ≤ _; omega) ?_
        have eW : dP (lC s len) p = [(lB x 121), (lB (sh x 4) 121), (lB x 5)] := by
          unfold dP
          dsimp only
          try rw [hx]
          simp only [if_pos b59, if_pos b98, if_pos b138]
        have P9 := hP.push (W := fun y => (dP (lC s len) p).getD y 0) (((o0.up (q := M.2.1) (i := 0) (v := .int (iZ ((lB x 121)))) (Nat.le_refl _)).up (q := M.2.1) (i := 1) (v := .int (iZ ((lB (sh x 4) 121)))) (Nat.le_refl _)).up (q := M.2.1) (i := 2) (v := .int (iZ ((lB x 5)))) (Nat.le_refl _)) (show 0 < 5 by decide) hj.1 ⟨Nat.le_refl _, by show M.2.1 < A0.2.1; omega⟩ t0 (fun i hi => by
          have hi9 : i < 3 := hi
          rw [eW]
          rcases (show i = 0 ∨ i = 1 ∨ i = 2 by omega) with rfl | rfl | rfl <;> simp (decide := true) only [zk_up_row, if_true, if_false, List.getD_cons_zero, List.getD_cons_succ])
        exact kk _ _ _ _ P9
theorem zl_passR {w : Nat} {L5 L6 L7 L8 : Option Value} (hP : zLQ len s M S tk c n r V a b cap T) (hl : len < 2147483648) (hc1 : c 1 = qW (lC s len)) (hj : n 1 = w ∧ w < c 1) (hd : 7 ≤ d)
    (kk : ∀ M' q L5 L8, zLQ len s M' S tk c (fu n 1 (w + 1)) (fu r 1 (fu (r 1) w q)) (fu V 1 (fu (V 1) w (fun y => (dW (lC s len) w).getD y 0))) a b cap T → zk_Go l Γ mL_list d kc ks Q 390 [some (.ref 56), some (.ref a), some (.ref S), some (.int (iZ (qP (lC s len) : Int))), some (.int (iZ (w : Int))), L5, some (.int (iZ ((dW (lC s len) w).getD 0 0))), some (.int (iZ ((dW (lC s len) w).getD 1 0))), L8] [] M' F) : zk_Go l Γ mL_list d (kc + 1) (ks + 4) Q 258 [some (.ref 56), some (.ref a), some (.ref S), some (.int (iZ ((qP (lC s len) : Int)))), some (.int (iZ ((w : Int)))), L5, L6, L7, L8] [] M F := by
  have hT := (hP.2.1.2.2.1 1 (by decide)).1
  have h320 := hP.1.1
  have qb := q_bd (lC s len)
  rw [hc1] at hj
  refine gz_iload dL_list_258 rfl ?_
  refine gz_aload_n dL_list_260 rfl ?_
  refine gl_tab 1 dL_list_261 wf_HeliographsLaw_103 hP.2.1 (by decide) ?_
  refine gq_len (k := 1) dL_list_264 hP (by decide) ?_
  rw [hc1]
  refine zz_icmp_ge (tgt := 462) dL_list_265 rfl (by omega) (fun b265 => ?_) (fun b265 => ?_)
  · exact absurd b265 (by omega)
  refine gz_aload_n dL_list_268 rfl ?_
  refine zz_iconst dL_list_269 ?_
  refine gz_iload dL_list_270 rfl ?_
  refine zz_iconst dL_list_272 ?_
  refine zz_irem dL_list_273 (by omega) ?_
  refine zz_iadd dL_list_274 ?_
  refine gl_cell (3 + w % 2) dL_list_275 hP.1 hl (by omega) (by omega) (Nat.le_of_ble_eq_true rfl) (by omega) ?_
  refine zz_iconst dL_list_278 ?_
  refine gz_iload dL_list_279 rfl ?_
  refine zz_iconst dL_list_281 ?_
  refine zz_idiv dL_list_282 (by omega) ?_
  refine zz_imul dL_list_283 ?_
  refine gz_ishr dL_list_284 ?_
  obtain ⟨x, hx⟩ : ∃ z, sh (lC s len (3 + w % 2)) (3 * ((w / 2 : Nat) : Int)) = z := ⟨_, rfl⟩
  refine gz_istore (L2 := [some (.ref 56), some (.ref a), some (.ref S), some (.int (iZ ((qP (lC s len) : Int)))), some (.int (iZ ((w : Int)))), some (.int (x)), L6, L7, L8]) dL_list_285 (Nat.le_of_ble_eq_true rfl) (by rw [← hx]; rfl) ?_
  refine gz_iload dL_list_287 rfl ?_
  refine gz_iload_n dL_list_289 rfl ?_
  refine zz_icmp_ge (tgt := 298) dL_list_290 rfl (by omega) (fun b290 => ?_) (fun b290 => ?_)
  ·
    refine gz_iload dL_list_298 rfl ?_
    refine gz_iload_n dL_list_300 rfl ?_
    refine gl_below (v := x) (z := (qP (lC s len) : Int)) dL_list_301 (by omega) (Nat.le_of_ble_eq_true rfl) (by omega) ?_
    have e1 := lB_bd x (n := (qP (lC s len) : Int)) (by omega)
    refine gz_istore (L2 := [some (.ref 56), some (.ref a), some (.ref S), some (.int (iZ ((qP (lC s len) : Int)))), some (.int (iZ ((w : Int)))), some (.int (x)), some (.int (iZ ((lB x (qP (lC s len) : Int))))), L7, L8]) dL_list_304 (Nat.le_of_ble_eq_true rfl) rfl ?_
    refine gz_iload dL_list_306 rfl ?_
    refine zz_iconst dL_list_308 ?_
    refine zz_iadd dL_list_309 ?_
    refine gz_iload dL_list_310 rfl ?_
    refine zz_iconst dL_list_312 ?_
    refine gz_ishr dL_list_313 ?_
    refine gz_iload dL_list_314 rfl ?_
    refine gz_iload_n dL_list_316 rfl ?_
    refine zz_icmp_ge (tgt := 324) dL_list_317 rfl (by omega) (fun b317 => ?_) (fun b317 => ?_)
    rotate_left
    · exact absurd b317 (by omega)
    refine gz_iload_n dL_list_324 rfl ?_
    refine zz_iconst dL_list_325 ?_
    refine zz_isub dL_list_326 ?_
    refine gl_below (v := (sh x 4)) (z := ((qP (lC s len) : Int) - 1)) dL_list_327 (by omega) (Nat.le_of_ble_eq_true rfl) (by omega) ?_
    have e2 := lB_bd (sh x 4) (n := ((qP (lC s len) : Int) - 1)) (by omega)
    refine zz_iadd dL_list_330 ?_
    refine gz_iload_n dL_list_331 rfl ?_
    refine zz_irem dL_list_332 (by omega) ?_
    refine gz_istore (L2 := [some (.ref 56), some (.ref a), some (.ref S), some (.int (iZ ((qP (lC s len) : Int)))), some (.int (iZ ((w : Int)))), some (.int (x)), some (.int (iZ ((lB x (qP (lC s len) : Int))))), some (.int (iZ (((((lB x (qP (lC s len) : Int)) + 1) + (lB (sh x 4) ((qP (lC s len) : Int) - 1))) % (qP (lC s len) : Int))))), L8]) dL_list_333 (Nat.le_of_ble_eq_true rfl) rfl ?_
    refine gz_aload_n dL_list_335 rfl ?_
    refine gl_tab 1 dL_list_336 wf_HeliographsLaw_103 hP.2.1 (by decide) ?_
    refine gz_iload dL_list_339 rfl ?_
    refine zz_iconst dL_list_341 ?_
    refine gq_newa (N := 4) dL_list_342 rfl (by omega) (fun A0 o0 z0 t0 w0 => ?_)
    have P1 := hP.ol o0
    refine gz_dup dL_list_344 rfl ?_
    refine zz_iconst dL_list_345 ?_
    refine gz_iload dL_list_346 rfl ?_
    refine gz_iast (n := 0) dL_list_348 t0 (by show 320 ≤ _; omega) rfl (by omega) ?_
    refine gz_dup dL_list_349 rfl ?_
    refine zz_iconst dL_list_350 ?_
    refine gz_iload dL_list_351 rfl ?_
    refine gz_iast (n := 1) dL_list_353 t0 (by show 320 ≤ _; omega) rfl (by omega) ?_
    refine gz_dup dL_list_354 rfl ?_
    refine zz_iconst dL_list_355 ?_
    refine zz_iconst dL_list_356 ?_
    refine gz_iload dL_list_357 rfl ?_
    refine zz_iconst dL_list_359 ?_
    refine gz_ishr dL_list_360 ?_
    refine gz_iload dL_list_361 rfl ?_
    refine zz_bipush (x := 6) dL_list_363 rfl ?_
    refine gz_ishr dL_list_365 ?_
    refine zz_iconst dL_list_366 ?_
    refine gl_below (v := (sh x 6)) (z := 2) dL_list_367 (by omega) (Nat.le_of_ble_eq_true rfl) (by omega) ?_
    have e3 := lB_bd (sh x 6) (n := 2) (by omega)
    refine zz_if_ne (tgt := 378) dL_list_370 rfl (by omega) (fun b370 => ?_) (fun b370 => ?_)
    ·
      refine zz_bipush (x := 6) dL_list_378 rfl ?_
      refine gl_below (v := (sh x 2)) (z := 6) dL_list_380 (by omega) (Nat.le_of_ble_eq_true rfl) (by omega) ?_
      have e4 := lB_bd (sh x 2) (n := 6) (by omega)
      refine zz_iadd dL_list_383 ?_
      refine gz_iast (n := 2) dL_list_384 t0 (by show 320 ≤ _; omega) rfl (by omega) ?_
      refine gz_dup dL_list_385 rfl ?_
      refine zz_iconst dL_list_386 ?_
      refine zz_iconst dL_list_387 ?_
      refine gz_iast (n := 3) dL_list_388 t0 (by show 320 ≤ _; omega) rfl (by omega) ?_
      refine gz_aastI (n := w) dL_list_389 ((o0.2.1 _ hT.2.2).trans hT.1) hT.2.1 rfl (by omega) t0 (by show 320 ≤ _; omega) ?_
      have eW : dW (lC s len) w = [(lB x (qP (lC s len) : Int)), ((((lB x (qP (lC s len) : Int)) + 1) + (lB (sh x 4) ((qP (lC s len) : Int) - 1))) % (qP (lC s len) : Int)), (1 + (lB (sh x 2) 6)), 0] := by
        unfold dW
        dsimp only
        try rw [hx]
        simp only [if_neg (show ¬ (w < qP (lC s len)) by omega), if_neg b370]
      have P9 := hP.push (W := fun y => (dW (lC s len) w).getD y 0) ((((o0.up (q := M.2.1) (i := 0) (v := .int (iZ ((lB x (qP (lC s len) : Int))))) (Nat.le_refl _)).up (q := M.2.1) (i := 1) (v := .int (iZ (((((lB x (qP (lC s len) : Int)) + 1) + (lB (sh x 4) ((qP (lC s len) : Int) - 1))) % (qP (lC s len) : Int))))) (Nat.le_refl _)).up (q := M.2.1) (i := 2) (v := .int (iZ ((1 + (lB (sh x 2) 6))))) (Nat.le_refl _)).up (q := M.2.1) (i := 3) (v := .int (iZ (0))) (Nat.le_refl _)) (show 1 < 5 by decide) hj.1 ⟨Nat.le_refl _, by show M.2.1 < A0.2.1; omega⟩ t0 (fun i hi => by
        have hi9 : i < 4 := hi
        rw [eW]
        rcases (show i = 0 ∨ i = 1 ∨ i = 2 ∨ i = 3 by omega) with rfl | rfl | rfl | rfl <;> simp (decide := true) only [zk_up_row, if_true, if_false, List.getD_cons_zero, List.getD_cons_succ])
      have K := kk _ _ (some (.int x)) L8 P9
      simp only [eW, List.getD_cons_zero, List.getD_cons_succ] at K
      exact K
    ·
      refine zz_bipush (x := 20) dL_list_373 rfl ?_
      refine gz_goto (tgt := 380) dL_list_375 rfl ?_
      refine gl_below (v := (sh x 2)) (z := 20) dL_list_380 (by omega) (Nat.le_of_ble_eq_true rfl) (by omega) ?_
      have e4 := lB_bd (sh x 2) (n := 20) (by omega)
      refine zz_iadd dL_list_383 ?_
      refine gz_iast (n := 2) dL_list_384 t0 (by show 320 ≤ _; omega) rfl (by omega) ?_
      refine gz_dup dL_list_385 rfl ?_
      refine zz_iconst dL_list_386 ?_
      refine zz_iconst dL_list_387 ?_
      refine gz_iast (n := 3) dL_list_388 t0 (by show 320 ≤ _; omega) rfl (by omega) ?_
      refine gz_aastI (n := w) dL_list_389 ((o0.2.1 _ hT.2.2).trans hT.1) hT.2.1 rfl (by omega) t0 (by show 320 ≤ _; omega) ?_
      have eW : dW (lC s len) w = [(lB x (qP (lC s len) : Int)), ((((lB x (qP (lC s len) : Int)) + 1) + (lB (sh x 4) ((qP (lC s len) : Int) - 1))) % (qP (lC s len) : Int)), (1 + (lB (sh x 2) 20)), 0] := by
        unfold dW
        dsimp only
        try rw [hx]
        simp only [if_neg (show ¬ (w < qP (lC s len)) by omega), if_pos b370]
      have P9 := hP.push (W := fun y => (dW (lC s len) w).getD y 0) ((((o0.up (q := M.2.1) (i := 0) (v := .int (iZ ((lB x (qP (lC s len) : Int))))) (Nat.le_refl _)).up (q := M.2.1) (i := 1) (v := .int (iZ (((((lB x (qP (lC s len) : Int)) + 1) + (lB (sh x 4) ((qP (lC s len) : Int) - 1))) % (qP (lC s len) : Int))))) (Nat.le_refl _)).up (q := M.2.1) (i := 2) (v := .int (iZ ((1 + (lB (sh x 2) 20))))) (Nat.le_refl _)).up (q := M.2.1) (i := 3) (v := .int (iZ (0))) (Nat.le_refl _)) (show 1 < 5 by decide) hj.1 ⟨Nat.le_refl _, by show M.2.1 < A0.2.1; omega⟩ t0 (fun i hi => by
        have hi9 : i < 4 := hi
        rw [eW]
        rcases (show i = 0 ∨ i = 1 ∨ i = 2 ∨ i = 3 by omega) with rfl | rfl | rfl | rfl <;> simp (decide := true) only [zk_up_row, if_true, if_false, List.getD_cons_zero, List.getD_cons_succ])
      have K := kk _ _ (some (.int x)) L8 P9
      simp only [eW, List.getD_cons_zero, List.getD_cons_succ] at K
      exact K
  ·
    refine gz_iload dL_list_293 rfl ?_
    refine gz_goto (tgt := 304) dL_list_295 rfl ?_
    refine gz_istore (L2 := [some (.ref 56), some (.ref a), some (.ref S), some (.int (iZ ((qP (lC s len) : Int)))), some (.int (iZ ((w : Int)))), some (.int (x)), some (.int (iZ ((w : Int)))), L7, L8]) dL_list_304 (Nat.le_of_ble_eq_true rfl) rfl ?_
    refine gz_iload dL_list_306 rfl ?_
    refine zz_iconst dL_list_308 ?_
    refine zz_iadd dL_list_309 ?_
    refine gz_iload dL_list_310 rfl ?_
    refine zz_iconst dL_list_312 ?_
    refine gz_ishr dL_list_313 ?_
    refine gz_iload dL_list_314 rfl ?_
    refine gz_iload_n dL_list_316 rfl ?_
    refine zz_icmp_ge (tgt := 324) dL_list_317 rfl (by omega) (fun b317 => ?_) (fun b317 => ?_)
    · exact absurd b317 (by omega)
    refine zz_iconst dL_list_320 ?_
    refine gz_goto (tgt := 327) dL_list_321 rfl ?_
    refine gl_below (v := (sh x 4)) (z := 2) dL_list_327 (by omega) (Nat.le_of_ble_eq_true rfl) (by omega) ?_
    have e1 := lB_bd (sh x 4) (n := 2) (by omega)
    refine zz_iadd dL_list_330 ?_
    refine gz_iload_n dL_list_331 rfl ?_
    refine zz_irem dL_list_332 (by omega) ?_
    refine gz_istore (L2 := [some (.ref 56), some (.ref a), some (.ref S), some (.int (iZ ((qP (lC s len) : Int)))), some (.int (iZ ((w : Int)))), some (.int (x)), some (.int (iZ ((w : Int)))), some (.int (iZ (((((w : Int) + 1) + (lB (sh x 4) 2)) % (qP (lC s len) : Int))))), L8]) dL_list_333 (Nat.le_of_ble_eq_true rfl) rfl ?_
    refine gz_aload_n dL_list_335 rfl ?_
    refine gl_tab 1 dL_list_336 wf_HeliographsLaw_103 hP.2.1 (by decide) ?_
    refine gz_iload dL_list_339 rfl ?_
    refine zz_iconst dL_list_341 ?_
    refine gq_newa (N := 4) dL_list_342 rfl (by omega) (fun A0 o0 z0 t0 w0 => ?_)
    have P1 := hP.ol o0
    refine gz_dup dL_list_344 rfl ?_
    refine zz_iconst dL_list_345 ?_
    refine gz_iload dL_list_346 rfl ?_
    refine gz_iast (n := 0) dL_list_348 t0 (by show 320 ≤ _; omega) rfl (by omega) ?_
    refine gz_dup dL_list_349 rfl ?_
    refine zz_iconst dL_list_350 ?_
    refine gz_iload dL_list_351 rfl ?_
    refine gz_iast (n := 1) dL_list_353 t0 (by show 320 ≤ _; omega) rfl (by omega) ?_
    refine gz_dup dL_list_354 rfl ?_
    refine zz_iconst dL_list_355 ?_
    refine zz_iconst dL_list_356 ?_
    refine gz_iload dL_list_357 rfl ?_
    refine zz_iconst dL_list_359 ?_
    refine gz_ishr dL_list_360 ?_
    refine gz_iload dL_list_361 rfl ?_
    refine zz_bipush (x := 6) dL_list_363 rfl ?_
    refine gz_ishr dL_list_365 ?_
    refine zz_iconst dL_list_366 ?_
    refine gl_below (v := (sh x 6)) (z := 2) dL_list_367 (by omega) (Nat.le_of_ble_eq_true rfl) (by omega) ?_
    have e2 := lB_bd (sh x 6) (n := 2) (by omega)
    refine zz_if_ne (tgt := 378) dL_list_370 rfl (by omega) (fun b370 => ?_) (fun b370 => ?_)
    ·
      refine zz_bipush (x := 6) dL_list_378 rfl ?_
      refine gl_below (v := (sh x 2)) (z := 6) dL_list_380 (by omega) (Nat.le_of_ble_eq_true rfl) (by omega) ?_
      have e3 := lB_bd (sh x 2) (n := 6) (by omega)
      refine zz_iadd dL_list_383 ?_
      refine gz_iast (n := 2) dL_list_384 t0 (by show 320 ≤ _; omega) rfl (by omega) ?_
      refine gz_dup dL_list_385 rfl ?_
      refine zz_iconst dL_list_386 ?_
      refine zz_iconst dL_list_387 ?_
      refine gz_iast (n := 3) dL_list_388 t0 (by show 320 ≤ _; omega) rfl (by omega) ?_
      refine gz_aastI (n := w) dL_list_389 ((o0.2.1 _ hT.2.2).trans hT.1) hT.2.1 rfl (by omega) t0 (by show 320 ≤ _; omega) ?_
      have eW : dW (lC s len) w = [(w : Int), ((((w : Int) + 1) + (lB (sh x 4) 2)) % (qP (lC s len) : Int)), (1 + (lB (sh x 2) 6)), 0] := by
        unfold dW
        dsimp only
        try rw [hx]
        simp only [if_pos (show (w < qP (lC s len)) by omega), if_neg b370]
      have P9 := hP.push (W := fun y => (dW (lC s len) w).getD y 0) ((((o0.up (q := M.2.1) (i := 0) (v := .int (iZ ((w : Int)))) (Nat.le_refl _)).up (q := M.2.1) (i := 1) (v := .int (iZ (((((w : Int) + 1) + (lB (sh x 4) 2)) % (qP (lC s len) : Int))))) (Nat.le_refl _)).up (q := M.2.1) (i := 2) (v := .int (iZ ((1 + (lB (sh x 2) 6))))) (Nat.le_refl _)).up (q := M.2.1) (i := 3) (v := .int (iZ (0))) (Nat.le_refl _)) (show 1 < 5 by decide) hj.1 ⟨Nat.le_refl _, by show M.2.1 < A0.2.1; omega⟩ t0 (fun i hi => by
        have hi9 : i < 4 := hi
        rw [eW]
        rcases (show i = 0 ∨ i = 1 ∨ i = 2 ∨ i = 3 by omega) with rfl | rfl | rfl | rfl <;> simp (decide := true) only [zk_up_row, if_true, if_false, List.getD_cons_zero, List.getD_cons_succ])
      have K := kk _ _ (some (.int x)) L8 P9
      simp only [eW, List.getD_cons_zero, List.getD_cons_succ] at K
      exact K
    ·
      refine zz_bipush (x := 20) dL_list_373 rfl ?_
      refine gz_goto (tgt := 380) dL_list_375 rfl ?_
      refine gl_below (v := (sh x 2)) (z := 20) dL_list_380 (by omega) (Nat.le_of_ble_eq_true rfl) (by omega) ?_
      have e3 := lB_bd (sh x 2) (n := 20) (by omega)
      refine zz_iadd dL_list_383 ?_
      refine gz_iast (n := 2) dL_list_384 t0 (by show 320 ≤ _; omega) rfl (by omega) ?_
      refine gz_dup dL_list_385 rfl ?_
      refine zz_iconst dL_list_386 ?_
      refine zz_iconst dL_list_387 ?_
      refine gz_iast (n := 3) dL_list_388 t0 (by show 320 ≤ _; omega) rfl (by omega) ?_
      refine gz_aastI (n := w) dL_list_389 ((o0.2.1 _ hT.2.2).trans hT.1) hT.2.1 rfl (by omega) t0 (by show 320 ≤ _; omega) ?_
      have eW : dW (lC s len) w = [(w : Int), ((((w : Int) + 1) + (lB (sh x 4) 2)) % (qP (lC s len) : Int)), (1 + (lB (sh x 2) 20)), 0] := by
        unfold dW
        dsimp only
        try rw [hx]
        simp only [if_pos (show (w < qP (lC s len)) by omega), if_pos b370]
      have P9 := hP.push (W := fun y => (dW (lC s len) w).getD y 0) ((((o0.up (q := M.2.1) (i := 0) (v := .int (iZ ((w : Int)))) (Nat.le_refl _)).up (q := M.2.1) (i := 1) (v := .int (iZ (((((w : Int) + 1) + (lB (sh x 4) 2)) % (qP (lC s len) : Int))))) (Nat.le_refl _)).up (q := M.2.1) (i := 2) (v := .int (iZ ((1 + (lB (sh x 2) 20))))) (Nat.le_refl _)).up (q := M.2.1) (i := 3) (v := .int (iZ (0))) (Nat.le_refl _)) (show 1 < 5 by decide) hj.1 ⟨Nat.le_refl _, by show M.2.1 < A0.2.1; omega⟩ t0 (fun i hi => by
        have hi9 : i < 4 := hi
        rw [eW]
        rcases (show i = 0 ∨ i = 1 ∨ i = 2 ∨ i = 3 by omega) with rfl | rfl | rfl | rfl <;> simp (decide := true) only [zk_up_row, if_true, if_false, List.getD_cons_zero, List.getD_cons_succ])
      have K := kk _ _ (some (.int x)) L8 P9
      simp only [eW, List.getD_cons_zero, List.getD_cons_succ] at K
      exact K
theorem zl_cloudR {i : Nat} {L5 L6 L7 L8 : Option Value} (hP : zLQ len s M S tk c n r V a b cap T) (hl : len < 2147483648) (hc1 : c 1 = qW (lC s len)) (hc2 : c 2 = qC (lC s len)) (hj : n 2 = i ∧ i < c 2) (hd : 7 ≤ d)
    (kk : ∀ M' q L5 L7 L8, zLQ len s M' S tk c (fu n 2 (i + 1)) (fu r 2 (fu (r 2) i q)) (fu V 2 (fu (V 2) i (fun y => (dC (lC s len) i).getD y 0))) a b cap T → zk_Go l Γ mL_list d kc ks Q 589 [some (.ref 56), some (.ref a), some (.ref S), some (.int (iZ (qP (lC s len) : Int))), some (.int (iZ (i : Int))), L5, some (.int (iZ ((dC (lC s len) i).getD 1 0))), L7, L8] [] M' F) : zk_Go l Γ mL_list d (kc + 1) (ks + 4) Q 481 [some (.ref 56), some (.ref a), some (.ref S), some (.int (iZ ((qP (lC s len) : Int)))), some (.int (iZ ((i : Int)))), L5, L6, L7, L8] [] M F := by
  have hT := (hP.2.1.2.2.1 2 (by decide)).1
  have h320 := hP.1.1
  have qb := q_bd (lC s len)
  rw [hc2] at hj
  refine gz_iload dL_list_481 rfl ?_
  refine gz_aload_n dL_list_483 rfl ?_
  refine gl_tab 2 dL_list_484 wf_HeliographsLaw_116 hP.2.1 (by decide) ?_
  refine gq_len (k := 2) dL_list_487 hP (by decide) ?_
  rw [hc2]
  refine zz_icmp_ge (tgt := 663) dL_list_488 rfl (by omega) (fun b488 => ?_) (fun b488 => ?_)
  · exact absurd b488 (by omega)
  refine gz_aload_n dL_list_491 rfl ?_
  refine zz_bipush (x := 6) dL_list_492 rfl ?_
  refine gl_cell (6) dL_list_494 hP.1 hl (by omega) (by omega) (Nat.le_of_ble_eq_true rfl) (by omega) ?_
  refine zz_iconst dL_list_497 ?_
  refine gz_iload dL_list_498 rfl ?_
  refine zz_imul dL_list_500 ?_
  refine gz_ishr dL_list_501 ?_
  obtain ⟨x, hx⟩ : ∃ z, sh (lC s len 6) (4 * (i : Int)) = z := ⟨_, rfl⟩
  refine gz_istore (L2 := [some (.ref 56), some (.ref a), some (.ref S), some (.int (iZ ((qP (lC s len) : Int)))), some (.int (iZ ((i : Int)))), some (.int (x)), L6, L7, L8]) dL_list_502 (Nat.le_of_ble_eq_true rfl) (by rw [← hx]; rfl) ?_
  refine zz_iconst dL_list_504 ?_
  refine gz_iload dL_list_505 rfl ?_
  refine gz_iload dL_list_507 rfl ?_
  refine zz_iconst dL_list_509 ?_
  refine gz_ishr dL_list_510 ?_
  refine zz_iconst dL_list_511 ?_
  refine gl_below (v := (sh x 5)) (z := 2) dL_list_512 (by omega) (Nat.le_of_ble_eq_true rfl) (by omega) ?_
  have e1 := lB_bd (sh x 5) (n := 2) (by omega)
  refine zz_if_ne (tgt := 523) dL_list_515 rfl (by omega) (fun b515 => ?_) (fun b515 => ?_)
  ·
    refine zz_bipush (x := 12) dL_list_523 rfl ?_
    refine gl_below (v := x) (z := 12) dL_list_525 (by omega) (Nat.le_of_ble_eq_true rfl) (by omega) ?_
    have e2 := lB_bd x (n := 12) (by omega)
    refine zz_iadd dL_list_528 ?_
    refine gz_istore (L2 := [some (.ref 56), some (.ref a), some (.ref S), some (.int (iZ ((qP (lC s len) : Int)))), some (.int (iZ ((i : Int)))), some (.int (x)), some (.int (iZ ((2 + (lB x 12))))), L7, L8]) dL_list_529 (Nat.le_of_ble_eq_true rfl) rfl ?_
    refine gz_aload_n dL_list_531 rfl ?_
    refine gl_tab 2 dL_list_532 wf_HeliographsLaw_116 hP.2.1 (by decide) ?_
    refine gz_iload dL_list_535 rfl ?_
    refine zz_iconst dL_list_537 ?_
    refine gq_newa (N := 4) dL_list_538 rfl (by omega) (fun A0 o0 z0 t0 w0 => ?_)
    have P1 := hP.ol o0
    refine gz_dup dL_list_540 rfl ?_
    refine zz_iconst dL_list_541 ?_
    refine gz_iload dL_list_542 rfl ?_
    refine zz_iconst dL_list_544 ?_
    refine gz_ishr dL_list_545 ?_
    refine gz_aload_n dL_list_546 rfl ?_
    refine gl_tab 1 dL_list_547 wf_HeliographsLaw_103 (hP.ol o0).2.1 (by decide) ?_
    refine gq_len (k := 1) dL_list_550 (hP.ol o0) (by decide) ?_
    rw [hc1]
    refine gl_below (v := (sh x 2)) (z := (qW (lC s len) : Int)) dL_list_551 (by omega) (Nat.le_of_ble_eq_true rfl) (by omega) ?_
    have e3 := lB_bd (sh x 2) (n := (qW (lC s len) : Int)) (by omega)
    refine gz_iast (n := 0) dL_list_554 t0 (by show 320 ≤ _; omega) rfl (by omega) ?_
    refine gz_dup dL_list_555 rfl ?_
    refine zz_iconst dL_list_556 ?_
    refine gz_iload dL_list_557 rfl ?_
    refine gz_iast (n := 1) dL_list_559 t0 (by show 320 ≤ _; omega) rfl (by omega) ?_
    refine gz_dup dL_list_560 rfl ?_
    refine zz_iconst dL_list_561 ?_
    refine zz_iconst dL_list_562 ?_
    refine gz_iload dL_list_563 rfl ?_
    refine zz_iconst dL_list_565 ?_
    refine gz_ishr dL_list_566 ?_
    refine gz_iload dL_list_567 rfl ?_
    refine zz_iconst dL_list_569 ?_
    refine zz_isub dL_list_570 ?_
    refine gl_below (v := (sh x 3)) (z := ((2 + (lB x 12)) - 1)) dL_list_571 (by omega) (Nat.le_of_ble_eq_true rfl) (by omega) ?_
    have e4 := lB_bd (sh x 3) (n := ((2 + (lB x 12)) - 1)) (by omega)
    refine zz_iadd dL_list_574 ?_
    refine gz_iast (n := 2) dL_list_575 t0 (by show 320 ≤ _; omega) rfl (by omega) ?_
    refine gz_dup dL_list_576 rfl ?_
    refine zz_iconst dL_list_577 ?_
    refine gz_iload dL_list_578 rfl ?_
    refine zz_iconst dL_list_580 ?_
    refine gz_ishr dL_list_581 ?_
    refine zz_bipush (x := 60) dL_list_582 rfl ?_
    refine gl_below (v := (sh x 4)) (z := 60) dL_list_584 (by omega) (Nat.le_of_ble_eq_true rfl) (by omega) ?_
    have e5 := lB_bd (sh x 4) (n := 60) (by omega)
    refine gz_iast (n := 3) dL_list_587 t0 (by show 320 ≤ _; omega) rfl (by omega) ?_
    refine gz_aastI (n := i) dL_list_588 ((o0.2.1 _ hT.2.2).trans hT.1) hT.2.1 rfl (by omega) t0 (by show 320 ≤ _; omega) ?_
    have eW : dC (lC s len) i = [(lB (sh x 2) (qW (lC s len) : Int)), (2 + (lB x 12)), (1 + (lB (sh x 3) ((2 + (lB x 12)) - 1))), (lB (sh x 4) 60)] := by
      unfold dC
      dsimp only
      try rw [hx]
      simp only [if_neg b515]
    have P9 := hP.push (W := fun y => (dC (lC s len) i).getD y 0) ((((o0.up (q := M.2.1) (i := 0) (v := .int (iZ ((lB (sh x 2) (qW (lC s len) : Int))))) (Nat.le_refl _)).up (q := M.2.1) (i := 1) (v := .int (iZ ((2 + (lB x 12))))) (Nat.le_refl _)).up (q := M.2.1) (i := 2) (v := .int (iZ ((1 + (lB (sh x 3) ((2 + (lB x 12)) - 1)))))) (Nat.le_refl _)).up (q := M.2.1) (i := 3) (v := .int (iZ ((lB (sh x 4) 60)))) (Nat.le_refl _)) (show 2 < 5 by decide) hj.1 ⟨Nat.le_refl _, by show M.2.1 < A0.2.1; omega⟩ t0 (fun i hi => by
      have hi9 : i < 4 := hi
      rw [eW]
      rcases (show i = 0 ∨ i = 1 ∨ i = 2 ∨ i = 3 by omega) with rfl | rfl | rfl | rfl <;> simp (decide := true) only [zk_up_row, if_true, if_false, List.getD_cons_zero, List.getD_cons_succ])
    have K := kk _ _ (some (.int x)) L7 L8 P9
    simp only [eW, List.getD_cons_zero, List.getD_cons_succ] at K
    exact K
  ·
    refine zz_bipush (x := 59) dL_list_518 rfl ?_
    refine gz_goto (tgt := 525) dL_list_520 rfl ?_
    refine gl_below (v := x) (z := 59) dL_list_525 (by omega) (Nat.le_of_ble_eq_true rfl) (by omega) ?_
    have e2 := lB_bd x (n := 59) (by omega)
    refine zz_iadd dL_list_528 ?_
    refine gz_istore (L2 := [some (.ref 56), some (.ref a), some (.ref S), some (.int (iZ ((qP (lC s len) : Int)))), some (.int (iZ ((i : Int)))), some (.int (x)), some (.int (iZ ((2 + (lB x 59))))), L7, L8]) dL_list_529 (Nat.le_of_ble_eq_true rfl) rfl ?_
    refine gz_aload_n dL_list_531 rfl ?_
    refine gl_tab 2 dL_list_532 wf_HeliographsLaw_116 hP.2.1 (by decide) ?_
    refine gz_iload dL_list_535 rfl ?_
    refine zz_iconst dL_list_537 ?_
    refine gq_newa (N := 4) dL_list_538 rfl (by omega) (fun A0 o0 z0 t0 w0 => ?_)
    have P1 := hP.ol o0
    refine gz_dup dL_list_540 rfl ?_
    refine zz_iconst dL_list_541 ?_
    refine gz_iload dL_list_542 rfl ?_
    refine zz_iconst dL_list_544 ?_
    refine gz_ishr dL_list_545 ?_
    refine gz_aload_n dL_list_546 rfl ?_
    refine gl_tab 1 dL_list_547 wf_HeliographsLaw_103 (hP.ol o0).2.1 (by decide) ?_
    refine gq_len (k := 1) dL_list_550 (hP.ol o0) (by decide) ?_
    rw [hc1]
    refine gl_below (v := (sh x 2)) (z := (qW (lC s len) : Int)) dL_list_551 (by omega) (Nat.le_of_ble_eq_true rfl) (by omega) ?_
    have e3 := lB_bd (sh x 2) (n := (qW (lC s len) : Int)) (by omega)
    refine gz_iast (n := 0) dL_list_554 t0 (by show 320 ≤ _; omega) rfl (by omega) ?_
    refine gz_dup dL_list_555 rfl ?_
    refine zz_iconst dL_list_556 ?_
    refine gz_iload dL_list_557 rfl ?_
    refine gz_iast (n := 1) dL_list_559 t0 (by show 320 ≤ _; omega) rfl (by omega) ?_
    refine gz_dup dL_list_560 rfl ?_
    refine zz_iconst dL_list_561 ?_
    refine zz_iconst dL_list_562 ?_
    refine gz_iload dL_list_563 rfl ?_
    refine zz_iconst dL_list_565 ?_
    refine gz_ishr dL_list_566 ?_
    refine gz_iload dL_list_567 rfl ?_
    refine zz_iconst dL_list_569 ?_
    refine zz_isub dL_list_570 ?_
    refine gl_below (v := (sh x 3)) (z := ((2 + (lB x 59)) - 1)) dL_list_571 (by omega) (Nat.le_of_ble_eq_true rfl) (by omega) ?_
    have e4 := lB_bd (sh x 3) (n := ((2 + (lB x 59)) - 1)) (by omega)
    refine zz_iadd dL_list_574 ?_
    refine gz_iast (n := 2) dL_list_575 t0 (by show 320 ≤ _; omega) rfl (by omega) ?_
    refine gz_dup dL_list_576 rfl ?_
    refine zz_iconst dL_list_577 ?_
    refine gz_iload dL_list_578 rfl ?_
    refine zz_iconst dL_list_580 ?_
    refine gz_ishr dL_list_581 ?_
    refine zz_bipush (x := 60) dL_list_582 rfl ?_
    refine gl_below (v := (sh x 4)) (z := 60) dL_list_584 (by omega) (Nat.le_of_ble_eq_true rfl) (by omega) ?_
    have e5 := lB_bd (sh x 4) (n := 60) (by omega)
    refine gz_iast (n := 3) dL_list_587 t0 (by show 320 ≤ _; omega) rfl (by omega) ?_
    refine gz_aastI (n := i) dL_list_588 ((o0.2.1 _ hT.2.2).trans hT.1) hT.2.1 rfl (by omega) t0 (by show 320 ≤ _; omega) ?_
    have eW : dC (lC s len) i = [(lB (sh x 2) (qW (lC s len) : Int)), (2 + (lB x 59)), (1 + (lB (sh x 3) ((2 + (lB x 59)) - 1))), (lB (sh x 4) 60)] := by
      unfold dC
      dsimp only
      try rw [hx]
      simp only [if_pos b515]
    have P9 := hP.push (W := fun y => (dC (lC s len) i).getD y 0) ((((o0.up (q := M.2.1) (i := 0) (v := .int (iZ ((lB (sh x 2) (qW (lC s len) : Int))))) (Nat.le_refl _)).up (q := M.2.1) (i := 1) (v := .int (iZ ((2 + (lB x 59))))) (Nat.le_refl _)).up (q := M.2.1) (i := 2) (v := .int (iZ ((1 + (lB (sh x 3) ((2 + (lB x 59)) - 1)))))) (Nat.le_refl _)).up (q := M.2.1) (i := 3) (v := .int (iZ ((lB (sh x 4) 60)))) (Nat.le_refl _)) (show 2 < 5 by decide) hj.1 ⟨Nat.le_refl _, by show M.2.1 < A0.2.1; omega⟩ t0 (fun i hi => by
      have hi9 : i < 4 := hi
      rw [eW]
      rcases (show i = 0 ∨ i = 1 ∨ i = 2 ∨ i = 3 by omega) with rfl | rfl | rfl | rfl <;> simp (decide := true) only [zk_up_row, if_true, if_false, List.getD_cons_zero, List.getD_cons_succ])
    have K := kk _ _ (some (.int x)) L7 L8 P9
    simp only [eW, List.getD_cons_zero, List.getD_cons_succ] at K
    exact K
theorem zl_messageR {m : Nat} {L5 L6 L7 L8 : Option Value} (hP : zLQ len s M S tk c n r V a b cap T) (hl : len < 2147483648) (hc3 : c 3 = qM (lC s len)) (hj : n 3 = m ∧ m < c 3) (hd : 7 ≤ d)
    (kk : ∀ M' q L5, zLQ len s M' S tk c (fu n 3 (m + 1)) (fu r 3 (fu (r 3) m q)) (fu V 3 (fu (V 3) m (fun y => (dM (lC s len) m).getD y 0))) a b cap T → zk_Go l Γ mL_list d kc ks Q 840 [some (.ref 56), some (.ref a), some (.ref S), some (.int (iZ (qP (lC s len) : Int))), some (.int (iZ (m : Int))), L5, some (.int (iZ ((dM (lC s len) m).getD 0 0))), some (.int (iZ ((dM (lC s len) m).getD 1 0))), some (.int (iZ ((dM (lC s len) m).getD 2 0)))] [] M' F) : zk_Go l Γ mL_list d (kc + 1) (ks + 10) Q 686 [some (.ref 56), some (.ref a), some (.ref S), some (.int (iZ ((qP (lC s len) : Int)))), some (.int (iZ ((m : Int)))), L5, L6, L7, L8] [] M F := by
  have hT := (hP.2.1.2.2.1 3 (by decide)).1
  have h320 := hP.1.1
  have qb := q_bd (lC s len)
  rw [hc3] at hj
  refine gz_iload dL_list_686 rfl ?_
  refine gz_aload_n dL_list_688 rfl ?_
  refine gl_tab 3 dL_list_689 wf_HeliographsLaw_127 hP.2.1 (by decide) ?_
  refine gq_len (k := 3) dL_list_692 hP (by decide) ?_
  rw [hc3]
  refine zz_icmp_ge (tgt := 910) dL_list_693 rfl (by omega) (fun b693 => ?_) (fun b693 => ?_)
  · exact absurd b693 (by omega)
  refine gz_aload_n dL_list_696 rfl ?_
  refine zz_bipush (x := 8) dL_list_697 rfl ?_
  refine gz_iload dL_list_699 rfl ?_
  refine zz_iconst dL_list_701 ?_
  refine zz_irem dL_list_702 (by omega) ?_
  refine zz_iadd dL_list_703 ?_
  refine gl_cell (8 + m % 2) dL_list_704 hP.1 hl (by omega) (by omega) (Nat.le_of_ble_eq_true rfl) (by omega) ?_
  refine zz_iconst dL_list_707 ?_
  refine gz_iload dL_list_708 rfl ?_
  refine zz_iconst dL_list_710 ?_
  refine zz_idiv dL_list_711 (by omega) ?_
  refine zz_imul dL_list_712 ?_
  refine gz_ishr dL_list_713 ?_
  obtain ⟨x, hx⟩ : ∃ z, sh (lC s len (8 + m % 2)) (4 * ((m / 2 : Nat) : Int)) = z := ⟨_, rfl⟩
  refine gz_istore (L2 := [some (.ref 56), some (.ref a), some (.ref S), some (.int (iZ ((qP (lC s len) : Int)))), some (.int (iZ ((m : Int)))), some (.int (x)), L6, L7, L8]) dL_list_714 (Nat.le_of_ble_eq_true rfl) (by rw [← hx]; rfl) ?_
  refine zz_iconst dL_list_716 ?_
  refine gz_iload dL_list_717 rfl ?_
  refine gz_iload dL_list_719 rfl ?_
  refine zz_bipush (x := 6) dL_list_721 rfl ?_
  refine gz_ishr dL_list_723 ?_
  refine zz_iconst dL_list_724 ?_
  refine gl_below (v := (sh x 6)) (z := 3) dL_list_725 (by omega) (Nat.le_of_ble_eq_true rfl) (by omega) ?_
  have e1 := lB_bd (sh x 6) (n := 3) (by omega)
  refine zz_if_ne (tgt := 736) dL_list_728 rfl (by omega) (fun b728 => ?_) (fun b728 => ?_)
  ·
    refine zz_bipush (x := 9) dL_list_736 rfl ?_
    refine gl_below (v := x) (z := 9) dL_list_738 (by omega) (Nat.le_of_ble_eq_true rfl) (by omega) ?_
    have e2 := lB_bd x (n := 9) (by omega)
    refine zz_iadd dL_list_741 ?_
    refine gz_istore (L2 := [some (.ref 56), some (.ref a), some (.ref S), some (.int (iZ ((qP (lC s len) : Int)))), some (.int (iZ ((m : Int)))), some (.int (x)), some (.int (iZ ((1 + (lB x 9))))), L7, L8]) dL_list_742 (Nat.le_of_ble_eq_true rfl) rfl ?_
    refine gz_iload dL_list_744 rfl ?_
    refine zz_iconst dL_list_746 ?_
    refine gz_ishr dL_list_747 ?_
    refine gz_iload_n dL_list_748 rfl ?_
    refine gl_below (v := (sh x 2)) (z := (qP (lC s len) : Int)) dL_list_749 (by omega) (Nat.le_of_ble_eq_true rfl) (by omega) ?_
    have e3 := lB_bd (sh x 2) (n := (qP (lC s len) : Int)) (by omega)
    refine gz_istore (L2 := [some (.ref 56), some (.ref a), some (.ref S), some (.int (iZ ((qP (lC s len) : Int)))), some (.int (iZ ((m : Int)))), some (.int (x)), some (.int (iZ ((1 + (lB x 9))))), some (.int (iZ ((lB (sh x 2) (qP (lC s len) : Int))))), L8]) dL_list_752 (Nat.le_of_ble_eq_true rfl) rfl ?_
    refine gz_iload dL_list_754 rfl ?_
    refine zz_iconst dL_list_756 ?_
    refine zz_iadd dL_list_757 ?_
    refine gz_iload dL_list_758 rfl ?_
    refine zz_iconst dL_list_760 ?_
    refine gz_ishr dL_list_761 ?_
    refine gz_iload_n dL_list_762 rfl ?_
    refine zz_iconst dL_list_763 ?_
    refine zz_isub dL_list_764 ?_
    refine gl_below (v := (sh x 5)) (z := ((qP (lC s len) : Int) - 1)) dL_list_765 (by omega) (Nat.le_of_ble_eq_true rfl) (by omega) ?_
    have e4 := lB_bd (sh x 5) (n := ((qP (lC s len) : Int) - 1)) (by omega)
    refine zz_iadd dL_list_768 ?_
    refine gz_iload_n dL_list_769 rfl ?_
    refine zz_irem dL_list_770 (by omega) ?_
    refine gz_istore (L2 := [some (.ref 56), some (.ref a), some (.ref S), some (.int (iZ ((qP (lC s len) : Int)))), some (.int (iZ ((m : Int)))), some (.int (x)), some (.int (iZ ((1 + (lB x 9))))), some (.int (iZ ((lB (sh x 2) (qP (lC s len) : Int))))), some (.int (iZ (((((lB (sh x 2) (qP (lC s len) : Int)) + 1) + (lB (sh x 5) ((qP (lC s len) : Int) - 1))) % (qP (lC s len) : Int)))))]) dL_list_771 (Nat.le_of_ble_eq_true rfl) rfl ?_
    refine gz_aload_n dL_list_773 rfl ?_
    refine gl_tab 3 dL_list_774 wf_HeliographsLaw_127 hP.2.1 (by decide) ?_
    refine gz_iload dL_list_777 rfl ?_
    refine zz_bipush (x := 10) dL_list_779 rfl ?_
    refine gq_newa (N := 10) dL_list_781 rfl (by omega) (fun A0 o0 z0 t0 w0 => ?_)
    have P1 := hP.ol o0
    refine gz_dup dL_list_783 rfl ?_
    refine zz_iconst dL_list_784 ?_
    refine gz_iload dL_list_785 rfl ?_
    refine gz_iast (n := 0) dL_list_787 t0 (by show 320 ≤ _; omega) rfl (by omega) ?_
    refine gz_dup dL_list_788 rfl ?_
    refine zz_iconst dL_list_789 ?_
    refine gz_iload dL_list_790 rfl ?_
    refine gz_iast (n := 1) dL_list_792 t0 (by show 320 ≤ _; omega) rfl (by omega) ?_
    refine gz_dup dL_list_793 rfl ?_
    refine zz_iconst dL_list_794 ?_
    refine gz_iload dL_list_795 rfl ?_
    refine gz_iast (n := 2) dL_list_797 t0 (by show 320 ≤ _; omega) rfl (by omega) ?_
    refine gz_dup dL_list_798 rfl ?_
    refine zz_iconst dL_list_799 ?_
    refine gz_iload dL_list_800 rfl ?_
    refine zz_iconst dL_list_802 ?_
    refine gz_ishr dL_list_803 ?_
    refine zz_bipush (x := 30) dL_list_804 rfl ?_
    refine gl_below (v := (sh x 3)) (z := 30) dL_list_806 (by omega) (Nat.le_of_ble_eq_true rfl) (by omega) ?_
    have e5 := lB_bd (sh x 3) (n := 30) (by omega)
    refine gz_iast (n := 3) dL_list_809 t0 (by show 320 ≤ _; omega) rfl (by omega) ?_
    refine gz_dup dL_list_810 rfl ?_
    refine zz_iconst dL_list_811 ?_
    refine zz_iconst dL_list_812 ?_
    refine gz_iast (n := 4) dL_list_813 t0 (by show 320 ≤ _; omega) rfl (by omega) ?_
    refine gz_dup dL_list_814 rfl ?_
    refine zz_iconst dL_list_815 ?_
    refine zz_iconst dL_list_816 ?_
    refine gz_iast (n := 5) dL_list_817 t0 (by show 320 ≤ _; omega) rfl (by omega) ?_
    refine gz_dup dL_list_818 rfl ?_
    refine zz_bipush (x := 6) dL_list_819 rfl ?_
    refine gz_iload dL_list_821 rfl ?_
    refine gz_iast (n := 6) dL_list_823 t0 (by show 320 ≤ _; omega) rfl (by omega) ?_
    refine gz_dup dL_list_824 rfl ?_
    refine zz_bipush (x := 7) dL_list_825 rfl ?_
    refine zz_iconst dL_list_827 ?_
    refine gz_iast (n := 7) dL_list_828 t0 (by show 320 ≤ _; omega) rfl (by omega) ?_
    refine gz_dup dL_list_829 rfl ?_
    refine zz_bipush (x := 8) dL_list_830 rfl ?_
    refine zz_iconst dL_list_832 ?_
    refine gz_iast (n := 8) dL_list_833 t0 (by show 320 ≤ _; omega) rfl (by omega) ?_
    refine gz_dup dL_list_834 rfl ?_
    refine zz_bipush (x := 9) dL_list_835 rfl ?_
    refine zz_iconst dL_list_837 ?_
    refine gz_iast (n := 9) dL_list_838 t0 (by show 320 ≤ _; omega) rfl (by omega) ?_
    refine gz_aastI (n := m) dL_list_839 ((o0.2.1 _ hT.2.2).trans hT.1) hT.2.1 rfl (by omega) t0 (by show 320 ≤ _; omega) ?_
    have eW : dM (lC s len) m = [(1 + (lB x 9)), (lB (sh x 2) (qP (lC s len) : Int)), ((((lB (sh x 2) (qP (lC s len) : Int)) + 1) + (lB (sh x 5) ((qP (lC s len) : Int) - 1))) % (qP (lC s len) : Int)), (lB (sh x 3) 30), 0, -1, (1 + (lB x 9)), 0, -1, 0] := by
      unfold dM
      dsimp only
      try rw [hx]
      simp only [if_neg b728]
    have P9 := hP.push (W := fun y => (dM (lC s len) m).getD y 0) ((((((((((o0.up (q := M.2.1) (i := 0) (v := .int (iZ ((1 + (lB x 9))))) (Nat.le_refl _)).up (q := M.2.1) (i := 1) (v := .int (iZ ((lB (sh x 2) (qP (lC s len) : Int))))) (Nat.le_refl _)).up (q := M.2.1) (i := 2) (v := .int (iZ (((((lB (sh x 2) (qP (lC s len) : Int)) + 1) + (lB (sh x 5) ((qP (lC s len) : Int) - 1))) % (qP (lC s len) : Int))))) (Nat.le_refl _)).up (q := M.2.1) (i := 3) (v := .int (iZ ((lB (sh x 3) 30)))) (Nat.le_refl _)).up (q := M.2.1) (i := 4) (v := .int (iZ (0))) (Nat.le_refl _)).up (q := M.2.1) (i := 5) (v := .int (iZ (-1))) (Nat.le_refl _)).up (q := M.2.1) (i := 6) (v := .int (iZ ((1 + (lB x 9))))) (Nat.le_refl _)).up (q := M.2.1) (i := 7) (v := .int (iZ (0))) (Nat.le_refl _)).up (q := M.2.1) (i := 8) (v := .int (iZ (-1))) (Nat.le_refl _)).up (q := M.2.1) (i := 9) (v := .int (iZ (0))) (Nat.le_refl _)) (show 3 < 5 by decide) hj.1 ⟨Nat.le_refl _, by show M.2.1 < A0.2.1; omega⟩ t0 (fun i hi => by
      have hi9 : i < 10 := hi
      rw [eW]
      rcases (show i = 0 ∨ i = 1 ∨ i = 2 ∨ i = 3 ∨ i = 4 ∨ i = 5 ∨ i = 6 ∨ i = 7 ∨ i = 8 ∨ i = 9 by omega) with rfl | rfl | rfl | rfl | rfl | rfl | rfl | rfl | rfl | rfl <;> simp (decide := true) only [zk_up_row, if_true, if_false, List.getD_cons_zero, List.getD_cons_succ])
    have K := kk _ _ (some (.int x)) P9
    simp only [eW, List.getD_cons_zero, List.getD_cons_succ] at K
    exact K
  ·
    refine zz_bipush (x := 40) dL_list_731 rfl ?_
    refine gz_goto (tgt := 738) dL_list_733 rfl ?_
    refine gl_below (v := x) (z := 40) dL_list_738 (by omega) (Nat.le_of_ble_eq_true rfl) (by omega) ?_
    have e2 := lB_bd x (n := 40) (by omega)
    refine zz_iadd dL_list_741 ?_
    refine gz_istore (L2 := [some (.ref 56), some (.ref a), some (.ref S), some (.int (iZ ((qP (lC s len) : Int)))), some (.int (iZ ((m : Int)))), some (.int (x)), some (.int (iZ ((1 + (lB x 40))))), L7, L8]) dL_list_742 (Nat.le_of_ble_eq_true rfl) rfl ?_
    refine gz_iload dL_list_744 rfl ?_
    refine zz_iconst dL_list_746 ?_
    refine gz_ishr dL_list_747 ?_
    refine gz_iload_n dL_list_748 rfl ?_
    refine gl_below (v := (sh x 2)) (z := (qP (lC s len) : Int)) dL_list_749 (by omega) (Nat.le_of_ble_eq_true rfl) (by omega) ?_
    have e3 := lB_bd (sh x 2) (n := (qP (lC s len) : Int)) (by omega)
    refine gz_istore (L2 := [some (.ref 56), some (.ref a), some (.ref S), some (.int (iZ ((qP (lC s len) : Int)))), some (.int (iZ ((m : Int)))), some (.int (x)), some (.int (iZ ((1 + (lB x 40))))), some (.int (iZ ((lB (sh x 2) (qP (lC s len) : Int))))), L8]) dL_list_752 (Nat.le_of_ble_eq_true rfl) rfl ?_
    refine gz_iload dL_list_754 rfl ?_
    refine zz_iconst dL_list_756 ?_
    refine zz_iadd dL_list_757 ?_
    refine gz_iload dL_list_758 rfl ?_
    refine zz_iconst dL_list_760 ?_
    refine gz_ishr dL_list_761 ?_
    refine gz_iload_n dL_list_762 rfl ?_
    refine zz_iconst dL_list_763 ?_
    refine zz_isub dL_list_764 ?_
    refine gl_below (v := (sh x 5)) (z := ((qP (lC s len) : Int) - 1)) dL_list_765 (by omega) (Nat.le_of_ble_eq_true rfl) (by omega) ?_
    have e4 := lB_bd (sh x 5) (n := ((qP (lC s len) : Int) - 1)) (by omega)
    refine zz_iadd dL_list_768 ?_
    refine gz_iload_n dL_list_769 rfl ?_
    refine zz_irem dL_list_770 (by omega) ?_
    refine gz_istore (L2 := [some (.ref 56), some (.ref a), some (.ref S), some (.int (iZ ((qP (lC s len) : Int)))), some (.int (iZ ((m : Int)))), some (.int (x)), some (.int (iZ ((1 + (lB x 40))))), some (.int (iZ ((lB (sh x 2) (qP (lC s len) : Int))))), some (.int (iZ (((((lB (sh x 2) (qP (lC s len) : Int)) + 1) + (lB (sh x 5) ((qP (lC s len) : Int) - 1))) % (qP (lC s len) : Int)))))]) dL_list_771 (Nat.le_of_ble_eq_true rfl) rfl ?_
    refine gz_aload_n dL_list_773 rfl ?_
    refine gl_tab 3 dL_list_774 wf_HeliographsLaw_127 hP.2.1 (by decide) ?_
    refine gz_iload dL_list_777 rfl ?_
    refine zz_bipush (x := 10) dL_list_779 rfl ?_
    refine gq_newa (N := 10) dL_list_781 rfl (by omega) (fun A0 o0 z0 t0 w0 => ?_)
    have P1 := hP.ol o0
    refine gz_dup dL_list_783 rfl ?_
    refine zz_iconst dL_list_784 ?_
    refine gz_iload dL_list_785 rfl ?_
    refine gz_iast (n := 0) dL_list_787 t0 (by show 320 ≤ _; omega) rfl (by omega) ?_
    refine gz_dup dL_list_788 rfl ?_
    refine zz_iconst dL_list_789 ?_
    refine gz_iload dL_list_790 rfl ?_
    refine gz_iast (n := 1) dL_list_792 t0 (by show 320 ≤ _; omega) rfl (by omega) ?_
    refine gz_dup dL_list_793 rfl ?_
    refine zz_iconst dL_list_794 ?_
    refine gz_iload dL_list_795 rfl ?_
    refine gz_iast (n := 2) dL_list_797 t0 (by show 320 ≤ _; omega) rfl (by omega) ?_
    refine gz_dup dL_list_798 rfl ?_
    refine zz_iconst dL_list_799 ?_
    refine gz_iload dL_list_800 rfl ?_
    refine zz_iconst dL_list_802 ?_
    refine gz_ishr dL_list_803 ?_
    refine zz_bipush (x := 30) dL_list_804 rfl ?_
    refine gl_below (v := (sh x 3)) (z := 30) dL_list_806 (by omega) (Nat.le_of_ble_eq_true rfl) (by omega) ?_
    have e5 := lB_bd (sh x 3) (n := 30) (by omega)
    refine gz_iast (n := 3) dL_list_809 t0 (by show 320 ≤ _; omega) rfl (by omega) ?_
    refine gz_dup dL_list_810 rfl ?_
    refine zz_iconst dL_list_811 ?_
    refine zz_iconst dL_list_812 ?_
    refine gz_iast (n := 4) dL_list_813 t0 (by show 320 ≤ _; omega) rfl (by omega) ?_
    refine gz_dup dL_list_814 rfl ?_
    refine zz_iconst dL_list_815 ?_
    refine zz_iconst dL_list_816 ?_
    refine gz_iast (n := 5) dL_list_817 t0 (by show 320 ≤ _; omega) rfl (by omega) ?_
    refine gz_dup dL_list_818 rfl ?_
    refine zz_bipush (x := 6) dL_list_819 rfl ?_
    refine gz_iload dL_list_821 rfl ?_
    refine gz_iast (n := 6) dL_list_823 t0 (by show 320 ≤ _; omega) rfl (by omega) ?_
    refine gz_dup dL_list_824 rfl ?_
    refine zz_bipush (x := 7) dL_list_825 rfl ?_
    refine zz_iconst dL_list_827 ?_
    refine gz_iast (n := 7) dL_list_828 t0 (by show 320 ≤ _; omega) rfl (by omega) ?_
    refine gz_dup dL_list_829 rfl ?_
    refine zz_bipush (x := 8) dL_list_830 rfl ?_
    refine zz_iconst dL_list_832 ?_
    refine gz_iast (n := 8) dL_list_833 t0 (by show 320 ≤ _; omega) rfl (by omega) ?_
    refine gz_dup dL_list_834 rfl ?_
    refine zz_bipush (x := 9) dL_list_835 rfl ?_
    refine zz_iconst dL_list_837 ?_
    refine gz_iast (n := 9) dL_list_838 t0 (by show 320 ≤ _; omega) rfl (by omega) ?_
    refine gz_aastI (n := m) dL_list_839 ((o0.2.1 _ hT.2.2).trans hT.1) hT.2.1 rfl (by omega) t0 (by show 320 ≤ _; omega) ?_
    have eW : dM (lC s len) m = [(1 + (lB x 40)), (lB (sh x 2) (qP (lC s len) : Int)), ((((lB (sh x 2) (qP (lC s len) : Int)) + 1) + (lB (sh x 5) ((qP (lC s len) : Int) - 1))) % (qP (lC s len) : Int)), (lB (sh x 3) 30), 0, -1, (1 + (lB x 40)), 0, -1, 0] := by
      unfold dM
      dsimp only
      try rw [hx]
      simp only [if_pos b728]
    have P9 := hP.push (W := fun y => (dM (lC s len) m).getD y 0) ((((((((((o0.up (q := M.2.1) (i := 0) (v := .int (iZ ((1 + (lB x 40))))) (Nat.le_refl _)).up (q := M.2.1) (i := 1) (v := .int (iZ ((lB (sh x 2) (qP (lC s len) : Int))))) (Nat.le_refl _)).up (q := M.2.1) (i := 2) (v := .int (iZ (((((lB (sh x 2) (qP (lC s len) : Int)) + 1) + (lB (sh x 5) ((qP (lC s len) : Int) - 1))) % (qP (lC s len) : Int))))) (Nat.le_refl _)).up (q := M.2.1) (i := 3) (v := .int (iZ ((lB (sh x 3) 30)))) (Nat.le_refl _)).up (q := M.2.1) (i := 4) (v := .int (iZ (0))) (Nat.le_refl _)).up (q := M.2.1) (i := 5) (v := .int (iZ (-1))) (Nat.le_refl _)).up (q := M.2.1) (i := 6) (v := .int (iZ ((1 + (lB x 40))))) (Nat.le_refl _)).up (q := M.2.1) (i := 7) (v := .int (iZ (0))) (Nat.le_refl _)).up (q := M.2.1) (i := 8) (v := .int (iZ (-1))) (Nat.le_refl _)).up (q := M.2.1) (i := 9) (v := .int (iZ (0))) (Nat.le_refl _)) (show 3 < 5 by decide) hj.1 ⟨Nat.le_refl _, by show M.2.1 < A0.2.1; omega⟩ t0 (fun i hi => by
      have hi9 : i < 10 := hi
      rw [eW]
      rcases (show i = 0 ∨ i = 1 ∨ i = 2 ∨ i = 3 ∨ i = 4 ∨ i = 5 ∨ i = 6 ∨ i = 7 ∨ i = 8 ∨ i = 9 by omega) with rfl | rfl | rfl | rfl | rfl | rfl | rfl | rfl | rfl | rfl <;> simp (decide := true) only [zk_up_row, if_true, if_false, List.getD_cons_zero, List.getD_cons_succ])
    have K := kk _ _ (some (.int x)) P9
    simp only [eW, List.getD_cons_zero, List.getD_cons_succ] at K
    exact K
theorem zl_holdR {k : Nat} {L5 L6 L7 L8 : Option Value} (hP : zLQ len s M S tk c n r V a b cap T) (hl : len < 2147483648) (hc1 : c 1 = qW (lC s len)) (hc3 : c 3 = qM (lC s len)) (hc4 : c 4 = qH (lC s len)) (hj : n 4 = k ∧ k < c 4) (hd : 7 ≤ d)
    (kk : ∀ M' q L5 L7 L8, zLQ len s M' S tk c (fu n 4 (k + 1)) (fu r 4 (fu (r 4) k q)) (fu V 4 (fu (V 4) k (fun y => (dH (lC s len) k).getD y 0))) a b cap T → zk_Go l Γ mL_list d kc ks Q 1045 [some (.ref 56), some (.ref a), some (.ref S), some (.int (iZ (qP (lC s len) : Int))), some (.int (iZ (k : Int))), L5, some (.ref q), L7, L8] [] M' F) : zk_Go l Γ mL_list d (kc + 1) (ks + 6) Q 930 [some (.ref 56), some (.ref a), some (.ref S), some (.int (iZ ((qP (lC s len) : Int)))), some (.int (iZ ((k : Int)))), L5, L6, L7, L8] [] M F := by
  have hT := (hP.2.1.2.2.1 4 (by decide)).1
  have h320 := hP.1.1
  have qb := q_bd (lC s len)
  rw [hc4] at hj
  refine gz_iload dL_list_930 rfl ?_
  refine gz_aload_n dL_list_932 rfl ?_
  refine gl_tab 4 dL_list_933 wf_HeliographsLaw_140 hP.2.1 (by decide) ?_
  refine gq_len (k := 4) dL_list_936 hP (by decide) ?_
  rw [hc4]
  refine zz_icmp_ge (tgt := 1083) dL_list_937 rfl (by omega) (fun b937 => ?_) (fun b937 => ?_)
  · exact absurd b937 (by omega)
  refine gz_aload_n dL_list_940 rfl ?_
  refine zz_bipush (x := 11) dL_list_941 rfl ?_
  refine gz_iload dL_list_943 rfl ?_
  refine zz_iadd dL_list_945 ?_
  refine gl_cell (11 + k) dL_list_946 hP.1 hl (by omega) (by omega) (Nat.le_of_ble_eq_true rfl) (by omega) ?_
  obtain ⟨x, hx⟩ : ∃ z, lC s len (11 + k) = z := ⟨_, rfl⟩
  refine gz_istore (L2 := [some (.ref 56), some (.ref a), some (.ref S), some (.int (iZ ((qP (lC s len) : Int)))), some (.int (iZ ((k : Int)))), some (.int (x)), L6, L7, L8]) dL_list_949 (Nat.le_of_ble_eq_true rfl) (by rw [← hx]; rfl) ?_
  refine zz_bipush (x := 6) dL_list_951 rfl ?_
  refine gq_newa (N := 6) dL_list_953 rfl (by omega) (fun A0 o0 z0 t0 w0 => ?_)
  have P1 := hP.ol o0
  refine gz_dup dL_list_955 rfl ?_
  refine zz_iconst dL_list_956 ?_
  refine gz_iload dL_list_957 rfl ?_
  refine gz_aload_n dL_list_959 rfl ?_
  refine gl_tab 3 dL_list_960 wf_HeliographsLaw_127 (hP.ol o0).2.1 (by decide) ?_
  refine gq_len (k := 3) dL_list_963 (hP.ol o0) (by decide) ?_
  rw [hc3]
  refine gl_below (v := x) (z := (qM (lC s len) : Int)) dL_list_964 (by omega) (Nat.le_of_ble_eq_true rfl) (by omega) ?_
  have e1 := lB_bd x (n := (qM (lC s len) : Int)) (by omega)
  refine gz_iast (n := 0) dL_list_967 t0 (by show 320 ≤ _; omega) rfl (by omega) ?_
  refine gz_dup dL_list_968 rfl ?_
  refine zz_iconst dL_list_969 ?_
  refine gz_iload dL_list_970 rfl ?_
  refine zz_iconst dL_list_972 ?_
  refine gz_ishr dL_list_973 ?_
  refine zz_bipush (x := 8) dL_list_974 rfl ?_
  refine gl_below (v := (sh x 3)) (z := 8) dL_list_976 (by omega) (Nat.le_of_ble_eq_true rfl) (by omega) ?_
  have e2 := lB_bd (sh x 3) (n := 8) (by omega)
  refine gz_iast (n := 1) dL_list_979 t0 (by show 320 ≤ _; omega) rfl (by omega) ?_
  refine gz_dup dL_list_980 rfl ?_
  refine zz_iconst dL_list_981 ?_
  refine gz_iload dL_list_982 rfl ?_
  refine zz_bipush (x := 6) dL_list_984 rfl ?_
  refine gz_ishr dL_list_986 ?_
  refine zz_bipush (x := 120) dL_list_987 rfl ?_
  refine gl_below (v := (sh x 6)) (z := 120) dL_list_989 (by omega) (Nat.le_of_ble_eq_true rfl) (by omega) ?_
  have e3 := lB_bd (sh x 6) (n := 120) (by omega)
  refine gz_iast (n := 2) dL_list_992 t0 (by show 320 ≤ _; omega) rfl (by omega) ?_
  refine gz_dup dL_list_993 rfl ?_
  refine zz_iconst dL_list_994 ?_
  refine gz_iload dL_list_995 rfl ?_
  refine zz_iconst dL_list_997 ?_
  refine gz_ishr dL_list_998 ?_
  refine gz_iload_n dL_list_999 rfl ?_
  refine gl_below (v := (sh x 2)) (z := (qP (lC s len) : Int)) dL_list_1000 (by omega) (Nat.le_of_ble_eq_true rfl) (by omega) ?_
  have e4 := lB_bd (sh x 2) (n := (qP (lC s len) : Int)) (by omega)
  refine gz_iast (n := 3) dL_list_1003 t0 (by show 320 ≤ _; omega) rfl (by omega) ?_
  refine gz_dup dL_list_1004 rfl ?_
  refine zz_iconst dL_list_1005 ?_
  refine gz_iload dL_list_1006 rfl ?_
  refine zz_iconst dL_list_1008 ?_
  refine gz_ishr dL_list_1009 ?_
  refine gz_aload_n dL_list_1010 rfl ?_
  refine gl_tab 1 dL_list_1011 wf_HeliographsLaw_103 (hP.ol ((((o0.up (q := M.2.1) (i := 0) (v := .int (iZ ((lB x (qM (lC s len) : Int))))) (Nat.le_refl _)).up (q := M.2.1) (i := 1) (v := .int (iZ ((lB (sh x 3) 8)))) (Nat.le_refl _)).up (q := M.2.1) (i := 2) (v := .int (iZ ((lB (sh x 6) 120)))) (Nat.le_refl _)).up (q := M.2.1) (i := 3) (v := .int (iZ ((lB (sh x 2) (qP (lC s len) : Int))))) (Nat.le_refl _))).2.1 (by decide) ?_
  refine gq_len (k := 1) dL_list_1014 (hP.ol ((((o0.up (q := M.2.1) (i := 0) (v := .int (iZ ((lB x (qM (lC s len) : Int))))) (Nat.le_refl _)).up (q := M.2.1) (i := 1) (v := .int (iZ ((lB (sh x 3) 8)))) (Nat.le_refl _)).up (q := M.2.1) (i := 2) (v := .int (iZ ((lB (sh x 6) 120)))) (Nat.le_refl _)).up (q := M.2.1) (i := 3) (v := .int (iZ ((lB (sh x 2) (qP (lC s len) : Int))))) (Nat.le_refl _))) (by decide) ?_
  rw [hc1]
  refine gl_below (v := (sh x 4)) (z := (qW (lC s len) : Int)) dL_list_1015 (by omega) (Nat.le_of_ble_eq_true rfl) (by omega) ?_
  have e5 := lB_bd (sh x 4) (n := (qW (lC s len) : Int)) (by omega)
  refine gz_iast (n := 4) dL_list_1018 t0 (by show 320 ≤ _; omega) rfl (by omega) ?_
  refine gz_dup dL_list_1019 rfl ?_
  refine zz_iconst dL_list_1020 ?_
  refine gz_iload dL_list_1021 rfl ?_
  refine zz_iconst dL_list_1023 ?_
  refine gz_ishr dL_list_1024 ?_
  refine gz_aload_n dL_list_1025 rfl ?_
  refine gl_tab 3 dL_list_1026 wf_HeliographsLaw_127 (hP.ol (((((o0.up (q := M.2.1) (i := 0) (v := .int (iZ ((lB x (qM (lC s len) : Int))))) (Nat.le_refl _)).up (q := M.2.1) (i := 1) (v := .int (iZ ((lB (sh x 3) 8)))) (Nat.le_refl _)).up (q := M.2.1) (i := 2) (v := .int (iZ ((lB (sh x 6) 120)))) (Nat.le_refl _)).up (q := M.2.1) (i := 3) (v := .int (iZ ((lB (sh x 2) (qP (lC s len) : Int))))) (Nat.le_refl _)).up (q := M.2.1) (i := 4) (v := .int (iZ ((lB (sh x 4) (qW (lC s len) : Int))))) (Nat.le_refl _))).2.1 (by decide) ?_
  refine gq_len (k := 3) dL_list_1029 (hP.ol (((((o0.up (q := M.2.1) (i := 0) (v := .int (iZ ((lB x (qM (lC s len) : Int))))) (Nat.le_refl _)).up (q := M.2.1) (i := 1) (v := .int (iZ ((lB (sh x 3) 8)))) (Nat.le_refl _)).up (q := M.2.1) (i := 2) (v := .int (iZ ((lB (sh x 6) 120)))) (Nat.le_refl _)).up (q := M.2.1) (i := 3) (v := .int (iZ ((lB (sh x 2) (qP (lC s len) : Int))))) (Nat.le_refl _)).up (q := M.2.1) (i := 4) (v := .int (iZ ((lB (sh x 4) (qW (lC s len) : Int))))) (Nat.le_refl _))) (by decide) ?_
  rw [hc3]
  refine gl_below (v := (sh x 5)) (z := (qM (lC s len) : Int)) dL_list_1030 (by omega) (Nat.le_of_ble_eq_true rfl) (by omega) ?_
  have e6 := lB_bd (sh x 5) (n := (qM (lC s len) : Int)) (by omega)
  refine gz_iast (n := 5) dL_list_1033 t0 (by show 320 ≤ _; omega) rfl (by omega) ?_
  refine gz_astore (L2 := [some (.ref 56), some (.ref a), some (.ref S), some (.int (iZ ((qP (lC s len) : Int)))), some (.int (iZ ((k : Int)))), some (.int (x)), some (.ref M.2.1), L7, L8]) dL_list_1034 (Nat.le_of_ble_eq_true rfl) rfl ?_
  refine gz_aload_n dL_list_1036 rfl ?_
  refine gl_tab 4 dL_list_1037 wf_HeliographsLaw_140 (hP.ol ((((((o0.up (q := M.2.1) (i := 0) (v := .int (iZ ((lB x (qM (lC s len) : Int))))) (Nat.le_refl _)).up (q := M.2.1) (i := 1) (v := .int (iZ ((lB (sh x 3) 8)))) (Nat.le_refl _)).up (q := M.2.1) (i := 2) (v := .int (iZ ((lB (sh x 6) 120)))) (Nat.le_refl _)).up (q := M.2.1) (i := 3) (v := .int (iZ ((lB (sh x 2) (qP (lC s len) : Int))))) (Nat.le_refl _)).up (q := M.2.1) (i := 4) (v := .int (iZ ((lB (sh x 4) (qW (lC s len) : Int))))) (Nat.le_refl _)).up (q := M.2.1) (i := 5) (v := .int (iZ ((lB (sh x 5) (qM (lC s len) : Int))))) (Nat.le_refl _))).2.1 (by decide) ?_
  refine gz_iload dL_list_1040 rfl ?_
  refine gz_aload dL_list_1042 rfl ?_
  refine gz_aastI (n := k) dL_list_1044 ((o0.2.1 _ hT.2.2).trans hT.1) hT.2.1 rfl (by omega) t0 (by show 320 ≤ _; omega) ?_
  have eW : dH (lC s len) k = [(lB x (qM (lC s len) : Int)), (lB (sh x 3) 8), (lB (sh x 6) 120), (lB (sh x 2) (qP (lC s len) : Int)), (lB (sh x 4) (qW (lC s len) : Int)), (lB (sh x 5) (qM (lC s len) : Int))] := by
    unfold dH
    dsimp only
    try rw [hx]
  have P9 := hP.push (W := fun y => (dH (lC s len) k).getD y 0) ((((((o0.up (q := M.2.1) (i := 0) (v := .int (iZ ((lB x (qM (lC s len) : Int))))) (Nat.le_refl _)).up (q := M.2.1) (i := 1) (v := .int (iZ ((lB (sh x 3) 8)))) (Nat.le_refl _)).up (q := M.2.1) (i := 2) (v := .int (iZ ((lB (sh x 6) 120)))) (Nat.le_refl _)).up (q := M.2.1) (i := 3) (v := .int (iZ ((lB (sh x 2) (qP (lC s len) : Int))))) (Nat.le_refl _)).up (q := M.2.1) (i := 4) (v := .int (iZ ((lB (sh x 4) (qW (lC s len) : Int))))) (Nat.le_refl _)).up (q := M.2.1) (i := 5) (v := .int (iZ ((lB (sh x 5) (qM (lC s len) : Int))))) (Nat.le_refl _)) (show 4 < 5 by decide) hj.1 ⟨Nat.le_refl _, by show M.2.1 < A0.2.1; omega⟩ t0 (fun i hi => by
    have hi9 : i < 6 := hi
    rw [eW]
    rcases (show i = 0 ∨ i = 1 ∨ i = 2 ∨ i = 3 ∨ i = 4 ∨ i = 5 by omega) with rfl | rfl | rfl | rfl | rfl | rfl <;> simp (decide := true) only [zk_up_row, if_true, if_false, List.getD_cons_zero, List.getD_cons_succ])
  exact kk _ _ (some (.int x)) L7 L8 P9
end
end

/-! THE LIST, WHOLE -/
section
variable {l : Launch} {Γ : zk_G} {d : Nat} {F : Heap → Prop}
section
variable {len : Nat} {s : Nat → Int32} {M : zk_M} {S a : Nat} {tk c n : Nat → Nat} {r : Nat → Nat → Nat} {V : Nat → Nat → Nat → Int} {b cap : Nat} {T : List Int} {kc ks : Nat} {Q : Option Value → zk_M → (Heap → Prop) → Prop}
theorem zl_holdT {k x0 x1 x2 x3 x4 x5 : Nat} {np : Int} {L5 L7 L8 : Option Value} (hP : zLQ len s M S tk c n r V a b cap T) (hj : k < n 4 ∧ k < c 4) (hx0 : V 4 k 0 = (x0 : Int)) (hx1 : V 4 k 1 = (x1 : Int)) (hx2 : V 4 k 2 = (x2 : Int)) (hx3 : V 4 k 3 = (x3 : Int)) (hx4 : V 4 k 4 = (x4 : Int)) (hx5 : V 4 k 5 = (x5 : Int)) (hb : x0 < 1000 ∧ x1 < 8 ∧ x2 < 1000 ∧ x3 < 1000 ∧ x4 < 1000 ∧ x5 < 1000) (hT : T.length + 80 ≤ 2000) (hd : 9 ≤ d)
    (kk : ∀ M' b' cap', zLQ len s M' S tk c n r V a b' cap' (T ++ tS123 ++ zDec x0 ++ tS124 ++ tTest x2 x1 x3 x4 x5 ++ tS93) → zk_Go l Γ mL_list d kc ks Q 930 [some (.ref 56), some (.ref a), some (.ref S), some (.int (iZ np)), some (.int (iZ ((k : Int) + 1))), L5, some (.ref (r 4 k)), L7, L8] [] M' F) :
    zk_Go l Γ mL_list d (kc + 17) (ks + 70500) Q 1045 [some (.ref 56), some (.ref a), some (.ref S), some (.int (iZ np)), some (.int (iZ (k : Int))), L5, some (.ref (r 4 k)), L7, L8] [] M F := by
  have l0 := zDec_le x0
  have lt := tTest_le x2 x1 x3 x4 x5
  have len1 : tS123.length = 6 := rfl
  have len2 : tS124.length = 6 := rfl
  have len3 : tS93.length = 1 := rfl
  refine gz_aload_n dL_list_1045 rfl ?_
  refine gz_ldcS (q := 123) dL_list_1046 zr_143 (by decide) ?_
  refine gq_S 123 dL_list_1048 wm_HeliographsLaw_37 (zs_123 hP.1) (by decide) hP (by rw [List.length_append]; omega) (Nat.le_of_ble_eq_true rfl) (by omega) (fun M1 b1 c1 P1 => ?_)
  refine gz_aload dL_list_1051 rfl ?_
  refine zz_iconst dL_list_1053 ?_
  refine gq_row (i := 0) (x := (x0 : Int)) dL_list_1054 P1 (show 4 < 5 by decide) hj.1 rfl (by decide) hx0 ?_
  refine gq_I (x := x0) dL_list_1055 wm_HeliographsLaw_41 P1 hb.1 (by simp only [List.length_append]; omega) (Nat.le_of_ble_eq_true rfl) (by omega) (fun M2 b2 c2 P2 => ?_)
  refine gz_ldcS (q := 124) dL_list_1058 zr_145 (by decide) ?_
  refine gq_S 124 dL_list_1060 wm_HeliographsLaw_37 (zs_124 P2.1) (by decide) P2 (by simp only [List.length_append]; omega) (Nat.le_of_ble_eq_true rfl) (by omega) (fun M3 b3 c3 P3 => ?_)
  refine gz_aload dL_list_1063 rfl ?_
  have hr := (P3.2.1.2.2.1 4 (by decide)).2 k hj.1
  refine gb_s (J := mL_test) (d1 := d - 1) [.ref (r 4 k)] _ dL_list_1065 rfl wm_HeliographsLaw_147 jzL_test rfl (Nat.le_of_ble_eq_true rfl) (Nat.le_of_ble_eq_true rfl) (by omega) ⟨by omega, by omega⟩ (zl_test (n := x2) (k := x1) (p := x3) (w := x4) (m := x5) P3.1 hr.2.2.2.1 hr.2.1 ((hr.2.2.2.2 1 (by decide)).trans (by rw [hx1])) ((hr.2.2.2.2 2 (by decide)).trans (by rw [hx2])) ((hr.2.2.2.2 3 (by decide)).trans (by rw [hx3])) ((hr.2.2.2.2 4 (by decide)).trans (by rw [hx4])) ((hr.2.2.2.2 5 (by decide)).trans (by rw [hx5])) ⟨by omega, by omega, by omega, by omega⟩ hb.2.1 (by omega)) (fun v M4 hh => ?_)
  obtain ⟨x, rfl, hx, hg, ho, hx9⟩ := hh
  have hx10 : x + 1 < M4.2.1 := hx9
  have P4 := P3.ol ho
  have hb3 := P3.2.2.1.2.1
  refine zk_Go.le (kc := kc + 2) (ks := ks + 8200) ?_ (by omega) (by omega)
  refine gl_appS (s := x) (sb := x + 1) dL_list_1068 wm_HeliographsLaw_37 P4.2.2.1 hg ⟨by omega, by omega, by omega⟩ (by simp only [List.length_append]; omega) P4.2.2.2 ⟨by omega, by omega⟩ (Nat.le_of_ble_eq_true rfl) (by omega) (fun M5 b5 c5 h1 h2 h3 => ?_)
  have P5 := P4.kp h1 h2 h3
  refine zk_Go.le (kc := kc + 1) (ks := ks + 4100) ?_ (by omega) (by omega)
  refine gz_ldcS (q := 93) dL_list_1071 zr_101 (by decide) ?_
  refine gq_S 93 dL_list_1073 wm_HeliographsLaw_37 (zs_93 P5.1) (by decide) P5 (by simp only [List.length_append]; omega) (Nat.le_of_ble_eq_true rfl) (by omega) (fun M6 b6 c6 P6 => ?_)
  refine gz_pop dL_list_1076 rfl ?_
  refine zz_iinc (L2 := [some (.ref 56), some (.ref a), some (.ref S), some (.int (iZ np)), some (.int (iZ ((k : Int) + 1))), L5, some (.ref (r 4 k)), L7, L8]) dL_list_1077 rfl rfl ?_
  refine gz_goto (tgt := 930) dL_list_1080 rfl ?_
  exact kk _ _ _ P6
end
section
variable {len : Nat} {s : Nat → Int32} {S a : Nat} {tk c : Nat → Nat} {kc ks : Nat} {Q : Option Value → zk_M → (Heap → Prop) → Prop}
theorem zl_loop4 (hl : len < 2147483648) (hc1 : c 1 = qW (lC s len)) (hc3 : c 3 = qM (lC s len)) (hc4 : c 4 = qH (lC s len)) (hd : 9 ≤ d) : ∀ (m j : Nat) (M : zk_M) (n : Nat → Nat) (r : Nat → Nat → Nat) (V : Nat → Nat → Nat → Int) (b cap : Nat) (T : List Int) (f : Nat → Nat) (L5 L6 L7 L8 : Option Value), j + m = qH (lC s len) → zLQ len s M S tk c n r V a b cap T → zPr (lC s len) n V f → f 4 = j → T.length + 80 * m ≤ 2000 →
    (∀ (M' : zk_M) (n' : Nat → Nat) (r' : Nat → Nat → Nat) (V' : Nat → Nat → Nat → Int) (b' cap' : Nat) (L5 L6 L7 L8 : Option Value), zLQ len s M' S tk c n' r' V' a b' cap' (aLs (lC s len) 4 T j m) → zPr (lC s len) n' V' (fu f 4 (qH (lC s len))) → zk_Go l Γ mL_list d kc ks Q 1083 [some (.ref 56), some (.ref a), some (.ref S), some (.int (iZ (qP (lC s len) : Int))), some (.int (iZ (qH (lC s len) : Int))), L5, L6, L7, L8] [] M' F) →
    zk_Go l Γ mL_list d (kc + 20 * m) (ks + 100000 * m) Q 930 [some (.ref 56), some (.ref a), some (.ref S), some (.int (iZ (qP (lC s len) : Int))), some (.int (iZ (j : Int))), L5, L6, L7, L8] [] M F := by
  have qb := q_bd (lC s len)
  intro m
  induction m with
  | zero =>
    intro j M n r V b cap T f L5 L6 L7 L8 hj hP hp hf hT hk
    have e : j = qH (lC s len) := by omega
    subst e
    refine gz_iload dL_list_930 rfl ?_
    refine gz_aload_n dL_list_932 rfl ?_
    refine gl_tab 4 dL_list_933 wf_HeliographsLaw_140 hP.2.1 (by decide) ?_
    refine gq_len (k := 4) dL_list_936 hP (by decide) ?_
    rw [hc4]
    refine zz_icmp_ge (tgt := 1083) dL_list_937 rfl (by omega) (fun bz => ?_) (fun bz => ?_)
    rotate_left
    · exact absurd bz (by omega)
    refine (hk M n r V b cap L5 L6 L7 L8 hP (hp.same (fun k' hk' => ?_))).le (by omega) (by omega)
    by_cases q : k' = 4
    · rw [q, fu_a]; exact hf.symm
    · exact fu_n q
  | succ m ih =>
    intro j M n r V b cap T f L5 L6 L7 L8 hj hP hp hf hT hk
    have hnj : n 4 = j := ((hp 4 (by decide)).1).trans hf
    have al := aL_len (lC s len) 4 j T
    have bd := dH_bd (C := lC s len) j
    obtain ⟨x0, hx0⟩ : ∃ z : Nat, (dH (lC s len) j).getD 0 0 = (z : Int) := ⟨((dH (lC s len) j).getD 0 0).toNat, by omega⟩
    obtain ⟨x1, hx1⟩ : ∃ z : Nat, (dH (lC s len) j).getD 1 0 = (z : Int) := ⟨((dH (lC s len) j).getD 1 0).toNat, by omega⟩
    obtain ⟨x2, hx2⟩ : ∃ z : Nat, (dH (lC s len) j).getD 2 0 = (z : Int) := ⟨((dH (lC s len) j).getD 2 0).toNat, by omega⟩
    obtain ⟨x3, hx3⟩ : ∃ z : Nat, (dH (lC s len) j).getD 3 0 = (z : Int) := ⟨((dH (lC s len) j).getD 3 0).toNat, by omega⟩
    obtain ⟨x4, hx4⟩ : ∃ z : Nat, (dH (lC s len) j).getD 4 0 = (z : Int) := ⟨((dH (lC s len) j).getD 4 0).toNat, by omega⟩
    obtain ⟨x5, hx5⟩ : ∃ z : Nat, (dH (lC s len) j).getD 5 0 = (z : Int) := ⟨((dH (lC s len) j).getD 5 0).toNat, by omega⟩
    rw [hx0, hx1, hx2, hx3, hx4, hx5] at bd
    refine zk_Go.le (zl_holdR (kc := kc + 20 * m + 17) (ks := ks + 100000 * m + 70500) hP hl hc1 hc3 hc4 ⟨hnj, by omega⟩ (by omega) (fun M1 q L5 L7 L8 hP1 => ?_)) (by omega) (by omega)
    have eq9 : fu r 4 (fu (r 4) j q) 4 j = q := by rw [fu_a, fu_a]
    rw [← eq9]
    refine zl_holdT (k := j) (x0 := x0) (x1 := x1) (x2 := x2) (x3 := x3) (x4 := x4) (x5 := x5) hP1 ⟨by rw [fu_a]; omega, by omega⟩ (by rw [fu_a, fu_a]; exact hx0) (by rw [fu_a, fu_a]; exact hx1) (by rw [fu_a, fu_a]; exact hx2) (by rw [fu_a, fu_a]; exact hx3) (by rw [fu_a, fu_a]; exact hx4) (by rw [fu_a, fu_a]; exact hx5) ⟨by omega, by omega, by omega, by omega, by omega, by omega⟩ (by omega) (by omega) (fun M2 b2 c2 hP2 => ?_)
    have et : T ++ tS123 ++ zDec x0 ++ tS124 ++ tTest x2 x1 x3 x4 x5 ++ tS93 = aL (lC s len) 4 j T := by
      show _ = T ++ tS123 ++ zDec _ ++ tS124 ++ tTest _ _ _ _ _ ++ tS93
      rw [hx0, hx1, hx2, hx3, hx4, hx5, Int.toNat_natCast, Int.toNat_natCast, Int.toNat_natCast, Int.toNat_natCast, Int.toNat_natCast, Int.toNat_natCast]
    rw [et] at hP2
    exact (ih (j + 1) _ _ _ _ _ _ _ (fu f 4 (j + 1)) _ _ _ _ (by omega) hP2 (hp.push (k := 4) hf) fu_a (by omega) (fun M9 n9 r9 V9 b9 c9 L5 L6 L7 L8 hP9 hp9 => hk M9 n9 r9 V9 b9 c9 L5 L6 L7 L8 hP9 (by rw [fu_fu] at hp9; exact hp9)))
theorem aLs_len (C : Nat → Int32) (k : Nat) : ∀ (m j : Nat) (T : List Int), (aLs C k T j m).length ≤ T.length + 80 * m
  | 0, j, T => Nat.le_refl _
  | m + 1, j, T => by
    have h := aLs_len C k m (j + 1) (aL C k j T)
    have g := aL_len C k j T
    show (aLs C k (aL C k j T) (j + 1) m).length ≤ _
    omega
theorem aLs_len4 (C : Nat → Int32) (k : Nat) (hk : k < 4) : ∀ (m j : Nat) (T : List Int), (aLs C k T j m).length ≤ T.length + 60 * m
  | 0, j, T => Nat.le_refl _
  | m + 1, j, T => by
    have h := aLs_len4 C k hk m (j + 1) (aL C k j T)
    have g := aL_len4 C k j T hk
    show (aLs C k (aL C k j T) (j + 1) m).length ≤ _
    omega
/-- the whole text -/
def aT1 (C : Nat → Int32) : List Int := aLs C 0 [] 0 (qP C)
def aT2 (C : Nat → Int32) : List Int := aLs C 1 (aT1 C) 0 (qW C)
def aT3 (C : Nat → Int32) : List Int := aLs C 2 (aT2 C) 0 (qC C)
def aT4 (C : Nat → Int32) : List Int := aLs C 3 (aT3 C) 0 (qM C)
def aTx (C : Nat → Int32) : List Int := aLs C 4 (aT4 C) 0 (qH C)
theorem aTx_len (C : Nat → Int32) : (aT1 C).length ≤ 360 ∧ (aT2 C).length ≤ 900 ∧ (aT3 C).length ≤ 1140 ∧ (aT4 C).length ≤ 1500 ∧ (aTx C).length ≤ 1820 := by
  have q := q_bd C
  have h1 := aLs_len4 C 0 (by decide) (qP C) 0 []
  have h2 := aLs_len4 C 1 (by decide) (qW C) 0 (aT1 C)
  have h3 := aLs_len4 C 2 (by decide) (qC C) 0 (aT2 C)
  have h4 := aLs_len4 C 3 (by decide) (qM C) 0 (aT3 C)
  have h5 := aLs_len C 4 (qH C) 0 (aT4 C)
  have e0 : ([] : List Int).length = 0 := rfl
  have f1 : (aT1 C).length ≤ 360 := by unfold aT1; omega
  have f2 : (aT2 C).length ≤ 900 := by unfold aT2; omega
  have f3 : (aT3 C).length ≤ 1140 := by unfold aT3; omega
  have f4 : (aT4 C).length ≤ 1500 := by unfold aT4; omega
  have f5 : (aTx C).length ≤ 1820 := by unfold aTx; omega
  exact ⟨f1, f2, f3, f4, f5⟩
theorem zl_list {M : zk_M} {b cap : Nat} (hO : zOl0 len s M) (hB : zSB M a b cap []) (hcap : cap ≤ 4100) (hl : len < 2147483648) (hd : 12 ≤ d) : zDo l Γ mL_list d 700 3000000 [.ref 56, .ref a] M F (fun v M' => ∃ S tk c n r V b' cap', v = some (.ref S) ∧ S = M.2.1 ∧ zLQ len s M' S tk c n r V a b' cap' (aTx (lC s len)) ∧ (∀ k, k < 5 → c k = cnt (lC s len) k) ∧ zPr (lC s len) n V (cnt (lC s len))) := by
  intro Q hq
  have h320 := hO.1
  have qb := q_bd (lC s len)
  refine gz_new (k := 7) (f := fun j => defaultValue (tyX8 j)) dL_list_0 rfl wc_HeliographsLaw_74 jo_HeliographsLaw_Sim jn_HeliographsLaw_Sim ju_HeliographsLaw_Sim tyX8 tyX8_ok (fun _ _ => rfl) (fun j => zk_dv _) ⟨by omega, by omega⟩ ?_
  obtain ⟨N0, hN0⟩ : ∃ X, X = zk_add M (7, 8) (fun j => defaultValue (tyX8 j)) := ⟨_, rfl⟩
  have n1 : zOl M N0 := by rw [hN0]; exact zOl.add
  have n2 : N0.1 M.2.1 = (7, 8) ∧ N0.2.2 M.2.1 = (fun j => defaultValue (tyX8 j)) := by rw [hN0]; exact zk_add_at
  have n3 : N0.2.1 = M.2.1 + 1 := by rw [hN0]; rfl
  rw [← hN0]
  refine gz_dup dL_list_3 rfl ?_
  refine gz_invi (J := mX8_init) (d1 := d - 1) (kc1 := 5) (ks1 := 0) (n := 0) (Q1 := fun v M' F' => (v = none ∧ zLI M' M.2.1 (fun k => N0.2.1 + k) (fun _ => 0) (fun _ => 0) (fun _ _ => 0) (fun _ _ _ => 0) ∧ M'.2.1 = N0.2.1 + 5 ∧ (∀ x, x < N0.2.1 → M'.1 x = N0.1 x) ∧ ∀ x, x < N0.2.1 → x ≠ M.2.1 → M'.2.2 x = N0.2.2 x) ∧ F' = F) [] _ dL_list_4 rfl (Or.inr ⟨"HeliographsLaw", by decide⟩) jiX8_init jn_HeliographsLaw_Sim jcX8_init rfl rfl jpX8_init rfl ⟨by decide, Nat.le_of_ble_eq_true rfl⟩ (Nat.le_of_ble_eq_true rfl) (by omega) ⟨by omega, by omega⟩ (zS_init n2.1 ⟨h320, by omega⟩ n2.2 (by omega) (by omega) _ (fun v M' h => ⟨h, rfl⟩)) (fun v M1 F' hh => ?_)
  obtain ⟨⟨rfl, i1, i2, i3, i4⟩, rfl⟩ := hh
  have o1 : zOl M M1 := ⟨by omega, fun x hx => (i3 x (by omega)).trans (n1.2.1 x hx), fun x hx => (i4 x (by omega) (by omega)).trans (n1.2.2 x hx)⟩
  have P0 : zLQ len s M1 M.2.1 (fun k => N0.2.1 + k) (fun _ => 0) (fun _ => 0) (fun _ _ => 0) (fun _ _ _ => 0) a b cap [] := ⟨hO.ol o1, i1, o1.sb hB, hcap⟩
  obtain ⟨S, hS⟩ : ∃ z, z = M.2.1 := ⟨_, rfl⟩
  rw [← hS] at P0 ⊢
  refine gz_astore_n (L2 := [some (.ref 56), some (.ref a), some (.ref S), none, none, none, none, none, none]) dL_list_7 (Nat.le_of_ble_eq_true rfl) rfl ?_
  refine zz_iconst dL_list_8 ?_
  refine gz_aload_n dL_list_9 rfl ?_
  refine zz_iconst dL_list_10 ?_
  refine gl_cell 0 dL_list_11 P0.1 hl (by omega) (by omega) (Nat.le_of_ble_eq_true rfl) (by omega) ?_
  refine zz_iconst dL_list_14 ?_
  refine gl_below dL_list_15 (by omega) (Nat.le_of_ble_eq_true rfl) (by omega) ?_
  refine zz_iadd dL_list_18 ?_
  refine gz_istore_n (L2 := [some (.ref 56), some (.ref a), some (.ref S), some (.int (iZ (qP (lC s len) : Int))), none, none, none, none, none]) dL_list_19 (Nat.le_of_ble_eq_true rfl) (by rw [qb.1.2.2]; rfl) ?_
  refine gz_aload_n dL_list_20 rfl ?_
  refine gz_iload_n dL_list_21 rfl ?_
  refine zk_Go.le (kc := ((((((((((0 + 20 * qH (lC s len)) + 1) + 20 * qM (lC s len)) + 1) + 20 * qC (lC s len)) + 1) + 20 * qW (lC s len)) + 1) + 20 * qP (lC s len)) + 1)) (ks := ((((((((((0 + 100000 * qH (lC s len)) + qH (lC s len)) + 100000 * qM (lC s len)) + qM (lC s len)) + 100000 * qC (lC s len)) + qC (lC s len)) + 100000 * qW (lC s len)) + qW (lC s len)) + 100000 * qP (lC s len)) + qP (lC s len))) ?_ (by omega) (by omega)
  refine gq_anew (N := qP (lC s len)) dL_list_22 wc_HeliographsLaw_87 rfl (by omega) (fun A0 o0 z0 t0 _ => ?_)
  refine gz_putf (T := TX8) (N := 8) 3 dL_list_25 ((o0.2.1 S P0.2.1.1.2.2).trans P0.2.1.1.1) rfl wf_HeliographsLaw_89 (by omega) P0.2.1.1.2.1 jo_HeliographsLaw_Sim ju_HeliographsLaw_Sim rfl tyX8 tyX8_ok nmX8 rfl (fun _ => ⟨rfl, rfl⟩) ?_
  have R0 := P0.table (k := 0) o0 (by decide) ⟨Nat.le_refl _, by omega⟩ t0
  refine zz_iconst dL_list_28 ?_
  refine gz_istore (L2 := [some (.ref 56), some (.ref a), some (.ref S), some (.int (iZ (qP (lC s len) : Int))), some (.int (iZ 0)), none, none, none, none]) dL_list_29 (Nat.le_of_ble_eq_true rfl) rfl ?_
  have S0 : zPr (lC s len) (fu (fun _ => 0) 0 0) (fun _ _ _ => 0) (fu (fun _ => 0) 0 0) := zPr.table (k := 0) (fun k hk => ⟨rfl, fun j hj => absurd (show j < 0 from hj) (by omega)⟩)
  refine zl_loop0 (kc := ((((((((0 + 20 * qH (lC s len)) + 1) + 20 * qM (lC s len)) + 1) + 20 * qC (lC s len)) + 1) + 20 * qW (lC s len)) + 1)) (ks := ((((((((0 + 100000 * qH (lC s len)) + qH (lC s len)) + 100000 * qM (lC s len)) + qM (lC s len)) + 100000 * qC (lC s len)) + qC (lC s len)) + 100000 * qW (lC s len)) + qW (lC s len))) hl (by rfl) (by omega) (qP (lC s len)) 0 _ _ _ _ _ _ [] _ _ _ _ _ (by omega) R0 S0 fu_a (by have := aTx_len (lC s len); have e0 : ([] : List Int).length = 0 := rfl; omega) (fun M1x n1 r1 V1 b1 c1 L5 L6 L7 L8 P1 p0 => ?_)
  refine gz_aload_n dL_list_236 rfl ?_
  refine zz_iconst dL_list_237 ?_
  refine gz_aload_n dL_list_238 rfl ?_
  refine zz_iconst dL_list_239 ?_
  refine gl_cell 2 dL_list_240 P1.1 hl (by omega) (by omega) (Nat.le_of_ble_eq_true rfl) (by omega) ?_
  refine zz_bipush (x := 8) dL_list_243 rfl ?_
  refine gl_below dL_list_245 (by omega) (Nat.le_of_ble_eq_true rfl) (by omega) ?_
  refine zz_iadd dL_list_248 ?_
  refine gq_anew (N := qW (lC s len)) dL_list_249 wc_HeliographsLaw_87 (by omega) (by omega) (fun A1 o1 z1 t1 _ => ?_)
  refine gz_putf (T := TX8) (N := 8) 4 dL_list_252 ((o1.2.1 S P1.2.1.1.2.2).trans P1.2.1.1.1) rfl wf_HeliographsLaw_103 (by omega) P1.2.1.1.2.1 jo_HeliographsLaw_Sim ju_HeliographsLaw_Sim rfl tyX8 tyX8_ok nmX8 rfl (fun _ => ⟨rfl, rfl⟩) ?_
  have R1 := P1.table (k := 1) o1 (by decide) ⟨Nat.le_refl _, by omega⟩ t1
  refine zz_iconst dL_list_255 ?_
  refine gz_istore (L2 := [some (.ref 56), some (.ref a), some (.ref S), some (.int (iZ (qP (lC s len) : Int))), some (.int (iZ 0)), L5, L6, L7, L8]) dL_list_256 (Nat.le_of_ble_eq_true rfl) rfl ?_
  have S1 := p0.table (k := 1)
  refine zl_loop1 (kc := ((((((0 + 20 * qH (lC s len)) + 1) + 20 * qM (lC s len)) + 1) + 20 * qC (lC s len)) + 1)) (ks := ((((((0 + 100000 * qH (lC s len)) + qH (lC s len)) + 100000 * qM (lC s len)) + qM (lC s len)) + 100000 * qC (lC s len)) + qC (lC s len))) hl (by rfl) (by omega) (qW (lC s len)) 0 _ _ _ _ _ _ (aT1 (lC s len)) _ _ _ _ _ (by omega) R1 S1 fu_a (by have := aTx_len (lC s len); omega) (fun M2x n2 r2 V2 b2 c2 L5 L6 L7 L8 P2 p1 => ?_)
  refine gz_aload_n dL_list_462 rfl ?_
  refine gz_aload_n dL_list_463 rfl ?_
  refine zz_iconst dL_list_464 ?_
  refine gl_cell 5 dL_list_465 P2.1 hl (by omega) (by omega) (Nat.le_of_ble_eq_true rfl) (by omega) ?_
  refine zz_iconst dL_list_468 ?_
  refine gl_below dL_list_469 (by omega) (Nat.le_of_ble_eq_true rfl) (by omega) ?_
  refine gq_anew (N := qC (lC s len)) dL_list_472 wc_HeliographsLaw_87 (by omega) (by omega) (fun A2 o2 z2 t2 _ => ?_)
  refine gz_putf (T := TX8) (N := 8) 5 dL_list_475 ((o2.2.1 S P2.2.1.1.2.2).trans P2.2.1.1.1) rfl wf_HeliographsLaw_116 (by omega) P2.2.1.1.2.1 jo_HeliographsLaw_Sim ju_HeliographsLaw_Sim rfl tyX8 tyX8_ok nmX8 rfl (fun _ => ⟨rfl, rfl⟩) ?_
  have R2 := P2.table (k := 2) o2 (by decide) ⟨Nat.le_refl _, by omega⟩ t2
  refine zz_iconst dL_list_478 ?_
  refine gz_istore (L2 := [some (.ref 56), some (.ref a), some (.ref S), some (.int (iZ (qP (lC s len) : Int))), some (.int (iZ 0)), L5, L6, L7, L8]) dL_list_479 (Nat.le_of_ble_eq_true rfl) rfl ?_
  have S2 := p1.table (k := 2)
  refine zl_loop2 (kc := ((((0 + 20 * qH (lC s len)) + 1) + 20 * qM (lC s len)) + 1)) (ks := ((((0 + 100000 * qH (lC s len)) + qH (lC s len)) + 100000 * qM (lC s len)) + qM (lC s len))) hl (by rfl) (by rfl) (by omega) (qC (lC s len)) 0 _ _ _ _ _ _ (aT2 (lC s len)) _ _ _ _ _ (by omega) R2 S2 fu_a (by have := aTx_len (lC s len); omega) (fun M3x n3 r3 V3 b3 c3 L5 L6 L7 L8 P3 p2 => ?_)
  refine gz_aload_n dL_list_663 rfl ?_
  refine zz_iconst dL_list_664 ?_
  refine gz_aload_n dL_list_665 rfl ?_
  refine zz_bipush (x := 7) dL_list_666 rfl ?_
  refine gl_cell 7 dL_list_668 P3.1 hl (by omega) (by omega) (Nat.le_of_ble_eq_true rfl) (by omega) ?_
  refine zz_bipush (x := 6) dL_list_671 rfl ?_
  refine gl_below dL_list_673 (by omega) (Nat.le_of_ble_eq_true rfl) (by omega) ?_
  refine zz_iadd dL_list_676 ?_
  refine gq_anew (N := qM (lC s len)) dL_list_677 wc_HeliographsLaw_87 (by omega) (by omega) (fun A3 o3 z3 t3 _ => ?_)
  refine gz_putf (T := TX8) (N := 8) 6 dL_list_680 ((o3.2.1 S P3.2.1.1.2.2).trans P3.2.1.1.1) rfl wf_HeliographsLaw_127 (by omega) P3.2.1.1.2.1 jo_HeliographsLaw_Sim ju_HeliographsLaw_Sim rfl tyX8 tyX8_ok nmX8 rfl (fun _ => ⟨rfl, rfl⟩) ?_
  have R3 := P3.table (k := 3) o3 (by decide) ⟨Nat.le_refl _, by omega⟩ t3
  refine zz_iconst dL_list_683 ?_
  refine gz_istore (L2 := [some (.ref 56), some (.ref a), some (.ref S), some (.int (iZ (qP (lC s len) : Int))), some (.int (iZ 0)), L5, L6, L7, L8]) dL_list_684 (Nat.le_of_ble_eq_true rfl) rfl ?_
  have S3 := p2.table (k := 3)
  refine zl_loop3 (kc := ((0 + 20 * qH (lC s len)) + 1)) (ks := ((0 + 100000 * qH (lC s len)) + qH (lC s len))) hl (by rfl) (by omega) (qM (lC s len)) 0 _ _ _ _ _ _ (aT3 (lC s len)) _ _ _ _ _ (by omega) R3 S3 fu_a (by have := aTx_len (lC s len); omega) (fun M4x n4 r4 V4 b4 c4 L5 L6 L7 L8 P4 p3 => ?_)
  refine gz_aload_n dL_list_910 rfl ?_
  refine gz_aload_n dL_list_911 rfl ?_
  refine zz_bipush (x := 10) dL_list_912 rfl ?_
  refine gl_cell 10 dL_list_914 P4.1 hl (by omega) (by omega) (Nat.le_of_ble_eq_true rfl) (by omega) ?_
  refine zz_iconst dL_list_917 ?_
  refine gl_below dL_list_918 (by omega) (Nat.le_of_ble_eq_true rfl) (by omega) ?_
  refine gq_anew (N := qH (lC s len)) dL_list_921 wc_HeliographsLaw_87 (by omega) (by omega) (fun A4 o4 z4 t4 _ => ?_)
  refine gz_putf (T := TX8) (N := 8) 7 dL_list_924 ((o4.2.1 S P4.2.1.1.2.2).trans P4.2.1.1.1) rfl wf_HeliographsLaw_140 (by omega) P4.2.1.1.2.1 jo_HeliographsLaw_Sim ju_HeliographsLaw_Sim rfl tyX8 tyX8_ok nmX8 rfl (fun _ => ⟨rfl, rfl⟩) ?_
  have R4 := P4.table (k := 4) o4 (by decide) ⟨Nat.le_refl _, by omega⟩ t4
  refine zz_iconst dL_list_927 ?_
  refine gz_istore (L2 := [some (.ref 56), some (.ref a), some (.ref S), some (.int (iZ (qP (lC s len) : Int))), some (.int (iZ 0)), L5, L6, L7, L8]) dL_list_928 (Nat.le_of_ble_eq_true rfl) rfl ?_
  have S4 := p3.table (k := 4)
  refine zl_loop4 (kc := 0) (ks := 0) hl (by rfl) (by rfl) (by rfl) (by omega) (qH (lC s len)) 0 _ _ _ _ _ _ (aT4 (lC s len)) _ _ _ _ _ (by omega) R4 S4 fu_a (by have := aTx_len (lC s len); omega) (fun M5x n5 r5 V5 b5 c5 L5 L6 L7 L8 P5 p4 => ?_)
  refine gz_aload_n dL_list_1083 rfl ?_
  refine gz_areturn dL_list_1084 rfl (Or.inl ⟨_, rfl⟩) ?_
  refine hq _ _ ⟨S, _, _, _, _, _, _, _, rfl, by omega, P5, fun k hk => ?_, p4.same (fun k hk => ?_)⟩ <;> (rcases (show k = 0 ∨ k = 1 ∨ k = 2 ∨ k = 3 ∨ k = 4 by omega) with rfl | rfl | rfl | rfl | rfl <;> rfl)
end
end

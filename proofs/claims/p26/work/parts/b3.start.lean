/-! THE LAW UP TO ITS FIRST MINUTE -/
section
variable {l : Launch} {Γ : zk_G} {d : Nat} {F : Heap → Prop}
theorem any_range {f g : Nat → Bool} : ∀ m j, (∀ i, j ≤ i → i < j + m → f i = g i) → (List.range' j m).any f = (List.range' j m).any g
  | 0, _, _ => rfl
  | m + 1, j, h => by
    rw [List.range'_succ, List.any_cons, List.any_cons, h j (Nat.le_refl _) (by omega), any_range m (j + 1) (fun i h1 h2 => h i (by omega) (by omega))]
section
variable {C : Nat → Int32} {len : Nat} {s : Nat → Int32} {Z Y : zV}
theorem lwL {a j : Nat} (h : 424 ≤ a) : zL Z (lwW C s) a j = lwW C s a j := by
  unfold zL
  rw [if_neg (by omega)]
theorem lwL_3 {k i j : Nat} (h : k < 5) (hi : i < cnt C k) : zL Z (lwW C s) (zG_b k + i) j = (dat C k i).getD j 0 := by
  have g := zG_ge k
  rw [lwL (by omega), lwW_3 h hi]
/-- the two side by side, at first -/
theorem lw_joint (hz : zin Z) (hS : St Z 400 (hsH (fT (qM C)) (hoH (hsC C 0 (qH C)))) (vP Z 400) (nC Z) 0 (qH C : Int) 0) (hA : agP (vP Z 400) (lD C Y) (qP C) (qW C) (qC C) (qM C)) (hi : sIni (vP Z 400) (nC Z)) :
    lJ (lwE C len) 480 (cnt C) (zL Z (lwW C s)) 400 (hsH (fT (qM C)) (hoH (hsC C 0 (qH C)))) (vP Z 400) (nC Z) 0 (qH C : Int) 0 := by
  obtain ⟨⟨a0, a1, a2, a3⟩, aP, aW, aC, aM⟩ := hA
  have hw : wP (vP Z 400) := hS.2.2.2.2.1
  obtain ⟨⟨i1, i2, i3⟩, ik, iw⟩ := hi
  have r0 : ∀ k, k < qP C → ∀ j, zL Z (lwW C s) (432 + k) j = (dP C k).getD j 0 := fun k hk j => lwL_3 (k := 0) (by decide) hk
  have r1 : ∀ k, k < qW C → ∀ j, zL Z (lwW C s) (440 + k) j = (dW C k).getD j 0 := fun k hk j => lwL_3 (k := 1) (by decide) hk
  have r2 : ∀ k, k < qC C → ∀ j, zL Z (lwW C s) (452 + k) j = (dC C k).getD j 0 := fun k hk j => lwL_3 (k := 2) (by decide) hk
  have r3 : ∀ k, k < qM C → ∀ j, zL Z (lwW C s) (460 + k) j = (dM C k).getD j 0 := fun k hk j => lwL_3 (k := 3) (by decide) hk
  have r4 : ∀ k, k < qH C → ∀ j, zL Z (lwW C s) (468 + k) j = (dH C k).getD j 0 := fun k hk j => lwL_3 (k := 4) (by decide) hk
  refine ⟨lwE_E C len, fun a h1 h2 => lwE_0 h1 h2, zin_L hz, St_424 hS (fun a j h1 h2 => by unfold zL; rw [if_pos ⟨h2, by omega⟩]), ⟨⟨a0.symm, a1.symm, a2.symm, a3.symm⟩, ⟨?_, ?_, ?_⟩, fun k hk => ?_, fun k hk => ?_, fun k hk => ?_, fun k hk => ?_⟩, fun i hi => ?_, fun N σ hc hN hτ k hk => ?_, lOk_ini hw ⟨⟨i1, i2, i3⟩, ik, iw⟩ (fun k hk => ?_)⟩
  · rw [lwL (by omega), i1]; rfl
  · rw [lwL (by omega), i3]; rfl
  · rw [lwL (by omega), i2]; rfl
  · obtain ⟨p1, p2, p3⟩ := aP k hk
    rw [r0 k hk, r0 k hk, r0 k hk, p1, p2, (ik k).1, p3]
    exact ⟨rfl, rfl, rfl⟩
  · obtain ⟨p1, p2, p3⟩ := aW k hk
    rw [r1 k hk, r1 k hk, r1 k hk, r1 k hk, p1, p2, p3, iw k, (dW_bd k).2.2.2.2]
    exact ⟨rfl, rfl, rfl, rfl⟩
  · obtain ⟨p1, p2, p3, p4⟩ := aC k hk
    rw [r2 k hk, r2 k hk, r2 k hk, r2 k hk, p1, p2, p3, p4]
    exact ⟨rfl, rfl, rfl, rfl⟩
  · obtain ⟨p1, p2, p3, p4⟩ := aM k hk
    obtain ⟨-, m2, m3, m4, m5, m6, m7, m8, m9⟩ := ik k
    simp only [r3 k hk]
    rw [m2, m3, m4, m5, m6, m7, m8, m9, p1, p2, p3, p4]
    exact ⟨rfl, rfl, rfl, rfl, rfl, rfl, rfl, rfl, rfl, rfl⟩
  · have b := dH_bd (C := C) i
    simp only [r4 i hi]
    exact b
  · show (hoH (hsC C 0 (qH C))).any (fun x => decide ((x.1 : Int) = (k : Int) ∧ fT (qM C) x σ ≠ 0)) = _
    rw [hsH_rows a3 hτ k (qH C) 0]
    refine any_range _ _ (fun i h1 h2 => ?_)
    unfold sHs
    simp only [r4 i (show i < qH C by omega)]
  · have hk2 : k < qP C := by omega
    rw [(aP k hk2).2.2]
    exact (dP_bd k).2.2.1
end
theorem lw_start {len : Nat} {s : Nat → Int32} {M : zk_M} {kc ks : Nat} {Q : Option Value → zk_M → (Heap → Prop) → Prop} (hO : zOl0 len s M) (hl : len < 2147483648) (hd : 31 ≤ d) (h56 : Γ.2.2.2.1 56 < Γ.2.1.size) (hqi : ∀ v M' F', Q v M' F' → ∃ x, v = some (.int x)) (hqq : ∀ v M' F' M3 F3, Q v M' F' → Q v M3 F3)
    (kk : ∀ (W π σ : zV) (H : zV → Nat → Bool), lJ (lwE (lC s len) len) 480 (cnt (lC s len)) W 400 H π σ 0 (cnt (lC s len) 4 : Int) 0 → σ 0 1 = 0 → σ 0 2 = -1 → (∀ j, j < len → W 56 j = (s j).toInt) → zk_Go l Γ mL_law d kc ks Q 35 [some (.ref 56), none, some (.ref 424), some (.ref 320), none, none, none, none, none, none, none, none, none, none, none, none, none, none, none, none, none, none, none, none, none, none, none, none] [] (zG (lwE (lC s len) len) 480 W) F) :
    zk_Go l Γ mL_law d (kc + 800) (ks + 3100000) Q 0 [some (.ref 56), none, none, none, none, none, none, none, none, none, none, none, none, none, none, none, none, none, none, none, none, none, none, none, none, none, none, none] [] M F := by
  obtain ⟨C, hC⟩ : ∃ C, C = lC s len := ⟨_, rfl⟩
  have hlT := (aTx_len C).2.2.2.2
  have h320 := hO.1
  refine gz_newSB dL_law_0 dL_law_3 dL_law_4 wc_HeliographsLaw_32 wm_HeliographsLaw_34 h320 (Nat.le_of_ble_eq_true rfl) ⟨by omega, by omega⟩ (by omega) (fun M1 B1 n1 o1 => ?_)
  refine gz_astore_n (L2 := [some (.ref 56), some (.ref M.2.1), none, none, none, none, none, none, none, none, none, none, none, none, none, none, none, none, none, none, none, none, none, none, none, none, none, none]) dL_law_7 (Nat.le_of_ble_eq_true rfl) rfl ?_
  refine gz_aload_n dL_law_8 rfl ?_
  refine gz_aload_n dL_law_9 rfl ?_
  refine gb_s (J := mL_list) (d1 := d - 1) (kc1 := 700) (ks1 := 3000000) [.ref 56, .ref M.2.1] [] dL_law_10 rfl wm_HeliographsLaw_178 jzL_list rfl (Nat.le_of_ble_eq_true rfl) (Nat.le_of_ble_eq_true rfl) (by omega) ⟨by omega, by omega⟩ (zl_list (hO.ol o1) B1 (by omega) hl (by omega)) (fun v10 M2 h10 => ?_)
  obtain ⟨S, tk, c, n, r, V, b', cap', rfl, hS0, ⟨hO2, hLI2, hSB2, hcap⟩, hcn, hPr⟩ := h10
  rw [← hC] at hcn hPr hSB2
  have hLI2 : zLI M2 S tk (cnt C) n r V := by
    obtain ⟨q1, q2, q3, q4⟩ := hLI2
    exact ⟨q1, q2, fun k hk => by rw [← hcn k hk]; exact q3 k hk, q4⟩
  refine gz_astore_n (L2 := [some (.ref 56), some (.ref M.2.1), some (.ref S), none, none, none, none, none, none, none, none, none, none, none, none, none, none, none, none, none, none, none, none, none, none, none, none, none]) dL_law_13 (Nat.le_of_ble_eq_true rfl) rfl ?_
  refine gz_new (k := 0) (f := fun j => defaultValue (tyX7 j)) dL_law_14 rfl wc_HeliographsLaw_10 jo_Heliographs jn_Heliographs ju_Heliographs tyX7 tyX7_ok (fun _ _ => rfl) (fun j => zk_dv _) ⟨by omega, by omega⟩ ?_
  obtain ⟨M3, hM3⟩ : ∃ X, X = zk_add M2 (0, 7) (fun j => defaultValue (tyX7 j)) := ⟨_, rfl⟩
  have o3 : zOl M2 M3 := by rw [hM3]; exact zOl.add
  have n3 : M3.2.1 = M2.2.1 + 1 := by rw [hM3]; rfl
  have v3 : zk_vw (zh1 M2.2.1) (zm zh0) M3 := by rw [hM3]; exact zh_raw hO2
  rw [← hM3]
  refine gz_dup dL_law_17 rfl ?_
  have h9 : 320 ≤ M2.2.1 := hO2.1
  have lo : ∀ a, 320 ≤ a → a < M2.2.1 → ∀ b, b < (zm zh0).2.1 → ((zm zh0).1 b).1 < 1000 → zh1 M2.2.1 b ≠ a := fun a q1 q2 b q3 q4 e => by
    unfold zh1 at e
    split at e <;> omega
  have d56 : 1000 ≤ (zo_s 56).1 := by decide
  have l56 : ∀ b, b < (zm zh0).2.1 → ((zm zh0).1 b).1 < 1000 → zh1 M2.2.1 b ≠ 56 := fun b q3 q4 e => by
    unfold zh1 at e
    split at e
    · have : ((zm zh0).1 b) = zo_s b := if_pos (by omega)
      rw [this, e] at q4
      omega
    · omega
  have i320 : zh1 M2.2.1 320 = M2.2.1 := if_neg (by omega)
  refine gz_invi (J := mX7_init) (d1 := d - 1) (kc1 := 78) (ks1 := 6237) (n := 0) (Q1 := fun v M' F' => (v = none ∧ zk_vw (zκ M2.2.1) (zb_M zH_Z) M' ∧ zOs M' ∧ M2.2.1 ≤ M'.2.1 ∧ ∀ a, (a = 56 ∨ (320 ≤ a ∧ a < M2.2.1)) → M'.1 a = M3.1 a ∧ M'.2.2 a = M3.2.2 a) ∧ F' = F) [] _ dL_law_18 rfl (Or.inl wm_HeliographsLaw_182) jiX7_init jn_Heliographs jcX7_init rfl rfl jpX7_init rfl ⟨by decide, Nat.le_of_ble_eq_true rfl⟩ (Nat.le_of_ble_eq_true rfl) (by omega) ⟨by omega, by omega⟩ ?_ (fun v M4 F' hh => ?_)
  · have key := zk_lift (l := l) (Γ := Γ) (d := d - 1) (F := F) (J := mX7_init) (kc := 78) (ks := 6237) (As2 := [.ref 320]) (ι := zh1 M2.2.1) (M2 := zm zh0) (M := M3) (R := fun v M2' => v = none ∧ M2' = zm zH_l) (Q := fun v M' F' => (v = none ∧ zk_vw (zκ M2.2.1) (zb_M zH_Z) M' ∧ zOs M' ∧ M2.2.1 ≤ M'.2.1 ∧ ∀ a, (a = 56 ∨ (320 ≤ a ∧ a < M2.2.1)) → M'.1 a = M3.1 a ∧ M'.2.2 a = M3.2.2 a) ∧ F' = F)
      (fun Γ F Q1 hQ => do_new (by omega) Q1 (hQ none _ ⟨rfl, rfl⟩)) v3 (fun a ha h1 h2 => ?_) (fun v hv => by rw [List.mem_singleton.mp hv]; show 320 < 321; decide) (fun v M2' M' hr hf => ?_)
    · rw [List.map_cons, List.map_nil, show zk_v (zh1 M2.2.1) (.ref 320) = .ref M2.2.1 from congrArg Value.ref i320] at key
      exact key
    · by_cases q : a = 56
      · rw [q]; exact h56
      · have e1 : (zm zh0).1 a = zo_s a := if_pos ha
        rw [e1] at h1
        rw [o3.2.1 a (by omega), (hO2.2.1 a ha q).1] at h2
        omega
    · obtain ⟨rfl, rfl⟩ := hr
      obtain ⟨g1, g2, g3, g4⟩ := hf
      have e3 : zk_io (zh1 M2.2.1) (zm zh0).2.1 M3.2.1 = zk_io (zh1 M2.2.1) 321 (M2.2.1 + 1) := by rw [n3]; rfl
      rw [e3] at g3
      refine ⟨⟨rfl, zH_view.trans g3, fun a ha h5 => ?_, by omega, fun a ha => ?_⟩, rfl⟩
      · by_cases q : (zo_s a).1 < 1000
        · have e1 : (zm zH_l).1 a = zo_s a := if_pos ha
          have k := (g3.2.2.2.1 a (by rw [zH_n]; omega) (by rw [e1]; exact q)).1
          rw [zk_io_lt (by omega), show zh1 M2.2.1 a = a from if_pos ha, e1] at k
          exact k
        · rw [(g4 a (by omega) (fun b hb hlb e => ?_)).1, o3.2.1 a (by omega), (hO2.2.1 a ha h5).1]
          unfold zh1 at e
          split at e
          · have : ((zm zh0).1 b) = zo_s b := if_pos (by omega)
            rw [this, e] at hlb
            exact q hlb
          · omega
      · rcases ha with rfl | ha
        · exact g4 56 (by omega) l56
        · exact g4 a (by omega) (lo a ha.1 ha.2)
  obtain ⟨⟨rfl, v4, s4, n4, k4⟩, rfl⟩ := hh
  refine gz_astore_n (L2 := [some (.ref 56), some (.ref M.2.1), some (.ref S), some (.ref M2.2.1), none, none, none, none, none, none, none, none, none, none, none, none, none, none, none, none, none, none, none, none, none, none, none, none]) dL_law_21 (Nat.le_of_ble_eq_true rfl) rfl ?_
  refine gz_aload_n dL_law_22 rfl ?_
  refine gz_aload_n dL_law_23 rfl ?_
  have kp4 : ∀ a, (a = 56 ∨ (320 ≤ a ∧ a < M2.2.1)) → M4.1 a = M2.1 a ∧ M4.2.2 a = M2.2.2 a := fun a ha => ⟨(k4 a ha).1.trans (o3.2.1 a (by omega)), (k4 a ha).2.trans (o3.2.2 a (by omega))⟩
  have hSB4 : zSB M4 M.2.1 b' cap' (aTx C) := by
    obtain ⟨⟨q1, q2, q3⟩, ⟨w1, w2, w3⟩, q4⟩ := hSB2
    refine ⟨⟨(kp4 _ (Or.inr ⟨q2, q3⟩)).1.trans q1, q2, by omega⟩, ⟨(kp4 _ (Or.inr ⟨w2, w3⟩)).1.trans w1, w2, by omega⟩, ?_⟩
    rw [(kp4 _ (Or.inr ⟨q2, q3⟩)).2, (kp4 _ (Or.inr ⟨w2, w3⟩)).2]
    exact q4
  refine gb_v (J := mJ4_toString_0e30d) (d1 := d - 1) (kc1 := 2) (ks1 := 4 + (aTx C).length) [] _ dL_law_24 rfl hSB4.1.1 wm_HeliographsLaw_44 jzJ4_toString_0e30d rfl (Nat.le_of_ble_eq_true rfl) (Nat.le_of_ble_eq_true rfl) (by omega) ⟨by omega, by omega⟩ (js_toString hSB4 (by omega) (by omega)) (fun v24 M5 h24 => ?_)
  obtain ⟨rfl, hT5, n5, o5⟩ := h24
  have v5 := v4.ol o5
  have s5 : zOs M5 := fun a ha h => (o5.2.1 a (by omega)).trans (s4 a ha h)
  have fr : ∀ a, M4.2.1 ≤ a → zfr (zκ M2.2.1) a := fun a ha b hb _ e => by have := v4.2.2.1 b hb; omega
  have fr2 : ∀ a, 320 ≤ a → a < M2.2.1 → zfr (zκ M2.2.1) a := fun a h1 h2 b hb _ e => by
    by_cases q : b < 320
    · rw [zκ_old q] at e; omega
    · have := zκ_new (q := M2.2.1) hb (by omega)
      omega
  have fr56 : zfr (zκ M2.2.1) 56 := fun b hb hlb e => by
    by_cases q : b < 320
    · rw [zκ_old q] at e
      rw [e] at hlb
      exact absurd hlb (by decide)
    · have := zκ_new (q := M2.2.1) hb (by omega)
      omega
  have e320 : (Value.ref M2.2.1) = .ref (zκ M2.2.1 320) := congrArg Value.ref zκ_320.symm
  refine gb_s (J := mL_taught) (d1 := d - 1) (kc1 := 1) (ks1 := 5) [.ref M2.2.1, .ref M4.2.1] [] dL_law_27 rfl wm_HeliographsLaw_183 jzL_taught rfl (Nat.le_of_ble_eq_true rfl) (Nat.le_of_ble_eq_true rfl) (by omega) ⟨by omega, by omega⟩ (R := fun v M' => ∃ Z', v = some (.int (iZ 0)) ∧ zk_vw (zκ M2.2.1) (zb_M Z') M' ∧ zOs M' ∧ M'.2.1 = M5.2.1 + 1 ∧ (∀ a, a < M5.2.1 → zfr (zκ M2.2.1) a → M'.1 a = M5.1 a ∧ M'.2.2 a = M5.2.2 a) ∧
      ∃ Y, St Z' 400 (hsH (fT (qM C)) (hoH (hsC C 0 (qH C)))) (vP Z' 400) (nC Z') 0 (qH C : Int) 0 ∧ agP (vP Z' 400) (lD C Y) (qP C) (qW C) (qC C) (qM C) ∧ sIni (vP Z' 400) (nC Z')) (by rw [e320]; exact zl_taught v5 s5 hT5 ⟨fr _ (by omega), fr _ (by omega), by omega, by omega⟩ (by omega) h56 ⟨rfl, by omega⟩ rfl rfl rfl (by omega)) (fun v27 M6 h27 => ?_)
  obtain ⟨Z', rfl, v6, s6, n6, k6, Y, hSt, hAg, hIn⟩ := h27
  refine zz_if_eq (tgt := 35) dL_law_30 rfl (by omega) (fun b30 => ?_) (fun b30 => ?_)
  rotate_left
  · exact absurd rfl b30
  have kp6 : ∀ a, (a = 56 ∨ (320 ≤ a ∧ a < M2.2.1)) → M6.1 a = M2.1 a ∧ M6.2.2 a = M2.2.2 a := fun a ha => by
    have hf : zfr (zκ M2.2.1) a := by
      rcases ha with rfl | ha
      · exact fr56
      · exact fr2 a ha.1 ha.2
    obtain ⟨q1, q2⟩ := k6 a (by omega) hf
    obtain ⟨w1, w2⟩ := kp4 a ha
    exact ⟨q1.trans ((o5.2.1 a (by omega)).trans w1), q2.trans ((o5.2.2 a (by omega)).trans w2)⟩
  have hLI6 : zLI M6 S tk (cnt C) n r V := by
    refine hLI2.fr (by omega) (fun x hx => ?_) (fun x hx hk => ?_)
    · by_cases q : x < 320
      · by_cases q5 : x = 56
        · exact (kp6 x (Or.inl q5)).1
        · rw [s6 x q q5, (hO2.2.1 x q q5).1]
      · exact (kp6 x (Or.inr ⟨by omega, hx⟩)).1
    · by_cases q : x < 320
      · by_cases q5 : x = 56
        · exact (kp6 x (Or.inl q5)).2
        · rw [(hO2.2.1 x q q5).1] at hk
          have := zo_live x q q5
          omega
      · exact (kp6 x (Or.inr ⟨by omega, hx⟩)).2
  have hlo : S < M2.2.1 ∧ (∀ k, k < 5 → tk k < M2.2.1) ∧ ∀ k j, k < 5 → j < cnt C k → r k j < M2.2.1 := ⟨hLI2.1.2.2, fun k hk => (hLI2.2.2.1 k hk).1.2.2, fun k j hk hj => ((hLI2.2.2.1 k hk).2 j (by rw [(hPr k hk).1]; exact hj)).2.2.2.1⟩
  have h56a : M6.1 56 = (100, len) := (kp6 56 (Or.inl rfl)).1.trans hO2.2.2.1
  have h56v : ∀ j, j < len → M6.2.2 56 j = .int (s j) := fun j hj => by rw [(kp6 56 (Or.inl rfl)).2]; exact hO2.2.2.2 j hj
  have hz : zin Z' := fun a j x ha hj hx => v6.2.2.2.2.2 a j x ha hj hx
  have hzat := lw_at v6 hLI6 hPr h56a h56v h9
  refine zk_renum (M2 := zG (lwE C len) 480 (zL Z' (lwW C s))) (L2 := [some (.ref 56), none, some (.ref 424), some (.ref 320), none, none, none, none, none, none, none, none, none, none, none, none, none, none, none, none, none, none, none, none, none, none, none, none]) (lwI M2.2.1 S tk r) (by decide) hqi hqq (fun a ha => by rw [lwI_0 (by omega), zκ_old ha]) (by show 320 ≤ 480; omega) hzat (lw_inj v6 hLI6 hPr hlo) (lw_refs hz) rfl (fun i v hi => ?_) ?_
  · have ev : ∀ x, zk_v (lwI M2.2.1 S tk r) (.ref x) = .ref (lwI M2.2.1 S tk r x) := fun x => rfl
    match i, hi with
    | 0, h => cases h; exact ⟨by rw [ev, lwI_0 (by omega), zκ_old (by omega)]; rfl, by show 56 < 480; decide⟩
    | 2, h => cases h; exact ⟨by rw [ev, lwI_1]; rfl, by show 424 < 480; decide⟩
    | 3, h => cases h; exact ⟨by rw [ev, lwI_0 (by omega), zκ_320]; rfl, by show 320 < 480; decide⟩
    | 1, h => cases h
    | 4, h => cases h
    | 5, h => cases h
    | 6, h => cases h
    | 7, h => cases h
    | 8, h => cases h
    | 9, h => cases h
    | 10, h => cases h
    | 11, h => cases h
    | 12, h => cases h
    | 13, h => cases h
    | 14, h => cases h
    | 15, h => cases h
    | 16, h => cases h
    | 17, h => cases h
    | 18, h => cases h
    | 19, h => cases h
    | 20, h => cases h
    | 21, h => cases h
    | 22, h => cases h
    | 23, h => cases h
    | 24, h => cases h
    | 25, h => cases h
    | 26, h => cases h
    | 27, h => cases h
    | _ + 28, h => cases h
  · have hgo := kk (zL Z' (lwW C s)) (vP Z' 400) (nC Z') (hsH (fT (qM C)) (hoH (hsC C 0 (qH C))))
    rw [← hC] at hgo
    refine (hgo (lw_joint hz hSt hAg hIn) hIn.1.1 hIn.1.2.1 (fun j hj => ?_)).le (by omega) (by omega)
    unfold zL
    rw [if_neg (by omega)]
    exact if_pos rfl
end

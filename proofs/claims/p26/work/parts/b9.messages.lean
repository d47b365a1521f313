/-! THE LAW LOOKS AT THE MESSAGES -/
section
variable {l : Launch} {Γ : zk_G} {d : Nat} {F : Heap → Prop}
/-- what the law has counted of the first i messages -/
def tal (W : zV) (r np : Nat) (σ : zV) (i : Nat) : Prop := (∀ y : Nat, y < 3 → W r y = sNum (sIn σ (y : Int)) 0 i) ∧ (∀ a : Nat, a < np → W (r + 1) a = sNum (sAt σ (a : Int) 1) 0 i) ∧ ∀ a : Nat, a < np → W (r + 2) a = sNum (sAt σ (a : Int) 0) 0 i
theorem tal_how {W σ : zV} {r i k : Nat} (h : ∀ y : Nat, y < 3 → W r y = sNum (sIn σ (y : Int)) 0 i) (h4 : σ 4 i = (k : Int)) : ∀ y : Nat, y < 3 → zb_u W r k (sNum (sIn σ (k : Int)) 0 i + 1) r y = sNum (sIn σ (y : Int)) 0 (i + 1) := fun y hy => by
  rw [sNum_0s]
  by_cases e : y = k
  · rw [e, zb_u_at, bI_t (by unfold sIn; rw [h4]; exact decide_eq_true rfl)]
  · rw [zb_u_no _ _ (by omega), h y hy, bI_f (by unfold sIn; rw [decide_eq_true_eq, h4]; omega), Int.add_zero]
theorem tal_row {W σ : zV} {r np i a : Nat} {z : Int} (h : ∀ y : Nat, y < np → W r y = sNum (sAt σ (y : Int) z) 0 i) (h4 : σ 4 i = z) (h2 : σ 2 i = (a : Int)) : ∀ y : Nat, y < np → zb_u W r a (sNum (sAt σ (a : Int) z) 0 i + 1) r y = sNum (sAt σ (y : Int) z) 0 (i + 1) := fun y hy => by
  rw [sNum_0s]
  by_cases e : y = a
  · rw [e, zb_u_at, bI_t (by unfold sAt; exact decide_eq_true ⟨h2, h4⟩)]
  · rw [zb_u_no _ _ (by omega), h y hy, bI_f (by unfold sAt; rw [decide_eq_true_eq, h2]; omega), Int.add_zero]
theorem tal_off {W W' σ : zV} {r np i : Nat} {z : Int} (h : ∀ y : Nat, y < np → W r y = sNum (sAt σ (y : Int) z) 0 i) (h4 : σ 4 i ≠ z) (hk : ∀ y, W' r y = W r y) : ∀ y : Nat, y < np → W' r y = sNum (sAt σ (y : Int) z) 0 (i + 1) := fun y hy => by
  rw [sNum_0s, hk, h y hy, bI_f (by unfold sAt; rw [decide_eq_true_eq]; omega), Int.add_zero]
theorem zb_rw {W : zV} {a j b : Nat} {z : Int} (h : b ≠ a) : ∀ y, zb_u W a j z b y = W b y := fun y => zb_u_no _ _ (by omega)
theorem zl_msgs_next {E : Nat → Nat × Nat} {e : Nat} {c : Nat → Nat} {π σ : zV} {p : Nat} {H : zV → Nat → Bool} {t o N : Int} {kc ks : Nat} {Q : Option Value → zk_M → (Heap → Prop) → Prop} {tm r np : Nat} {x : Int32} {W W1 : zV} {i : Nat} {J0 J1 J2 J3 J4 J5 J6 J7 J8 J9 J10 J11 : Option Value} (hJ : lJ E e c W1 p H π σ t o N) (hT : tal W1 r np σ (i + 1)) (hk : ∀ a j, (a < r ∨ r + 3 ≤ a) → W1 a j = W a j) (kk : ∀ (W1 : zV) (J0 J1 J2 J3 J4 J5 J6 J7 J8 J9 J10 J11 : Option Value), lJ E e c W1 p H π σ t o N → tal W1 r np σ (i + 1) → (∀ a j, (a < r ∨ r + 3 ≤ a) → W1 a j = W a j) → zk_Go l Γ mL_law d kc ks Q 137 [some (.ref 56), none, some (.ref 424), some (.ref 320), some (.int (iZ (π 0 0))), some (.int (iZ (π 0 1))), some (.int (iZ (π 0 3))), some (.int (iZ ((tm : Int)))), some (.int x), some (.int (iZ (σ 0 1))), some (.ref r), some (.ref (r + 1)), some (.ref (r + 2)), some (.int (iZ (sSum (σ 8) 0 (i + 1)))), some (.int (iZ (sSum (σ 5) 0 (i + 1)))), some (.int (iZ (((i + 1 : Nat) : Int)))), J0, J1, J2, J3, J4, J5, J6, J7, J8, J9, J10, J11] [] (zG E e W1) F) : zk_Go l Γ mL_law d kc ks Q 137 [some (.ref 56), none, some (.ref 424), some (.ref 320), some (.int (iZ (π 0 0))), some (.int (iZ (π 0 1))), some (.int (iZ (π 0 3))), some (.int (iZ ((tm : Int)))), some (.int x), some (.int (iZ (σ 0 1))), some (.ref r), some (.ref (r + 1)), some (.ref (r + 2)), some (.int (iZ (sSum (σ 8) 0 i + σ 8 i))), some (.int (iZ (sSum (σ 5) 0 i + σ 5 i))), some (.int (iZ (((i + 1 : Nat) : Int)))), J0, J1, J2, J3, J4, J5, J6, J7, J8, J9, J10, J11] [] (zG E e W1) F := by
  have h := kk W1 J0 J1 J2 J3 J4 J5 J6 J7 J8 J9 J10 J11 hJ hT hk
  rw [sSum_0s, sSum_0s] at h
  exact h
theorem zl_msg_0 {E : Nat → Nat × Nat} {e : Nat} {c : Nat → Nat} {π σ : zV} {p : Nat} {H : zV → Nat → Bool} {t o N : Int} {kc ks : Nat} {Q : Option Value → zk_M → (Heap → Prop) → Prop} {tm r np : Nat} {x : Int32} {W : zV} {i : Nat} {J0 J1 J2 J3 J4 J5 J6 J7 J8 J9 J10 J11 : Option Value} (hr : 480 ≤ r) (a0 : E r = (100, 3)) (a1 : E (r + 1) = (100, np)) (a2 : E (r + 2) = (100, np)) (hJ : lJ E e c W p H π σ t o N) (h56 : Γ.2.2.2.1 56 < Γ.2.1.size) (hi : (i : Int) < π 0 3) (hnp : (np : Int) = π 0 0) (hT : tal W r np σ i) (hN : N ≤ 80000) (hd : 20 ≤ d) (q4 : σ 4 i = 0) (kk : ∀ (W1 : zV) (J0 J1 J2 J3 J4 J5 J6 J7 J8 J9 J10 J11 : Option Value), lJ E e c W1 p H π σ t o N → tal W1 r np σ (i + 1) → (∀ a j, (a < r ∨ r + 3 ≤ a) → W1 a j = W a j) → zk_Go l Γ mL_law d kc ks Q 137 [some (.ref 56), none, some (.ref 424), some (.ref 320), some (.int (iZ (π 0 0))), some (.int (iZ (π 0 1))), some (.int (iZ (π 0 3))), some (.int (iZ ((tm : Int)))), some (.int x), some (.int (iZ (σ 0 1))), some (.ref r), some (.ref (r + 1)), some (.ref (r + 2)), some (.int (iZ (sSum (σ 8) 0 (i + 1)))), some (.int (iZ (sSum (σ 5) 0 (i + 1)))), some (.int (iZ (((i + 1 : Nat) : Int)))), J0, J1, J2, J3, J4, J5, J6, J7, J8, J9, J10, J11] [] (zG E e W1) F) : zk_Go l Γ mL_law d kc ks Q 137 [some (.ref 56), none, some (.ref 424), some (.ref 320), some (.int (iZ (π 0 0))), some (.int (iZ (π 0 1))), some (.int (iZ (π 0 3))), some (.int (iZ ((tm : Int)))), some (.int x), some (.int (iZ (σ 0 1))), some (.ref r), some (.ref (r + 1)), some (.ref (r + 2)), some (.int (iZ (sSum (σ 8) 0 i))), some (.int (iZ (sSum (σ 5) 0 i))), some (.int (iZ ((i : Int)))), J0, J1, J2, J3, J4, J5, J6, J7, J8, J9, J10, J11] [] (zG E e W) F := by
  have hJ2 := hJ
  obtain ⟨hE, hE0, hz, hSt, hS, hh, hH, hO⟩ := hJ2
  have n1 := hS.1
  have hw : wP π := hSt.2.2.2.2.1
  have hc : wC π σ N := hSt.2.2.2.2.2.1
  have n0 := wP_n hw
  have t0 := wC_n hc
  have m1 := wC_m hc hi
  unfold wM at m1
  have m2 := hO.1 i hi
  unfold lM at m2
  obtain ⟨a, ha⟩ : ∃ a : Nat, σ 2 i = (a : Int) := ⟨(σ 2 i).toNat, by omega⟩
  have m7 := (wP_m hw (i := i) hi).1
  have i4 : σ 4 i = 0 := q4
  have i5 : σ 5 i = π 7 i := by omega
  have i7 : σ 7 i = -1 := by omega
  have i23 : σ 2 i ≠ σ 3 i := by omega
  have i6 : σ 6 i = -1 := by omega
  refine gz_iload dL_law_137 rfl ?_
  refine gz_iload dL_law_139 rfl ?_
  refine zz_icmp_ge (tgt := 439) dL_law_141 rfl (by omega) (fun b141 => ?_) (fun b141 => ?_)
  · exact absurd b141 (by omega)
  refine gz_aload_n dL_law_144 rfl ?_
  refine gz_iload dL_law_145 rfl ?_
  refine zz_iconst dL_law_147 ?_
  refine gJ_msg (m := i) (v := σ 4 i) dL_law_148 wm_HeliographsLaw_193 hJ h56 (by omega) (by omega) rfl (Nat.le_of_ble_eq_true rfl) (by omega) ?_
  rw [i4]
  refine gz_istore (L2 := [some (.ref 56), none, some (.ref 424), some (.ref 320), some (.int (iZ (π 0 0))), some (.int (iZ (π 0 1))), some (.int (iZ (π 0 3))), some (.int (iZ ((tm : Int)))), some (.int x), some (.int (iZ (σ 0 1))), some (.ref r), some (.ref (r + 1)), some (.ref (r + 2)), some (.int (iZ (sSum (σ 8) 0 i))), some (.int (iZ (sSum (σ 5) 0 i))), some (.int (iZ ((i : Int)))), some (.int (iZ (0))), J1, J2, J3, J4, J5, J6, J7, J8, J9, J10, J11]) dL_law_151 (Nat.le_of_ble_eq_true rfl) rfl ?_
  refine gz_aload_n dL_law_153 rfl ?_
  refine gz_iload dL_law_154 rfl ?_
  refine zz_iconst dL_law_156 ?_
  refine gJ_msg (m := i) (v := σ 2 i) dL_law_157 wm_HeliographsLaw_193 hJ h56 (by omega) (by omega) rfl (Nat.le_of_ble_eq_true rfl) (by omega) ?_
  rw [ha]
  refine gz_istore (L2 := [some (.ref 56), none, some (.ref 424), some (.ref 320), some (.int (iZ (π 0 0))), some (.int (iZ (π 0 1))), some (.int (iZ (π 0 3))), some (.int (iZ ((tm : Int)))), some (.int x), some (.int (iZ (σ 0 1))), some (.ref r), some (.ref (r + 1)), some (.ref (r + 2)), some (.int (iZ (sSum (σ 8) 0 i))), some (.int (iZ (sSum (σ 5) 0 i))), some (.int (iZ ((i : Int)))), some (.int (iZ (0))), some (.int (iZ ((a : Int)))), J2, J3, J4, J5, J6, J7, J8, J9, J10, J11]) dL_law_160 (Nat.le_of_ble_eq_true rfl) rfl ?_
  refine gz_aload_n dL_law_162 rfl ?_
  refine gz_iload dL_law_163 rfl ?_
  refine zz_iconst dL_law_165 ?_
  refine gJ_msg (m := i) (v := σ 7 i) dL_law_166 wm_HeliographsLaw_193 hJ h56 (by omega) (by omega) rfl (Nat.le_of_ble_eq_true rfl) (by omega) ?_
  refine gz_istore (L2 := [some (.ref 56), none, some (.ref 424), some (.ref 320), some (.int (iZ (π 0 0))), some (.int (iZ (π 0 1))), some (.int (iZ (π 0 3))), some (.int (iZ ((tm : Int)))), some (.int x), some (.int (iZ (σ 0 1))), some (.ref r), some (.ref (r + 1)), some (.ref (r + 2)), some (.int (iZ (sSum (σ 8) 0 i))), some (.int (iZ (sSum (σ 5) 0 i))), some (.int (iZ ((i : Int)))), some (.int (iZ (0))), some (.int (iZ ((a : Int)))), some (.int (iZ (σ 7 i))), J3, J4, J5, J6, J7, J8, J9, J10, J11]) dL_law_169 (Nat.le_of_ble_eq_true rfl) rfl ?_
  refine gz_aload_n dL_law_171 rfl ?_
  refine gz_iload dL_law_172 rfl ?_
  refine zz_iconst dL_law_174 ?_
  refine gJ_msg (m := i) (v := σ 5 i) dL_law_175 wm_HeliographsLaw_193 hJ h56 (by omega) (by omega) rfl (Nat.le_of_ble_eq_true rfl) (by omega) ?_
  refine gz_istore (L2 := [some (.ref 56), none, some (.ref 424), some (.ref 320), some (.int (iZ (π 0 0))), some (.int (iZ (π 0 1))), some (.int (iZ (π 0 3))), some (.int (iZ ((tm : Int)))), some (.int x), some (.int (iZ (σ 0 1))), some (.ref r), some (.ref (r + 1)), some (.ref (r + 2)), some (.int (iZ (sSum (σ 8) 0 i))), some (.int (iZ (sSum (σ 5) 0 i))), some (.int (iZ ((i : Int)))), some (.int (iZ (0))), some (.int (iZ ((a : Int)))), some (.int (iZ (σ 7 i))), some (.int (iZ (σ 5 i))), J4, J5, J6, J7, J8, J9, J10, J11]) dL_law_178 (Nat.le_of_ble_eq_true rfl) rfl ?_
  refine gz_aload dL_law_180 rfl ?_
  refine gz_iload dL_law_182 rfl ?_
  refine gz_dup2 dL_law_184 rfl rfl ?_
  refine gw_iald (a := r) (q := 0) (len := 3) (v := sNum (sIn σ 0) 0 i) dL_law_185 a0 (by omega) rfl (by omega) (hT.1 0 (by omega)) ?_
  refine zz_iconst dL_law_186 ?_
  refine zz_iadd dL_law_187 ?_
  refine gw_iast (a := r) (q := 0) (len := 3) dL_law_188 a0 (by omega) rfl (by omega) ?_
  have jA := lJ_put hJ (a := r) (j := 0) (by omega) (sNum (sIn σ 0) 0 i + 1)
  refine gz_iload dL_law_189 rfl ?_
  refine gz_aload_n dL_law_191 rfl ?_
  refine gz_iload dL_law_192 rfl ?_
  refine zz_bipush (x := 6) dL_law_194 rfl ?_
  refine gJ_msg (m := i) (v := σ 8 i) dL_law_196 wm_HeliographsLaw_193 jA h56 (by omega) (by omega) rfl (Nat.le_of_ble_eq_true rfl) (by omega) ?_
  refine zz_iadd dL_law_199 ?_
  refine gz_istore (L2 := [some (.ref 56), none, some (.ref 424), some (.ref 320), some (.int (iZ (π 0 0))), some (.int (iZ (π 0 1))), some (.int (iZ (π 0 3))), some (.int (iZ ((tm : Int)))), some (.int x), some (.int (iZ (σ 0 1))), some (.ref r), some (.ref (r + 1)), some (.ref (r + 2)), some (.int (iZ ((sSum (σ 8) 0 i) + (σ 8 i)))), some (.int (iZ (sSum (σ 5) 0 i))), some (.int (iZ ((i : Int)))), some (.int (iZ (0))), some (.int (iZ ((a : Int)))), some (.int (iZ (σ 7 i))), some (.int (iZ (σ 5 i))), J4, J5, J6, J7, J8, J9, J10, J11]) dL_law_200 (Nat.le_of_ble_eq_true rfl) rfl ?_
  refine gz_iload dL_law_202 rfl ?_
  refine gz_iload dL_law_204 rfl ?_
  refine zz_iadd dL_law_206 ?_
  refine gz_istore (L2 := [some (.ref 56), none, some (.ref 424), some (.ref 320), some (.int (iZ (π 0 0))), some (.int (iZ (π 0 1))), some (.int (iZ (π 0 3))), some (.int (iZ ((tm : Int)))), some (.int x), some (.int (iZ (σ 0 1))), some (.ref r), some (.ref (r + 1)), some (.ref (r + 2)), some (.int (iZ ((sSum (σ 8) 0 i) + (σ 8 i)))), some (.int (iZ ((sSum (σ 5) 0 i) + (σ 5 i)))), some (.int (iZ ((i : Int)))), some (.int (iZ (0))), some (.int (iZ ((a : Int)))), some (.int (iZ (σ 7 i))), some (.int (iZ (σ 5 i))), J4, J5, J6, J7, J8, J9, J10, J11]) dL_law_207 (Nat.le_of_ble_eq_true rfl) rfl ?_
  refine gz_iload dL_law_209 rfl ?_
  refine zz_if_ne (tgt := 223) dL_law_211 rfl (by omega) (fun b211 => ?_) (fun b211 => ?_)
  · exact absurd b211 (by omega)
  refine gz_aload dL_law_214 rfl ?_
  refine gz_iload dL_law_216 rfl ?_
  refine gz_dup2 dL_law_218 rfl rfl ?_
  refine gw_iald (a := r + 2) (q := a) (len := np) (v := sNum (sAt σ (a : Int) 0) 0 i) dL_law_219 a2 (by omega) rfl (by omega) ((zb_rw (by omega) a).trans (hT.2.2 a (by omega))) ?_
  refine zz_iconst dL_law_220 ?_
  refine zz_iadd dL_law_221 ?_
  refine gw_iast (a := r + 2) (q := a) (len := np) dL_law_222 a2 (by omega) rfl (by omega) ?_
  have jB := lJ_put jA (a := r + 2) (j := a) (by omega) (sNum (sAt σ (a : Int) 0) 0 i + 1)
  refine gz_iload dL_law_223 rfl ?_
  refine zz_iconst dL_law_225 ?_
  refine zz_icmp_ne (tgt := 238) dL_law_226 rfl (by omega) (fun b226 => ?_) (fun b226 => ?_)
  rotate_left
  · exact absurd b226 (by omega)
  refine gz_iload dL_law_238 rfl ?_
  refine zz_if_ne (tgt := 255) dL_law_240 rfl (by omega) (fun b240 => ?_) (fun b240 => ?_)
  · exact absurd b240 (by omega)
  refine gz_iload dL_law_243 rfl ?_
  refine gz_aload_n dL_law_245 rfl ?_
  refine gz_iload dL_law_246 rfl ?_
  refine zz_iconst dL_law_248 ?_
  refine gJ_msg (m := i) (v := π 7 i) dL_law_249 wm_HeliographsLaw_193 jB h56 (by omega) (by omega) rfl (Nat.le_of_ble_eq_true rfl) (by omega) ?_
  refine zz_icmp_ne (tgt := 388) dL_law_252 rfl (by omega) (fun b252 => ?_) (fun b252 => ?_)
  · exact absurd b252 (by omega)
  refine gz_iload dL_law_255 rfl ?_
  refine zz_iconst dL_law_257 ?_
  refine zz_icmp_ne (tgt := 279) dL_law_258 rfl (by omega) (fun b258 => ?_) (fun b258 => ?_)
  rotate_left
  · exact absurd b258 (by omega)
  refine gz_iload dL_law_279 rfl ?_
  refine zz_iconst dL_law_281 ?_
  refine zz_icmp_ne (tgt := 290) dL_law_282 rfl (by omega) (fun b282 => ?_) (fun b282 => ?_)
  rotate_left
  · exact absurd b282 (by omega)
  refine gz_iload dL_law_290 rfl ?_
  refine zz_iconst dL_law_292 ?_
  refine zz_icmp_ne (tgt := 300) dL_law_293 rfl (by omega) (fun b293 => ?_) (fun b293 => ?_)
  rotate_left
  · exact absurd b293 (by omega)
  refine zz_iconst dL_law_300 ?_
  refine gz_iload dL_law_301 rfl ?_
  refine zz_if_lt (tgt := 310) dL_law_303 rfl (by omega) (fun b303 => ?_) (fun b303 => ?_)
  rotate_left
  · exact absurd b303 (by omega)
  refine zz_iconst dL_law_310 ?_
  refine zz_icmp_ne (tgt := 388) dL_law_311 rfl (by omega) (fun b311 => ?_) (fun b311 => ?_)
  · exact absurd b311 (by omega)
  refine gz_iload dL_law_314 rfl ?_
  refine zz_iconst dL_law_316 ?_
  refine zz_icmp_ne (tgt := 324) dL_law_317 rfl (by omega) (fun b317 => ?_) (fun b317 => ?_)
  rotate_left
  · exact absurd b317 (by omega)
  refine zz_iconst dL_law_324 ?_
  refine gz_iload dL_law_325 rfl ?_
  refine gz_aload_n dL_law_327 rfl ?_
  refine gz_iload dL_law_328 rfl ?_
  refine zz_iconst dL_law_330 ?_
  refine gJ_msg (m := i) (v := σ 3 i) dL_law_331 wm_HeliographsLaw_193 jB h56 (by omega) (by omega) rfl (Nat.le_of_ble_eq_true rfl) (by omega) ?_
  refine zz_icmp_ne (tgt := 341) dL_law_334 rfl (by omega) (fun b334 => ?_) (fun b334 => ?_)
  rotate_left
  · exact absurd b334 (by omega)
  refine zz_iconst dL_law_341 ?_
  refine zz_icmp_ne (tgt := 388) dL_law_342 rfl (by omega) (fun b342 => ?_) (fun b342 => ?_)
  · exact absurd b342 (by omega)
  refine gz_iload dL_law_345 rfl ?_
  refine zz_iconst dL_law_347 ?_
  refine zz_icmp_ne (tgt := 355) dL_law_348 rfl (by omega) (fun b348 => ?_) (fun b348 => ?_)
  rotate_left
  · exact absurd b348 (by omega)
  refine zz_iconst dL_law_355 ?_
  refine gz_aload_n dL_law_356 rfl ?_
  refine gz_iload dL_law_357 rfl ?_
  refine zz_bipush (x := 7) dL_law_359 rfl ?_
  refine gJ_msg (m := i) (v := σ 6 i) dL_law_361 wm_HeliographsLaw_193 jB h56 (by omega) (by omega) rfl (Nat.le_of_ble_eq_true rfl) (by omega) ?_
  refine zz_if_lt (tgt := 371) dL_law_364 rfl (by omega) (fun b364 => ?_) (fun b364 => ?_)
  rotate_left
  · exact absurd b364 (by omega)
  refine zz_iconst dL_law_371 ?_
  refine zz_icmp_ne (tgt := 388) dL_law_372 rfl (by omega) (fun b372 => ?_) (fun b372 => ?_)
  · exact absurd b372 (by omega)
  refine gz_aload_n dL_law_375 rfl ?_
  refine gz_iload dL_law_376 rfl ?_
  refine zz_bipush (x := 7) dL_law_378 rfl ?_
  refine gJ_msg (m := i) (v := σ 6 i) dL_law_380 wm_HeliographsLaw_193 jB h56 (by omega) (by omega) rfl (Nat.le_of_ble_eq_true rfl) (by omega) ?_
  refine gz_iload dL_law_383 rfl ?_
  refine zz_icmp_lt (tgt := 390) dL_law_385 rfl (by omega) (fun b385 => ?_) (fun b385 => ?_)
  rotate_left
  · exact absurd b385 (by omega)
  refine gz_iload dL_law_390 rfl ?_
  refine zz_if_lt (tgt := 433) dL_law_392 rfl (by omega) (fun b392 => ?_) (fun b392 => ?_)
  rotate_left
  · exact absurd b392 (by omega)
  refine zz_iinc (L2 := [some (.ref 56), none, some (.ref 424), some (.ref 320), some (.int (iZ (π 0 0))), some (.int (iZ (π 0 1))), some (.int (iZ (π 0 3))), some (.int (iZ ((tm : Int)))), some (.int x), some (.int (iZ (σ 0 1))), some (.ref r), some (.ref (r + 1)), some (.ref (r + 2)), some (.int (iZ ((sSum (σ 8) 0 i) + (σ 8 i)))), some (.int (iZ ((sSum (σ 5) 0 i) + (σ 5 i)))), some (.int (iZ (((i + 1 : Nat) : Int)))), some (.int (iZ (0))), some (.int (iZ ((a : Int)))), some (.int (iZ (σ 7 i))), some (.int (iZ (σ 5 i))), J4, J5, J6, J7, J8, J9, J10, J11]) dL_law_433 rfl (by rw [show ((i + 1 : Nat) : Int) = (i : Int) + 1 by omega]; rfl) ?_
  refine gz_goto (tgt := 137) dL_law_436 rfl ?_
  exact zl_msgs_next jB ⟨fun y hy => (zb_rw (by omega) y).trans (tal_how hT.1 (k := 0) i4 y hy), tal_off hT.2.1 (by omega) (fun y => (zb_rw (by omega) y).trans (zb_rw (by omega) y)), tal_row (fun y hy => (zb_rw (by omega) y).trans (hT.2.2 y hy)) i4 ha⟩ (fun y j h => (zb_u_no _ _ (by omega)).trans (zb_u_no _ _ (by omega))) kk
theorem zl_msg_1 {E : Nat → Nat × Nat} {e : Nat} {c : Nat → Nat} {π σ : zV} {p : Nat} {H : zV → Nat → Bool} {t o N : Int} {kc ks : Nat} {Q : Option Value → zk_M → (Heap → Prop) → Prop} {tm r np : Nat} {x : Int32} {W : zV} {i : Nat} {J0 J1 J2 J3 J4 J5 J6 J7 J8 J9 J10 J11 : Option Value} (hr : 480 ≤ r) (a0 : E r = (100, 3)) (a1 : E (r + 1) = (100, np)) (a2 : E (r + 2) = (100, np)) (hJ : lJ E e c W p H π σ t o N) (h56 : Γ.2.2.2.1 56 < Γ.2.1.size) (hi : (i : Int) < π 0 3) (hnp : (np : Int) = π 0 0) (hT : tal W r np σ i) (hN : N ≤ 80000) (hd : 20 ≤ d) (q4 : σ 4 i = 1) (kk : ∀ (W1 : zV) (J0 J1 J2 J3 J4 J5 J6 J7 J8 J9 J10 J11 : Option Value), lJ E e c W1 p H π σ t o N → tal W1 r np σ (i + 1) → (∀ a j, (a < r ∨ r + 3 ≤ a) → W1 a j = W a j) → zk_Go l Γ mL_law d kc ks Q 137 [some (.ref 56), none, some (.ref 424), some (.ref 320), some (.int (iZ (π 0 0))), some (.int (iZ (π 0 1))), some (.int (iZ (π 0 3))), some (.int (iZ ((tm : Int)))), some (.int x), some (.int (iZ (σ 0 1))), some (.ref r), some (.ref (r + 1)), some (.ref (r + 2)), some (.int (iZ (sSum (σ 8) 0 (i + 1)))), some (.int (iZ (sSum (σ 5) 0 (i + 1)))), some (.int (iZ (((i + 1 : Nat) : Int)))), J0, J1, J2, J3, J4, J5, J6, J7, J8, J9, J10, J11] [] (zG E e W1) F) : zk_Go l Γ mL_law d kc ks Q 137 [some (.ref 56), none, some (.ref 424), some (.ref 320), some (.int (iZ (π 0 0))), some (.int (iZ (π 0 1))), some (.int (iZ (π 0 3))), some (.int (iZ ((tm : Int)))), some (.int x), some (.int (iZ (σ 0 1))), some (.ref r), some (.ref (r + 1)), some (.ref (r + 2)), some (.int (iZ (sSum (σ 8) 0 i))), some (.int (iZ (sSum (σ 5) 0 i))), some (.int (iZ ((i : Int)))), J0, J1, J2, J3, J4, J5, J6, J7, J8, J9, J10, J11] [] (zG E e W) F := by
  have hJ2 := hJ
  obtain ⟨hE, hE0, hz, hSt, hS, hh, hH, hO⟩ := hJ2
  have n1 := hS.1
  have hw : wP π := hSt.2.2.2.2.1
  have hc : wC π σ N := hSt.2.2.2.2.2.1
  have n0 := wP_n hw
  have t0 := wC_n hc
  have m1 := wC_m hc hi
  unfold wM at m1
  have m2 := hO.1 i hi
  unfold lM at m2
  obtain ⟨a, ha⟩ : ∃ a : Nat, σ 2 i = (a : Int) := ⟨(σ 2 i).toNat, by omega⟩
  have m7 := (wP_m hw (i := i) hi).1
  have i4 : σ 4 i = 1 := q4
  have i5 : 1 ≤ σ 5 i ∧ σ 5 i ≤ π 7 i := by omega
  have i7 : 0 ≤ σ 7 i ∧ σ 7 i < π 0 1 := by omega
  have i23 : σ 2 i ≠ σ 3 i := by omega
  have i6 : σ 6 i = -1 := by omega
  obtain ⟨v, i7v⟩ : ∃ v : Nat, σ 7 i = (v : Int) := ⟨(σ 7 i).toNat, by omega⟩
  have iv := m1.2.2.2.2.2.2.2.2.1 q4
  rw [i7v, Int.toNat_natCast] at iv
  have wv := wP_w hw (w := v) (by omega)
  have io : sFind (fun m => decide (σ 7 m = (v : Int))) 0 (π 0 3).toNat = (i : Int) := sFind_only (by omega) (decide_eq_true i7v) (fun j hj1 hj2 => (hO.2.1 i j (by omega) (by omega) (by omega) (by rw [of_decide_eq_true hj2]; exact i7v)).symm)
  refine gz_iload dL_law_137 rfl ?_
  refine gz_iload dL_law_139 rfl ?_
  refine zz_icmp_ge (tgt := 439) dL_law_141 rfl (by omega) (fun b141 => ?_) (fun b141 => ?_)
  · exact absurd b141 (by omega)
  refine gz_aload_n dL_law_144 rfl ?_
  refine gz_iload dL_law_145 rfl ?_
  refine zz_iconst dL_law_147 ?_
  refine gJ_msg (m := i) (v := σ 4 i) dL_law_148 wm_HeliographsLaw_193 hJ h56 (by omega) (by omega) rfl (Nat.le_of_ble_eq_true rfl) (by omega) ?_
  rw [i4]
  refine gz_istore (L2 := [some (.ref 56), none, some (.ref 424), some (.ref 320), some (.int (iZ (π 0 0))), some (.int (iZ (π 0 1))), some (.int (iZ (π 0 3))), some (.int (iZ ((tm : Int)))), some (.int x), some (.int (iZ (σ 0 1))), some (.ref r), some (.ref (r + 1)), some (.ref (r + 2)), some (.int (iZ (sSum (σ 8) 0 i))), some (.int (iZ (sSum (σ 5) 0 i))), some (.int (iZ ((i : Int)))), some (.int (iZ (1))), J1, J2, J3, J4, J5, J6, J7, J8, J9, J10, J11]) dL_law_151 (Nat.le_of_ble_eq_true rfl) rfl ?_
  refine gz_aload_n dL_law_153 rfl ?_
  refine gz_iload dL_law_154 rfl ?_
  refine zz_iconst dL_law_156 ?_
  refine gJ_msg (m := i) (v := σ 2 i) dL_law_157 wm_HeliographsLaw_193 hJ h56 (by omega) (by omega) rfl (Nat.le_of_ble_eq_true rfl) (by omega) ?_
  rw [ha]
  refine gz_istore (L2 := [some (.ref 56), none, some (.ref 424), some (.ref 320), some (.int (iZ (π 0 0))), some (.int (iZ (π 0 1))), some (.int (iZ (π 0 3))), some (.int (iZ ((tm : Int)))), some (.int x), some (.int (iZ (σ 0 1))), some (.ref r), some (.ref (r + 1)), some (.ref (r + 2)), some (.int (iZ (sSum (σ 8) 0 i))), some (.int (iZ (sSum (σ 5) 0 i))), some (.int (iZ ((i : Int)))), some (.int (iZ (1))), some (.int (iZ ((a : Int)))), J2, J3, J4, J5, J6, J7, J8, J9, J10, J11]) dL_law_160 (Nat.le_of_ble_eq_true rfl) rfl ?_
  refine gz_aload_n dL_law_162 rfl ?_
  refine gz_iload dL_law_163 rfl ?_
  refine zz_iconst dL_law_165 ?_
  refine gJ_msg (m := i) (v := σ 7 i) dL_law_166 wm_HeliographsLaw_193 hJ h56 (by omega) (by omega) rfl (Nat.le_of_ble_eq_true rfl) (by omega) ?_
  rw [i7v]
  refine gz_istore (L2 := [some (.ref 56), none, some (.ref 424), some (.ref 320), some (.int (iZ (π 0 0))), some (.int (iZ (π 0 1))), some (.int (iZ (π 0 3))), some (.int (iZ ((tm : Int)))), some (.int x), some (.int (iZ (σ 0 1))), some (.ref r), some (.ref (r + 1)), some (.ref (r + 2)), some (.int (iZ (sSum (σ 8) 0 i))), some (.int (iZ (sSum (σ 5) 0 i))), some (.int (iZ ((i : Int)))), some (.int (iZ (1))), some (.int (iZ ((a : Int)))), some (.int (iZ ((v : Int)))), J3, J4, J5, J6, J7, J8, J9, J10, J11]) dL_law_169 (Nat.le_of_ble_eq_true rfl) rfl ?_
  refine gz_aload_n dL_law_171 rfl ?_
  refine gz_iload dL_law_172 rfl ?_
  refine zz_iconst dL_law_174 ?_
  refine gJ_msg (m := i) (v := σ 5 i) dL_law_175 wm_HeliographsLaw_193 hJ h56 (by omega) (by omega) rfl (Nat.le_of_ble_eq_true rfl) (by omega) ?_
  refine gz_istore (L2 := [some (.ref 56), none, some (.ref 424), some (.ref 320), some (.int (iZ (π 0 0))), some (.int (iZ (π 0 1))), some (.int (iZ (π 0 3))), some (.int (iZ ((tm : Int)))), some (.int x), some (.int (iZ (σ 0 1))), some (.ref r), some (.ref (r + 1)), some (.ref (r + 2)), some (.int (iZ (sSum (σ 8) 0 i))), some (.int (iZ (sSum (σ 5) 0 i))), some (.int (iZ ((i : Int)))), some (.int (iZ (1))), some (.int (iZ ((a : Int)))), some (.int (iZ ((v : Int)))), some (.int (iZ (σ 5 i))), J4, J5, J6, J7, J8, J9, J10, J11]) dL_law_178 (Nat.le_of_ble_eq_true rfl) rfl ?_
  refine gz_aload dL_law_180 rfl ?_
  refine gz_iload dL_law_182 rfl ?_
  refine gz_dup2 dL_law_184 rfl rfl ?_
  refine gw_iald (a := r) (q := 1) (len := 3) (v := sNum (sIn σ 1) 0 i) dL_law_185 a0 (by omega) rfl (by omega) (hT.1 1 (by omega)) ?_
  refine zz_iconst dL_law_186 ?_
  refine zz_iadd dL_law_187 ?_
  refine gw_iast (a := r) (q := 1) (len := 3) dL_law_188 a0 (by omega) rfl (by omega) ?_
  have jA := lJ_put hJ (a := r) (j := 1) (by omega) (sNum (sIn σ 1) 0 i + 1)
  refine gz_iload dL_law_189 rfl ?_
  refine gz_aload_n dL_law_191 rfl ?_
  refine gz_iload dL_law_192 rfl ?_
  refine zz_bipush (x := 6) dL_law_194 rfl ?_
  refine gJ_msg (m := i) (v := σ 8 i) dL_law_196 wm_HeliographsLaw_193 jA h56 (by omega) (by omega) rfl (Nat.le_of_ble_eq_true rfl) (by omega) ?_
  refine zz_iadd dL_law_199 ?_
  refine gz_istore (L2 := [some (.ref 56), none, some (.ref 424), some (.ref 320), some (.int (iZ (π 0 0))), some (.int (iZ (π 0 1))), some (.int (iZ (π 0 3))), some (.int (iZ ((tm : Int)))), some (.int x), some (.int (iZ (σ 0 1))), some (.ref r), some (.ref (r + 1)), some (.ref (r + 2)), some (.int (iZ ((sSum (σ 8) 0 i) + (σ 8 i)))), some (.int (iZ (sSum (σ 5) 0 i))), some (.int (iZ ((i : Int)))), some (.int (iZ (1))), some (.int (iZ ((a : Int)))), some (.int (iZ ((v : Int)))), some (.int (iZ (σ 5 i))), J4, J5, J6, J7, J8, J9, J10, J11]) dL_law_200 (Nat.le_of_ble_eq_true rfl) rfl ?_
  refine gz_iload dL_law_202 rfl ?_
  refine gz_iload dL_law_204 rfl ?_
  refine zz_iadd dL_law_206 ?_
  refine gz_istore (L2 := [some (.ref 56), none, some (.ref 424), some (.ref 320), some (.int (iZ (π 0 0))), some (.int (iZ (π 0 1))), some (.int (iZ (π 0 3))), some (.int (iZ ((tm : Int)))), some (.int x), some (.int (iZ (σ 0 1))), some (.ref r), some (.ref (r + 1)), some (.ref (r + 2)), some (.int (iZ ((sSum (σ 8) 0 i) + (σ 8 i)))), some (.int (iZ ((sSum (σ 5) 0 i) + (σ 5 i)))), some (.int (iZ ((i : Int)))), some (.int (iZ (1))), some (.int (iZ ((a : Int)))), some (.int (iZ ((v : Int)))), some (.int (iZ (σ 5 i))), J4, J5, J6, J7, J8, J9, J10, J11]) dL_law_207 (Nat.le_of_ble_eq_true rfl) rfl ?_
  refine gz_iload dL_law_209 rfl ?_
  refine zz_if_ne (tgt := 223) dL_law_211 rfl (by omega) (fun b211 => ?_) (fun b211 => ?_)
  rotate_left
  · exact absurd b211 (by omega)
  refine gz_iload dL_law_223 rfl ?_
  refine zz_iconst dL_law_225 ?_
  refine zz_icmp_ne (tgt := 238) dL_law_226 rfl (by omega) (fun b226 => ?_) (fun b226 => ?_)
  · exact absurd b226 (by omega)
  refine gz_aload dL_law_229 rfl ?_
  refine gz_iload dL_law_231 rfl ?_
  refine gz_dup2 dL_law_233 rfl rfl ?_
  refine gw_iald (a := r + 1) (q := a) (len := np) (v := sNum (sAt σ (a : Int) 1) 0 i) dL_law_234 a1 (by omega) rfl (by omega) ((zb_rw (by omega) a).trans (hT.2.1 a (by omega))) ?_
  refine zz_iconst dL_law_235 ?_
  refine zz_iadd dL_law_236 ?_
  refine gw_iast (a := r + 1) (q := a) (len := np) dL_law_237 a1 (by omega) rfl (by omega) ?_
  have jB := lJ_put jA (a := r + 1) (j := a) (by omega) (sNum (sAt σ (a : Int) 1) 0 i + 1)
  refine gz_iload dL_law_238 rfl ?_
  refine zz_if_ne (tgt := 255) dL_law_240 rfl (by omega) (fun b240 => ?_) (fun b240 => ?_)
  rotate_left
  · exact absurd b240 (by omega)
  refine gz_iload dL_law_255 rfl ?_
  refine zz_iconst dL_law_257 ?_
  refine zz_icmp_ne (tgt := 279) dL_law_258 rfl (by omega) (fun b258 => ?_) (fun b258 => ?_)
  · exact absurd b258 (by omega)
  refine gz_iload dL_law_261 rfl ?_
  refine zz_iconst dL_law_263 ?_
  refine zz_icmp_lt (tgt := 388) dL_law_264 rfl (by omega) (fun b264 => ?_) (fun b264 => ?_)
  · exact absurd b264 (by omega)
  refine gz_iload dL_law_267 rfl ?_
  refine gz_aload_n dL_law_269 rfl ?_
  refine gz_iload dL_law_270 rfl ?_
  refine zz_iconst dL_law_272 ?_
  refine gJ_msg (m := i) (v := π 7 i) dL_law_273 wm_HeliographsLaw_193 jB h56 (by omega) (by omega) rfl (Nat.le_of_ble_eq_true rfl) (by omega) ?_
  refine zz_icmp_gt (tgt := 388) dL_law_276 rfl (by omega) (fun b276 => ?_) (fun b276 => ?_)
  · exact absurd b276 (by omega)
  refine gz_iload dL_law_279 rfl ?_
  refine zz_iconst dL_law_281 ?_
  refine zz_icmp_ne (tgt := 290) dL_law_282 rfl (by omega) (fun b282 => ?_) (fun b282 => ?_)
  rotate_left
  · exact absurd b282 (by omega)
  refine gz_iload dL_law_290 rfl ?_
  refine zz_iconst dL_law_292 ?_
  refine zz_icmp_ne (tgt := 300) dL_law_293 rfl (by omega) (fun b293 => ?_) (fun b293 => ?_)
  · exact absurd b293 (by omega)
  refine zz_iconst dL_law_296 ?_
  refine gz_goto (tgt := 301) dL_law_297 rfl ?_
  refine gz_iload dL_law_301 rfl ?_
  refine zz_if_lt (tgt := 310) dL_law_303 rfl (by omega) (fun b303 => ?_) (fun b303 => ?_)
  · exact absurd b303 (by omega)
  refine zz_iconst dL_law_306 ?_
  refine gz_goto (tgt := 311) dL_law_307 rfl ?_
  refine zz_icmp_ne (tgt := 388) dL_law_311 rfl (by omega) (fun b311 => ?_) (fun b311 => ?_)
  · exact absurd b311 (by omega)
  refine gz_iload dL_law_314 rfl ?_
  refine zz_iconst dL_law_316 ?_
  refine zz_icmp_ne (tgt := 324) dL_law_317 rfl (by omega) (fun b317 => ?_) (fun b317 => ?_)
  rotate_left
  · exact absurd b317 (by omega)
  refine zz_iconst dL_law_324 ?_
  refine gz_iload dL_law_325 rfl ?_
  refine gz_aload_n dL_law_327 rfl ?_
  refine gz_iload dL_law_328 rfl ?_
  refine zz_iconst dL_law_330 ?_
  refine gJ_msg (m := i) (v := σ 3 i) dL_law_331 wm_HeliographsLaw_193 jB h56 (by omega) (by omega) rfl (Nat.le_of_ble_eq_true rfl) (by omega) ?_
  refine zz_icmp_ne (tgt := 341) dL_law_334 rfl (by omega) (fun b334 => ?_) (fun b334 => ?_)
  rotate_left
  · exact absurd b334 (by omega)
  refine zz_iconst dL_law_341 ?_
  refine zz_icmp_ne (tgt := 388) dL_law_342 rfl (by omega) (fun b342 => ?_) (fun b342 => ?_)
  · exact absurd b342 (by omega)
  refine gz_iload dL_law_345 rfl ?_
  refine zz_iconst dL_law_347 ?_
  refine zz_icmp_ne (tgt := 355) dL_law_348 rfl (by omega) (fun b348 => ?_) (fun b348 => ?_)
  rotate_left
  · exact absurd b348 (by omega)
  refine zz_iconst dL_law_355 ?_
  refine gz_aload_n dL_law_356 rfl ?_
  refine gz_iload dL_law_357 rfl ?_
  refine zz_bipush (x := 7) dL_law_359 rfl ?_
  refine gJ_msg (m := i) (v := σ 6 i) dL_law_361 wm_HeliographsLaw_193 jB h56 (by omega) (by omega) rfl (Nat.le_of_ble_eq_true rfl) (by omega) ?_
  refine zz_if_lt (tgt := 371) dL_law_364 rfl (by omega) (fun b364 => ?_) (fun b364 => ?_)
  rotate_left
  · exact absurd b364 (by omega)
  refine zz_iconst dL_law_371 ?_
  refine zz_icmp_ne (tgt := 388) dL_law_372 rfl (by omega) (fun b372 => ?_) (fun b372 => ?_)
  · exact absurd b372 (by omega)
  refine gz_aload_n dL_law_375 rfl ?_
  refine gz_iload dL_law_376 rfl ?_
  refine zz_bipush (x := 7) dL_law_378 rfl ?_
  refine gJ_msg (m := i) (v := σ 6 i) dL_law_380 wm_HeliographsLaw_193 jB h56 (by omega) (by omega) rfl (Nat.le_of_ble_eq_true rfl) (by omega) ?_
  refine gz_iload dL_law_383 rfl ?_
  refine zz_icmp_lt (tgt := 390) dL_law_385 rfl (by omega) (fun b385 => ?_) (fun b385 => ?_)
  rotate_left
  · exact absurd b385 (by omega)
  refine gz_iload dL_law_390 rfl ?_
  refine zz_if_lt (tgt := 433) dL_law_392 rfl (by omega) (fun b392 => ?_) (fun b392 => ?_)
  · exact absurd b392 (by omega)
  refine gz_aload_n dL_law_395 rfl ?_
  refine gz_iload dL_law_396 rfl ?_
  refine zz_iconst dL_law_398 ?_
  refine gJ_pass (w := v) (v := sFind (fun m => decide (σ 7 m = (v : Int))) 0 (π 0 3).toNat) dL_law_399 wm_HeliographsLaw_196 jB h56 (by omega) (by omega) rfl (Nat.le_of_ble_eq_true rfl) (by omega) ?_
  refine gz_iload dL_law_402 rfl ?_
  refine zz_icmp_ne (tgt := 431) dL_law_404 rfl (by omega) (fun b404 => ?_) (fun b404 => ?_)
  · exact absurd b404 (by omega)
  refine gz_aload_n dL_law_407 rfl ?_
  refine gz_iload dL_law_408 rfl ?_
  refine zz_iconst dL_law_410 ?_
  refine gJ_pass (w := v) (v := π 4 v) dL_law_411 wm_HeliographsLaw_196 jB h56 (by omega) (by omega) rfl (Nat.le_of_ble_eq_true rfl) (by omega) ?_
  refine gz_iload dL_law_414 rfl ?_
  refine zz_icmp_eq (tgt := 433) dL_law_416 rfl (by omega) (fun b416 => ?_) (fun b416 => ?_)
  ·
    refine zz_iinc (L2 := [some (.ref 56), none, some (.ref 424), some (.ref 320), some (.int (iZ (π 0 0))), some (.int (iZ (π 0 1))), some (.int (iZ (π 0 3))), some (.int (iZ ((tm : Int)))), some (.int x), some (.int (iZ (σ 0 1))), some (.ref r), some (.ref (r + 1)), some (.ref (r + 2)), some (.int (iZ ((sSum (σ 8) 0 i) + (σ 8 i)))), some (.int (iZ ((sSum (σ 5) 0 i) + (σ 5 i)))), some (.int (iZ (((i + 1 : Nat) : Int)))), some (.int (iZ (1))), some (.int (iZ ((a : Int)))), some (.int (iZ ((v : Int)))), some (.int (iZ (σ 5 i))), J4, J5, J6, J7, J8, J9, J10, J11]) dL_law_433 rfl (by rw [show ((i + 1 : Nat) : Int) = (i : Int) + 1 by omega]; rfl) ?_
    refine gz_goto (tgt := 137) dL_law_436 rfl ?_
    exact zl_msgs_next jB ⟨fun y hy => (zb_rw (by omega) y).trans (tal_how hT.1 (k := 1) i4 y hy), tal_row (fun y hy => (zb_rw (by omega) y).trans (hT.2.1 y hy)) i4 ha, tal_off hT.2.2 (by omega) (fun y => (zb_rw (by omega) y).trans (zb_rw (by omega) y))⟩ (fun y j h => (zb_u_no _ _ (by omega)).trans (zb_u_no _ _ (by omega))) kk
  ·
    refine gz_aload_n dL_law_419 rfl ?_
    refine gz_iload dL_law_420 rfl ?_
    refine zz_iconst dL_law_422 ?_
    refine gJ_pass (w := v) (v := π 5 v) dL_law_423 wm_HeliographsLaw_196 jB h56 (by omega) (by omega) rfl (Nat.le_of_ble_eq_true rfl) (by omega) ?_
    refine gz_iload dL_law_426 rfl ?_
    refine zz_icmp_eq (tgt := 433) dL_law_428 rfl (by omega) (fun b428 => ?_) (fun b428 => ?_)
    rotate_left
    · exact absurd b428 (by omega)
    refine zz_iinc (L2 := [some (.ref 56), none, some (.ref 424), some (.ref 320), some (.int (iZ (π 0 0))), some (.int (iZ (π 0 1))), some (.int (iZ (π 0 3))), some (.int (iZ ((tm : Int)))), some (.int x), some (.int (iZ (σ 0 1))), some (.ref r), some (.ref (r + 1)), some (.ref (r + 2)), some (.int (iZ ((sSum (σ 8) 0 i) + (σ 8 i)))), some (.int (iZ ((sSum (σ 5) 0 i) + (σ 5 i)))), some (.int (iZ (((i + 1 : Nat) : Int)))), some (.int (iZ (1))), some (.int (iZ ((a : Int)))), some (.int (iZ ((v : Int)))), some (.int (iZ (σ 5 i))), J4, J5, J6, J7, J8, J9, J10, J11]) dL_law_433 rfl (by rw [show ((i + 1 : Nat) : Int) = (i : Int) + 1 by omega]; rfl) ?_
    refine gz_goto (tgt := 137) dL_law_436 rfl ?_
    exact zl_msgs_next jB ⟨fun y hy => (zb_rw (by omega) y).trans (tal_how hT.1 (k := 1) i4 y hy), tal_row (fun y hy => (zb_rw (by omega) y).trans (hT.2.1 y hy)) i4 ha, tal_off hT.2.2 (by omega) (fun y => (zb_rw (by omega) y).trans (zb_rw (by omega) y))⟩ (fun y j h => (zb_u_no _ _ (by omega)).trans (zb_u_no _ _ (by omega))) kk
theorem zl_msg_2 {E : Nat → Nat × Nat} {e : Nat} {c : Nat → Nat} {π σ : zV} {p : Nat} {H : zV → Nat → Bool} {t o N : Int} {kc ks : Nat} {Q : Option Value → zk_M → (Heap → Prop) → Prop} {tm r np : Nat} {x : Int32} {W : zV} {i : Nat} {J0 J1 J2 J3 J4 J5 J6 J7 J8 J9 J10 J11 : Option Value} (hr : 480 ≤ r) (a0 : E r = (100, 3)) (a1 : E (r + 1) = (100, np)) (a2 : E (r + 2) = (100, np)) (hJ : lJ E e c W p H π σ t o N) (h56 : Γ.2.2.2.1 56 < Γ.2.1.size) (hi : (i : Int) < π 0 3) (hnp : (np : Int) = π 0 0) (hT : tal W r np σ i) (hN : N ≤ 80000) (hd : 20 ≤ d) (q4 : σ 4 i = 2) (kk : ∀ (W1 : zV) (J0 J1 J2 J3 J4 J5 J6 J7 J8 J9 J10 J11 : Option Value), lJ E e c W1 p H π σ t o N → tal W1 r np σ (i + 1) → (∀ a j, (a < r ∨ r + 3 ≤ a) → W1 a j = W a j) → zk_Go l Γ mL_law d kc ks Q 137 [some (.ref 56), none, some (.ref 424), some (.ref 320), some (.int (iZ (π 0 0))), some (.int (iZ (π 0 1))), some (.int (iZ (π 0 3))), some (.int (iZ ((tm : Int)))), some (.int x), some (.int (iZ (σ 0 1))), some (.ref r), some (.ref (r + 1)), some (.ref (r + 2)), some (.int (iZ (sSum (σ 8) 0 (i + 1)))), some (.int (iZ (sSum (σ 5) 0 (i + 1)))), some (.int (iZ (((i + 1 : Nat) : Int)))), J0, J1, J2, J3, J4, J5, J6, J7, J8, J9, J10, J11] [] (zG E e W1) F) : zk_Go l Γ mL_law d kc ks Q 137 [some (.ref 56), none, some (.ref 424), some (.ref 320), some (.int (iZ (π 0 0))), some (.int (iZ (π 0 1))), some (.int (iZ (π 0 3))), some (.int (iZ ((tm : Int)))), some (.int x), some (.int (iZ (σ 0 1))), some (.ref r), some (.ref (r + 1)), some (.ref (r + 2)), some (.int (iZ (sSum (σ 8) 0 i))), some (.int (iZ (sSum (σ 5) 0 i))), some (.int (iZ ((i : Int)))), J0, J1, J2, J3, J4, J5, J6, J7, J8, J9, J10, J11] [] (zG E e W) F := by
  have hJ2 := hJ
  obtain ⟨hE, hE0, hz, hSt, hS, hh, hH, hO⟩ := hJ2
  have n1 := hS.1
  have hw : wP π := hSt.2.2.2.2.1
  have hc : wC π σ N := hSt.2.2.2.2.2.1
  have n0 := wP_n hw
  have t0 := wC_n hc
  have m1 := wC_m hc hi
  unfold wM at m1
  have m2 := hO.1 i hi
  unfold lM at m2
  obtain ⟨a, ha⟩ : ∃ a : Nat, σ 2 i = (a : Int) := ⟨(σ 2 i).toNat, by omega⟩
  have m7 := (wP_m hw (i := i) hi).1
  have i4 : σ 4 i = 2 := q4
  have i5 : σ 5 i = 0 := by omega
  have i7 : σ 7 i = -1 := by omega
  have i23 : σ 2 i = σ 3 i := by omega
  have i6 : 0 ≤ σ 6 i ∧ σ 6 i ≤ σ 0 1 - 1 := by omega
  refine gz_iload dL_law_137 rfl ?_
  refine gz_iload dL_law_139 rfl ?_
  refine zz_icmp_ge (tgt := 439) dL_law_141 rfl (by omega) (fun b141 => ?_) (fun b141 => ?_)
  · exact absurd b141 (by omega)
  refine gz_aload_n dL_law_144 rfl ?_
  refine gz_iload dL_law_145 rfl ?_
  refine zz_iconst dL_law_147 ?_
  refine gJ_msg (m := i) (v := σ 4 i) dL_law_148 wm_HeliographsLaw_193 hJ h56 (by omega) (by omega) rfl (Nat.le_of_ble_eq_true rfl) (by omega) ?_
  rw [i4]
  refine gz_istore (L2 := [some (.ref 56), none, some (.ref 424), some (.ref 320), some (.int (iZ (π 0 0))), some (.int (iZ (π 0 1))), some (.int (iZ (π 0 3))), some (.int (iZ ((tm : Int)))), some (.int x), some (.int (iZ (σ 0 1))), some (.ref r), some (.ref (r + 1)), some (.ref (r + 2)), some (.int (iZ (sSum (σ 8) 0 i))), some (.int (iZ (sSum (σ 5) 0 i))), some (.int (iZ ((i : Int)))), some (.int (iZ (2))), J1, J2, J3, J4, J5, J6, J7, J8, J9, J10, J11]) dL_law_151 (Nat.le_of_ble_eq_true rfl) rfl ?_
  refine gz_aload_n dL_law_153 rfl ?_
  refine gz_iload dL_law_154 rfl ?_
  refine zz_iconst dL_law_156 ?_
  refine gJ_msg (m := i) (v := σ 2 i) dL_law_157 wm_HeliographsLaw_193 hJ h56 (by omega) (by omega) rfl (Nat.le_of_ble_eq_true rfl) (by omega) ?_
  rw [ha]
  refine gz_istore (L2 := [some (.ref 56), none, some (.ref 424), some (.ref 320), some (.int (iZ (π 0 0))), some (.int (iZ (π 0 1))), some (.int (iZ (π 0 3))), some (.int (iZ ((tm : Int)))), some (.int x), some (.int (iZ (σ 0 1))), some (.ref r), some (.ref (r + 1)), some (.ref (r + 2)), some (.int (iZ (sSum (σ 8) 0 i))), some (.int (iZ (sSum (σ 5) 0 i))), some (.int (iZ ((i : Int)))), some (.int (iZ (2))), some (.int (iZ ((a : Int)))), J2, J3, J4, J5, J6, J7, J8, J9, J10, J11]) dL_law_160 (Nat.le_of_ble_eq_true rfl) rfl ?_
  refine gz_aload_n dL_law_162 rfl ?_
  refine gz_iload dL_law_163 rfl ?_
  refine zz_iconst dL_law_165 ?_
  refine gJ_msg (m := i) (v := σ 7 i) dL_law_166 wm_HeliographsLaw_193 hJ h56 (by omega) (by omega) rfl (Nat.le_of_ble_eq_true rfl) (by omega) ?_
  refine gz_istore (L2 := [some (.ref 56), none, some (.ref 424), some (.ref 320), some (.int (iZ (π 0 0))), some (.int (iZ (π 0 1))), some (.int (iZ (π 0 3))), some (.int (iZ ((tm : Int)))), some (.int x), some (.int (iZ (σ 0 1))), some (.ref r), some (.ref (r + 1)), some (.ref (r + 2)), some (.int (iZ (sSum (σ 8) 0 i))), some (.int (iZ (sSum (σ 5) 0 i))), some (.int (iZ ((i : Int)))), some (.int (iZ (2))), some (.int (iZ ((a : Int)))), some (.int (iZ (σ 7 i))), J3, J4, J5, J6, J7, J8, J9, J10, J11]) dL_law_169 (Nat.le_of_ble_eq_true rfl) rfl ?_
  refine gz_aload_n dL_law_171 rfl ?_
  refine gz_iload dL_law_172 rfl ?_
  refine zz_iconst dL_law_174 ?_
  refine gJ_msg (m := i) (v := σ 5 i) dL_law_175 wm_HeliographsLaw_193 hJ h56 (by omega) (by omega) rfl (Nat.le_of_ble_eq_true rfl) (by omega) ?_
  refine gz_istore (L2 := [some (.ref 56), none, some (.ref 424), some (.ref 320), some (.int (iZ (π 0 0))), some (.int (iZ (π 0 1))), some (.int (iZ (π 0 3))), some (.int (iZ ((tm : Int)))), some (.int x), some (.int (iZ (σ 0 1))), some (.ref r), some (.ref (r + 1)), some (.ref (r + 2)), some (.int (iZ (sSum (σ 8) 0 i))), some (.int (iZ (sSum (σ 5) 0 i))), some (.int (iZ ((i : Int)))), some (.int (iZ (2))), some (.int (iZ ((a : Int)))), some (.int (iZ (σ 7 i))), some (.int (iZ (σ 5 i))), J4, J5, J6, J7, J8, J9, J10, J11]) dL_law_178 (Nat.le_of_ble_eq_true rfl) rfl ?_
  refine gz_aload dL_law_180 rfl ?_
  refine gz_iload dL_law_182 rfl ?_
  refine gz_dup2 dL_law_184 rfl rfl ?_
  refine gw_iald (a := r) (q := 2) (len := 3) (v := sNum (sIn σ 2) 0 i) dL_law_185 a0 (by omega) rfl (by omega) (hT.1 2 (by omega)) ?_
  refine zz_iconst dL_law_186 ?_
  refine zz_iadd dL_law_187 ?_
  refine gw_iast (a := r) (q := 2) (len := 3) dL_law_188 a0 (by omega) rfl (by omega) ?_
  have jA := lJ_put hJ (a := r) (j := 2) (by omega) (sNum (sIn σ 2) 0 i + 1)
  refine gz_iload dL_law_189 rfl ?_
  refine gz_aload_n dL_law_191 rfl ?_
  refine gz_iload dL_law_192 rfl ?_
  refine zz_bipush (x := 6) dL_law_194 rfl ?_
  refine gJ_msg (m := i) (v := σ 8 i) dL_law_196 wm_HeliographsLaw_193 jA h56 (by omega) (by omega) rfl (Nat.le_of_ble_eq_true rfl) (by omega) ?_
  refine zz_iadd dL_law_199 ?_
  refine gz_istore (L2 := [some (.ref 56), none, some (.ref 424), some (.ref 320), some (.int (iZ (π 0 0))), some (.int (iZ (π 0 1))), some (.int (iZ (π 0 3))), some (.int (iZ ((tm : Int)))), some (.int x), some (.int (iZ (σ 0 1))), some (.ref r), some (.ref (r + 1)), some (.ref (r + 2)), some (.int (iZ ((sSum (σ 8) 0 i) + (σ 8 i)))), some (.int (iZ (sSum (σ 5) 0 i))), some (.int (iZ ((i : Int)))), some (.int (iZ (2))), some (.int (iZ ((a : Int)))), some (.int (iZ (σ 7 i))), some (.int (iZ (σ 5 i))), J4, J5, J6, J7, J8, J9, J10, J11]) dL_law_200 (Nat.le_of_ble_eq_true rfl) rfl ?_
  refine gz_iload dL_law_202 rfl ?_
  refine gz_iload dL_law_204 rfl ?_
  refine zz_iadd dL_law_206 ?_
  refine gz_istore (L2 := [some (.ref 56), none, some (.ref 424), some (.ref 320), some (.int (iZ (π 0 0))), some (.int (iZ (π 0 1))), some (.int (iZ (π 0 3))), some (.int (iZ ((tm : Int)))), some (.int x), some (.int (iZ (σ 0 1))), some (.ref r), some (.ref (r + 1)), some (.ref (r + 2)), some (.int (iZ ((sSum (σ 8) 0 i) + (σ 8 i)))), some (.int (iZ ((sSum (σ 5) 0 i) + (σ 5 i)))), some (.int (iZ ((i : Int)))), some (.int (iZ (2))), some (.int (iZ ((a : Int)))), some (.int (iZ (σ 7 i))), some (.int (iZ (σ 5 i))), J4, J5, J6, J7, J8, J9, J10, J11]) dL_law_207 (Nat.le_of_ble_eq_true rfl) rfl ?_
  refine gz_iload dL_law_209 rfl ?_
  refine zz_if_ne (tgt := 223) dL_law_211 rfl (by omega) (fun b211 => ?_) (fun b211 => ?_)
  rotate_left
  · exact absurd b211 (by omega)
  refine gz_iload dL_law_223 rfl ?_
  refine zz_iconst dL_law_225 ?_
  refine zz_icmp_ne (tgt := 238) dL_law_226 rfl (by omega) (fun b226 => ?_) (fun b226 => ?_)
  rotate_left
  · exact absurd b226 (by omega)
  refine gz_iload dL_law_238 rfl ?_
  refine zz_if_ne (tgt := 255) dL_law_240 rfl (by omega) (fun b240 => ?_) (fun b240 => ?_)
  rotate_left
  · exact absurd b240 (by omega)
  refine gz_iload dL_law_255 rfl ?_
  refine zz_iconst dL_law_257 ?_
  refine zz_icmp_ne (tgt := 279) dL_law_258 rfl (by omega) (fun b258 => ?_) (fun b258 => ?_)
  rotate_left
  · exact absurd b258 (by omega)
  refine gz_iload dL_law_279 rfl ?_
  refine zz_iconst dL_law_281 ?_
  refine zz_icmp_ne (tgt := 290) dL_law_282 rfl (by omega) (fun b282 => ?_) (fun b282 => ?_)
  · exact absurd b282 (by omega)
  refine gz_iload dL_law_285 rfl ?_
  refine zz_if_ne (tgt := 388) dL_law_287 rfl (by omega) (fun b287 => ?_) (fun b287 => ?_)
  · exact absurd b287 (by omega)
  refine gz_iload dL_law_290 rfl ?_
  refine zz_iconst dL_law_292 ?_
  refine zz_icmp_ne (tgt := 300) dL_law_293 rfl (by omega) (fun b293 => ?_) (fun b293 => ?_)
  rotate_left
  · exact absurd b293 (by omega)
  refine zz_iconst dL_law_300 ?_
  refine gz_iload dL_law_301 rfl ?_
  refine zz_if_lt (tgt := 310) dL_law_303 rfl (by omega) (fun b303 => ?_) (fun b303 => ?_)
  rotate_left
  · exact absurd b303 (by omega)
  refine zz_iconst dL_law_310 ?_
  refine zz_icmp_ne (tgt := 388) dL_law_311 rfl (by omega) (fun b311 => ?_) (fun b311 => ?_)
  · exact absurd b311 (by omega)
  refine gz_iload dL_law_314 rfl ?_
  refine zz_iconst dL_law_316 ?_
  refine zz_icmp_ne (tgt := 324) dL_law_317 rfl (by omega) (fun b317 => ?_) (fun b317 => ?_)
  · exact absurd b317 (by omega)
  refine zz_iconst dL_law_320 ?_
  refine gz_goto (tgt := 325) dL_law_321 rfl ?_
  refine gz_iload dL_law_325 rfl ?_
  refine gz_aload_n dL_law_327 rfl ?_
  refine gz_iload dL_law_328 rfl ?_
  refine zz_iconst dL_law_330 ?_
  refine gJ_msg (m := i) (v := σ 3 i) dL_law_331 wm_HeliographsLaw_193 jA h56 (by omega) (by omega) rfl (Nat.le_of_ble_eq_true rfl) (by omega) ?_
  refine zz_icmp_ne (tgt := 341) dL_law_334 rfl (by omega) (fun b334 => ?_) (fun b334 => ?_)
  · exact absurd b334 (by omega)
  refine zz_iconst dL_law_337 ?_
  refine gz_goto (tgt := 342) dL_law_338 rfl ?_
  refine zz_icmp_ne (tgt := 388) dL_law_342 rfl (by omega) (fun b342 => ?_) (fun b342 => ?_)
  · exact absurd b342 (by omega)
  refine gz_iload dL_law_345 rfl ?_
  refine zz_iconst dL_law_347 ?_
  refine zz_icmp_ne (tgt := 355) dL_law_348 rfl (by omega) (fun b348 => ?_) (fun b348 => ?_)
  · exact absurd b348 (by omega)
  refine zz_iconst dL_law_351 ?_
  refine gz_goto (tgt := 356) dL_law_352 rfl ?_
  refine gz_aload_n dL_law_356 rfl ?_
  refine gz_iload dL_law_357 rfl ?_
  refine zz_bipush (x := 7) dL_law_359 rfl ?_
  refine gJ_msg (m := i) (v := σ 6 i) dL_law_361 wm_HeliographsLaw_193 jA h56 (by omega) (by omega) rfl (Nat.le_of_ble_eq_true rfl) (by omega) ?_
  refine zz_if_lt (tgt := 371) dL_law_364 rfl (by omega) (fun b364 => ?_) (fun b364 => ?_)
  · exact absurd b364 (by omega)
  refine zz_iconst dL_law_367 ?_
  refine gz_goto (tgt := 372) dL_law_368 rfl ?_
  refine zz_icmp_ne (tgt := 388) dL_law_372 rfl (by omega) (fun b372 => ?_) (fun b372 => ?_)
  · exact absurd b372 (by omega)
  refine gz_aload_n dL_law_375 rfl ?_
  refine gz_iload dL_law_376 rfl ?_
  refine zz_bipush (x := 7) dL_law_378 rfl ?_
  refine gJ_msg (m := i) (v := σ 6 i) dL_law_380 wm_HeliographsLaw_193 jA h56 (by omega) (by omega) rfl (Nat.le_of_ble_eq_true rfl) (by omega) ?_
  refine gz_iload dL_law_383 rfl ?_
  refine zz_icmp_lt (tgt := 390) dL_law_385 rfl (by omega) (fun b385 => ?_) (fun b385 => ?_)
  rotate_left
  · exact absurd b385 (by omega)
  refine gz_iload dL_law_390 rfl ?_
  refine zz_if_lt (tgt := 433) dL_law_392 rfl (by omega) (fun b392 => ?_) (fun b392 => ?_)
  rotate_left
  · exact absurd b392 (by omega)
  refine zz_iinc (L2 := [some (.ref 56), none, some (.ref 424), some (.ref 320), some (.int (iZ (π 0 0))), some (.int (iZ (π 0 1))), some (.int (iZ (π 0 3))), some (.int (iZ ((tm : Int)))), some (.int x), some (.int (iZ (σ 0 1))), some (.ref r), some (.ref (r + 1)), some (.ref (r + 2)), some (.int (iZ ((sSum (σ 8) 0 i) + (σ 8 i)))), some (.int (iZ ((sSum (σ 5) 0 i) + (σ 5 i)))), some (.int (iZ (((i + 1 : Nat) : Int)))), some (.int (iZ (2))), some (.int (iZ ((a : Int)))), some (.int (iZ (σ 7 i))), some (.int (iZ (σ 5 i))), J4, J5, J6, J7, J8, J9, J10, J11]) dL_law_433 rfl (by rw [show ((i + 1 : Nat) : Int) = (i : Int) + 1 by omega]; rfl) ?_
  refine gz_goto (tgt := 137) dL_law_436 rfl ?_
  exact zl_msgs_next jA ⟨tal_how hT.1 (k := 2) i4, tal_off hT.2.1 (by omega) (fun y => zb_rw (by omega) y), tal_off hT.2.2 (by omega) (fun y => zb_rw (by omega) y)⟩ (fun y j h => zb_u_no _ _ (by omega)) kk
end

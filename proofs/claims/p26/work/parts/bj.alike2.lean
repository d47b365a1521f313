/-! WHETHER THE TWO ARE ALIKE: each peak -/
section
variable {l : Launch} {Γ : zk_G} {d : Nat} {F : Heap → Prop}
theorem zi_peaks {c : Nat → Nat} {π σ : zV} {p : Nat} {H : zV → Nat → Bool} {t o N : Int} {kc ks : Nat} {Q : Option Value → zk_M → (Heap → Prop) → Prop} (h56 : Γ.2.2.2.1 56 < Γ.2.1.size) (hN : N ≤ 80000) (hd : 20 ≤ d) {q r : Nat} {m : Nat → Nat → Int} (hm : mWay π (cut (sLook π σ)) m) (kk : ∀ (E : Nat → Nat × Nat) (e : Nat) (W : zV) (L5 L6 L7 L8 L9 : Option Value), lJ E e c W p H π σ t o N → zk_Go l Γ mX8_isSame d kc ks Q 325 [some (.ref 424), some (.ref 320), some (.ref (q)), some (.ref (r)), some (.int (iZ ((c 0 : Int)))), L5, L6, L7, L8, L9] [] (zG E e W) F) : ∀ (n k : Nat) (E : Nat → Nat × Nat) (e : Nat) (W : zV) (L5 L6 L7 L8 L9 : Option Value), k + n = c 0 → lJ E e c W p H π σ t o N → WR E e W r c m → zk_Go l Γ mX8_isSame d (kc + n) (ks + 7 * n) Q 40 [some (.ref 424), some (.ref 320), some (.ref (q)), some (.ref (r)), some (.int (iZ ((k : Int)))), L5, L6, L7, L8, L9] [] (zG E e W) F
  | 0, k, E, e, W, L5, L6, L7, L8, L9, hi, hJ, hR => by
    have e9 : k = c 0 := by omega
    rw [e9]
    have hE := hJ.1
    have hb := hE.2.2.2.2
    refine gz_iload dX8_isSame_40 rfl ?_
    refine gz_aload_n dX8_isSame_42 rfl ?_
    refine gz_getf (M := zG E e W) 3 dX8_isSame_43 hE.1 rfl wf_HeliographsLaw_Sim_15 (by decide) rfl ?_
    refine gg_alen hE 0 dX8_isSame_46 (by decide) ?_
    refine zz_icmp_ge (tgt := 325) dX8_isSame_47 rfl (by omega) (fun b => ?_) (fun b => absurd b (by omega))
    exact kk E e W L5 L6 L7 L8 L9 hJ
  | n + 1, k, E, e, W, L5, L6, L7, L8, L9, hi, hJ, hR => by
    have hJ2 := hJ
    obtain ⟨hE, hE0, hz, hSt, hS, hh, hH, hO⟩ := hJ2
    have n1 := hS.1
    have hw : wP π := hSt.2.2.2.2.1
    have hc : wC π σ N := hSt.2.2.2.2.2.1
    have n0 := wP_n hw
    have t0 := wC_n hc
    have hb := hE.2.2.2.2
    have h48 := hE.2.2.2.1
    have hk : (k : Int) < π 0 0 := by omega
    have s9 := hS.2.2.1 k (by omega)
    have wk := wP_k hw hk
    have e1c : (π 0 1).toNat = c 1 := by omega
    have e3c : (π 0 3).toNat = c 3 := by omega
    refine gz_iload dX8_isSame_40 rfl ?_
    refine gz_aload_n dX8_isSame_42 rfl ?_
    refine gz_getf (M := zG E e W) 3 dX8_isSame_43 hE.1 rfl wf_HeliographsLaw_Sim_15 (by decide) rfl ?_
    refine gg_alen hE 0 dX8_isSame_46 (by decide) ?_
    refine zz_icmp_ge (tgt := 325) dX8_isSame_47 rfl (by omega) (fun b => absurd b (by omega)) (fun b => ?_)
    refine zz_iconst dX8_isSame_50 ?_
    refine gz_istore (L2 := [some (.ref 424), some (.ref 320), some (.ref (q)), some (.ref (r)), some (.int (iZ ((k : Int)))), some (.int (iZ (sNum (sEnd π (k : Int)) 0 0))), L6, L7, L8, L9]) dX8_isSame_51 (Nat.le_of_ble_eq_true rfl) rfl ?_
    refine zz_iconst dX8_isSame_53 ?_
    refine gz_istore (L2 := [some (.ref 424), some (.ref 320), some (.ref (q)), some (.ref (r)), some (.int (iZ ((k : Int)))), some (.int (iZ (sNum (sEnd π (k : Int)) 0 0))), some (.int (iZ (sNum (fun w => sEnd π (k : Int) w && sPass π σ w (σ 0 1)) 0 0))), L7, L8, L9]) dX8_isSame_54 (Nat.le_of_ble_eq_true rfl) rfl ?_
    refine zz_iconst dX8_isSame_56 ?_
    refine gz_istore (L2 := [some (.ref 424), some (.ref 320), some (.ref (q)), some (.ref (r)), some (.int (iZ ((k : Int)))), some (.int (iZ (sNum (sEnd π (k : Int)) 0 0))), some (.int (iZ (sNum (fun w => sEnd π (k : Int) w && sPass π σ w (σ 0 1)) 0 0))), some (.int (iZ (((0 : Nat) : Int)))), L8, L9]) dX8_isSame_57 (Nat.le_of_ble_eq_true rfl) rfl ?_
    refine zi_has hJ h56 hN hd hk (fun K8 K9 => ?_) (c 1) 0 L8 L9 (by omega)
    refine zz_bipush (x := 7) dX8_isSame_128 rfl ?_
    refine gg_newa h48 (len := 7) dX8_isSame_130 rfl (by omega) ⟨by omega, by omega⟩ ?_
    have hE1 : zE (zG_N E e 7) (e + 1) c := zE_N hE
    have ar : zG_N E e 7 e = (100, 7) := by unfold zG_N; rw [if_neg (by omega)]
    have oE : ∀ a, a < e → zG_N E e 7 a = E a := fun a h => if_pos h
    obtain ⟨E1, hE9⟩ : ∃ X, X = zG_N E e 7 := ⟨_, rfl⟩
    rw [← hE9] at hE1 ar oE
    rw [← hE9]
    have hSW : ∀ W1, (∀ a j, a < e → W1 a j = W a j) → sm c W1 π σ := fun W1 h => sm_kept hS ⟨by omega, by omega, by omega, by omega⟩ (fun a j q1 q2 => h a j (by omega))
    refine gz_dup dX8_isSame_132 rfl ?_
    refine zz_iconst dX8_isSame_133 ?_
    refine gz_aload_n dX8_isSame_134 rfl ?_
    refine gz_getf (M := zG E1 (e + 1) (zG_W e W)) 3 dX8_isSame_135 hE1.1 rfl wf_HeliographsLaw_Sim_15 (by decide) rfl ?_
    refine gz_iload dX8_isSame_138 rfl ?_
    refine gg_aald hE1 0 (j := k) dX8_isSame_140 (by decide) rfl rfl (by omega) ?_
    refine zz_iconst dX8_isSame_141 ?_
    refine gg_iald hE1 0 0 (j := k) (b := 432) (v := π 1 k) dX8_isSame_142 (by decide) rfl (by omega) rfl (by decide) (((show ∀ a j, a < e → (zG_W e W) a j = W a j from fun a j h => (if_pos h)) _ _ (by omega)).trans s9.1) ?_
    refine gw_iast (a := e) (q := 0) (len := 7) dX8_isSame_143 ar h48 rfl (by omega) ?_
    refine gz_dup dX8_isSame_144 rfl ?_
    refine zz_iconst dX8_isSame_145 ?_
    refine gz_aload_n dX8_isSame_146 rfl ?_
    refine gz_getf (M := zG E1 (e + 1) (zb_u (zG_W e W) e 0 (π 1 k))) 3 dX8_isSame_147 hE1.1 rfl wf_HeliographsLaw_Sim_15 (by decide) rfl ?_
    refine gz_iload dX8_isSame_150 rfl ?_
    refine gg_aald hE1 0 (j := k) dX8_isSame_152 (by decide) rfl rfl (by omega) ?_
    refine zz_iconst dX8_isSame_153 ?_
    refine gg_iald hE1 0 1 (j := k) (b := 432) (v := π 2 k) dX8_isSame_154 (by decide) rfl (by omega) rfl (by decide) (((show ∀ a j, a < e → (zb_u (zG_W e W) e 0 (π 1 k)) a j = W a j from fun a j h => ((zb_u_no _ _ (by omega)).trans (if_pos h))) _ _ (by omega)).trans s9.2.1) ?_
    refine gw_iast (a := e) (q := 1) (len := 7) dX8_isSame_155 ar h48 rfl (by omega) ?_
    refine gz_dup dX8_isSame_156 rfl ?_
    refine zz_iconst dX8_isSame_157 ?_
    refine gz_aload_n dX8_isSame_158 rfl ?_
    refine gz_getf (M := zG E1 (e + 1) (zb_u (zb_u (zG_W e W) e 0 (π 1 k)) e 1 (π 2 k))) 3 dX8_isSame_159 hE1.1 rfl wf_HeliographsLaw_Sim_15 (by decide) rfl ?_
    refine gz_iload dX8_isSame_162 rfl ?_
    refine gg_aald hE1 0 (j := k) dX8_isSame_164 (by decide) rfl rfl (by omega) ?_
    refine zz_iconst dX8_isSame_165 ?_
    refine gg_iald hE1 0 2 (j := k) (b := 432) (v := σ 1 k) dX8_isSame_166 (by decide) rfl (by omega) rfl (by decide) (((show ∀ a j, a < e → (zb_u (zb_u (zG_W e W) e 0 (π 1 k)) e 1 (π 2 k)) a j = W a j from fun a j h => ((zb_u_no _ _ (by omega)).trans ((zb_u_no _ _ (by omega)).trans (if_pos h)))) _ _ (by omega)).trans s9.2.2) ?_
    refine gw_iast (a := e) (q := 2) (len := 7) dX8_isSame_167 ar h48 rfl (by omega) ?_
    refine gz_dup dX8_isSame_168 rfl ?_
    refine zz_iconst dX8_isSame_169 ?_
    refine gz_aload_n dX8_isSame_170 rfl ?_
    refine gz_getf (M := zG E1 (e + 1) (zb_u (zb_u (zb_u (zG_W e W) e 0 (π 1 k)) e 1 (π 2 k)) e 2 (σ 1 k))) 3 dX8_isSame_171 hE1.1 rfl wf_HeliographsLaw_Sim_15 (by decide) rfl ?_
    refine gz_iload dX8_isSame_174 rfl ?_
    refine gg_aald hE1 0 (j := k) dX8_isSame_176 (by decide) rfl rfl (by omega) ?_
    refine zz_iconst dX8_isSame_177 ?_
    refine gg_iald hE1 0 2 (j := k) (b := 432) (v := σ 1 k) dX8_isSame_178 (by decide) rfl (by omega) rfl (by decide) (((show ∀ a j, a < e → (zb_u (zb_u (zb_u (zG_W e W) e 0 (π 1 k)) e 1 (π 2 k)) e 2 (σ 1 k)) a j = W a j from fun a j h => ((zb_u_no _ _ (by omega)).trans ((zb_u_no _ _ (by omega)).trans ((zb_u_no _ _ (by omega)).trans (if_pos h))))) _ _ (by omega)).trans s9.2.2) ?_
    refine gz_aload_n dX8_isSame_179 rfl ?_
    refine gz_iload dX8_isSame_180 rfl ?_
    refine gb_v (J := mX8_busy) (d1 := d - 1) (kc1 := 0) (ks1 := 0) [.int (iZ (k : Int))] _ dX8_isSame_182 rfl hE1.1 wm_HeliographsLaw_Sim_72 jzX8_busy rfl (Nat.le_of_ble_eq_true rfl) (Nat.le_of_ble_eq_true rfl) (by omega) ⟨by omega, by omega⟩ (zDo_of (zS_busy hE1 (hSW (zb_u (zb_u (zb_u (zG_W e W) e 0 (π 1 k)) e 1 (π 2 k)) e 2 (σ 1 k)) (show ∀ a j, a < e → (zb_u (zb_u (zb_u (zG_W e W) e 0 (π 1 k)) e 1 (π 2 k)) e 2 (σ 1 k)) a j = W a j from fun a j h => ((zb_u_no _ _ (by omega)).trans ((zb_u_no _ _ (by omega)).trans ((zb_u_no _ _ (by omega)).trans (if_pos h)))))) hw hc (by omega))) (fun v M9 hy => ?_)
    obtain ⟨e1, e2⟩ := hy
    rw [e1, e2]
    clear e1 e2
    refine zz_isub dX8_isSame_185 ?_
    refine gw_iast (a := e) (q := 3) (len := 7) dX8_isSame_186 ar h48 rfl (by omega) ?_
    refine gz_dup dX8_isSame_187 rfl ?_
    refine zz_iconst dX8_isSame_188 ?_
    refine gz_aload_n dX8_isSame_189 rfl ?_
    refine gz_iload dX8_isSame_190 rfl ?_
    refine gb_v (J := mX8_queue) (d1 := d - 1) (kc1 := 0) (ks1 := 0) [.int (iZ (k : Int))] _ dX8_isSame_192 rfl hE1.1 wm_HeliographsLaw_Sim_51 jzX8_queue rfl (Nat.le_of_ble_eq_true rfl) (Nat.le_of_ble_eq_true rfl) (by omega) ⟨by omega, by omega⟩ (zDo_of (zS_queue hE1 (hSW (zb_u (zb_u (zb_u (zb_u (zG_W e W) e 0 (π 1 k)) e 1 (π 2 k)) e 2 (σ 1 k)) e 3 (σ 1 k - sNum (sAt σ (k : Int) 1) 0 (c 3))) (show ∀ a j, a < e → (zb_u (zb_u (zb_u (zb_u (zG_W e W) e 0 (π 1 k)) e 1 (π 2 k)) e 2 (σ 1 k)) e 3 (σ 1 k - sNum (sAt σ (k : Int) 1) 0 (c 3))) a j = W a j from fun a j h => ((zb_u_no _ _ (by omega)).trans ((zb_u_no _ _ (by omega)).trans ((zb_u_no _ _ (by omega)).trans ((zb_u_no _ _ (by omega)).trans (if_pos h))))))) hw hc (by omega))) (fun v M9 hy => ?_)
    obtain ⟨e1, e2⟩ := hy
    rw [e1, e2]
    clear e1 e2
    refine gw_iast (a := e) (q := 4) (len := 7) dX8_isSame_195 ar h48 rfl (by omega) ?_
    refine gz_dup dX8_isSame_196 rfl ?_
    refine zz_iconst dX8_isSame_197 ?_
    refine gz_iload dX8_isSame_198 rfl ?_
    refine gw_iast (a := e) (q := 5) (len := 7) dX8_isSame_200 ar h48 rfl (by omega) ?_
    refine gz_dup dX8_isSame_201 rfl ?_
    refine zz_bipush (x := 6) dX8_isSame_202 rfl ?_
    refine gz_iload dX8_isSame_204 rfl ?_
    refine gw_iast (a := e) (q := 6) (len := 7) dX8_isSame_206 ar h48 rfl (by omega) ?_
    refine gz_astore (L2 := [some (.ref 424), some (.ref 320), some (.ref (q)), some (.ref (r)), some (.int (iZ ((k : Int)))), some (.int (iZ (sNum (sEnd π (k : Int)) 0 (c 1)))), some (.int (iZ (sNum (fun w => sEnd π (k : Int) w && sPass π σ w (σ 0 1)) 0 (c 1)))), some (.ref (e)), K8, K9]) dX8_isSame_207 (Nat.le_of_ble_eq_true rfl) rfl ?_
    have hF : ∀ a j, a < e → (zb_u (zb_u (zb_u (zb_u (zb_u (zb_u (zb_u (zG_W e W) e 0 (π 1 k)) e 1 (π 2 k)) e 2 (σ 1 k)) e 3 (σ 1 k - sNum (sAt σ (k : Int) 1) 0 (c 3))) e 4 (sNum (sAt σ (k : Int) 0) 0 (c 3))) e 5 (sNum (sEnd π (k : Int)) 0 (c 1))) e 6 (sNum (fun w => sEnd π (k : Int) w && sPass π σ w (σ 0 1)) 0 (c 1))) a j = W a j := (show ∀ a j, a < e → (zb_u (zb_u (zb_u (zb_u (zb_u (zb_u (zb_u (zG_W e W) e 0 (π 1 k)) e 1 (π 2 k)) e 2 (σ 1 k)) e 3 (σ 1 k - sNum (sAt σ (k : Int) 1) 0 (c 3))) e 4 (sNum (sAt σ (k : Int) 0) 0 (c 3))) e 5 (sNum (sEnd π (k : Int)) 0 (c 1))) e 6 (sNum (fun w => sEnd π (k : Int) w && sPass π σ w (σ 0 1)) 0 (c 1))) a j = W a j from fun a j h => ((zb_u_no _ _ (by omega)).trans ((zb_u_no _ _ (by omega)).trans ((zb_u_no _ _ (by omega)).trans ((zb_u_no _ _ (by omega)).trans ((zb_u_no _ _ (by omega)).trans ((zb_u_no _ _ (by omega)).trans ((zb_u_no _ _ (by omega)).trans (if_pos h)))))))))
    have hT : ∀ y : Nat, y < 7 → (zb_u (zb_u (zb_u (zb_u (zb_u (zb_u (zb_u (zG_W e W) e 0 (π 1 k)) e 1 (π 2 k)) e 2 (σ 1 k)) e 3 (σ 1 k - sNum (sAt σ (k : Int) 1) 0 (c 3))) e 4 (sNum (sAt σ (k : Int) 0) 0 (c 3))) e 5 (sNum (sEnd π (k : Int)) 0 (c 1))) e 6 (sNum (fun w => sEnd π (k : Int) w && sPass π σ w (σ 0 1)) 0 (c 1))) e y = sPk π σ (k : Int) (y : Int) := fun y hy => by
      have f3 : sPk π σ (k : Int) ((3 : Nat) : Int) = σ 1 k - sNum (sAt σ (k : Int) 1) 0 (π 0 3).toNat := rfl
      have f4 : sPk π σ (k : Int) ((4 : Nat) : Int) = sNum (sAt σ (k : Int) 0) 0 (π 0 3).toNat := rfl
      have f5 : sPk π σ (k : Int) ((5 : Nat) : Int) = sNum (sEnd π (k : Int)) 0 (π 0 1).toNat := rfl
      have f6 : sPk π σ (k : Int) ((6 : Nat) : Int) = sNum (fun w => sEnd π (k : Int) w && sPass π σ w (σ 0 1)) 0 (π 0 1).toNat := rfl
      rw [e3c] at f3 f4
      rw [e1c] at f5 f6
      rcases (show y = 0 ∨ y = 1 ∨ y = 2 ∨ y = 3 ∨ y = 4 ∨ y = 5 ∨ y = 6 by omega) with rfl | rfl | rfl | rfl | rfl | rfl | rfl <;> simp (decide := true) only [zb_u, and_false, and_true, and_self, if_true, if_false, ↓reduceIte]
      · rfl
      · rfl
      · rfl
      · exact f3.symm
      · exact f4.symm
      · exact f5.symm
      · exact f6.symm
    obtain ⟨W1, hW1⟩ : ∃ X, X = (zb_u (zb_u (zb_u (zb_u (zb_u (zb_u (zb_u (zG_W e W) e 0 (π 1 k)) e 1 (π 2 k)) e 2 (σ 1 k)) e 3 (σ 1 k - sNum (sAt σ (k : Int) 1) 0 (c 3))) e 4 (sNum (sAt σ (k : Int) 0) 0 (c 3))) e 5 (sNum (sEnd π (k : Int)) 0 (c 1))) e 6 (sNum (fun w => sEnd π (k : Int) w && sPass π σ w (σ 0 1)) 0 (c 1))) := ⟨_, rfl⟩
    rw [← hW1] at hF hT
    rw [← hW1]
    have hJ1 : lJ E1 (e + 1) c W1 p H π σ t o N := lJ_grow hJ hE1 oE hF
    have hR1 : WR E1 (e + 1) W1 r c m := hR.grow (by omega) oE (fun a j _ h => hF a j h)
    refine zk_Go.le (kc := kc + n) (ks := ks + 7 * n) ?_ (by omega) (by omega)
    refine zz_iconst dX8_isSame_209 ?_
    refine gz_istore (L2 := [some (.ref 424), some (.ref 320), some (.ref (q)), some (.ref (r)), some (.int (iZ ((k : Int)))), some (.int (iZ (sNum (sEnd π (k : Int)) 0 (c 1)))), some (.int (iZ (sNum (fun w => sEnd π (k : Int) w && sPass π σ w (σ 0 1)) 0 (c 1)))), some (.ref (e)), some (.int (iZ (((0 : Nat) : Int)))), K9]) dX8_isSame_210 (Nat.le_of_ble_eq_true rfl) rfl ?_
    refine zi_peakw hJ1 h56 hN hd hk h48 ar hT ?_ 7 0 rfl
    refine zz_iconst dX8_isSame_243 ?_
    refine gz_istore (L2 := [some (.ref 424), some (.ref 320), some (.ref (q)), some (.ref (r)), some (.int (iZ ((k : Int)))), some (.int (iZ (sNum (sEnd π (k : Int)) 0 (c 1)))), some (.int (iZ (sNum (fun w => sEnd π (k : Int) w && sPass π σ w (σ 0 1)) 0 (c 1)))), some (.ref (e)), some (.int (iZ (((0 : Nat) : Int)))), K9]) dX8_isSame_244 (Nat.le_of_ble_eq_true rfl) rfl ?_
    refine zi_ways (W0 := W1) h56 hN hd hk hR1 hm (fun W2 hJ2 hF2 => ?_) (c 0) 0 W1 (by omega) hJ1 (fun _ _ _ => rfl)
    refine zz_iinc (L2 := [some (.ref 424), some (.ref 320), some (.ref (q)), some (.ref (r)), some (.int (iZ (((k + 1 : Nat) : Int)))), some (.int (iZ (sNum (sEnd π (k : Int)) 0 (c 1)))), some (.int (iZ (sNum (fun w => sEnd π (k : Int) w && sPass π σ w (σ 0 1)) 0 (c 1)))), some (.ref (e)), some (.int (iZ ((c 0 : Int)))), K9]) dX8_isSame_319 rfl (by rw [show ((k + 1 : Nat) : Int) = (k : Int) + 1 by omega]; rfl) ?_
    refine gz_goto (tgt := 40) dX8_isSame_322 rfl ?_
    exact zi_peaks h56 hN hd hm kk n (k + 1) E1 (e + 1) W2 _ _ _ _ _ (by omega) hJ2 (hR1.grow (Nat.le_refl _) (fun _ _ => rfl) (fun a j h _ => hF2 a j (Or.inr h)))
end

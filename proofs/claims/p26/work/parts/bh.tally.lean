/-! THE CHAIN BY HAND COUNTS -/
section
variable {l : Launch} {Γ : zk_G} {d : Nat} {F : Heap → Prop}
/-- what is counted, when a peaks, b passes and m messages have been looked at -/
def ct (π σ : zV) (c : Nat → Nat) (a b m : Nat) (y : Nat) : Int := match y with
  | 0 => σ 0 1
  | 1 => (c 0 : Int)
  | 2 => (c 1 : Int)
  | 3 => (c 2 : Int)
  | 4 => (c 3 : Int)
  | 5 => (c 4 : Int)
  | 6 => sNum (fun k => sSun π k (σ 0 1)) 0 a
  | 7 => sNum (fun w => sPass π σ w (σ 0 1)) 0 b
  | 8 => sNum (sIn σ 0) 0 m
  | 9 => sNum (sIn σ 1) 0 m
  | 10 => sNum (sIn σ 2) 0 m
  | 11 => sSum (σ 8) 0 m
  | 12 => σ 0 13
  | _ => 0
def cT (W : zV) (r : Nat) (π σ : zV) (c : Nat → Nat) (a b m : Nat) : Prop := ∀ y, y < 14 → W r y = ct π σ c a b m y
theorem cT_a {W π σ : zV} {r a b m : Nat} {c : Nat → Nat} (h : cT W r π σ c a b m) : cT (zb_u W r 6 (sNum (fun k => sSun π k (σ 0 1)) 0 a + bI (sSun π a (σ 0 1)))) r π σ c (a + 1) b m := fun y hy => by
  by_cases e : y = 6
  · rw [e, zb_u_at]; exact (sNum_0s (fun k => sSun π k (σ 0 1)) a).symm
  · rw [zb_u_no _ _ (by omega), h y hy]
    rcases (show y = 0 ∨ y = 1 ∨ y = 2 ∨ y = 3 ∨ y = 4 ∨ y = 5 ∨ y = 7 ∨ y = 8 ∨ y = 9 ∨ y = 10 ∨ y = 11 ∨ y = 12 ∨ y = 13 by omega) with rfl | rfl | rfl | rfl | rfl | rfl | rfl | rfl | rfl | rfl | rfl | rfl | rfl <;> rfl
theorem cT_b {W π σ : zV} {r a b m : Nat} {c : Nat → Nat} (h : cT W r π σ c a b m) : cT (zb_u W r 7 (sNum (fun w => sPass π σ w (σ 0 1)) 0 b + bI (sPass π σ b (σ 0 1)))) r π σ c a (b + 1) m := fun y hy => by
  by_cases e : y = 7
  · rw [e, zb_u_at]; exact (sNum_0s (fun w => sPass π σ w (σ 0 1)) b).symm
  · rw [zb_u_no _ _ (by omega), h y hy]
    rcases (show y = 0 ∨ y = 1 ∨ y = 2 ∨ y = 3 ∨ y = 4 ∨ y = 5 ∨ y = 6 ∨ y = 8 ∨ y = 9 ∨ y = 10 ∨ y = 11 ∨ y = 12 ∨ y = 13 by omega) with rfl | rfl | rfl | rfl | rfl | rfl | rfl | rfl | rfl | rfl | rfl | rfl | rfl <;> rfl
theorem cT_m {W π σ : zV} {r a b m k : Nat} {c : Nat → Nat} (h : cT W r π σ c a b m) (hk : σ 4 m = (k : Int)) (hk3 : k < 3) : cT (zb_u (zb_u W r (8 + k) (sNum (sIn σ (k : Int)) 0 m + 1)) r 11 (sSum (σ 8) 0 m + σ 8 m)) r π σ c a b (m + 1) := fun y hy => by
  have hin : ∀ z : Nat, z < 3 → sNum (sIn σ (z : Int)) 0 (m + 1) = sNum (sIn σ (z : Int)) 0 m + (if z = k then 1 else 0) := fun z hz => by
    rw [sNum_0s]
    by_cases e : z = k
    · rw [if_pos e, bI_t (by unfold sIn; rw [hk, e]; exact decide_eq_true rfl)]
    · rw [if_neg e, bI_f (by unfold sIn; rw [decide_eq_true_eq, hk]; omega)]
  by_cases e : y = 11
  · rw [e, zb_u_at]; exact (sSum_0s (σ 8) m).symm
  rw [zb_u_no _ _ (by omega)]
  by_cases e2 : y = 8 + k
  · rw [e2, zb_u_at]
    rcases (show k = 0 ∨ k = 1 ∨ k = 2 by omega) with rfl | rfl | rfl
    · have q := hin 0 (by omega); rw [if_pos rfl] at q; exact q.symm
    · have q := hin 1 (by omega); rw [if_pos rfl] at q; exact q.symm
    · have q := hin 2 (by omega); rw [if_pos rfl] at q; exact q.symm
  · rw [zb_u_no _ _ (by omega), h y hy]
    rcases (show y = 0 ∨ y = 1 ∨ y = 2 ∨ y = 3 ∨ y = 4 ∨ y = 5 ∨ y = 6 ∨ y = 7 ∨ y = 8 ∨ y = 9 ∨ y = 10 ∨ y = 12 ∨ y = 13 by omega) with rfl | rfl | rfl | rfl | rfl | rfl | rfl | rfl | rfl | rfl | rfl | rfl | rfl
    all_goals first | rfl | skip
    · have q := hin 0 (by omega); rw [if_neg (by omega)] at q; exact (q.trans (Int.add_zero _)).symm
    · have q := hin 1 (by omega); rw [if_neg (by omega)] at q; exact (q.trans (Int.add_zero _)).symm
    · have q := hin 2 (by omega); rw [if_neg (by omega)] at q; exact (q.trans (Int.add_zero _)).symm
theorem zc_msgs {E1 : Nat → Nat × Nat} {e : Nat} {c : Nat → Nat} {W0 π σ : zV} {N : Int} {Q : Option Value → zk_M → (Heap → Prop) → Prop} (hE1 : zE E1 (e + 1) c) (h48 : 480 ≤ e) (ar : E1 e = (100, 14)) (hw : wP π) (hc : wC π σ N) (hS0 : sm c W0 π σ) (hN : N ≤ 80000) (hd : 6 ≤ d) (hq : ∀ W1, (∀ a j, a < e → W1 a j = W0 a j) → cT W1 e π σ c (c 0) (c 1) (c 3) → Q (some (.ref e)) (zG E1 (e + 1) W1) F) : ∀ (n i : Nat) (W : zV) (L5 : Option Value), i + n = c 3 → (∀ a j, a < e → W a j = W0 a j) → cT W e π σ c (c 0) (c 1) i → zk_Go l Γ mX8_counts d 0 0 Q 184 [some (.ref 424), some (.ref e), some (.ref 428), some (.int (iZ (c 3 : Int))), some (.int (iZ (i : Int))), L5] [] (zG E1 (e + 1) W) F
  | 0, i, W, L5, hi, hF, hT => by
    have e9 : i = c 3 := by omega
    have hb := hE1.2.2.2.2
    refine gz_iload dX8_counts_184 rfl ?_
    refine gz_iload_n dX8_counts_186 rfl ?_
    refine zz_icmp_ge (tgt := 227) dX8_counts_187 rfl (by omega) (fun b => ?_) (fun b => absurd b (by omega))
    refine gz_aload_n dX8_counts_227 rfl ?_
    refine gz_areturn dX8_counts_228 rfl (Or.inr ⟨_, rfl⟩) ?_
    rw [e9] at hT
    exact hq W hF hT
  | n + 1, i, W, L5, hi, hF, hT => by
    have hSW : ∀ W1, (∀ a j, a < e → W1 a j = W0 a j) → sm c W1 π σ := fun W1 h => sm_kept hS0 ⟨by have := hE1.2.2.2.2; omega, by have := hE1.2.2.2.2; omega, by have := hE1.2.2.2.2; omega, by have := hE1.2.2.2.2; omega⟩ (fun a j q1 q2 => h a j (by omega))
    have n0 := wP_n hw
    have n1 := hS0.1
    have t0 := wC_n hc
    have hb := hE1.2.2.2.2
    have hS := hSW W hF
    have r := hS.2.2.2.2.2 i (by omega)
    have m1 := wC_m hc (k := i) (by omega)
    unfold wM at m1
    obtain ⟨k, hk⟩ : ∃ k : Nat, σ 4 i = (k : Int) := ⟨(σ 4 i).toNat, by omega⟩
    have v8 : W e (8 + k) = sNum (sIn σ (k : Int)) 0 i := by
      rw [hT (8 + k) (by omega)]
      rcases (show k = 0 ∨ k = 1 ∨ k = 2 by omega) with rfl | rfl | rfl <;> rfl
    have v11 : W e 11 = sSum (σ 8) 0 i := hT 11 (by omega)
    refine gz_iload dX8_counts_184 rfl ?_
    refine gz_iload_n dX8_counts_186 rfl ?_
    refine zz_icmp_ge (tgt := 227) dX8_counts_187 rfl (by omega) (fun b => absurd b (by omega)) (fun b => ?_)
    refine gz_aload_n dX8_counts_190 rfl ?_
    refine gz_iload dX8_counts_191 rfl ?_
    refine gg_aald hE1 3 (j := i) dX8_counts_193 (by decide) rfl rfl (by omega) ?_
    refine gz_astore (L2 := [some (.ref 424), some (.ref e), some (.ref 428), some (.int (iZ (c 3 : Int))), some (.int (iZ (i : Int))), some (.ref (460 + i))]) dX8_counts_194 (Nat.le_of_ble_eq_true rfl) rfl ?_
    refine gz_aload_n dX8_counts_196 rfl ?_
    refine zz_bipush (x := 8) dX8_counts_197 rfl ?_
    refine gz_aload dX8_counts_199 rfl ?_
    refine zz_iconst dX8_counts_201 ?_
    refine gg_iald hE1 3 4 (j := i) (b := 460) (v := (k : Int)) dX8_counts_202 (by decide) rfl (by omega) rfl (by decide) (r.2.2.2.2.1.trans hk) ?_
    refine zz_iadd dX8_counts_203 ?_
    rw [show (8 : Int) + (k : Int) = ((8 + k : Nat) : Int) by omega]
    refine gz_dup2 dX8_counts_204 rfl rfl ?_
    refine gw_iald (a := e) (q := 8 + k) (len := 14) (v := sNum (sIn σ (k : Int)) 0 i) dX8_counts_205 ar h48 rfl (by omega) v8 ?_
    refine zz_iconst dX8_counts_206 ?_
    refine zz_iadd dX8_counts_207 ?_
    refine gw_iast (a := e) (q := 8 + k) (len := 14) dX8_counts_208 ar h48 rfl (by omega) ?_
    refine gz_aload_n dX8_counts_209 rfl ?_
    refine zz_bipush (x := 11) dX8_counts_210 rfl ?_
    refine gz_dup2 dX8_counts_212 rfl rfl ?_
    refine gw_iald (a := e) (q := 11) (len := 14) (v := sSum (σ 8) 0 i) dX8_counts_213 ar h48 rfl (by omega) ((zb_u_no _ _ (by omega)).trans v11) ?_
    refine gz_aload dX8_counts_214 rfl ?_
    refine zz_bipush (x := 7) dX8_counts_216 rfl ?_
    refine gg_iald hE1 3 7 (j := i) (b := 460) (v := σ 8 i) dX8_counts_218 (by decide) rfl (by omega) rfl (by decide) ((zb_u_no _ _ (by omega)).trans r.2.2.2.2.2.2.2.1) ?_
    refine zz_iadd dX8_counts_219 ?_
    refine gw_iast (a := e) (q := 11) (len := 14) dX8_counts_220 ar h48 rfl (by omega) ?_
    refine zz_iinc (L2 := [some (.ref 424), some (.ref e), some (.ref 428), some (.int (iZ (c 3 : Int))), some (.int (iZ ((i + 1 : Nat) : Int))), some (.ref (460 + i))]) dX8_counts_221 rfl (by rw [show ((i + 1 : Nat) : Int) = (i : Int) + 1 by omega]; rfl) ?_
    refine gz_goto (tgt := 184) dX8_counts_224 rfl ?_
    exact zc_msgs hE1 h48 ar hw hc hS0 hN hd hq n (i + 1) _ _ (by omega) (fun a j h => (zb_u_no _ _ (by omega)).trans ((zb_u_no _ _ (by omega)).trans (hF a j h))) (cT_m hT hk (by omega))
theorem zc_pass {E1 : Nat → Nat × Nat} {e : Nat} {c : Nat → Nat} {W0 π σ : zV} {N : Int} {Q : Option Value → zk_M → (Heap → Prop) → Prop} (hE1 : zE E1 (e + 1) c) (h48 : 480 ≤ e) (ar : E1 e = (100, 14)) (hw : wP π) (hc : wC π σ N) (hS0 : sm c W0 π σ) (hN : N ≤ 80000) (hd : 6 ≤ d) (kk : ∀ W1, (∀ a j, a < e → W1 a j = W0 a j) → cT W1 e π σ c (c 0) (c 1) 0 → zk_Go l Γ mX8_counts d 0 0 Q 173 [some (.ref 424), some (.ref e), some (.int (iZ ((c 1 : Nat) : Int))), none, none, none] [] (zG E1 (e + 1) W1) F) : ∀ (n i : Nat) (W : zV), i + n = c 1 → (∀ a j, a < e → W a j = W0 a j) → cT W e π σ c (c 0) i 0 → zk_Go l Γ mX8_counts d 0 0 Q 138 [some (.ref 424), some (.ref e), some (.int (iZ (i : Int))), none, none, none] [] (zG E1 (e + 1) W) F
  | 0, i, W, hi, hF, hT => by
    have e9 : i = c 1 := by omega
    subst e9
    have hb := hE1.2.2.2.2
    refine gz_iload_n dX8_counts_138 rfl ?_
    refine gz_aload_n dX8_counts_139 rfl ?_
    refine gz_getf (M := zG E1 (e + 1) W) 4 dX8_counts_140 hE1.1 rfl wf_HeliographsLaw_Sim_19 (by decide) rfl ?_
    refine gg_alen hE1 1 dX8_counts_143 (by decide) ?_
    refine zz_icmp_ge (tgt := 173) dX8_counts_144 rfl (by omega) (fun b => ?_) (fun b => absurd b (by omega))
    exact kk W hF hT
  | n + 1, i, W, hi, hF, hT => by
    have hSW : ∀ W1, (∀ a j, a < e → W1 a j = W0 a j) → sm c W1 π σ := fun W1 h => sm_kept hS0 ⟨by have := hE1.2.2.2.2; omega, by have := hE1.2.2.2.2; omega, by have := hE1.2.2.2.2; omega, by have := hE1.2.2.2.2; omega⟩ (fun a j q1 q2 => h a j (by omega))
    have n0 := wP_n hw
    have n1 := hS0.1
    have t0 := wC_n hc
    have hb := hE1.2.2.2.2
    have hS := hSW W hF
    have v7 : W e 7 = sNum (fun w => sPass π σ w (σ 0 1)) 0 i := hT 7 (by omega)
    refine gz_iload_n dX8_counts_138 rfl ?_
    refine gz_aload_n dX8_counts_139 rfl ?_
    refine gz_getf (M := zG E1 (e + 1) W) 4 dX8_counts_140 hE1.1 rfl wf_HeliographsLaw_Sim_19 (by decide) rfl ?_
    refine gg_alen hE1 1 dX8_counts_143 (by decide) ?_
    refine zz_icmp_ge (tgt := 173) dX8_counts_144 rfl (by omega) (fun b => absurd b (by omega)) (fun b => ?_)
    refine gz_aload_n dX8_counts_147 rfl ?_
    refine zz_bipush (x := 7) dX8_counts_148 rfl ?_
    refine gz_dup2 dX8_counts_150 rfl rfl ?_
    refine gw_iald (a := e) (q := 7) (len := 14) (v := sNum (fun w => sPass π σ w (σ 0 1)) 0 i) dX8_counts_151 ar h48 rfl (by omega) v7 ?_
    refine gz_aload_n dX8_counts_152 rfl ?_
    refine gz_iload_n dX8_counts_153 rfl ?_
    refine gb_v (J := mX8_isOpen_) (d1 := d - 1) (kc1 := 0) (ks1 := 0) [.int (iZ (i : Int))] _ dX8_counts_154 rfl hE1.1 wm_HeliographsLaw_Sim_42 jzX8_isOpen_ rfl (Nat.le_of_ble_eq_true rfl) (Nat.le_of_ble_eq_true rfl) (by omega) ⟨by omega, by omega⟩ (zDo_of (zS_isOpen1 hE1 hS hw (by omega) (by omega) (by omega) (by omega))) (fun v M' hy => ?_)
    obtain ⟨e1, e2⟩ := hy
    rw [e1, e2]
    have fin : zk_Go l Γ mX8_counts d 0 0 Q 165 [some (.ref 424), some (.ref e), some (.int (iZ (i : Int))), none, none, none] [.int (iZ (bI (sPass π σ i (σ 0 1)))), .int (iZ (sNum (fun w => sPass π σ w (σ 0 1)) 0 i)), .int (iZ 7), .ref e] (zG E1 (e + 1) W) F := by
      refine zz_iadd dX8_counts_165 ?_
      refine gw_iast (a := e) (q := 7) (len := 14) dX8_counts_166 ar h48 rfl (by omega) ?_
      refine zz_iinc (L2 := [some (.ref 424), some (.ref e), some (.int (iZ ((i + 1 : Nat) : Int))), none, none, none]) dX8_counts_167 rfl (by rw [show ((i + 1 : Nat) : Int) = (i : Int) + 1 by omega]; rfl) ?_
      refine gz_goto (tgt := 138) dX8_counts_170 rfl ?_
      exact zc_pass hE1 h48 ar hw hc hS0 hN hd kk n (i + 1) _ (by omega) (fun a j h => (zb_u_no _ _ (by omega)).trans (hF a j h)) (cT_b hT)
    refine zz_if_eqB (tgt := 164) dX8_counts_157 rfl (fun b => ?_) (fun b => ?_)
    · refine zz_iconst dX8_counts_164 ?_
      rw [bI_f b] at fin
      exact fin
    · refine zz_iconst dX8_counts_160 ?_
      refine gz_goto (tgt := 165) dX8_counts_161 rfl ?_
      rw [bI_t b] at fin
      exact fin
theorem zc_peak {E1 : Nat → Nat × Nat} {e : Nat} {c : Nat → Nat} {W0 π σ : zV} {N : Int} {Q : Option Value → zk_M → (Heap → Prop) → Prop} (hE1 : zE E1 (e + 1) c) (h48 : 480 ≤ e) (ar : E1 e = (100, 14)) (hw : wP π) (hc : wC π σ N) (hS0 : sm c W0 π σ) (hN : N ≤ 80000) (hd : 6 ≤ d) (kk : ∀ W1, (∀ a j, a < e → W1 a j = W0 a j) → cT W1 e π σ c (c 0) 0 0 → zk_Go l Γ mX8_counts d 0 0 Q 136 [some (.ref 424), some (.ref e), some (.int (iZ ((c 0 : Nat) : Int))), none, none, none] [] (zG E1 (e + 1) W1) F) : ∀ (n i : Nat) (W : zV), i + n = c 0 → (∀ a j, a < e → W a j = W0 a j) → cT W e π σ c i 0 0 → zk_Go l Γ mX8_counts d 0 0 Q 97 [some (.ref 424), some (.ref e), some (.int (iZ (i : Int))), none, none, none] [] (zG E1 (e + 1) W) F
  | 0, i, W, hi, hF, hT => by
    have e9 : i = c 0 := by omega
    subst e9
    have hb := hE1.2.2.2.2
    refine gz_iload_n dX8_counts_97 rfl ?_
    refine gz_aload_n dX8_counts_98 rfl ?_
    refine gz_getf (M := zG E1 (e + 1) W) 3 dX8_counts_99 hE1.1 rfl wf_HeliographsLaw_Sim_15 (by decide) rfl ?_
    refine gg_alen hE1 0 dX8_counts_102 (by decide) ?_
    refine zz_icmp_ge (tgt := 136) dX8_counts_103 rfl (by omega) (fun b => ?_) (fun b => absurd b (by omega))
    exact kk W hF hT
  | n + 1, i, W, hi, hF, hT => by
    have hSW : ∀ W1, (∀ a j, a < e → W1 a j = W0 a j) → sm c W1 π σ := fun W1 h => sm_kept hS0 ⟨by have := hE1.2.2.2.2; omega, by have := hE1.2.2.2.2; omega, by have := hE1.2.2.2.2; omega, by have := hE1.2.2.2.2; omega⟩ (fun a j q1 q2 => h a j (by omega))
    have n0 := wP_n hw
    have n1 := hS0.1
    have t0 := wC_n hc
    have hb := hE1.2.2.2.2
    have hS := hSW W hF
    have v6 : W e 6 = sNum (fun k => sSun π k (σ 0 1)) 0 i := hT 6 (by omega)
    refine gz_iload_n dX8_counts_97 rfl ?_
    refine gz_aload_n dX8_counts_98 rfl ?_
    refine gz_getf (M := zG E1 (e + 1) W) 3 dX8_counts_99 hE1.1 rfl wf_HeliographsLaw_Sim_15 (by decide) rfl ?_
    refine gg_alen hE1 0 dX8_counts_102 (by decide) ?_
    refine zz_icmp_ge (tgt := 136) dX8_counts_103 rfl (by omega) (fun b => absurd b (by omega)) (fun b => ?_)
    refine gz_aload_n dX8_counts_106 rfl ?_
    refine zz_bipush (x := 6) dX8_counts_107 rfl ?_
    refine gz_dup2 dX8_counts_109 rfl rfl ?_
    refine gw_iald (a := e) (q := 6) (len := 14) (v := sNum (fun k => sSun π k (σ 0 1)) 0 i) dX8_counts_110 ar h48 rfl (by omega) v6 ?_
    refine gz_aload_n dX8_counts_111 rfl ?_
    refine gz_iload_n dX8_counts_112 rfl ?_
    refine gz_aload_n dX8_counts_113 rfl ?_
    refine gz_getf (M := zG E1 (e + 1) W) (v := .int (iZ (σ 0 1))) 0 dX8_counts_114 hE1.1 rfl wf_HeliographsLaw_Sim_35 (by decide) (congrArg (fun z => Value.int (iZ z)) hS.2.1.1) ?_
    refine gb_v (J := mX8_hasSun) (d1 := d - 1) (kc1 := 0) (ks1 := 0) [.int (iZ (i : Int)), .int (iZ (σ 0 1))] _ dX8_counts_117 rfl hE1.1 wm_HeliographsLaw_Sim_31 jzX8_hasSun rfl (Nat.le_of_ble_eq_true rfl) (Nat.le_of_ble_eq_true rfl) (by omega) ⟨by omega, by omega⟩ (zDo_of (zS_hasSun hE1 hS hw (by omega) (by omega))) (fun v M' hy => ?_)
    obtain ⟨e1, e2⟩ := hy
    rw [e1, e2]
    have fin : zk_Go l Γ mX8_counts d 0 0 Q 128 [some (.ref 424), some (.ref e), some (.int (iZ (i : Int))), none, none, none] [.int (iZ (bI (sSun π i (σ 0 1)))), .int (iZ (sNum (fun k => sSun π k (σ 0 1)) 0 i)), .int (iZ 6), .ref e] (zG E1 (e + 1) W) F := by
      refine zz_iadd dX8_counts_128 ?_
      refine gw_iast (a := e) (q := 6) (len := 14) dX8_counts_129 ar h48 rfl (by omega) ?_
      refine zz_iinc (L2 := [some (.ref 424), some (.ref e), some (.int (iZ ((i + 1 : Nat) : Int))), none, none, none]) dX8_counts_130 rfl (by rw [show ((i + 1 : Nat) : Int) = (i : Int) + 1 by omega]; rfl) ?_
      refine gz_goto (tgt := 97) dX8_counts_133 rfl ?_
      exact zc_peak hE1 h48 ar hw hc hS0 hN hd kk n (i + 1) _ (by omega) (fun a j h => (zb_u_no _ _ (by omega)).trans (hF a j h)) (cT_a hT)
    refine zz_if_eqB (tgt := 127) dX8_counts_120 rfl (fun b => ?_) (fun b => ?_)
    · refine zz_iconst dX8_counts_127 ?_
      rw [bI_f b] at fin
      exact fin
    · refine zz_iconst dX8_counts_123 ?_
      refine gz_goto (tgt := 128) dX8_counts_124 rfl ?_
      rw [bI_t b] at fin
      exact fin
theorem zS_counts {E : Nat → Nat × Nat} {e : Nat} {c : Nat → Nat} {W π σ : zV} {N : Int} {Q : Option Value → zk_M → (Heap → Prop) → Prop} (hE : zE E e c) (hS0 : sm c W π σ) (hw : wP π) (hc : wC π σ N) (hN : N ≤ 80000) (hd : 6 ≤ d)
    (hq : ∀ W1, (∀ a j, a < e → W1 a j = W a j) → cT W1 e π σ c (c 0) (c 1) (c 3) → Q (some (.ref e)) (zG (zG_N E e 14) (e + 1) W1) F) : zk_Go l Γ mX8_counts d 1 14 Q 0 (zk_ent 6 [.ref 424]) [] (zG E e W) F := by
  have h48 := hE.2.2.2.1
  refine zz_bipush (x := 14) dX8_counts_0 rfl ?_
  refine gg_newa h48 (len := 14) dX8_counts_2 rfl (by omega) ⟨by omega, by omega⟩ ?_
  have hE1 : zE (zG_N E e 14) (e + 1) c := zE_N hE
  have ar : zG_N E e 14 e = (100, 14) := by unfold zG_N; rw [if_neg (by omega)]
  obtain ⟨E1, hE9⟩ : ∃ X, X = zG_N E e 14 := ⟨_, rfl⟩
  rw [← hE9] at hE1 ar hq
  rw [← hE9]
  have hSW : ∀ W1, (∀ a j, a < e → W1 a j = W a j) → sm c W1 π σ := fun W1 h => sm_kept hS0 ⟨by have := hE1.2.2.2.2; omega, by have := hE1.2.2.2.2; omega, by have := hE1.2.2.2.2; omega, by have := hE1.2.2.2.2; omega⟩ (fun a j q1 q2 => h a j (by omega))
  refine zk_Go.le (kc := 0) (ks := 0) ?_ (by omega) (by omega)
  refine gz_dup dX8_counts_4 rfl ?_
  refine zz_iconst dX8_counts_5 ?_
  refine gz_aload_n dX8_counts_6 rfl ?_
  refine gz_getf (M := zG E1 (e + 1) (zG_W e W)) (v := .int (iZ (σ 0 1))) 0 dX8_counts_7 hE1.1 rfl wf_HeliographsLaw_Sim_35 (by decide) (congrArg (fun z => Value.int (iZ z)) (hSW (zG_W e W) (fun a j h => (if_pos h))).2.1.1) ?_
  refine gw_iast (a := e) (q := 0) (len := 14) dX8_counts_10 ar h48 rfl (by omega) ?_
  refine gz_dup dX8_counts_11 rfl ?_
  refine zz_iconst dX8_counts_12 ?_
  refine gz_aload_n dX8_counts_13 rfl ?_
  refine gz_getf (M := zG E1 (e + 1) (zb_u (zG_W e W) e 0 (σ 0 1))) 3 dX8_counts_14 hE1.1 rfl wf_HeliographsLaw_Sim_15 (by decide) rfl ?_
  refine gg_alen hE1 0 dX8_counts_17 (by decide) ?_
  refine gw_iast (a := e) (q := 1) (len := 14) dX8_counts_18 ar h48 rfl (by omega) ?_
  refine gz_dup dX8_counts_19 rfl ?_
  refine zz_iconst dX8_counts_20 ?_
  refine gz_aload_n dX8_counts_21 rfl ?_
  refine gz_getf (M := zG E1 (e + 1) (zb_u (zb_u (zG_W e W) e 0 (σ 0 1)) e 1 ((c 0 : Int)))) 4 dX8_counts_22 hE1.1 rfl wf_HeliographsLaw_Sim_19 (by decide) rfl ?_
  refine gg_alen hE1 1 dX8_counts_25 (by decide) ?_
  refine gw_iast (a := e) (q := 2) (len := 14) dX8_counts_26 ar h48 rfl (by omega) ?_
  refine gz_dup dX8_counts_27 rfl ?_
  refine zz_iconst dX8_counts_28 ?_
  refine gz_aload_n dX8_counts_29 rfl ?_
  refine gz_getf (M := zG E1 (e + 1) (zb_u (zb_u (zb_u (zG_W e W) e 0 (σ 0 1)) e 1 ((c 0 : Int))) e 2 ((c 1 : Int)))) 5 dX8_counts_30 hE1.1 rfl wf_HeliographsLaw_Sim_22 (by decide) rfl ?_
  refine gg_alen hE1 2 dX8_counts_33 (by decide) ?_
  refine gw_iast (a := e) (q := 3) (len := 14) dX8_counts_34 ar h48 rfl (by omega) ?_
  refine gz_dup dX8_counts_35 rfl ?_
  refine zz_iconst dX8_counts_36 ?_
  refine gz_aload_n dX8_counts_37 rfl ?_
  refine gz_getf (M := zG E1 (e + 1) (zb_u (zb_u (zb_u (zb_u (zG_W e W) e 0 (σ 0 1)) e 1 ((c 0 : Int))) e 2 ((c 1 : Int))) e 3 ((c 2 : Int)))) 6 dX8_counts_38 hE1.1 rfl wf_HeliographsLaw_Sim_25 (by decide) rfl ?_
  refine gg_alen hE1 3 dX8_counts_41 (by decide) ?_
  refine gw_iast (a := e) (q := 4) (len := 14) dX8_counts_42 ar h48 rfl (by omega) ?_
  refine gz_dup dX8_counts_43 rfl ?_
  refine zz_iconst dX8_counts_44 ?_
  refine gz_aload_n dX8_counts_45 rfl ?_
  refine gz_getf (M := zG E1 (e + 1) (zb_u (zb_u (zb_u (zb_u (zb_u (zG_W e W) e 0 (σ 0 1)) e 1 ((c 0 : Int))) e 2 ((c 1 : Int))) e 3 ((c 2 : Int))) e 4 ((c 3 : Int)))) 7 dX8_counts_46 hE1.1 rfl wf_HeliographsLaw_Sim_28 (by decide) rfl ?_
  refine gg_alen hE1 4 dX8_counts_49 (by decide) ?_
  refine gw_iast (a := e) (q := 5) (len := 14) dX8_counts_50 ar h48 rfl (by omega) ?_
  refine gz_dup dX8_counts_51 rfl ?_
  refine zz_bipush (x := 6) dX8_counts_52 rfl ?_
  refine zz_iconst dX8_counts_54 ?_
  refine gw_iast (a := e) (q := 6) (len := 14) dX8_counts_55 ar h48 rfl (by omega) ?_
  refine gz_dup dX8_counts_56 rfl ?_
  refine zz_bipush (x := 7) dX8_counts_57 rfl ?_
  refine zz_iconst dX8_counts_59 ?_
  refine gw_iast (a := e) (q := 7) (len := 14) dX8_counts_60 ar h48 rfl (by omega) ?_
  refine gz_dup dX8_counts_61 rfl ?_
  refine zz_bipush (x := 8) dX8_counts_62 rfl ?_
  refine zz_iconst dX8_counts_64 ?_
  refine gw_iast (a := e) (q := 8) (len := 14) dX8_counts_65 ar h48 rfl (by omega) ?_
  refine gz_dup dX8_counts_66 rfl ?_
  refine zz_bipush (x := 9) dX8_counts_67 rfl ?_
  refine zz_iconst dX8_counts_69 ?_
  refine gw_iast (a := e) (q := 9) (len := 14) dX8_counts_70 ar h48 rfl (by omega) ?_
  refine gz_dup dX8_counts_71 rfl ?_
  refine zz_bipush (x := 10) dX8_counts_72 rfl ?_
  refine zz_iconst dX8_counts_74 ?_
  refine gw_iast (a := e) (q := 10) (len := 14) dX8_counts_75 ar h48 rfl (by omega) ?_
  refine gz_dup dX8_counts_76 rfl ?_
  refine zz_bipush (x := 11) dX8_counts_77 rfl ?_
  refine zz_iconst dX8_counts_79 ?_
  refine gw_iast (a := e) (q := 11) (len := 14) dX8_counts_80 ar h48 rfl (by omega) ?_
  refine gz_dup dX8_counts_81 rfl ?_
  refine zz_bipush (x := 12) dX8_counts_82 rfl ?_
  refine gz_aload_n dX8_counts_84 rfl ?_
  refine gz_getf (M := zG E1 (e + 1) (zb_u (zb_u (zb_u (zb_u (zb_u (zb_u (zb_u (zb_u (zb_u (zb_u (zb_u (zb_u (zG_W e W) e 0 (σ 0 1)) e 1 ((c 0 : Int))) e 2 ((c 1 : Int))) e 3 ((c 2 : Int))) e 4 ((c 3 : Int))) e 5 ((c 4 : Int))) e 6 0) e 7 0) e 8 0) e 9 0) e 10 0) e 11 0)) (v := .int (iZ (σ 0 13))) 1 dX8_counts_85 hE1.1 rfl wf_HeliographsLaw_Sim_62 (by decide) (congrArg (fun z => Value.int (iZ z)) (hSW (zb_u (zb_u (zb_u (zb_u (zb_u (zb_u (zb_u (zb_u (zb_u (zb_u (zb_u (zb_u (zG_W e W) e 0 (σ 0 1)) e 1 ((c 0 : Int))) e 2 ((c 1 : Int))) e 3 ((c 2 : Int))) e 4 ((c 3 : Int))) e 5 ((c 4 : Int))) e 6 0) e 7 0) e 8 0) e 9 0) e 10 0) e 11 0) (fun a j h => ((zb_u_no _ _ (by omega)).trans ((zb_u_no _ _ (by omega)).trans ((zb_u_no _ _ (by omega)).trans ((zb_u_no _ _ (by omega)).trans ((zb_u_no _ _ (by omega)).trans ((zb_u_no _ _ (by omega)).trans ((zb_u_no _ _ (by omega)).trans ((zb_u_no _ _ (by omega)).trans ((zb_u_no _ _ (by omega)).trans ((zb_u_no _ _ (by omega)).trans ((zb_u_no _ _ (by omega)).trans ((zb_u_no _ _ (by omega)).trans (if_pos h))))))))))))))).2.1.2.1) ?_
  refine gw_iast (a := e) (q := 12) (len := 14) dX8_counts_88 ar h48 rfl (by omega) ?_
  refine gz_dup dX8_counts_89 rfl ?_
  refine zz_bipush (x := 13) dX8_counts_90 rfl ?_
  refine zz_iconst dX8_counts_92 ?_
  refine gw_iast (a := e) (q := 13) (len := 14) dX8_counts_93 ar h48 rfl (by omega) ?_
  refine gz_astore_n (L2 := [some (.ref 424), some (.ref e), none, none, none, none]) dX8_counts_94 (Nat.le_of_ble_eq_true rfl) rfl ?_
  have hT : cT (zb_u (zb_u (zb_u (zb_u (zb_u (zb_u (zb_u (zb_u (zb_u (zb_u (zb_u (zb_u (zb_u (zb_u (zG_W e W) e 0 (σ 0 1)) e 1 ((c 0 : Int))) e 2 ((c 1 : Int))) e 3 ((c 2 : Int))) e 4 ((c 3 : Int))) e 5 ((c 4 : Int))) e 6 0) e 7 0) e 8 0) e 9 0) e 10 0) e 11 0) e 12 (σ 0 13)) e 13 0) e π σ c 0 0 0 := fun y hy => by
    rcases (show y = 0 ∨ y = 1 ∨ y = 2 ∨ y = 3 ∨ y = 4 ∨ y = 5 ∨ y = 6 ∨ y = 7 ∨ y = 8 ∨ y = 9 ∨ y = 10 ∨ y = 11 ∨ y = 12 ∨ y = 13 by omega) with rfl | rfl | rfl | rfl | rfl | rfl | rfl | rfl | rfl | rfl | rfl | rfl | rfl | rfl <;> (simp (decide := true) only [zb_u, and_false, and_true, and_self, if_true, if_false, ↓reduceIte]; rfl)
  have hF : ∀ a j, a < e → (zb_u (zb_u (zb_u (zb_u (zb_u (zb_u (zb_u (zb_u (zb_u (zb_u (zb_u (zb_u (zb_u (zb_u (zG_W e W) e 0 (σ 0 1)) e 1 ((c 0 : Int))) e 2 ((c 1 : Int))) e 3 ((c 2 : Int))) e 4 ((c 3 : Int))) e 5 ((c 4 : Int))) e 6 0) e 7 0) e 8 0) e 9 0) e 10 0) e 11 0) e 12 (σ 0 13)) e 13 0) a j = W a j := (fun a j h => ((zb_u_no _ _ (by omega)).trans ((zb_u_no _ _ (by omega)).trans ((zb_u_no _ _ (by omega)).trans ((zb_u_no _ _ (by omega)).trans ((zb_u_no _ _ (by omega)).trans ((zb_u_no _ _ (by omega)).trans ((zb_u_no _ _ (by omega)).trans ((zb_u_no _ _ (by omega)).trans ((zb_u_no _ _ (by omega)).trans ((zb_u_no _ _ (by omega)).trans ((zb_u_no _ _ (by omega)).trans ((zb_u_no _ _ (by omega)).trans ((zb_u_no _ _ (by omega)).trans ((zb_u_no _ _ (by omega)).trans (if_pos h))))))))))))))))
  obtain ⟨W9, hW9⟩ : ∃ X, X = (zb_u (zb_u (zb_u (zb_u (zb_u (zb_u (zb_u (zb_u (zb_u (zb_u (zb_u (zb_u (zb_u (zb_u (zG_W e W) e 0 (σ 0 1)) e 1 ((c 0 : Int))) e 2 ((c 1 : Int))) e 3 ((c 2 : Int))) e 4 ((c 3 : Int))) e 5 ((c 4 : Int))) e 6 0) e 7 0) e 8 0) e 9 0) e 10 0) e 11 0) e 12 (σ 0 13)) e 13 0) := ⟨_, rfl⟩
  rw [← hW9] at hT hF
  rw [← hW9]
  refine zz_iconst dX8_counts_95 ?_
  refine gz_istore_n (L2 := [some (.ref 424), some (.ref e), some (.int (iZ ((0 : Nat) : Int))), none, none, none]) dX8_counts_96 (Nat.le_of_ble_eq_true rfl) rfl ?_
  refine zc_peak (W0 := W) hE1 h48 ar hw hc hS0 hN hd (fun W1 f1 t1 => ?_) (c 0) 0 W9 (by omega) hF hT
  refine zz_iconst dX8_counts_136 ?_
  refine gz_istore_n (L2 := [some (.ref 424), some (.ref e), some (.int (iZ ((0 : Nat) : Int))), none, none, none]) dX8_counts_137 (Nat.le_of_ble_eq_true rfl) rfl ?_
  refine zc_pass (W0 := W) hE1 h48 ar hw hc hS0 hN hd (fun W2 f2 t2 => ?_) (c 1) 0 W1 (by omega) f1 t1
  refine gz_aload_n dX8_counts_173 rfl ?_
  refine gz_getf (M := zG E1 (e + 1) W2) 6 dX8_counts_174 hE1.1 rfl wf_HeliographsLaw_Sim_25 (by decide) rfl ?_
  refine gz_astore_n (L2 := [some (.ref 424), some (.ref e), some (.ref 428), none, none, none]) dX8_counts_177 (Nat.le_of_ble_eq_true rfl) rfl ?_
  refine gz_aload_n dX8_counts_178 rfl ?_
  refine gg_alen hE1 3 dX8_counts_179 (by decide) ?_
  refine gz_istore_n (L2 := [some (.ref 424), some (.ref e), some (.ref 428), some (.int (iZ (c 3 : Int))), none, none]) dX8_counts_180 (Nat.le_of_ble_eq_true rfl) rfl ?_
  refine zz_iconst dX8_counts_181 ?_
  refine gz_istore (L2 := [some (.ref 424), some (.ref e), some (.ref 428), some (.int (iZ (c 3 : Int))), some (.int (iZ ((0 : Nat) : Int))), none]) dX8_counts_182 (Nat.le_of_ble_eq_true rfl) rfl ?_
  exact zc_msgs (W0 := W) hE1 h48 ar hw hc hS0 hN hd hq (c 3) 0 W2 _ (by omega) f2 t2
end

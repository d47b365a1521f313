/-! THE TAPE IS FED, AND SHORTENED -/
section
variable {l : Launch} {Γ : zk_G} {d : Nat} {Z : Nat → Nat → Int} {F : Heap → Prop}
theorem hTp_snoc {Z Z2 : zV} {c : Int} (hc : 0 ≤ c ∧ c < 128) : ∀ {s : List Int} {q : Nat}, hTp Z q s → (∀ j, j < q + s.length → Z2 322 j = Z 322 j) → Z2 322 (q + s.length) = c → Z2 321 1 = ((q + s.length + 1 : Nat) : Int) → q + s.length + 1 ≤ 2000 → hTp Z2 q (s ++ [c])
  | [], q, _, _, h2, h3, h4 => ⟨h2, hc, h3, h4⟩
  | x :: s, q, h, o, h2, h3, h4 => by
    have e : (x :: s).length = s.length + 1 := rfl
    rw [e] at o h2 h3 h4
    exact ⟨(o q (by omega)).trans h.1, h.2.1, hTp_snoc hc h.2.2 (fun j hj => o j (by omega)) (by rw [show q + 1 + s.length = q + (s.length + 1) from by omega]; exact h2) (by rw [h3]; omega) (by omega)⟩
theorem hTp_cut {Z : zV} : ∀ {s t : List Int} {q : Nat}, hTp Z q (s ++ t) → hTp (zb_u Z 321 1 ((q + s.length : Nat) : Int)) q s
  | [], t, q, h => ⟨zb_u_at _ _ _ _, by have := (hTp_len h).2; omega⟩
  | x :: s, t, q, h => by
    have r := hTp_cut (s := s) (t := t) h.2.2
    rw [show q + 1 + s.length = q + (x :: s).length from by show _ = q + (s.length + 1); omega] at r
    exact ⟨(zb_u_a _ _ (by decide)).trans h.1, h.2.1, r⟩
/-- but for the tape nothing has changed -/
def tpO (Z Z' : zV) : Prop := ∀ a j, a ≠ 322 → ¬ (a = 321 ∧ j = 1) → Z' a j = Z a j
theorem tpO.trans {Z Z1 Z2 : zV} (h : tpO Z Z1) (h2 : tpO Z1 Z2) : tpO Z Z2 := fun a j q1 q2 => (h2 a j q1 q2).trans (h a j q1 q2)
theorem zs_tapeIt {N q k : Nat} {sh : Int} (hN : N < 2147483648) (hL : q < 2000) (h1 : Z 321 1 = (q : Int)) (hsh : 0 ≤ sh ∧ sh ≤ 24) (hs : (((iZ sh).toUInt32 &&& Int32.toUInt32 31).toBitVec % 32).toNat = k) {Q : Option Value → zk_M → (Heap → Prop) → Prop} (hk : zk_Go l Γ mX5_append d 0 0 Q 3 [some (.ref 321), some (.int (iZ (N : Int))), some (.int (iZ (sh + -8)))] [] (zb_M (zb_u (zb_u Z 322 q ((N / 2 ^ k % 2 ^ 8 : Nat) : Int)) 321 1 ((q : Int) + 1))) F) : zk_Go l Γ mX5_append d 0 0 Q 3 [some (.ref 321), some (.int (iZ (N : Int))), some (.int (iZ sh))] [] (zb_M Z) F := by
  refine gz_iload_n dX5_append_3 rfl ?_
  refine zz_if_lt (tgt := 51) dX5_append_4 rfl (by omega) (fun b4 => ?_) (fun b4 => ?_)
  · exact absurd b4 (by omega)
  refine gz_aload_n dX5_append_7 rfl ?_
  refine gz_getf 1 dX5_append_8 rfl rfl wf_Heliographs_Tape_15 (by decide) (zv_i h1) ?_
  refine gz_aload_n dX5_append_11 rfl ?_
  refine gz_getf 0 dX5_append_12 rfl rfl wf_Heliographs_Tape_9 (by decide) rfl ?_
  refine gz_alen (k := 0) dX5_append_15 rfl (by decide) ?_
  refine zz_icmp_ge (tgt := 45) dX5_append_16 rfl (by omega) (fun b16 => ?_) (fun b16 => ?_)
  · exact absurd b16 (by omega)
  refine gz_aload_n dX5_append_19 rfl ?_
  refine gz_getf 0 dX5_append_20 rfl rfl wf_Heliographs_Tape_9 (by decide) rfl ?_
  refine gz_aload_n dX5_append_23 rfl ?_
  refine gz_getf 1 dX5_append_24 rfl rfl wf_Heliographs_Tape_15 (by decide) (zv_i h1) ?_
  refine gz_iload_n dX5_append_27 rfl ?_
  refine gz_iload_n dX5_append_28 rfl ?_
  refine gz_iushr dX5_append_29 (z := nI (N / 2 ^ k)) (pk_ushrN (n := N) (by omega) (iZ sh) k hs) ?_
  refine zz_sipush (x := 255) dX5_append_30 rfl ?_
  refine gz_iand dX5_append_33 ?_
  rw [show (nI (N / 2 ^ k) &&& iZ 255 : Int32) = iZ ((N / 2 ^ k % 2 ^ 8 : Nat) : Int) from pk_andN (Nat.lt_of_le_of_lt (Nat.div_le_self _ _) (by omega)) 8 (by decide)]
  refine zc_iast (n := q) dX5_append_34 rfl (by decide) rfl (by omega) rfl ?_
  refine gz_aload_n dX5_append_35 rfl ?_
  refine gz_dup dX5_append_36 rfl ?_
  refine gz_getf 1 dX5_append_37 rfl rfl wf_Heliographs_Tape_15 (by decide) (zv_i ((zb_u_a _ _ (by decide)).trans h1)) ?_
  refine zz_iconst dX5_append_40 ?_
  refine zz_iadd dX5_append_41 ?_
  refine zc_putf 1 dX5_append_42 rfl rfl wf_Heliographs_Tape_15 (by decide) (by decide) jo_Heliographs_Tape ju_Heliographs_Tape rfl tyX5 tyX5_ok nmX5 rfl (fun _ => ⟨rfl, rfl⟩) rfl ?_
  refine zz_iinc dX5_append_45 rfl rfl ?_
  refine gz_goto (tgt := 3) dX5_append_48 rfl ?_
  exact hk
theorem zs_tapeApp {s : List Int} {b0 b1 b2 b3 : Int} (hb : (0 ≤ b0 ∧ b0 < 128) ∧ (0 ≤ b1 ∧ b1 < 128) ∧ (0 ≤ b2 ∧ b2 < 128) ∧ (0 ≤ b3 ∧ b3 < 128)) (h : hTp Z 0 s) (hl : s.length + 4 ≤ 2000) {N : Int} (eN : N = ((b0 * 256 + b1) * 256 + b2) * 256 + b3) : zk_DoesR l Γ mX5_append d [.ref 321, .int (iZ N)] Z F none (fun Z' => hTp Z' 0 (s ++ [b0, b1, b2, b3]) ∧ tpO Z Z') := by
  intro Q hq
  obtain ⟨N, rfl⟩ := Int.eq_ofNat_of_zero_le (show 0 ≤ N by omega)
  have h1 := (hTp_len h).1
  rw [Nat.zero_add] at h1
  have step : ∀ {c : Int} {t : List Int} {Z1 : zV} {k : Nat}, (0 ≤ c ∧ c < 128) → hTp Z1 0 t → t.length < 2000 → ((N / 2 ^ k % 2 ^ 8 : Nat) : Int) = c → hTp (zb_u (zb_u Z1 322 t.length ((N / 2 ^ k % 2 ^ 8 : Nat) : Int)) 321 1 ((t.length : Int) + 1)) 0 (t ++ [c]) ∧ tpO Z1 (zb_u (zb_u Z1 322 t.length ((N / 2 ^ k % 2 ^ 8 : Nat) : Int)) 321 1 ((t.length : Int) + 1)) := by
    intro c t Z1 k hc ht hl e
    refine ⟨hTp_snoc hc ht (fun j hj => ?_) ?_ ?_ (by omega), fun a j q1 q2 => ?_⟩
    · rw [zb_u_no _ _ (by omega), zb_u_no _ _ (by omega)]
    · rw [zb_u_no _ _ (by omega), Nat.zero_add, zb_u_at, e]
    · rw [zb_u_at]; omega
    · rw [zb_u_no _ _ (by omega), zb_u_no _ _ (by omega)]
  have l1 : ∀ (t : List Int) (c : Int), (t ++ [c]).length = t.length + 1 := fun t c => by rw [List.length_append]; rfl
  have r1 := step hb.1 h (by omega) (k := 24) (by omega)
  have r2 := step hb.2.1 r1.1 (by rw [l1]; omega) (k := 16) (by omega)
  have r3 := step hb.2.2.1 r2.1 (by rw [l1, l1]; omega) (k := 8) (by omega)
  have r4 := step hb.2.2.2 r3.1 (by rw [l1, l1, l1]; omega) (k := 0) (by omega)
  have z := fun {t : List Int} {Z1 : zV} (ht : hTp Z1 0 t) => (hTp_len ht).1
  have hgo := hq _ ⟨by
    have e : s ++ [b0, b1, b2, b3] = (((s ++ [b0]) ++ [b1]) ++ [b2]) ++ [b3] := by simp
    rw [e]; exact r4.1, ((r1.2.trans r2.2).trans r3.2).trans r4.2⟩
  refine zz_bipush (x := 24) dX5_append_0 rfl ?_
  refine gz_istore_n dX5_append_2 (Nat.le_of_ble_eq_true rfl) rfl ?_
  refine zs_tapeIt (k := 24) (by omega) (q := s.length) (by omega) h1 (by omega) (by decide) ?_
  refine zs_tapeIt (k := 16) (by omega) (q := (s ++ [b0]).length) (by rw [l1]; omega) ((z r1.1).trans (by rw [Nat.zero_add])) (by omega) (by decide) ?_
  refine zs_tapeIt (k := 8) (by omega) (q := ((s ++ [b0]) ++ [b1]).length) (by rw [l1, l1]; omega) ((z r2.1).trans (by rw [Nat.zero_add])) (by omega) (by decide) ?_
  refine zs_tapeIt (k := 0) (by omega) (q := (((s ++ [b0]) ++ [b1]) ++ [b2]).length) (by rw [l1, l1, l1]; omega) ((z r3.1).trans (by rw [Nat.zero_add])) (by omega) (by decide) ?_
  refine gz_iload_n dX5_append_3 rfl ?_
  refine zz_if_lt (tgt := 51) dX5_append_4 rfl (by omega) (fun b4 => ?_) (fun b4 => ?_)
  rotate_left
  · exact absurd b4 (by omega)
  refine gz_return_ dX5_append_51 rfl ?_
  exact hgo
def nb4 (t : List Int) (i : Nat) : Int := ((t.getD i 0 * 256 + t.getD (i + 1) 0) * 256 + t.getD (i + 2) 0) * 256 + t.getD (i + 3) 0
theorem zh_feed {s t : List Int} (h : hTp Z 0 s) (hl : s.length + 20 ≤ 2000) (ht : t.length = 20) (hb : ∀ i, i < 20 → 0 ≤ t.getD i 0 ∧ t.getD i 0 < 128) (hd : 1 ≤ d) : zk_DoesR l Γ mX7_feed d [.ref 320, .int (iZ (nb4 t 0)), .int (iZ (nb4 t 4)), .int (iZ (nb4 t 8)), .int (iZ (nb4 t 12)), .int (iZ (nb4 t 16))] Z F (some (.int (iZ ((s.length + 20 : Nat) : Int)))) (fun Z' => hTp Z' 0 (s ++ t) ∧ tpO Z Z') := by
  intro Q hq
  have h1 := (hTp_len h).1
  rw [Nat.zero_add] at h1
  have l4 : ∀ (u : List Int) (a b c e : Int), (u ++ [a, b, c, e]).length = u.length + 4 := fun u a b c e => by rw [List.length_append]; rfl
  have et : t = [t.getD 0 0, t.getD 1 0, t.getD 2 0, t.getD 3 0] ++ [t.getD 4 0, t.getD 5 0, t.getD 6 0, t.getD 7 0] ++ [t.getD 8 0, t.getD 9 0, t.getD 10 0, t.getD 11 0] ++ [t.getD 12 0, t.getD 13 0, t.getD 14 0, t.getD 15 0] ++ [t.getD 16 0, t.getD 17 0, t.getD 18 0, t.getD 19 0] := by
    match t, ht with
    | [b0, b1, b2, b3, b4, b5, b6, b7, b8, b9, b10, b11, b12, b13, b14, b15, b16, b17, b18, b19], _ => rfl
  refine gz_aload_n dX7_feed_0 rfl ?_
  refine gz_getf 0 dX7_feed_1 rfl rfl wf_Heliographs_10 (by decide) rfl ?_
  refine gz_getf 1 dX7_feed_4 rfl rfl wf_Heliographs_55 (by decide) (zv_i h1) ?_
  refine zz_bipush (x := 20) dX7_feed_7 rfl ?_
  refine zz_iadd dX7_feed_9 ?_
  refine zz_sipush (x := 2000) dX7_feed_10 rfl ?_
  refine zz_icmp_le (tgt := 26) dX7_feed_13 rfl (by omega) (fun b13 => ?_) (fun b13 => ?_)
  rotate_left
  · exact absurd b13 (by omega)
  refine gz_aload_n dX7_feed_26 rfl ?_
  refine gz_getf 0 dX7_feed_27 rfl rfl wf_Heliographs_10 (by decide) rfl ?_
  refine gz_iload_n dX7_feed_30 rfl ?_
  refine gq_1 (J := mX5_append) (d1 := d - 1) dX7_feed_31 wm_Heliographs_65 rfl jzX5_append (Nat.le_of_ble_eq_true rfl) (Nat.le_of_ble_eq_true rfl) (by omega) (zs_tapeApp ⟨hb 0 (by decide), hb 1 (by decide), hb 2 (by decide), hb 3 (by decide)⟩ h (by omega) (rfl : nb4 t 0 = _)) (fun Z31 hZ31 => ?_)
  refine gz_aload_n dX7_feed_34 rfl ?_
  refine gz_getf 0 dX7_feed_35 rfl rfl wf_Heliographs_10 (by decide) rfl ?_
  refine gz_iload_n dX7_feed_38 rfl ?_
  refine gq_1 (J := mX5_append) (d1 := d - 1) dX7_feed_39 wm_Heliographs_65 rfl jzX5_append (Nat.le_of_ble_eq_true rfl) (Nat.le_of_ble_eq_true rfl) (by omega) (zs_tapeApp ⟨hb 4 (by decide), hb 5 (by decide), hb 6 (by decide), hb 7 (by decide)⟩ hZ31.1 (by rw [l4]; omega) (rfl : nb4 t 4 = _)) (fun Z39 hZ39 => ?_)
  refine gz_aload_n dX7_feed_42 rfl ?_
  refine gz_getf 0 dX7_feed_43 rfl rfl wf_Heliographs_10 (by decide) rfl ?_
  refine gz_iload_n dX7_feed_46 rfl ?_
  refine gq_1 (J := mX5_append) (d1 := d - 1) dX7_feed_47 wm_Heliographs_65 rfl jzX5_append (Nat.le_of_ble_eq_true rfl) (Nat.le_of_ble_eq_true rfl) (by omega) (zs_tapeApp ⟨hb 8 (by decide), hb 9 (by decide), hb 10 (by decide), hb 11 (by decide)⟩ hZ39.1 (by rw [l4, l4]; omega) (rfl : nb4 t 8 = _)) (fun Z47 hZ47 => ?_)
  refine gz_aload_n dX7_feed_50 rfl ?_
  refine gz_getf 0 dX7_feed_51 rfl rfl wf_Heliographs_10 (by decide) rfl ?_
  refine gz_iload dX7_feed_54 rfl ?_
  refine gq_1 (J := mX5_append) (d1 := d - 1) dX7_feed_56 wm_Heliographs_65 rfl jzX5_append (Nat.le_of_ble_eq_true rfl) (Nat.le_of_ble_eq_true rfl) (by omega) (zs_tapeApp ⟨hb 12 (by decide), hb 13 (by decide), hb 14 (by decide), hb 15 (by decide)⟩ hZ47.1 (by rw [l4, l4, l4]; omega) (rfl : nb4 t 12 = _)) (fun Z56 hZ56 => ?_)
  refine gz_aload_n dX7_feed_59 rfl ?_
  refine gz_getf 0 dX7_feed_60 rfl rfl wf_Heliographs_10 (by decide) rfl ?_
  refine gz_iload dX7_feed_63 rfl ?_
  refine gq_1 (J := mX5_append) (d1 := d - 1) dX7_feed_65 wm_Heliographs_65 rfl jzX5_append (Nat.le_of_ble_eq_true rfl) (Nat.le_of_ble_eq_true rfl) (by omega) (zs_tapeApp ⟨hb 16 (by decide), hb 17 (by decide), hb 18 (by decide), hb 19 (by decide)⟩ hZ56.1 (by rw [l4, l4, l4, l4]; omega) (rfl : nb4 t 16 = _)) (fun Z65 hZ65 => ?_)
  have hfin : hTp Z65 0 (s ++ t) := by
    rw [et, ← List.append_assoc, ← List.append_assoc, ← List.append_assoc, ← List.append_assoc]
    exact hZ65.1
  have hlen : Z65 321 1 = ((s.length + 20 : Nat) : Int) := by
    rw [(hTp_len hfin).1, List.length_append, ht, Nat.zero_add]
  refine gz_aload_n dX7_feed_68 rfl ?_
  refine gz_getf 0 dX7_feed_69 rfl rfl wf_Heliographs_10 (by decide) rfl ?_
  refine gz_getf 1 dX7_feed_72 rfl rfl wf_Heliographs_55 (by decide) (zv_i hlen) ?_
  refine gz_ireturn dX7_feed_75 rfl rfl ?_
  exact hq Z65 ⟨hfin, ((((hZ31.2.trans hZ39.2).trans hZ47.2).trans hZ56.2).trans hZ65.2)⟩
theorem zh_trim {s t : List Int} {n : Nat} (h : hTp Z 0 (s ++ t)) (hn : n = s.length) : zk_DoesR l Γ mX7_trim d [.ref 320, .int (iZ (n : Int))] Z F (some (.int (iZ (n : Int)))) (fun Z' => hTp Z' 0 s ∧ tpO Z Z') := by
  intro Q hq
  have h1 := hTp_len h
  rw [List.length_append] at h1
  have hgo := hq _ ⟨hTp_cut h, fun a j q1 q2 => zb_u_no _ _ q2⟩
  rw [Nat.zero_add, ← hn] at hgo
  refine gz_iload_n dX7_trim_0 rfl ?_
  refine zz_if_lt (tgt := 15) dX7_trim_1 rfl (by omega) (fun b1 => ?_) (fun b1 => ?_)
  · exact absurd b1 (by omega)
  refine gz_iload_n dX7_trim_4 rfl ?_
  refine gz_aload_n dX7_trim_5 rfl ?_
  refine gz_getf 0 dX7_trim_6 rfl rfl wf_Heliographs_10 (by decide) rfl ?_
  refine gz_getf 1 dX7_trim_9 rfl rfl wf_Heliographs_55 (by decide) (zv_i h1.1) ?_
  refine zz_icmp_le (tgt := 25) dX7_trim_12 rfl (by omega) (fun b12 => ?_) (fun b12 => ?_)
  rotate_left
  · exact absurd b12 (by omega)
  refine gz_aload_n dX7_trim_25 rfl ?_
  refine gz_getf 0 dX7_trim_26 rfl rfl wf_Heliographs_10 (by decide) rfl ?_
  refine gz_iload_n dX7_trim_29 rfl ?_
  refine zc_putf 1 dX7_trim_30 rfl rfl wf_Heliographs_55 (by decide) (by decide) jo_Heliographs_Tape ju_Heliographs_Tape rfl tyX5 tyX5_ok nmX5 rfl (fun _ => ⟨rfl, rfl⟩) rfl ?_
  refine gz_iload_n dX7_trim_33 rfl ?_
  refine gz_ireturn dX7_trim_34 rfl rfl ?_
  exact hgo
end

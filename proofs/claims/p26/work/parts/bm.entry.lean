/-! THE LAW FROM ITS ENTRY: whatever shows the first memory -/
section
/-- the first memory: the old cells, and the script at 56 -/
def lw_M (L : Nat) (xs : Nat → Int32) : zk_M := (fun a => if a = 56 then (100, L) else if a < 320 then zo_s a else (1000, 0), 320, fun a j => if a = 56 then .int (xs j) else zo_v a j)
theorem lw_M_56 (L : Nat) (xs : Nat → Int32) (j : Nat) : (lw_M L xs).2.2 56 j = .int (xs j) := by
  show (if (56 : Nat) = 56 then (.int (xs j) : Value) else zo_v 56 j) = _
  exact if_pos rfl
theorem lw_M_ol (L : Nat) (xs : Nat → Int32) : zOl0 L xs (lw_M L xs) := by
  refine ⟨Nat.le_refl _, fun a ha h5 => ⟨?_, ?_⟩, ?_, fun j _ => ?_⟩
  · show (if a = 56 then _ else if a < 320 then zo_s a else _) = _
    rw [if_neg h5, if_pos ha]
  · funext j
    show (if a = 56 then _ else zo_v a j) = _
    rw [if_neg h5]
  · show (if (56 : Nat) = 56 then ((100, L) : Nat × Nat) else if (56 : Nat) < 320 then zo_s 56 else (1000, 0)) = _
    exact if_pos rfl
  · exact lw_M_56 L xs j
theorem lw_nocw : (zk_tg.all fun w => match w with | .codeWith x _ _ _ _ => decide (x ≠ yL_law) | _ => true) = true := by decide +kernel
theorem lw_out {p : Program} {e : Env} {s : State} {m : MethodId} {below : List Frame} {meth : Method} {c : Code} {l : Launch} (hflags : l.flags = flags0) {b L : Nat} {xs : Nat → Int32} (hL : L ≤ 260) (C0 : lw_At p s m meth c b L xs) {Γ : zk_G} {F : Heap → Prop} (hK : zk_Kn Γ s) (h56 : Γ.2.2.2.1 56 = b) (hfar : ∀ q, ¬ Γ.2.2.2.2 q) (hΓ : Γ.2.1 = s.heap) (hR : zk_Rl Γ Γ.2.2.2.1 (lw_M L xs) F s.heap) :
    W p l e room_1 s m #[Value.ref b] below meth c s.heap [] 0 0 (lw_Z below #[Value.ref b] s) (entryFrame m ([Value.ref b] : List Value).toArray 28) := by
  obtain ⟨hx, hb, hr, hml, hown, hts, hX, hbl, hlocks, hgv⟩ := id C0
  have hl : l.stackTraces = false := by
    unfold Launch.stackTraces
    rw [hflags]
    decide +kernel
  have h := lw_law (l := l) (Γ := Γ) (d := 60) (F := F) (lw_M_ol L xs) (by omega) hl (by omega) (by rw [h56, hΓ]; exact hbl)
  have hcx : zk_Cx Γ mL_law p s m #[Value.ref b] meth c := ⟨hx, hb, hml, hown, fun w hw => hts w (List.mem_filter.mp hw).1, hr, ⟨hlocks, fun hh hhh => absurd (List.all_eq_true.mp lw_nocw _ hhh) (by show ¬ decide (yL_law ≠ yL_law) = true; rw [decide_eq_true_eq]; exact fun q => q rfl)⟩, fun q => absurd q (by decide), hK⟩
  have hLr := zk_ent_Lr (ρ := Γ.2.2.2.1) (n := 320) (nL := 28) (As := [.ref 56]) (Nat.le_of_ble_eq_true rfl) ⟨show 56 < 320 by decide, trivial⟩
  have ev : ([.ref 56] : List Value).map (zk_v Γ.2.2.2.1) = [.ref b] := by
    show [Value.ref (Γ.2.2.2.1 56)] = _
    rw [h56]
  rw [ev] at hLr
  rw [lg_entry_eq]
  refine h p e room_1 s m #[Value.ref b] below meth c s.heap [] 0 0 (lw_Z below #[Value.ref b] s) (fun q => s.heap.size ≤ q) Γ.2.2.2.1 _ hcx ⟨by decide, by decide⟩ ⟨by decide, by decide⟩ hR ⟨fun a h1 h2 _ => absurd h2 (Nat.not_lt_of_le h1), fun q hq => hq, fun q hq => absurd hq (hfar q)⟩ va_S.rf hLr trivial ⟨?_, fun M' F' ρ' H' locs' cells' slots' pc' ls' a1 a2 a3 a4 a5 a6 a7 a8 => absurd a8.1 (by decide)⟩
  intro v M' F' ρ' H' locs' cells' slots' pc' ls' hq hR' hx' hwf hS' hc1 hs1 hret
  subst hq
  refine va_forget (fun q hq => hS'.2.2 q hq) ?_
  refine W.widen (k := 600086) (n := 7301442) (by omega) (by omega) ?_
  exact W.base (lw_ret (Drawn.sameBut.refl s.drawn lw_cs) hx hb hr hlocks hret.1)
end

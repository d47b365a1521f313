/-! THE CLASS WITHIN THE LAW'S MEMORY -/
section
variable {l : Launch} {Γ : zk_G} {d : Nat} {F : Heap → Prop}
/-- memories that show the same -/
def zk_al (M2 M : zk_M) : Prop := M2.2.1 = M.2.1 ∧ (∀ a, a < M.2.1 → M2.1 a = M.1 a) ∧ ∀ a j, a < M.2.1 → j < (M.1 a).2 → M2.2.2 a j = M.2.2 a j
theorem zk_Go.alike {I : zk_MI} {kc ks : Nat} {Q : Option Value → zk_M → (Heap → Prop) → Prop} {pc : Nat} {L : List (Option Value)} {st : List Value} {M M2 : zk_M} (h : zk_al M2 M) (k : zk_Go l Γ I d kc ks Q pc L st M F) : zk_Go l Γ I d kc ks Q pc L st M2 F := by
  obtain ⟨hn, hs, hv⟩ := h
  intro p e R s m args below meth c H locs cells slots Qf A ρ ls hc hr hs9 hR hA hS hL hW hE
  obtain ⟨⟨b1, b2, b3, b4, b5, b6, b7⟩, f1, f2, f3, f4⟩ := hR
  rw [hn] at b1 b2 b4 b6 b7 f4
  have hR' : zk_Rl Γ ρ M F H := by
    refine ⟨⟨fun a ha => ?_, fun a b ha hb ka kb hab e9 => b2 a b ha hb (by rw [hs a ha]; exact ka) (by rw [hs b hb]; exact kb) hab e9, b3, fun a g1 g2 g3 => b4 a g1 g2 (by rw [hs a g2]; exact g3), b5, fun a j x ha hj hx => b6 a j x ha (by rw [hs a ha]; exact hj) (by rw [hv a j ha hj]; exact hx), b7⟩, f1, f2, f3, fun a g1 g2 g3 => f4 a g1 g2 (by rw [hs a g2]; exact g3)⟩
    have q := b1 a ha
    rw [hs a ha] at q
    exact q.mv rfl (fun _ _ => rfl) (fun q => q) (fun _ => rfl) (fun j hj => by rw [hv a j ha hj])
  have hx : zk_ext ρ M2 H ρ M H := ⟨fun a ha => ⟨rfl, Or.inl (hs a (by omega)).symm⟩, by omega, Nat.le_refl _, fun a h1 h2 => absurd h2 (by omega)⟩
  rw [hn] at hL hW
  exact k p e R s m args below meth c H locs cells slots Qf A ρ ls hc hr hs9 hR' ⟨fun a g1 g2 g3 => hA.1 a g1 (by omega) (by rw [hs a g2]; exact g3), hA.2⟩ hS hL hW (hE.later hx (Nat.le_refl _) (Nat.le_refl _))
theorem zk_v_id (v : Value) : zk_v (fun a => a) v = v := by cases v <;> rfl
theorem zb_dead : ∀ a, a < 424 → 1000 ≤ (zb_s a).1 → (zb_s a).2 = 0 := by decide +kernel
/-- the law's table, when the class's has become Z -/
def zL (Z W : zV) : zV := fun a j => if a < 424 ∧ a ≠ 56 then Z a j else W a j
/-- what the class's cells name are cells of the class -/
def zin (Z : zV) : Prop := ∀ a j x, a < 424 → j < (zb_s a).2 → zb_v Z a j = .ref x → x < 424
theorem zL_class {J : zk_MI} {kc ks : Nat} {As : List Value} {E : Nat → Nat × Nat} {e : Nat} {W : zV} {R : Option Value → zV → Prop} {Q : Option Value → zk_M → (Heap → Prop) → Prop}
    (h : ∀ (Γ : zk_G) (F : Heap → Prop) (Q1 : Option Value → zk_M → (Heap → Prop) → Prop), (∀ v Z', R v Z' → Q1 v (zb_M Z') F) → zk_Go l Γ J d kc ks Q1 0 (zk_ent J.2.2.1 As) [] (zb_M W) F)
    (hE0 : ∀ a, a < 424 → a ≠ 56 → E a = zb_s a) (he : 424 ≤ e) (hz : zin W) (h56 : Γ.2.2.2.1 56 < Γ.2.1.size) (hAs : ∀ v ∈ As, zk_in_n 424 v) (hRv : ∀ v Z', R v Z' → ∀ w, v = some w → zk_in_n 424 w)
    (hq : ∀ v Z' M', R v Z' → zin Z' → zk_al M' (zG E e (zL Z' W)) → Q v M' F) : zk_Go l Γ J d kc ks Q 0 (zk_ent J.2.2.1 As) [] (zG E e W) F := by
  have eA : As.map (zk_v (fun a => a)) = As := by
    rw [show zk_v (fun a => a) = fun v => v from funext zk_v_id]
    exact List.map_id' As
  have z56 : 1000 ≤ (zb_s 56).1 := by decide
  have gv : ∀ (Y : zV) a j, a < 424 → a ≠ 56 → zG_v E Y a j = zb_v Y a j := fun Y a j h1 h2 => by
    unfold zG_v
    rw [if_neg h2, if_pos h1]
    rfl
  have key := zk_lift (l := l) (Γ := Γ) (d := d) (F := F) (J := J) (kc := kc) (ks := ks) (As2 := As) (ι := fun a => a) (M2 := zb_M W) (M := zG E e W) (R := fun v M2' => ∃ Z', R v Z' ∧ M2' = zb_M Z') (Q := Q)
    (fun Γ F Q1 hQ => h Γ F Q1 (fun v Z' hr => hQ v _ ⟨Z', hr, rfl⟩))
    ⟨fun a ha => ⟨rfl, by
      by_cases q : a = 56
      · rw [q]; exact Or.inr z56
      · exact Or.inl (hE0 a (by omega) q)⟩, by show 320 ≤ 424; omega, fun a ha => Nat.lt_of_lt_of_le ha he, fun a ha hl => by
        have q : a ≠ 56 := fun q => by rw [q] at hl; exact absurd hl (by show ¬ (zb_s 56).1 < 1000; omega)
        exact ⟨hE0 a ha q, fun q => q, fun j hj => by rw [zk_v_id]; exact gv W a j ha q⟩, fun a b _ _ _ _ e => e, hz⟩
    (fun a ha h1 h2 => by
      by_cases q : a = 56
      · rw [q]; exact h56
      · have e1 : E a = zb_s a := hE0 a (by omega) q
        have h2' : (E a).1 < 1000 := h2
        rw [e1] at h2'
        exact absurd h2' (by have h1' : 1000 ≤ (zb_s a).1 := h1; omega)) hAs ?_
  · rw [eA] at key
    exact key
  · intro v M2' M' hr hf
    obtain ⟨Z', hr', rfl⟩ := hr
    obtain ⟨g1, -, ⟨w1, w2, w3, w4, w5, w6⟩, g4⟩ := hf
    have io : ∀ b, b < 424 → zk_io (fun a => a) (zb_M W).2.1 (zG E e W).2.1 b = b := fun b hb => zk_io_lt hb
    have hz' : zin Z' := fun a j x ha hj hx => w6 a j x ha hj hx
    have ev : v.map (zk_v (zk_io (fun a => a) (zb_M W).2.1 (zG E e W).2.1)) = v := by
      cases v with
      | none => rfl
      | some w =>
        have hin := hRv _ Z' hr' w rfl
        cases w with
        | ref x => exact congrArg (fun q => some (Value.ref q)) (io x hin)
        | _ => rfl
    rw [ev]
    refine hq v Z' M' hr' hz' ⟨by rw [g1]; show e + (424 - 424) = e; omega, fun a ha => ?_, fun a j ha hj => ?_⟩
    · by_cases q : a < 424 ∧ (zb_s a).1 < 1000
      · have q56 : a ≠ 56 := fun k => by rw [k] at q; omega
        have k := (w4 a q.1 q.2).1
        rw [io a q.1] at k
        exact k.trans (hE0 a q.1 q56).symm
      · exact (g4 a ha (fun b hb hl e1 => q ⟨e1 ▸ hb, e1 ▸ hl⟩)).1
    · have hj2 : j < (E a).2 := hj
      by_cases q : a < 424 ∧ (zb_s a).1 < 1000
      · have q56 : a ≠ 56 := fun k => by rw [k] at q; omega
        rw [hE0 a q.1 q56] at hj2
        have k := (w4 a q.1 q.2).2.2 j hj2
        rw [io a q.1] at k
        rw [k]
        show zk_v _ (zb_v Z' a j) = zG_v E (zL Z' W) a j
        rw [gv _ a j q.1 q56, show zb_v (zL Z' W) a j = zb_v Z' a j by unfold zb_v zL; rw [if_pos ⟨q.1, q56⟩]]
        cases hv : zb_v Z' a j with
        | ref x => exact congrArg Value.ref (io x (hz' a j x q.1 hj2 hv))
        | _ => rfl
      · rw [(g4 a ha (fun b hb hl e1 => q ⟨e1 ▸ hb, e1 ▸ hl⟩)).2]
        show zG_v E W a j = zG_v E (zL Z' W) a j
        by_cases q2 : a < 424 ∧ a ≠ 56
        · exfalso
          rw [hE0 a q2.1 q2.2, zb_dead a q2.1 (by have := q; omega)] at hj2
          omega
        · unfold zG_v zL
          rw [if_neg q2]
end

/-! THE LAW MAKES ROWS OF NUMBERS -/
section
variable {l : Launch} {Γ : zk_G} {d : Nat} {F : Heap → Prop}
/-- a row of numbers behind what there is -/
def zG_N (E : Nat → Nat × Nat) (e k : Nat) : Nat → Nat × Nat := fun a => if a < e then E a else (100, k)
theorem zE_N {E : Nat → Nat × Nat} {e : Nat} {c : Nat → Nat} {k : Nat} (h : zE E e c) : zE (zG_N E e k) (e + 1) c := by
  obtain ⟨h1, h2, h3, h4, h5⟩ := h
  have f : ∀ a, a < e → zG_N E e k a = E a := fun a ha => if_pos ha
  refine ⟨(f _ (by omega)).trans h1, fun q hq => (f _ (by omega)).trans (h2 q hq), fun q hq j hj => (f _ ?_).trans (h3 q hq j hj), by omega, h5⟩
  rcases (show q = 0 ∨ q = 1 ∨ q = 2 ∨ q = 3 ∨ q = 4 by omega) with rfl | rfl | rfl | rfl | rfl <;> (simp only [zG_b]; omega)
section
variable {I : zk_MI} {kc ks : Nat} {Q : Option Value → zk_M → (Heap → Prop) → Prop} {pc : Nat} {L : List (Option Value)} {st : List Value} {E : Nat → Nat × Nat} {e : Nat} {W : zV}
theorem gg_newa (he : 480 ≤ e) {len : Nat} {z : Int} (hd : decode I.2.1 pc = .ok (.newarray .int, 2)) (hz : z = (len : Int)) (hlen : len ≤ 1000000) (hk1 : 1 ≤ kc ∧ len ≤ ks)
    (kk : zk_Go l Γ I d (kc - 1) (ks - len) Q (pc + 2) L (.ref e :: st) (zG (zG_N E e len) (e + 1) (zG_W e W)) F) : zk_Go l Γ I d kc ks Q pc L (.int (iZ z) :: st) (zG E e W) F := by
  refine gz_newa (k := 0) (len := len) (v0 := .int 0) hd rfl (by decide) wa_int hz hlen (Nat.le_of_ble_eq_true rfl) rfl (fun x q => nomatch q) hk1 (zk_Go.alike (M := zG (zG_N E e len) (e + 1) (zG_W e W)) (M2 := zk_add (zG E e W) (100 + 0, len) (fun _ => .int 0)) ⟨rfl, fun a ha => ?_, fun a j ha hj => ?_⟩ kk)
  · have ha2 : a < e + 1 := ha
    show (if a = e then (100 + 0, len) else E a) = if a < e then E a else (100, len)
    by_cases q : a = e
    · rw [if_pos q, if_neg (by omega)]
    · rw [if_neg q, if_pos (by omega)]
  · have ha2 : a < e + 1 := ha
    show (if a = e then (fun _ => Value.int 0) else zG_v E W a) j = zG_v (zG_N E e len) (zG_W e W) a j
    by_cases q : a = e
    · rw [if_pos q, zG_int (by omega) (by unfold zG_N; rw [if_neg (by omega)]; show 100 ≠ 105; decide)]
      unfold zG_W
      rw [if_neg (by omega)]
      rfl
    · rw [if_neg q]
      unfold zG_v zG_N zG_W
      simp only [if_pos (show a < e by omega)]
end
end

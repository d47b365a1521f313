/-! THE OLD CELLS BY THE TERMS THAT NAME THEM -/
section
def oN (i : Nat) : String := ((zk_st[i]?).map (fun q => q.2.1)).getD ""
/-- a kind -/
def oK (i : Nat) : Term := .static "Heliographs$Kind" (oN i) "LHeliographs$Kind;"
/-- the entries of the kinds' texts -/
def oEl : List Nat := [172, 178, 181, 184, 187, 190, 193, 196, 199, 202, 205, 208, 211, 214, 217, 220, 223, 226, 229, 232, 235, 238, 241, 244, 247, 250, 253, 256, 259, 262, 265, 268, 271, 274, 277, 280, 283, 286, 289, 292, 295, 298, 301, 304, 307, 307, 307, 307]
def oE (i : Nat) : Nat := (oEl[i]?).getD 0
/-- the constant that stands for the string cell a -/
def oQ (a : Nat) : String × Nat := ((zk_sr.find? (fun q => q.2.2.2 == a)).map (fun q => (q.1, q.2.1))).getD ("", 0)
def oV (o : String) (k : Nat) : Term := .field (.string o k) "java/lang/String" "value" "[B"
def oKs : Term := .static "Heliographs" "KINDS" "[LHeliographs$Kind;"
def oD1 : Term := .static "java/lang/Integer" "DigitOnes" "[B"
def oD2 : Term := .static "java/lang/Integer" "DigitTens" "[B"
def oF : Term := .static "jdk/internal/util/Preconditions" "SIOOBE_FORMATTER" "Ljava/util/function/BiFunction;"
def oT (a : Nat) : Term := if a < 48 then oK a else if a = 48 then oKs else if a = 49 then oD1 else if a = 50 then oD2 else if a = 51 then oF else if a = 56 then .arg 0 else if a < 160 then .string (oQ a).1 (oQ a).2 else oV (oQ (a - 100)).1 (oQ (a - 100)).2
def oZ (v : Value) : Int32 := match v with
  | .int x => x
  | _ => 0
def ov_K (i : Nat) : List Cond := [.exactly (oK i) "Heliographs$Kind", .eq (.field (oK i) "java/lang/Enum" "ordinal" "I") (.int (iZ (i : Int))), .eq (.field (oK i) "Heliographs$Kind" "text" "Ljava/lang/String;") (.string "Heliographs$Kind" (oE i))]
def ov_R (T : Term) (n c : Nat) : List Cond := (List.range n).map (fun (j : Nat) => .eq (.elem T (.int (iZ (j : Int)))) (.int (oZ (zo_v c j))))
def ov_D (T : Term) (c : Nat) : List Cond := .arrayOf T .byte :: .eq (.length T) (.int (iZ ((100 : Nat) : Int))) :: ov_R T 100 c
def ov_S (q : String × Nat × String × Nat) : List Cond := .exactly (.string q.1 q.2.1) "java/lang/String" :: .eq (.field (.string q.1 q.2.1) "java/lang/String" "coder" "B") (.int (iZ 0)) :: .arrayOf (oV q.1 q.2.1) .byte :: .eq (.length (oV q.1 q.2.1)) (.int (iZ ((zo_s (q.2.2.2 + 100)).2 : Int))) :: ov_R (oV q.1 q.2.1) (zo_s (q.2.2.2 + 100)).2 (q.2.2.2 + 100)
def ov_A : List Cond := .arrayOf oKs (.object "Heliographs$Kind") :: .eq (.length oKs) (.int (iZ ((48 : Nat) : Int))) :: (List.range 48).map (fun (j : Nat) => .eq (.elem oKs (.int (iZ (j : Int)))) (oK j))
def oO : List Nat := [44, 45, 0, 1, 2, 3, 4, 5, 6, 7, 8, 9, 10, 11, 12, 13, 14, 15, 16, 17, 18, 25, 31, 32, 23, 24, 19, 20, 21, 22, 36, 29, 30, 27, 34, 28, 37, 38, 35, 39, 40, 41, 42, 43, 26, 33]
def oW : List Cond := [46, 47].flatMap ov_K ++ (ov_A ++ (oO.flatMap ov_K ++ (ov_D oD1 49 ++ (ov_D oD2 50 ++ zk_sr.flatMap ov_S))))
set_option maxRecDepth 100000 in
theorem oW_sub : List.Sublist oW (flatC narrow_1) := by decide +kernel
theorem oW_x : ∀ c ∈ ([.isRef (.static "java/lang/Throwable" "UNASSIGNED_STACK" "[Ljava/lang/StackTraceElement;"), .isRef (.static "java/lang/Throwable" "SUPPRESSED_SENTINEL" "Ljava/util/List;"), .isRef oF, .eq (.static "java/lang/String" "COMPACT_STRINGS" "Z") (.int 1), .eq (.string "HeliographsLaw" 64) (.string "Heliographs$Kind" 292), .eq (.string "HeliographsLaw" 101) (.string "Heliographs$Kind" 274)] : List Cond), c ∈ flatC narrow_1 := by decide +kernel
/-- what the Statement gives of the start -/
def oGv (b : Nat) (s : State) : Prop := ∀ c ∈ flatC narrow_1, c.before #[Value.ref b] s = true
theorem oGv_of {b : Nat} {s : State} (h : (Jvm.Cond.and given_1 narrow_1).before #[Value.ref b] s = true) : oGv b s := by
  rw [Cond.before_and, Bool.and_eq_true] at h
  exact flat_of_before _ h.2
theorem oGv.w {b : Nat} {s : State} (h : oGv b s) {c : Cond} (hc : c ∈ oW) : c.before #[Value.ref b] s = true := h c (oW_sub.subset hc)
theorem oO_all : ∀ i : Nat, i < 48 → i ∈ [46, 47] ∨ i ∈ oO := by decide +kernel
theorem oGv.k {b : Nat} {s : State} (h : oGv b s) {i : Nat} (hi : i < 48) {c : Cond} (hc : c ∈ ov_K i) : c.before #[Value.ref b] s = true := by
  refine h.w ?_
  unfold oW
  rcases oO_all i hi with q | q
  · exact List.mem_append_left _ (List.mem_flatMap.mpr ⟨i, q, hc⟩)
  · exact List.mem_append_right _ (List.mem_append_right _ (List.mem_append_left _ (List.mem_flatMap.mpr ⟨i, q, hc⟩)))
theorem oGv.a {b : Nat} {s : State} (h : oGv b s) {c : Cond} (hc : c ∈ ov_A) : c.before #[Value.ref b] s = true := by
  refine h.w ?_
  unfold oW
  exact List.mem_append_right _ (List.mem_append_left _ hc)
theorem oGv.d1 {b : Nat} {s : State} (h : oGv b s) {c : Cond} (hc : c ∈ ov_D oD1 49) : c.before #[Value.ref b] s = true := by
  refine h.w ?_
  unfold oW
  exact List.mem_append_right _ (List.mem_append_right _ (List.mem_append_right _ (List.mem_append_left _ hc)))
theorem oGv.d2 {b : Nat} {s : State} (h : oGv b s) {c : Cond} (hc : c ∈ ov_D oD2 50) : c.before #[Value.ref b] s = true := by
  refine h.w ?_
  unfold oW
  exact List.mem_append_right _ (List.mem_append_right _ (List.mem_append_right _ (List.mem_append_right _ (List.mem_append_left _ hc))))
theorem oGv.s {b : Nat} {s : State} (h : oGv b s) {q : String × Nat × String × Nat} (hq : q ∈ zk_sr) {c : Cond} (hc : c ∈ ov_S q) : c.before #[Value.ref b] s = true := by
  refine h.w ?_
  unfold oW
  exact List.mem_append_right _ (List.mem_append_right _ (List.mem_append_right _ (List.mem_append_right _ (List.mem_append_right _ (List.mem_flatMap.mpr ⟨q, hq, hc⟩)))))
theorem oGv.r {b : Nat} {s : State} {T : Term} {n c : Nat} (h : ∀ w ∈ ov_R T n c, w.before #[Value.ref b] s = true) {j : Nat} (hj : j < n) : ev #[Value.ref b] s (.elem T (.int (iZ (j : Int)))) = some (.int (oZ (zo_v c j))) := ev_int (h _ (List.mem_map.mpr ⟨j, List.mem_range.mpr hj, rfl⟩))
/-- where the old cell a lies -/
def oR (b : Nat) (s : State) (a : Nat) : Nat := match ev #[Value.ref b] s (oT a) with
  | some (.ref q) => q
  | _ => 0
theorem oR_of {b : Nat} {s : State} {a q : Nat} (h : ev #[Value.ref b] s (oT a) = some (.ref q)) : oR b s a = q := by unfold oR; rw [h]
end

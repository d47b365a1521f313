/-! WHAT A HEAP SHOWS OF A SMALL MEMORY -/
def zk_TK : u_T := fun k => match k with
  | _ => ("Heliographs$Kind", "text", "Ljava/lang/String;", true)
/-- the classes whose objects memories hold -/
def zk_cs : List (String × u_T × Nat) := [(RX7, TX7, 7), (RX0, TX0, 16), (RX2, TX2, 8), (RX3, TX3, 19), (RX4, TX4, 7), (RX5, TX5, 2), (RX6, TX6, 7), (RX8, TX8, 8), (RJ0, TJ0, 4), (RJ4, TJ4, 4), ("Heliographs$Kind", zk_TK, 1)]
/-- cells with smaller numbers are old ones, and are never written -/
def zk_N : Nat := 320
/-- what is known of the machine's tables: class numbers and slots; the heap at the start; array classes, by kind and cell; where the old cells are; foreign cells -/
abbrev zk_G : Type := va_G × Heap × (Nat → Nat → ClassId) × (Nat → Nat) × (Nat → Prop)
/-- the statics that are read: class, name, descriptor, value -/
def zk_st : List (String × String × String × Value) := [("Heliographs$Kind", "PEAK", "LHeliographs$Kind;", .ref 0), ("Heliographs$Kind", "SUN", "LHeliographs$Kind;", .ref 1), ("Heliographs$Kind", "FROM", "LHeliographs$Kind;", .ref 2), ("Heliographs$Kind", "TO", "LHeliographs$Kind;", .ref 3), ("Heliographs$Kind", "MIRRORS", "LHeliographs$Kind;", .ref 4), ("Heliographs$Kind", "PASS", "LHeliographs$Kind;", .ref 5), ("Heliographs$Kind", "BETWEEN", "LHeliographs$Kind;", .ref 6), ("Heliographs$Kind", "AND", "LHeliographs$Kind;", .ref 7), ("Heliographs$Kind", "FAR", "LHeliographs$Kind;", .ref 8), ("Heliographs$Kind", "CLOUD", "LHeliographs$Kind;", .ref 9), ("Heliographs$Kind", "OVER", "LHeliographs$Kind;", .ref 10), ("Heliographs$Kind", "EVERY", "LHeliographs$Kind;", .ref 11), ("Heliographs$Kind", "FOR", "LHeliographs$Kind;", .ref 12), ("Heliographs$Kind", "MESSAGE", "LHeliographs$Kind;", .ref 13), ("Heliographs$Kind", "WORDS", "LHeliographs$Kind;", .ref 14), ("Heliographs$Kind", "AT", "LHeliographs$Kind;", .ref 15), ("Heliographs$Kind", "DUE", "LHeliographs$Kind;", .ref 16), ("Heliographs$Kind", "HOLD", "LHeliographs$Kind;", .ref 17), ("Heliographs$Kind", "WHEN", "LHeliographs$Kind;", .ref 18), ("Heliographs$Kind", "MINUTE", "LHeliographs$Kind;", .ref 19), ("Heliographs$Kind", "QUEUE", "LHeliographs$Kind;", .ref 20), ("Heliographs$Kind", "LEFT", "LHeliographs$Kind;", .ref 21), ("Heliographs$Kind", "BREAKS", "LHeliographs$Kind;", .ref 22), ("Heliographs$Kind", "OPEN", "LHeliographs$Kind;", .ref 23), ("Heliographs$Kind", "CARRIED", "LHeliographs$Kind;", .ref 24), ("Heliographs$Kind", "NOT", "LHeliographs$Kind;", .ref 25), ("Heliographs$Kind", "OR", "LHeliographs$Kind;", .ref 26), ("Heliographs$Kind", "MIN", "LHeliographs$Kind;", .ref 27), ("Heliographs$Kind", "MAX", "LHeliographs$Kind;", .ref 28), ("Heliographs$Kind", "ROUND_OPENS", "LHeliographs$Kind;", .ref 29), ("Heliographs$Kind", "ROUND_CLOSES", "LHeliographs$Kind;", .ref 30), ("Heliographs$Kind", "SQUARE_OPENS", "LHeliographs$Kind;", .ref 31), ("Heliographs$Kind", "SQUARE_CLOSES", "LHeliographs$Kind;", .ref 32), ("Heliographs$Kind", "SEMICOLON", "LHeliographs$Kind;", .ref 33), ("Heliographs$Kind", "COMMA", "LHeliographs$Kind;", .ref 34), ("Heliographs$Kind", "PLUS", "LHeliographs$Kind;", .ref 35), ("Heliographs$Kind", "MINUS", "LHeliographs$Kind;", .ref 36), ("Heliographs$Kind", "TIMES", "LHeliographs$Kind;", .ref 37), ("Heliographs$Kind", "DIVIDED", "LHeliographs$Kind;", .ref 38), ("Heliographs$Kind", "LESS", "LHeliographs$Kind;", .ref 39), ("Heliographs$Kind", "GREATER", "LHeliographs$Kind;", .ref 40), ("Heliographs$Kind", "EQUAL", "LHeliographs$Kind;", .ref 41), ("Heliographs$Kind", "AT_MOST", "LHeliographs$Kind;", .ref 42), ("Heliographs$Kind", "AT_LEAST", "LHeliographs$Kind;", .ref 43), ("Heliographs$Kind", "NAME", "LHeliographs$Kind;", .ref 44), ("Heliographs$Kind", "NUMBER", "LHeliographs$Kind;", .ref 45), ("Heliographs$Kind", "END", "LHeliographs$Kind;", .ref 46), ("Heliographs$Kind", "BAD", "LHeliographs$Kind;", .ref 47), ("Heliographs", "KINDS", "[LHeliographs$Kind;", .ref 48), ("java/lang/String", "COMPACT_STRINGS", "Z", .int 1), ("java/lang/Integer", "DigitOnes", "[B", .ref 49), ("java/lang/Integer", "DigitTens", "[B", .ref 50)]
/-- the String constants: class, entry, text, cell -/
def zk_sr : List (String × Nat × String × Nat) := [("Heliographs", 91, "there is no such count", 138), ("Heliographs", 102, "there is no such peak, or no such number of it", 139), ("Heliographs", 111, "there is no such pass, or no such number of it", 140), ("Heliographs", 119, "there is no such message, or no such number of it", 141), ("Heliographs", 124, "there is no such peak", 142), ("Heliographs", 126, "the minute is out of its range", 143), ("Heliographs", 132, "there is no such pass", 144), ("Heliographs", 188, "the minutes are out of their range", 145), ("Heliographs", 157, "there is no such message", 146), ("Heliographs", 203, "this can not be foreseen", 147), ("Heliographs", 71, "the tape is not that long", 148), ("Heliographs", 60, "the tape would be too long", 149), ("HeliographsLaw", 93, "peak p", 105), ("HeliographsLaw", 95, " sun from ", 106), ("HeliographsLaw", 97, " to ", 107), ("HeliographsLaw", 99, " mirrors ", 108), ("HeliographsLaw", 101, ";", 93), ("HeliographsLaw", 106, "pass w", 109), ("HeliographsLaw", 108, " between p", 110), ("HeliographsLaw", 110, " and p", 111), ("HeliographsLaw", 112, " far ", 112), ("HeliographsLaw", 114, " ;\n", 113), ("HeliographsLaw", 119, "cloud over w", 114), ("HeliographsLaw", 121, " every ", 115), ("HeliographsLaw", 123, " for ", 116), ("HeliographsLaw", 125, " from ", 117), ("HeliographsLaw", 130, "message m", 118), ("HeliographsLaw", 132, " words ", 119), ("HeliographsLaw", 134, " at p", 120), ("HeliographsLaw", 136, " to p", 121), ("HeliographsLaw", 138, " due ", 122), ("HeliographsLaw", 143, "hold m", 123), ("HeliographsLaw", 145, " when ", 124), ("HeliographsLaw", 35, "minute<", 125), ("HeliographsLaw", 48, "queue p", 126), ("HeliographsLaw", 50, ">1", 127), ("HeliographsLaw", 52, "open w", 128), ("HeliographsLaw", 54, "not open w", 129), ("HeliographsLaw", 56, " or carried m", 130), ("HeliographsLaw", 58, "left m", 131), ("HeliographsLaw", 60, "*2 >= ", 132), ("HeliographsLaw", 62, "[breaks m", 133), ("HeliographsLaw", 64, "<", 99), ("HeliographsLaw", 66, "/30 and minute>", 134), ("HeliographsLaw", 68, "/2]or minute/2*2=minute", 135), ("HeliographsLaw", 70, "carried m", 136), ("HeliographsLaw", 72, "/2*2=", 137), ("Heliographs", 150, "the peak has all the mirrors that it can have", 150), ("Heliographs", 155, "no mirror of the peak is free", 151), ("Heliographs", 162, "the message is not flashed", 152), ("Heliographs", 170, "there is no such message, or no such peak", 153), ("Heliographs", 175, "the message is at that peak", 154), ("Heliographs", 177, "the message is not there", 155), ("Heliographs$Kind", 307, "", 104), ("Heliographs$Kind", 172, "peak", 60), ("Heliographs$Kind", 178, "sun", 61), ("Heliographs$Kind", 181, "from", 62), ("Heliographs$Kind", 184, "to", 63), ("Heliographs$Kind", 187, "mirrors", 64), ("Heliographs$Kind", 190, "pass", 65), ("Heliographs$Kind", 193, "between", 66), ("Heliographs$Kind", 196, "and", 67), ("Heliographs$Kind", 199, "far", 68), ("Heliographs$Kind", 202, "cloud", 69), ("Heliographs$Kind", 205, "over", 70), ("Heliographs$Kind", 208, "every", 71), ("Heliographs$Kind", 211, "for", 72), ("Heliographs$Kind", 214, "message", 73), ("Heliographs$Kind", 217, "words", 74), ("Heliographs$Kind", 220, "at", 75), ("Heliographs$Kind", 223, "due", 76), ("Heliographs$Kind", 226, "hold", 77), ("Heliographs$Kind", 229, "when", 78), ("Heliographs$Kind", 250, "not", 85), ("Heliographs$Kind", 268, "[", 91), ("Heliographs$Kind", 271, "]", 92), ("Heliographs$Kind", 244, "open", 83), ("Heliographs$Kind", 247, "carried", 84), ("Heliographs$Kind", 232, "minute", 79), ("Heliographs$Kind", 235, "queue", 80), ("Heliographs$Kind", 238, "left", 81), ("Heliographs$Kind", 241, "breaks", 82), ("Heliographs$Kind", 283, "-", 96), ("Heliographs$Kind", 262, "(", 89), ("Heliographs$Kind", 265, ")", 90), ("Heliographs$Kind", 256, "min", 87), ("Heliographs$Kind", 277, ",", 94), ("Heliographs$Kind", 259, "max", 88), ("Heliographs$Kind", 286, "*", 97), ("Heliographs$Kind", 289, "/", 98), ("Heliographs$Kind", 280, "+", 95), ("Heliographs$Kind", 292, "<", 99), ("Heliographs$Kind", 295, ">", 100), ("Heliographs$Kind", 298, "=", 101), ("Heliographs$Kind", 301, "<=", 102), ("Heliographs$Kind", 304, ">=", 103), ("Heliographs$Kind", 253, "or", 86), ("Heliographs$Kind", 274, ";", 93)]
/-- the old arrays: cell, kind -/
def zk_oa : List (Nat × Nat) := [(48, 4), (49, 3), (50, 3), (56, 0), (160, 3), (161, 3), (162, 3), (163, 3), (164, 3), (165, 3), (166, 3), (167, 3), (168, 3), (169, 3), (170, 3), (171, 3), (172, 3), (173, 3), (174, 3), (175, 3), (176, 3), (177, 3), (178, 3), (179, 3), (180, 3), (181, 3), (182, 3), (183, 3), (184, 3), (185, 3), (186, 3), (187, 3), (188, 3), (189, 3), (190, 3), (191, 3), (192, 3), (193, 3), (194, 3), (195, 3), (196, 3), (197, 3), (198, 3), (199, 3), (200, 3), (201, 3), (202, 3), (203, 3), (204, 3), (205, 3), (206, 3), (207, 3), (208, 3), (209, 3), (210, 3), (211, 3), (212, 3), (213, 3), (214, 3), (215, 3), (216, 3), (217, 3), (218, 3), (219, 3), (220, 3), (221, 3), (222, 3), (223, 3), (224, 3), (225, 3), (226, 3), (227, 3), (228, 3), (229, 3), (230, 3), (231, 3), (232, 3), (233, 3), (234, 3), (235, 3), (236, 3), (237, 3), (238, 3), (239, 3), (240, 3), (241, 3), (242, 3), (243, 3), (244, 3), (245, 3), (246, 3), (247, 3), (248, 3), (249, 3), (250, 3), (251, 3), (252, 3), (253, 3), (254, 3), (255, 3)]
def zk_Kc (Γ : zk_G) (s : State) : Prop := ∀ (k : Nat) (r : String × u_T × Nat), zk_cs[k]? = some r → s.vm.findClass r.1 = some (Γ.1.1 k) ∧ ∀ j, j < r.2.2 → ∃ cf kf fi f, s.fieldFound? (r.2.1 j).1 (r.2.1 j).2.1 (r.2.1 j).2.2.1 = some (cf, kf, fi, f) ∧ f.isStatic = false ∧ f.slot = Γ.1.2 k j
def zk_Ka (Γ : zk_G) (s : State) : Prop := (∀ k a, k < 6 → zk_N ≤ a → s.vm.findClass ("[" ++ (zk_ty k).toString) = some (Γ.2.2.1 k a) ∧ ArrOfT s (Γ.2.2.1 k a) (zk_ty k) ∧ va_RA s (Γ.2.2.1 k a) (zk_ty k)) ∧ ∀ q ∈ zk_oa, ArrOfT s (Γ.2.2.1 q.2 q.1) (zk_ty q.2)
def zk_v0 (Γ : zk_G) (v : Value) : Value := zk_v Γ.2.2.2.1 v
def zk_Ks (Γ : zk_G) (s : State) : Prop := ∀ q ∈ zk_st, va_Z q.1 q.2.1 q.2.2.1 (zk_v0 Γ q.2.2.2) (fun x => Γ.2.1.size ≤ x) s Γ.2.1
def zk_Kr (Γ : zk_G) (s : State) : Prop := ∀ q ∈ zk_sr, vk_R q.1 q.2.1 q.2.2.1 (Γ.2.2.2.1 q.2.2.2) s
def zk_Kz (Γ : zk_G) (s : State) : Prop := vx_Zq Bundle.tN "UNASSIGNED_STACK" Bundle.steD (fun x => Γ.2.1.size ≤ x) s Γ.2.1 ∧ vx_Zq Bundle.tN "SUPPRESSED_SENTINEL" Bundle.listD (fun x => Γ.2.1.size ≤ x) s Γ.2.1 ∧ ∃ v : Value, (v = .null ∨ v = .ref 51) ∧ va_Z "jdk/internal/util/Preconditions" "SIOOBE_FORMATTER" "Ljava/util/function/BiFunction;" (zk_v0 Γ v) (fun x => Γ.2.1.size ≤ x) s Γ.2.1
/-- nest mates' words; rows of references -/
def zk_nf : List (String × Nat × String × String × String × String) := [("Heliographs$Tokens", 98, "Heliographs", "KINDS", "[LHeliographs$Kind;", "Heliographs")]
def zk_nm : List (String × Nat × MethodName × String) := [("Heliographs", 9, yX5_init, "Heliographs"), ("Heliographs", 18, yX6_init, "Heliographs"), ("Heliographs", 25, yX3_init, "Heliographs"), ("Heliographs$Plan", 44, yX2_init, "Heliographs"), ("HeliographsLaw", 76, yX8_init, "HeliographsLaw")]
/-- the exceptions that methods of the class throw here -/
def zk_X : String := "java/lang/IllegalStateException"
def zk_Xn : List String := ["java/lang/RuntimeException", "java/lang/Exception"]
/-- words that stay, though by no rule of their kind -/
def zk_xw : List Cond := [.declares ⟨"java/lang/Throwable", "<init>", "(Ljava/lang/String;)V"⟩, .declares ⟨"java/lang/Exception", "<init>", "(Ljava/lang/String;)V"⟩, .declares ⟨"java/lang/RuntimeException", "<init>", "(Ljava/lang/String;)V"⟩, .castable zk_X zk_X, .castable "[B" "java/lang/Cloneable", .selects "java/lang/StringBuilder" yJ5_ensureCapacityInternal_d00df yJ5_ensureCapacityInternal_d00df, .selects "java/lang/StringBuilder" yJ5_newCapacity_0f7a4 yJ5_newCapacity_0f7a4, .selects "java/lang/StringBuilder" yJ5_putStringAt_47b60 yJ5_putStringAt_47b60, .selects "java/lang/StringBuilder" yJ5_inflateIfNeededFor_a7421 yJ5_inflateIfNeededFor_a7421]
theorem zk_xw_ok {w : Cond} (h : w ∈ zk_xw) : w.onTables = true ∧ ∀ {s U : State}, s.WarmedH U.vm → va_Nw w s → va_Nw w U := by
  simp only [zk_xw, List.mem_cons, List.mem_nil_iff, or_false] at h
  rcases h with rfl | rfl | rfl | rfl | rfl | rfl | rfl | rfl | rfl
  · exact ⟨rfl, fun hW h => h.warmD hW⟩
  · exact ⟨rfl, fun hW h => h.warmD hW⟩
  · exact ⟨rfl, fun hW h => h.warmD hW⟩
  · exact ⟨rfl, fun hW h => h.warmC hW⟩
  · exact ⟨rfl, fun hW h => h.warmC hW⟩
  · exact ⟨rfl, fun hW h => word_at hW (good_of_word rfl) h⟩
  · exact ⟨rfl, fun hW h => word_at hW (good_of_word rfl) h⟩
  · exact ⟨rfl, fun hW h => word_at hW (good_of_word rfl) h⟩
  · exact ⟨rfl, fun hW h => word_at hW (good_of_word rfl) h⟩
def zk_Kx (s : State) : Prop := (∀ q ∈ zk_nf, va_Nw (.fieldLinkNest q.1 q.2.1 q.2.2.1 q.2.2.2.1 q.2.2.2.2.1 q.2.2.2.2.2) s) ∧ (∀ q ∈ zk_nm, va_Nw (.methodLinkNest q.1 q.2.1 q.2.2.1 q.2.2.2) s) ∧ va_AO "Heliographs$Kind" s ∧ (Cond.arrayOver (.array .int)).before #[] s = true ∧ ∀ w ∈ zk_xw, va_Nw w s
theorem zk_Kx.warm {s U : State} (hW : s.WarmedH U.vm) (h : zk_Kx s) : zk_Kx U := ⟨fun q hq => (h.1 q hq).warmF hW, fun q hq => (h.2.1 q hq).warmM hW, h.2.2.1.moved hW.alike, Stand.arrayOver_alikeB hW.alike h.2.2.2.1, fun w hw => (zk_xw_ok hw).2 hW (h.2.2.2.2 w hw)⟩
def zk_Kn (Γ : zk_G) (s : State) : Prop := zk_Kc Γ s ∧ zk_Ka Γ s ∧ zk_Ks Γ s ∧ zk_Kr Γ s ∧ zk_Kz Γ s ∧ zk_Kx s
theorem zk_Kn.warm {Γ : zk_G} {s U : State} (hW : s.WarmedH U.vm) (h : zk_Kn Γ s) : zk_Kn Γ U := by
  have hvm := hW.alike
  refine ⟨fun k r hk => ⟨by rw [hvm.findClass]; exact (h.1 k r hk).1, fun j hj => ?_⟩, ⟨fun k a hk ha => ⟨by rw [hvm.findClass]; exact (h.2.1.1 k a hk ha).1, arrOfT_moved hvm (h.2.1.1 k a hk ha).2.1, (h.2.1.1 k a hk ha).2.2.moved hvm⟩, fun q hq => arrOfT_moved hvm (h.2.1.2 q hq)⟩, fun q hq => va_Z.moved hvm (h.2.2.1 q hq), fun q hq => vk_R.warm hW (h.2.2.2.1 q hq), ⟨vx_Zq.moved hvm h.2.2.2.2.1.1, vx_Zq.moved hvm h.2.2.2.2.1.2.1, h.2.2.2.2.1.2.2.elim (fun v q => ⟨v, q.1, va_Z.moved hvm q.2⟩)⟩, h.2.2.2.2.2.warm hW⟩
  obtain ⟨cf, kf, fi, f, h1, h2, h3⟩ := (h.1 k r hk).2 j hj
  obtain ⟨k', hi', -⟩ := State.fieldFound?_setVm hvm h1
  exact ⟨cf, k', fi, f, hi', h2, h3⟩
/-- an object, an array -/
def zk_okO (Γ : zk_G) (ρ : Nat → Nat) (H : Heap) (k len : Nat) (f : Nat → Value) (q : Nat) (nw : Prop) : Prop :=
  ∃ cell : Cell, H[q]? = some cell ∧ cell.cls = Γ.1.1 k ∧ cell.vm ≠ .unknown ∧ cell.vm.isStatics = false ∧ (nw → cell.vm = .none) ∧ ∀ j, j < len → cell.slots[Γ.1.2 k j]? = some (zk_v ρ (f j))
def zk_okA (Γ : zk_G) (ρ : Nat → Nat) (H : Heap) (a k len : Nat) (f : Nat → Value) (q : Nat) (nw : Prop) : Prop :=
  ∃ cell : Cell, H[q]? = some cell ∧ cell.cls = Γ.2.2.1 k a ∧ cell.vm ≠ .unknown ∧ cell.vm.isStatics = false ∧ (nw → cell.vm = .none) ∧ cell.slots.size = len ∧ ∀ j, j < len → cell.slots[j]? = some (zk_v ρ (f j))
def zk_ok (Γ : zk_G) (ρ : Nat → Nat) (H : Heap) (a : Nat) (kl : Nat × Nat) (f : Nat → Value) : Prop :=
  (kl.1 < 100 → (∃ r, zk_cs[kl.1]? = some r ∧ kl.2 ≤ r.2.2) ∧ zk_okO Γ ρ H kl.1 kl.2 f (ρ a) (zk_N ≤ a)) ∧
  (100 ≤ kl.1 → kl.1 < 1000 → kl.1 < 106 ∧ kl.2 < 2 ^ 31 ∧ (a < zk_N → (a, kl.1 - 100) ∈ zk_oa) ∧ zk_okA Γ ρ H a (kl.1 - 100) kl.2 f (ρ a) (zk_N ≤ a))
def zk_base (Γ : zk_G) (ρ : Nat → Nat) (M : zk_M) (H : Heap) : Prop :=
  (∀ a, a < M.2.1 → zk_ok Γ ρ H a (M.1 a) (M.2.2 a)) ∧
  (∀ a b, a < M.2.1 → b < M.2.1 → (M.1 a).1 < 1000 → (M.1 b).1 < 1000 → (zk_N ≤ b ∨ (a < 48 ∧ b < 48)) → ρ a = ρ b → a = b) ∧
  ((∀ q : Nat, q < Γ.2.1.size → H[q]? = Γ.2.1[q]?) ∧ Γ.2.1.size ≤ H.size) ∧
  (∀ a, zk_N ≤ a → a < M.2.1 → (M.1 a).1 < 1000 → Γ.2.1.size ≤ ρ a) ∧ (∀ a, a < zk_N → ρ a = Γ.2.2.2.1 a) ∧
  (∀ a j x, a < M.2.1 → j < (M.1 a).2 → M.2.2 a j = .ref x → x < M.2.1) ∧ zk_N ≤ M.2.1
/-- the foreign cells: apart, and they show what they show -/
def zk_far (Γ : zk_G) (ρ : Nat → Nat) (M : zk_M) (F : Heap → Prop) (H : Heap) : Prop :=
  F H ∧ (∀ H1 H2 : Heap, (∀ q, Γ.2.2.2.2 q → H2[q]? = H1[q]?) → (∀ q : Nat, q < Γ.2.1.size → H2[q]? = H1[q]?) → H1.size ≤ H2.size → F H1 → F H2) ∧ (∀ q, Γ.2.2.2.2 q → q < H.size ∧ Γ.2.1.size ≤ q) ∧ ∀ a, zk_N ≤ a → a < M.2.1 → (M.1 a).1 < 1000 → ¬ Γ.2.2.2.2 (ρ a)
def zk_Rl (Γ : zk_G) (ρ : Nat → Nat) (M : zk_M) (F : Heap → Prop) (H : Heap) : Prop := zk_base Γ ρ M H ∧ zk_far Γ ρ M F H
def zk_up (G : Nat → Nat → Value) (a j : Nat) (v : Value) : Nat → Nat → Value := fun x => if x = a then (fun y => if y = j then v else G x y) else G x
theorem zk_up_ne {G : Nat → Nat → Value} {a j : Nat} {v : Value} {x : Nat} (h : x ≠ a) : zk_up G a j v x = G x := by unfold zk_up; rw [if_neg h]
theorem zk_up_at {G : Nat → Nat → Value} {a j : Nat} {v : Value} : zk_up G a j v a = fun y => if y = j then v else G a y := by unfold zk_up; rw [if_pos rfl]
theorem zk_okO.kept {Γ : zk_G} {ρ : Nat → Nat} {H H' : Heap} {k len : Nat} {f : Nat → Value} {q : Nat} {nw : Prop} (h : zk_okO Γ ρ H k len f q nw) (hq : H'[q]? = H[q]?) : zk_okO Γ ρ H' k len f q nw := by
  obtain ⟨cell, h1, h2⟩ := h
  exact ⟨cell, hq.trans h1, h2⟩
theorem zk_okA.kept {Γ : zk_G} {ρ : Nat → Nat} {H H' : Heap} {a k len : Nat} {f : Nat → Value} {q : Nat} {nw : Prop} (h : zk_okA Γ ρ H a k len f q nw) (hq : H'[q]? = H[q]?) : zk_okA Γ ρ H' a k len f q nw := by
  obtain ⟨cell, h1, h2⟩ := h
  exact ⟨cell, hq.trans h1, h2⟩
theorem zk_ok.kept {Γ : zk_G} {ρ : Nat → Nat} {H H' : Heap} {a : Nat} {kl : Nat × Nat} {f : Nat → Value} (h : zk_ok Γ ρ H a kl f) (hq : kl.1 < 1000 → H'[ρ a]? = H[ρ a]?) : zk_ok Γ ρ H' a kl f :=
  ⟨fun h1 => ⟨(h.1 h1).1, (h.1 h1).2.kept (hq (by omega))⟩, fun h1 h2 => ⟨(h.2 h1 h2).1, (h.2 h1 h2).2.1, (h.2 h1 h2).2.2.1, (h.2 h1 h2).2.2.2.kept (hq h2)⟩⟩
theorem zk_ok.lt {Γ : zk_G} {ρ : Nat → Nat} {H : Heap} {a : Nat} {kl : Nat × Nat} {f : Nat → Value} (h : zk_ok Γ ρ H a kl f) (hk : kl.1 < 1000) : ρ a < H.size := by
  by_cases h1 : kl.1 < 100
  · obtain ⟨-, cell, h2, -⟩ := h.1 h1
    exact (Array.getElem?_eq_some_iff.mp h2).1
  · obtain ⟨-, -, -, cell, h2, -⟩ := h.2 (by omega) hk
    exact (Array.getElem?_eq_some_iff.mp h2).1
/-- a write into a new cell -/
theorem zk_Rl.put {Γ : zk_G} {ρ : Nat → Nat} {M : zk_M} {F : Heap → Prop} {H H' : Heap} (h : zk_Rl Γ ρ M F H) {a j : Nat} {v : Value} (ha : zk_N ≤ a) (hn : a < M.2.1) (hk : (M.1 a).1 < 1000) (hv : zk_in_n M.2.1 v)
    (hsz : H'.size = H.size) (ho : ∀ q, q ≠ ρ a → H'[q]? = H[q]?) (hc : zk_ok Γ ρ H' a (M.1 a) (fun y => if y = j then v else M.2.2 a y)) : zk_Rl Γ ρ (M.1, M.2.1, zk_up M.2.2 a j v) F H' := by
  obtain ⟨⟨b1, b2, b3, b4, b5, b6, b7⟩, f1, f2, f3, f4⟩ := h
  have hge := b4 a ha hn hk
  refine ⟨⟨fun x hx => ?_, b2, ⟨fun q hq => (ho q (by omega)).trans (b3.1 q hq), by omega⟩, b4, b5, fun x y z hx hy hz => ?_, b7⟩, f2 H H' (fun q hq => ho q (fun e => f4 a ha hn hk (e ▸ hq))) (fun q hq => ho q (by omega)) (by omega) f1, f2, fun q hq => by rw [hsz]; exact f3 q hq, f4⟩
  · by_cases e : x = a
    · subst e
      show zk_ok Γ ρ H' x (M.1 x) (zk_up M.2.2 x j v x)
      rw [zk_up_at]
      exact hc
    · show zk_ok Γ ρ H' x (M.1 x) (zk_up M.2.2 a j v x)
      rw [zk_up_ne e]
      exact (b1 x hx).kept (fun h1 => ho _ (fun e2 => e (b2 x a hx hn h1 hk (Or.inl ha) e2)))
  · dsimp only at hy hz
    by_cases e : x = a
    · subst e
      rw [zk_up_at] at hz
      dsimp only at hz
      by_cases e2 : y = j
      · rw [if_pos e2] at hz
        subst hz
        exact hv
      · rw [if_neg e2] at hz
        exact b6 x y z hx hy hz
    · rw [zk_up_ne e] at hz
      exact b6 x y z hx hy hz
/-- what may be written: the memory's new cells, and what is made -/
def zk_A (Γ : zk_G) (ρ : Nat → Nat) (M : zk_M) (sz : Nat) (A : Nat → Prop) : Prop := (∀ a, zk_N ≤ a → a < M.2.1 → (M.1 a).1 < 1000 → A (ρ a)) ∧ (∀ q, sz ≤ q → A q) ∧ ∀ q, Γ.2.2.2.2 q → A q
/-- the method's activation -/
def zk_Cx (Γ : zk_G) (I : zk_MI) (p : Program) (s : State) (m : MethodId) (args : Array Value) (meth : Method) (c : Code) : Prop :=
  p.tables.exec = Jvm.exec ∧ c.code = I.2.1 ∧ c.maxLocals = I.2.2.1 ∧ s.vm.findClass I.1.cls = some m.cls ∧ (∀ w ∈ zk_tg, w.before args s = true) ∧ meth.sig.returnType = I.2.2.2 ∧ (meth.locks = false ∧ ∀ hh : List (Nat × Nat × Nat × Nat), Cond.codeWith I.1 I.2.1 I.2.2.1 I.2.2.2 hh ∈ zk_tg → c.exceptionTable.toList = tableOf hh) ∧ (I.1.name = "<init>" → meth.name = "<init>") ∧ zk_Kn Γ s
/-- a return, by its kind -/
def zk_ret (I : zk_MI) (pc : Nat) (v : Option Value) : Prop := match v with
  | none => decode I.2.1 pc = .ok (.return_, 1) ∧ I.2.2.2 = none
  | some (.int x) => decode I.2.1 pc = .ok (.ireturn, 1) ∧ ∃ ty, I.2.2.2 = some ty ∧ narrow ty (.int x) = .int x
  | some (.long _) => decode I.2.1 pc = .ok (.lreturn, 1) ∧ I.2.2.2 = some .long
  | some (.double _) => decode I.2.1 pc = .ok (.dreturn, 1) ∧ I.2.2.2 = some .double
  | some (.ref _) => decode I.2.1 pc = .ok (.areturn, 1) ∧ ∃ ty, I.2.2.2 = some ty ∧ ((∃ n, ty = .object n) ∨ ∃ t, ty = .array t)
  | some .null => decode I.2.1 pc = .ok (.areturn, 1) ∧ ∃ ty, I.2.2.2 = some ty ∧ ((∃ n, ty = .object n) ∨ ∃ t, ty = .array t)
  | some _ => False
/-- a later memory: what was there stands where it stood, new cells lie behind -/
def zk_ext (ρ : Nat → Nat) (M : zk_M) (H : Heap) (ρ' : Nat → Nat) (M' : zk_M) (H' : Heap) : Prop :=
  (∀ a, a < M.2.1 → ρ' a = ρ a ∧ (M'.1 a = M.1 a ∨ 1000 ≤ (M'.1 a).1)) ∧ M.2.1 ≤ M'.2.1 ∧ H.size ≤ H'.size ∧ ∀ a, M.2.1 ≤ a → a < M'.2.1 → (M'.1 a).1 < 1000 → H.size ≤ ρ' a
theorem zk_ext.refl {ρ : Nat → Nat} {M : zk_M} {H : Heap} : zk_ext ρ M H ρ M H := ⟨fun _ _ => ⟨rfl, Or.inl rfl⟩, Nat.le_refl _, Nat.le_refl _, fun a h1 h2 => absurd h2 (by omega)⟩
theorem zk_ext.trans {ρ ρ1 ρ2 : Nat → Nat} {M M1 M2 : zk_M} {H H1 H2 : Heap} (h : zk_ext ρ M H ρ1 M1 H1) (h' : zk_ext ρ1 M1 H1 ρ2 M2 H2) : zk_ext ρ M H ρ2 M2 H2 := by
  refine ⟨fun a ha => ⟨(h'.1 a (by have := h.2.1; omega)).1.trans (h.1 a ha).1, ?_⟩, Nat.le_trans h.2.1 h'.2.1, Nat.le_trans h.2.2.1 h'.2.2.1, fun a h1 h2 h3 => ?_⟩
  · rcases (h'.1 a (by have := h.2.1; omega)).2 with q | q
    · rw [q]; exact (h.1 a ha).2
    · exact Or.inr q
  by_cases ha : a < M1.2.1
  · rcases (h'.1 a ha).2 with q | q
    · rw [q] at h3
      rw [(h'.1 a ha).1]
      exact h.2.2.2 a h1 ha h3
    · exact absurd q (by omega)
  · exact Nat.le_trans h.2.2.1 (h'.2.2.2 a (by omega) h2 h3)
/-- the methods that may throw -/
def zk_mt : List String := ["mirror", "stop", "forward"]
/-- here a text is thrown -/
def zk_thr (I : zk_MI) (pc : Nat) : Prop := I.1.name ∈ zk_mt ∧ ∃ (ik is ic sa : Nat) (tx : String), decode I.2.1 pc = .ok (.new ik, 3) ∧ decode I.2.1 (pc + 3) = .ok (.dup, 1) ∧ decode I.2.1 (pc + 4) = .ok (.ldc is, 2) ∧ decode I.2.1 (pc + 6) = .ok (.invokespecial ic, 3) ∧ decode I.2.1 (pc + 9) = .ok (.athrow, 1) ∧
  (I.1.cls, is, tx, sa) ∈ zk_sr ∧ Cond.classLink I.1.cls ik zk_X ∈ zk_tg ∧ Cond.initialized zk_X ∈ zk_tg ∧ ∀ w ∈ vx_atS I.1.cls ic zk_X zk_Xn, w ∈ zk_tg ∨ w ∈ zk_xw
/-- what is to be had at each return, and where an exception is thrown -/
def zk_End (l : Launch) (Γ : zk_G) (I : zk_MI) (kc ks : Nat) (Q : Option Value → zk_M → (Heap → Prop) → Prop) (p : Program) (e : Env) (R : Room) (s : State) (m : MethodId) (args : Array Value) (below : List Frame) (meth : Method) (c : Code) (Qf : State → Prop) (A : Nat → Prop) (ρ : Nat → Nat) (M : zk_M) (H : Heap) (cells slots : Nat) : Prop :=
  (∀ (v : Option Value) (M' : zk_M) (F' : Heap → Prop) (ρ' : Nat → Nat) (H' : Heap) (locs' : List Loc) (cells' slots' pc' : Nat) (ls' : Array Slot), Q v M' F' → zk_Rl Γ ρ' M' F' H' → zk_ext ρ M H ρ' M' H' → (∀ w, v = some w → zk_in_n M'.2.1 w) → va_S A s.heap H' locs' → cells' ≤ cells + kc → slots' ≤ slots + ks → zk_ret I pc' v →
      W p l e R s m args below meth c H' locs' cells' slots' Qf (F0 m pc' ls' (v.map (zk_v ρ')).toList)) ∧
  (∀ (M' : zk_M) (F' : Heap → Prop) (ρ' : Nat → Nat) (H' : Heap) (locs' : List Loc) (cells' slots' pc' : Nat) (ls' : Array Slot), Q (some (.retAddr 0)) M' F' → zk_Rl Γ ρ' M' F' H' → zk_ext ρ M H ρ' M' H' → va_S A s.heap H' locs' → cells' + 1 ≤ cells + kc → slots' + 6 ≤ slots + ks → ls'.size = I.2.2.1 → zk_thr I pc' →
      W p l e R s m args below meth c H' locs' cells' slots' Qf (F0 m pc' ls' []))
theorem zk_End.later {l : Launch} {Γ : zk_G} {I : zk_MI} {kc ks kc1 ks1 : Nat} {Q : Option Value → zk_M → (Heap → Prop) → Prop} {p : Program} {e : Env} {R : Room} {s : State} {m : MethodId} {args : Array Value} {below : List Frame} {meth : Method} {c : Code} {Qf : State → Prop} {A : Nat → Prop} {ρ ρ1 : Nat → Nat} {M M1 : zk_M} {H H1 : Heap} {cells slots cells1 slots1 : Nat}
    (h : zk_End l Γ I kc ks Q p e R s m args below meth c Qf A ρ M H cells slots) (hx : zk_ext ρ M H ρ1 M1 H1) (h1 : cells1 + kc1 ≤ cells + kc) (h2 : slots1 + ks1 ≤ slots + ks) : zk_End l Γ I kc1 ks1 Q p e R s m args below meth c Qf A ρ1 M1 H1 cells1 slots1 :=
  ⟨fun v M' F' ρ' H' locs' cells' slots' pc' ls' a1 a2 a3 a4 a5 a6 a7 a8 => h.1 v M' F' ρ' H' locs' cells' slots' pc' ls' a1 a2 (hx.trans a3) a4 a5 (by omega) (by omega) a8,
    fun M' F' ρ' H' locs' cells' slots' pc' ls' a1 a2 a3 a4 a5 a6 a7 a8 => h.2 M' F' ρ' H' locs' cells' slots' pc' ls' a1 a2 (hx.trans a3) a4 (by omega) (by omega) a7 a8⟩
theorem zk_End.put {l : Launch} {Γ : zk_G} {I : zk_MI} {kc ks : Nat} {Q : Option Value → zk_M → (Heap → Prop) → Prop} {p : Program} {e : Env} {R : Room} {s : State} {m : MethodId} {args : Array Value} {below : List Frame} {meth : Method} {c : Code} {Qf : State → Prop} {A : Nat → Prop} {ρ : Nat → Nat} {M : zk_M} {H H1 : Heap} {cells slots : Nat} {G : Nat → Nat → Value}
    (h : zk_End l Γ I kc ks Q p e R s m args below meth c Qf A ρ M H cells slots) (hz : H1.size = H.size) : zk_End l Γ I kc ks Q p e R s m args below meth c Qf A ρ (M.1, M.2.1, G) H1 cells slots :=
  h.later ⟨fun _ _ => ⟨rfl, Or.inl rfl⟩, Nat.le_refl _, by omega, fun a h1 h2 => absurd (show a < M.2.1 from h2) (by omega)⟩ (Nat.le_refl _) (Nat.le_refl _)
/-- THE JUDGEMENT: from this place of the method the machine comes to a return whose answer and memory are as Q says; depth d, at most kc cells of ks slots made -/
def zk_Go (l : Launch) (Γ : zk_G) (I : zk_MI) (d kc ks : Nat) (Q : Option Value → zk_M → (Heap → Prop) → Prop) (pc : Nat) (L : List (Option Value)) (st : List Value) (M : zk_M) (F : Heap → Prop) : Prop :=
  ∀ (p : Program) (e : Env) (R : Room) (s : State) (m : MethodId) (args : Array Value) (below : List Frame) (meth : Method) (c : Code) (H : Heap) (locs : List Loc) (cells slots : Nat) (Qf : State → Prop) (A : Nat → Prop) (ρ : Nat → Nat) (ls : Array Slot),
    zk_Cx Γ I p s m args meth c → (d ≤ R.frames ∧ 64 * d ≤ R.locals) → (cells + kc ≤ R.cells ∧ slots + ks ≤ R.slots) → zk_Rl Γ ρ M F H → zk_A Γ ρ M s.heap.size A → va_S A s.heap H locs → zk_Lr ρ M.2.1 I.2.2.1 L ls → zk_wf M.2.1 st →
    zk_End l Γ I kc ks Q p e R s m args below meth c Qf A ρ M H cells slots →
    W p l e R s m args below meth c H locs cells slots Qf (F0 m pc ls (st.map (zk_v ρ)))
/-- a step that touches neither locals nor memory -/
theorem zk_Go.pure {l : Launch} {Γ : zk_G} {I : zk_MI} {d kc ks : Nat} {Q : Option Value → zk_M → (Heap → Prop) → Prop} {pc pc2 : Nat} {L : List (Option Value)} {st st2 : List Value} {M : zk_M} {F : Heap → Prop}
    (h : ∀ (p : Program) (e : Env) (R : Room) (s : State) (m : MethodId) (args : Array Value) (below : List Frame) (meth : Method) (c : Code) (H : Heap) (locs : List Loc) (cells slots : Nat) (Qf : State → Prop) (ρ : Nat → Nat) (ls : Array Slot), zk_Cx Γ I p s m args meth c → zk_Lr ρ M.2.1 I.2.2.1 L ls →
      W p l e R s m args below meth c H locs cells slots Qf (F0 m pc2 ls (st2.map (zk_v ρ))) → W p l e R s m args below meth c H locs cells slots Qf (F0 m pc ls (st.map (zk_v ρ))))
    (hw : ∀ ρ (ls : Array Slot), zk_Lr ρ M.2.1 I.2.2.1 L ls → zk_wf M.2.1 st → zk_wf M.2.1 st2) (k : zk_Go l Γ I d kc ks Q pc2 L st2 M F) : zk_Go l Γ I d kc ks Q pc L st M F := by
  intro p e R s m args below meth c H locs cells slots Qf A ρ ls hc hr hs hR hA hS hL hW hE
  exact h p e R s m args below meth c H locs cells slots Qf ρ ls hc hL (k p e R s m args below meth c H locs cells slots Qf A ρ ls hc hr hs hR hA hS hL (hw ρ ls hL hW) hE)
/-- a step into a local -/
theorem zk_Go.loc {l : Launch} {Γ : zk_G} {I : zk_MI} {d kc ks : Nat} {Q : Option Value → zk_M → (Heap → Prop) → Prop} {pc pc2 : Nat} {L L2 : List (Option Value)} {st st2 : List Value} {M : zk_M} {F : Heap → Prop}
    (h : ∀ (p : Program) (e : Env) (R : Room) (s : State) (m : MethodId) (args : Array Value) (below : List Frame) (meth : Method) (c : Code) (H : Heap) (locs : List Loc) (cells slots : Nat) (Qf : State → Prop) (ρ : Nat → Nat) (ls : Array Slot), zk_Cx Γ I p s m args meth c → zk_Lr ρ M.2.1 I.2.2.1 L ls → zk_wf M.2.1 st →
      (∀ ls2, zk_Lr ρ M.2.1 I.2.2.1 L2 ls2 → W p l e R s m args below meth c H locs cells slots Qf (F0 m pc2 ls2 (st2.map (zk_v ρ)))) → W p l e R s m args below meth c H locs cells slots Qf (F0 m pc ls (st.map (zk_v ρ))))
    (hw : zk_wf M.2.1 st → zk_wf M.2.1 st2) (k : zk_Go l Γ I d kc ks Q pc2 L2 st2 M F) : zk_Go l Γ I d kc ks Q pc L st M F := by
  intro p e R s m args below meth c H locs cells slots Qf A ρ ls hc hr hs hR hA hS hL hW hE
  exact h p e R s m args below meth c H locs cells slots Qf ρ ls hc hL hW (fun ls2 hL2 => k p e R s m args below meth c H locs cells slots Qf A ρ ls2 hc hr hs hR hA hS hL2 (hw hW) hE)

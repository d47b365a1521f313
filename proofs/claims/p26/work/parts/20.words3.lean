/-! THE WORDS that instructions and calls need, by their places -/
theorem jsX4_readHold : Cond.selects yX4_readHold.cls yX4_readHold yX4_readHold ∈ zk_tg := zk_sel (n := 7) 33 (by decide +kernel)
theorem jpX4_readHold : plainName yX4_readHold.cls = true ∧ yX4_readHold.cls ≠ "java/lang/invoke/MethodHandle" ∧ yX4_readHold.cls ≠ "java/lang/invoke/VarHandle" ∧ (parseMethodDescriptor yX4_readHold.desc).map (fun d => d.parameters.length) = some 0 := ⟨by decide +kernel, by decide +kernel, by decide +kernel, by decide +kernel⟩
abbrev mX4_readTest : zk_MI := (yX4_readTest, cX4_readTest, 3, (none))
set_option maxRecDepth 100000 in
theorem jcX4_readTest : Cond.code yX4_readTest cX4_readTest 3 (none) ∈ zk_tg := zk_in 1042 rfl rfl
theorem jiX4_readTest : Cond.instanceMethod yX4_readTest ∈ zk_tg := zk_in 1041 (by decide +kernel) rfl
theorem jsX4_readTest : Cond.selects yX4_readTest.cls yX4_readTest yX4_readTest ∈ zk_tg := zk_sel (n := 7) 34 (by decide +kernel)
theorem jpX4_readTest : plainName yX4_readTest.cls = true ∧ yX4_readTest.cls ≠ "java/lang/invoke/MethodHandle" ∧ yX4_readTest.cls ≠ "java/lang/invoke/VarHandle" ∧ (parseMethodDescriptor yX4_readTest.desc).map (fun d => d.parameters.length) = some 1 := ⟨by decide +kernel, by decide +kernel, by decide +kernel, by decide +kernel⟩
abbrev mX4_readBoth : zk_MI := (yX4_readBoth, cX4_readBoth, 3, (none))
set_option maxRecDepth 100000 in
theorem jcX4_readBoth : Cond.code yX4_readBoth cX4_readBoth 3 (none) ∈ zk_tg := zk_in 1046 rfl rfl
theorem jiX4_readBoth : Cond.instanceMethod yX4_readBoth ∈ zk_tg := zk_in 1045 (by decide +kernel) rfl
theorem jsX4_readBoth : Cond.selects yX4_readBoth.cls yX4_readBoth yX4_readBoth ∈ zk_tg := zk_sel (n := 7) 35 (by decide +kernel)
theorem jpX4_readBoth : plainName yX4_readBoth.cls = true ∧ yX4_readBoth.cls ≠ "java/lang/invoke/MethodHandle" ∧ yX4_readBoth.cls ≠ "java/lang/invoke/VarHandle" ∧ (parseMethodDescriptor yX4_readBoth.desc).map (fun d => d.parameters.length) = some 1 := ⟨by decide +kernel, by decide +kernel, by decide +kernel, by decide +kernel⟩
abbrev mX4_readSingle : zk_MI := (yX4_readSingle, cX4_readSingle, 3, (none))
set_option maxRecDepth 100000 in
theorem jcX4_readSingle : Cond.code yX4_readSingle cX4_readSingle 3 (none) ∈ zk_tg := zk_in 1050 rfl rfl
theorem jiX4_readSingle : Cond.instanceMethod yX4_readSingle ∈ zk_tg := zk_in 1049 (by decide +kernel) rfl
theorem jsX4_readSingle : Cond.selects yX4_readSingle.cls yX4_readSingle yX4_readSingle ∈ zk_tg := zk_sel (n := 7) 36 (by decide +kernel)
theorem jpX4_readSingle : plainName yX4_readSingle.cls = true ∧ yX4_readSingle.cls ≠ "java/lang/invoke/MethodHandle" ∧ yX4_readSingle.cls ≠ "java/lang/invoke/VarHandle" ∧ (parseMethodDescriptor yX4_readSingle.desc).map (fun d => d.parameters.length) = some 1 := ⟨by decide +kernel, by decide +kernel, by decide +kernel, by decide +kernel⟩
abbrev mX4_goDeeper : zk_MI := (yX4_goDeeper, cX4_goDeeper, 3, (some FieldType.boolean))
set_option maxRecDepth 100000 in
theorem jcX4_goDeeper : Cond.code yX4_goDeeper cX4_goDeeper 3 (some FieldType.boolean) ∈ zk_tg := zk_in 1056 rfl rfl
theorem jiX4_goDeeper : Cond.instanceMethod yX4_goDeeper ∈ zk_tg := zk_in 1055 (by decide +kernel) rfl
theorem jsX4_goDeeper : Cond.selects yX4_goDeeper.cls yX4_goDeeper yX4_goDeeper ∈ zk_tg := zk_sel (n := 7) 37 (by decide +kernel)
theorem jpX4_goDeeper : plainName yX4_goDeeper.cls = true ∧ yX4_goDeeper.cls ≠ "java/lang/invoke/MethodHandle" ∧ yX4_goDeeper.cls ≠ "java/lang/invoke/VarHandle" ∧ (parseMethodDescriptor yX4_goDeeper.desc).map (fun d => d.parameters.length) = some 2 := ⟨by decide +kernel, by decide +kernel, by decide +kernel, by decide +kernel⟩
abbrev mX4_emit : zk_MI := (yX4_emit, cX4_emit, 3, (none))
set_option maxRecDepth 100000 in
theorem jcX4_emit : Cond.code yX4_emit cX4_emit 3 (none) ∈ zk_tg := zk_in 1060 rfl rfl
theorem jiX4_emit : Cond.instanceMethod yX4_emit ∈ zk_tg := zk_in 1059 (by decide +kernel) rfl
theorem jsX4_emit : Cond.selects yX4_emit.cls yX4_emit yX4_emit ∈ zk_tg := zk_sel (n := 7) 38 (by decide +kernel)
theorem jpX4_emit : plainName yX4_emit.cls = true ∧ yX4_emit.cls ≠ "java/lang/invoke/MethodHandle" ∧ yX4_emit.cls ≠ "java/lang/invoke/VarHandle" ∧ (parseMethodDescriptor yX4_emit.desc).map (fun d => d.parameters.length) = some 2 := ⟨by decide +kernel, by decide +kernel, by decide +kernel, by decide +kernel⟩
abbrev mX2_append : zk_MI := (yX2_append, cX2_append, 3, (none))
set_option maxRecDepth 100000 in
theorem jcX2_append : Cond.code yX2_append cX2_append 3 (none) ∈ zk_tg := zk_in 1064 rfl rfl
theorem jiX2_append : Cond.instanceMethod yX2_append ∈ zk_tg := zk_in 1062 (by decide +kernel) rfl
theorem jsX2_append : Cond.selects yX2_append.cls yX2_append yX2_append ∈ zk_tg := zk_in 1063 (by decide +kernel) rfl
theorem jpX2_append : plainName yX2_append.cls = true ∧ yX2_append.cls ≠ "java/lang/invoke/MethodHandle" ∧ yX2_append.cls ≠ "java/lang/invoke/VarHandle" ∧ (parseMethodDescriptor yX2_append.desc).map (fun d => d.parameters.length) = some 2 := ⟨by decide +kernel, by decide +kernel, by decide +kernel, by decide +kernel⟩
abbrev mX4_readSum : zk_MI := (yX4_readSum, cX4_readSum, 4, (none))
set_option maxRecDepth 100000 in
theorem jcX4_readSum : Cond.code yX4_readSum cX4_readSum 4 (none) ∈ zk_tg := zk_in 1076 rfl rfl
theorem jiX4_readSum : Cond.instanceMethod yX4_readSum ∈ zk_tg := zk_in 1075 (by decide +kernel) rfl
theorem jsX4_readSum : Cond.selects yX4_readSum.cls yX4_readSum yX4_readSum ∈ zk_tg := zk_sel (n := 7) 39 (by decide +kernel)
theorem jpX4_readSum : plainName yX4_readSum.cls = true ∧ yX4_readSum.cls ≠ "java/lang/invoke/MethodHandle" ∧ yX4_readSum.cls ≠ "java/lang/invoke/VarHandle" ∧ (parseMethodDescriptor yX4_readSum.desc).map (fun d => d.parameters.length) = some 1 := ⟨by decide +kernel, by decide +kernel, by decide +kernel, by decide +kernel⟩
abbrev mX4_readProduct : zk_MI := (yX4_readProduct, cX4_readProduct, 4, (none))
set_option maxRecDepth 100000 in
theorem jcX4_readProduct : Cond.code yX4_readProduct cX4_readProduct 4 (none) ∈ zk_tg := zk_in 1080 rfl rfl
theorem jiX4_readProduct : Cond.instanceMethod yX4_readProduct ∈ zk_tg := zk_in 1079 (by decide +kernel) rfl
theorem jsX4_readProduct : Cond.selects yX4_readProduct.cls yX4_readProduct yX4_readProduct ∈ zk_tg := zk_sel (n := 7) 40 (by decide +kernel)
theorem jpX4_readProduct : plainName yX4_readProduct.cls = true ∧ yX4_readProduct.cls ≠ "java/lang/invoke/MethodHandle" ∧ yX4_readProduct.cls ≠ "java/lang/invoke/VarHandle" ∧ (parseMethodDescriptor yX4_readProduct.desc).map (fun d => d.parameters.length) = some 1 := ⟨by decide +kernel, by decide +kernel, by decide +kernel, by decide +kernel⟩
abbrev mX4_readValue : zk_MI := (yX4_readValue, cX4_readValue, 2, (none))
set_option maxRecDepth 100000 in
theorem jcX4_readValue : Cond.code yX4_readValue cX4_readValue 2 (none) ∈ zk_tg := zk_in 1084 rfl rfl
theorem jiX4_readValue : Cond.instanceMethod yX4_readValue ∈ zk_tg := zk_in 1083 (by decide +kernel) rfl
theorem jsX4_readValue : Cond.selects yX4_readValue.cls yX4_readValue yX4_readValue ∈ zk_tg := zk_sel (n := 7) 41 (by decide +kernel)
theorem jpX4_readValue : plainName yX4_readValue.cls = true ∧ yX4_readValue.cls ≠ "java/lang/invoke/MethodHandle" ∧ yX4_readValue.cls ≠ "java/lang/invoke/VarHandle" ∧ (parseMethodDescriptor yX4_readValue.desc).map (fun d => d.parameters.length) = some 1 := ⟨by decide +kernel, by decide +kernel, by decide +kernel, by decide +kernel⟩
abbrev mX4_readTwoSums : zk_MI := (yX4_readTwoSums, cX4_readTwoSums, 3, (none))
set_option maxRecDepth 100000 in
theorem jcX4_readTwoSums : Cond.code yX4_readTwoSums cX4_readTwoSums 3 (none) ∈ zk_tg := zk_in 1104 rfl rfl
theorem jiX4_readTwoSums : Cond.instanceMethod yX4_readTwoSums ∈ zk_tg := zk_in 1103 (by decide +kernel) rfl
theorem jsX4_readTwoSums : Cond.selects yX4_readTwoSums.cls yX4_readTwoSums yX4_readTwoSums ∈ zk_tg := zk_sel (n := 7) 42 (by decide +kernel)
theorem jpX4_readTwoSums : plainName yX4_readTwoSums.cls = true ∧ yX4_readTwoSums.cls ≠ "java/lang/invoke/MethodHandle" ∧ yX4_readTwoSums.cls ≠ "java/lang/invoke/VarHandle" ∧ (parseMethodDescriptor yX4_readTwoSums.desc).map (fun d => d.parameters.length) = some 2 := ⟨by decide +kernel, by decide +kernel, by decide +kernel, by decide +kernel⟩
abbrev mX4_comparisonOf : zk_MI := (yX4_comparisonOf, cX4_comparisonOf, 1, (some FieldType.int))
set_option maxRecDepth 100000 in
theorem jcX4_comparisonOf : Cond.code yX4_comparisonOf cX4_comparisonOf 1 (some FieldType.int) ∈ zk_tg := zk_in 1117 rfl rfl
theorem jiX4_comparisonOf : Cond.static yX4_comparisonOf ∈ zk_tg := zk_in 1116 (by decide +kernel) rfl
theorem jpX4_comparisonOf : plainName yX4_comparisonOf.cls = true ∧ yX4_comparisonOf.cls ≠ "java/lang/invoke/MethodHandle" ∧ yX4_comparisonOf.cls ≠ "java/lang/invoke/VarHandle" ∧ (parseMethodDescriptor yX4_comparisonOf.desc).map (fun d => d.parameters.length) = some 1 := ⟨by decide +kernel, by decide +kernel, by decide +kernel, by decide +kernel⟩
abbrev mX2_close : zk_MI := (yX2_close, cX2_close, 2, (none))
set_option maxRecDepth 100000 in
theorem jcX2_close : Cond.code yX2_close cX2_close 2 (none) ∈ zk_tg := zk_in 1133 rfl rfl
theorem jiX2_close : Cond.instanceMethod yX2_close ∈ zk_tg := zk_in 1131 (by decide +kernel) rfl
theorem jsX2_close : Cond.selects yX2_close.cls yX2_close yX2_close ∈ zk_tg := zk_in 1132 (by decide +kernel) rfl
theorem jpX2_close : plainName yX2_close.cls = true ∧ yX2_close.cls ≠ "java/lang/invoke/MethodHandle" ∧ yX2_close.cls ≠ "java/lang/invoke/VarHandle" ∧ (parseMethodDescriptor yX2_close.desc).map (fun d => d.parameters.length) = some 1 := ⟨by decide +kernel, by decide +kernel, by decide +kernel, by decide +kernel⟩
abbrev mX0_begin : zk_MI := (yX0_begin, cX0_begin, 3, (none))
set_option maxRecDepth 100000 in
theorem jcX0_begin : Cond.code yX0_begin cX0_begin 3 (none) ∈ zk_tg := zk_in 1139 rfl rfl
theorem jiX0_begin : Cond.instanceMethod yX0_begin ∈ zk_tg := zk_in 1137 (by decide +kernel) rfl
theorem jsX0_begin : Cond.selects yX0_begin.cls yX0_begin yX0_begin ∈ zk_tg := zk_in 1138 (by decide +kernel) rfl
theorem jpX0_begin : plainName yX0_begin.cls = true ∧ yX0_begin.cls ≠ "java/lang/invoke/MethodHandle" ∧ yX0_begin.cls ≠ "java/lang/invoke/VarHandle" ∧ (parseMethodDescriptor yX0_begin.desc).map (fun d => d.parameters.length) = some 1 := ⟨by decide +kernel, by decide +kernel, by decide +kernel, by decide +kernel⟩
abbrev mL_list : zk_MI := (yL_list, cL_list, 9, (some (FieldType.object "HeliographsLaw$Sim")))
set_option maxRecDepth 100000 in
theorem jcL_list : Cond.code yL_list cL_list 9 (some (FieldType.object "HeliographsLaw$Sim")) ∈ zk_tg := zk_in 1142 rfl rfl
theorem jiL_list : Cond.static yL_list ∈ zk_tg := zk_in 1141 (by decide +kernel) rfl
theorem jpL_list : plainName yL_list.cls = true ∧ yL_list.cls ≠ "java/lang/invoke/MethodHandle" ∧ yL_list.cls ≠ "java/lang/invoke/VarHandle" ∧ (parseMethodDescriptor yL_list.desc).map (fun d => d.parameters.length) = some 2 := ⟨by decide +kernel, by decide +kernel, by decide +kernel, by decide +kernel⟩
abbrev mX8_init : zk_MI := (yX8_init, cX8_init, 1, (none))
set_option maxRecDepth 100000 in
theorem jcX8_init : Cond.code yX8_init cX8_init 1 (none) ∈ zk_tg := zk_in 1147 rfl rfl
theorem jiX8_init : Cond.instanceMethod yX8_init ∈ zk_tg := zk_in 1146 (by decide +kernel) rfl
theorem jpX8_init : plainName yX8_init.cls = true ∧ yX8_init.cls ≠ "java/lang/invoke/MethodHandle" ∧ yX8_init.cls ≠ "java/lang/invoke/VarHandle" ∧ (parseMethodDescriptor yX8_init.desc).map (fun d => d.parameters.length) = some 0 := ⟨by decide +kernel, by decide +kernel, by decide +kernel, by decide +kernel⟩
abbrev mJ4_append_15ec4 : zk_MI := (yJ4_append_15ec4, cJ4_append_15ec4, 2, (some (FieldType.object "java/lang/StringBuilder")))
set_option maxRecDepth 100000 in
theorem jcJ4_append_15ec4 : Cond.code yJ4_append_15ec4 cJ4_append_15ec4 2 (some (FieldType.object "java/lang/StringBuilder")) ∈ zk_tg := zk_in 1185 rfl rfl
theorem jiJ4_append_15ec4 : Cond.instanceMethod yJ4_append_15ec4 ∈ zk_tg := zk_in 1183 (by decide +kernel) rfl
theorem jsJ4_append_15ec4 : Cond.selects yJ4_append_15ec4.cls yJ4_append_15ec4 yJ4_append_15ec4 ∈ zk_tg := zk_in 1184 (by decide +kernel) rfl
theorem jpJ4_append_15ec4 : plainName yJ4_append_15ec4.cls = true ∧ yJ4_append_15ec4.cls ≠ "java/lang/invoke/MethodHandle" ∧ yJ4_append_15ec4.cls ≠ "java/lang/invoke/VarHandle" ∧ (parseMethodDescriptor yJ4_append_15ec4.desc).map (fun d => d.parameters.length) = some 1 := ⟨by decide +kernel, by decide +kernel, by decide +kernel, by decide +kernel⟩
abbrev mJ5_append_cf1ce : zk_MI := (yJ5_append_cf1ce, cJ5_append_cf1ce, 3, (some (FieldType.object "java/lang/AbstractStringBuilder")))
set_option maxRecDepth 100000 in
theorem jcJ5_append_cf1ce : Cond.code yJ5_append_cf1ce cJ5_append_cf1ce 3 (some (FieldType.object "java/lang/AbstractStringBuilder")) ∈ zk_tg := zk_in 1189 rfl rfl
theorem jiJ5_append_cf1ce : Cond.instanceMethod yJ5_append_cf1ce ∈ zk_tg := zk_in 1188 (by decide +kernel) rfl
theorem jpJ5_append_cf1ce : plainName yJ5_append_cf1ce.cls = true ∧ yJ5_append_cf1ce.cls ≠ "java/lang/invoke/MethodHandle" ∧ yJ5_append_cf1ce.cls ≠ "java/lang/invoke/VarHandle" ∧ (parseMethodDescriptor yJ5_append_cf1ce.desc).map (fun d => d.parameters.length) = some 1 := ⟨by decide +kernel, by decide +kernel, by decide +kernel, by decide +kernel⟩
abbrev mJ5_appendNull_278bc : zk_MI := (yJ5_appendNull_278bc, cJ5_appendNull_278bc, 3, (some (FieldType.object "java/lang/AbstractStringBuilder")))
set_option maxRecDepth 100000 in
theorem jcJ5_appendNull_278bc : Cond.code yJ5_appendNull_278bc cJ5_appendNull_278bc 3 (some (FieldType.object "java/lang/AbstractStringBuilder")) ∈ zk_tg := zk_in 1193 rfl rfl
theorem jiJ5_appendNull_278bc : Cond.instanceMethod yJ5_appendNull_278bc ∈ zk_tg := zk_in 1192 (by decide +kernel) rfl
theorem jpJ5_appendNull_278bc : plainName yJ5_appendNull_278bc.cls = true ∧ yJ5_appendNull_278bc.cls ≠ "java/lang/invoke/MethodHandle" ∧ yJ5_appendNull_278bc.cls ≠ "java/lang/invoke/VarHandle" ∧ (parseMethodDescriptor yJ5_appendNull_278bc.desc).map (fun d => d.parameters.length) = some 0 := ⟨by decide +kernel, by decide +kernel, by decide +kernel, by decide +kernel⟩
abbrev mJ5_ensureCapacityInternal_d00df : zk_MI := (yJ5_ensureCapacityInternal_d00df, cJ5_ensureCapacityInternal_d00df, 3, (none))
set_option maxRecDepth 100000 in
theorem jcJ5_ensureCapacityInternal_d00df : Cond.code yJ5_ensureCapacityInternal_d00df cJ5_ensureCapacityInternal_d00df 3 (none) ∈ zk_tg := zk_in 1197 rfl rfl
theorem jiJ5_ensureCapacityInternal_d00df : Cond.instanceMethod yJ5_ensureCapacityInternal_d00df ∈ zk_tg := zk_in 1196 (by decide +kernel) rfl
theorem jpJ5_ensureCapacityInternal_d00df : plainName yJ5_ensureCapacityInternal_d00df.cls = true ∧ yJ5_ensureCapacityInternal_d00df.cls ≠ "java/lang/invoke/MethodHandle" ∧ yJ5_ensureCapacityInternal_d00df.cls ≠ "java/lang/invoke/VarHandle" ∧ (parseMethodDescriptor yJ5_ensureCapacityInternal_d00df.desc).map (fun d => d.parameters.length) = some 1 := ⟨by decide +kernel, by decide +kernel, by decide +kernel, by decide +kernel⟩
abbrev mJ5_newCapacity_0f7a4 : zk_MI := (yJ5_newCapacity_0f7a4, cJ5_newCapacity_0f7a4, 6, (some FieldType.int))
set_option maxRecDepth 100000 in
theorem jcJ5_newCapacity_0f7a4 : Cond.code yJ5_newCapacity_0f7a4 cJ5_newCapacity_0f7a4 6 (some FieldType.int) ∈ zk_tg := zk_in 1201 rfl rfl
theorem jiJ5_newCapacity_0f7a4 : Cond.instanceMethod yJ5_newCapacity_0f7a4 ∈ zk_tg := zk_in 1200 (by decide +kernel) rfl
theorem jpJ5_newCapacity_0f7a4 : plainName yJ5_newCapacity_0f7a4.cls = true ∧ yJ5_newCapacity_0f7a4.cls ≠ "java/lang/invoke/MethodHandle" ∧ yJ5_newCapacity_0f7a4.cls ≠ "java/lang/invoke/VarHandle" ∧ (parseMethodDescriptor yJ5_newCapacity_0f7a4.desc).map (fun d => d.parameters.length) = some 1 := ⟨by decide +kernel, by decide +kernel, by decide +kernel, by decide +kernel⟩
abbrev mJ8_newLength_cabcc : zk_MI := (yJ8_newLength_cabcc, cJ8_newLength_cabcc, 4, (some FieldType.int))
set_option maxRecDepth 100000 in
theorem jcJ8_newLength_cabcc : Cond.code yJ8_newLength_cabcc cJ8_newLength_cabcc 4 (some FieldType.int) ∈ zk_tg := zk_in 1204 rfl rfl
theorem jiJ8_newLength_cabcc : Cond.static yJ8_newLength_cabcc ∈ zk_tg := zk_in 1203 (by decide +kernel) rfl
theorem jpJ8_newLength_cabcc : plainName yJ8_newLength_cabcc.cls = true ∧ yJ8_newLength_cabcc.cls ≠ "java/lang/invoke/MethodHandle" ∧ yJ8_newLength_cabcc.cls ≠ "java/lang/invoke/VarHandle" ∧ (parseMethodDescriptor yJ8_newLength_cabcc.desc).map (fun d => d.parameters.length) = some 3 := ⟨by decide +kernel, by decide +kernel, by decide +kernel, by decide +kernel⟩
abbrev mJ9_max_7cf53 : zk_MI := (yJ9_max_7cf53, cJ9_max_7cf53, 2, (some FieldType.int))
set_option maxRecDepth 100000 in
theorem jcJ9_max_7cf53 : Cond.code yJ9_max_7cf53 cJ9_max_7cf53 2 (some FieldType.int) ∈ zk_tg := zk_in 1207 rfl rfl
theorem jiJ9_max_7cf53 : Cond.static yJ9_max_7cf53 ∈ zk_tg := zk_in 1206 (by decide +kernel) rfl
abbrev mJ8_hugeLength_7cf53 : zk_MI := (yJ8_hugeLength_7cf53, cJ8_hugeLength_7cf53, 3, (some FieldType.int))
set_option maxRecDepth 100000 in
theorem jcJ8_hugeLength_7cf53 : Cond.code yJ8_hugeLength_7cf53 cJ8_hugeLength_7cf53 3 (some FieldType.int) ∈ zk_tg := zk_in 1211 rfl rfl
theorem jiJ8_hugeLength_7cf53 : Cond.static yJ8_hugeLength_7cf53 ∈ zk_tg := zk_in 1210 (by decide +kernel) rfl
theorem jpJ8_hugeLength_7cf53 : plainName yJ8_hugeLength_7cf53.cls = true ∧ yJ8_hugeLength_7cf53.cls ≠ "java/lang/invoke/MethodHandle" ∧ yJ8_hugeLength_7cf53.cls ≠ "java/lang/invoke/VarHandle" ∧ (parseMethodDescriptor yJ8_hugeLength_7cf53.desc).map (fun d => d.parameters.length) = some 2 := ⟨by decide +kernel, by decide +kernel, by decide +kernel, by decide +kernel⟩
abbrev mJ7_copyOf_9075b : zk_MI := (yJ7_copyOf_9075b, cJ7_copyOf_9075b, 3, (some (FieldType.array FieldType.byte)))
set_option maxRecDepth 100000 in
theorem jcJ7_copyOf_9075b : Cond.code yJ7_copyOf_9075b cJ7_copyOf_9075b 3 (some (FieldType.array FieldType.byte)) ∈ zk_tg := zk_in 1215 rfl rfl
theorem jiJ7_copyOf_9075b : Cond.static yJ7_copyOf_9075b ∈ zk_tg := zk_in 1214 (by decide +kernel) rfl
theorem jpJ7_copyOf_9075b : plainName yJ7_copyOf_9075b.cls = true ∧ yJ7_copyOf_9075b.cls ≠ "java/lang/invoke/MethodHandle" ∧ yJ7_copyOf_9075b.cls ≠ "java/lang/invoke/VarHandle" ∧ (parseMethodDescriptor yJ7_copyOf_9075b.desc).map (fun d => d.parameters.length) = some 2 := ⟨by decide +kernel, by decide +kernel, by decide +kernel, by decide +kernel⟩
abbrev mJ5_isLatin1_aae02 : zk_MI := (yJ5_isLatin1_aae02, cJ5_isLatin1_aae02, 1, (some FieldType.boolean))
set_option maxRecDepth 100000 in
theorem jcJ5_isLatin1_aae02 : Cond.code yJ5_isLatin1_aae02 cJ5_isLatin1_aae02 1 (some FieldType.boolean) ∈ zk_tg := zk_in 1231 rfl rfl
theorem jiJ5_isLatin1_aae02 : Cond.instanceMethod yJ5_isLatin1_aae02 ∈ zk_tg := zk_in 1228 (by decide +kernel) rfl
theorem jpJ5_isLatin1_aae02 : plainName yJ5_isLatin1_aae02.cls = true ∧ yJ5_isLatin1_aae02.cls ≠ "java/lang/invoke/MethodHandle" ∧ yJ5_isLatin1_aae02.cls ≠ "java/lang/invoke/VarHandle" ∧ (parseMethodDescriptor yJ5_isLatin1_aae02.desc).map (fun d => d.parameters.length) = some 0 := ⟨by decide +kernel, by decide +kernel, by decide +kernel, by decide +kernel⟩
abbrev mJ2_putCharsAt_cd4e5 : zk_MI := (yJ2_putCharsAt_cd4e5, cJ2_putCharsAt_cd4e5, 7, (some FieldType.int))
set_option maxRecDepth 100000 in
theorem jcJ2_putCharsAt_cd4e5 : Cond.code yJ2_putCharsAt_cd4e5 cJ2_putCharsAt_cd4e5 7 (some FieldType.int) ∈ zk_tg := zk_in 1235 rfl rfl
theorem jiJ2_putCharsAt_cd4e5 : Cond.static yJ2_putCharsAt_cd4e5 ∈ zk_tg := zk_in 1234 (by decide +kernel) rfl
theorem jpJ2_putCharsAt_cd4e5 : plainName yJ2_putCharsAt_cd4e5.cls = true ∧ yJ2_putCharsAt_cd4e5.cls ≠ "java/lang/invoke/MethodHandle" ∧ yJ2_putCharsAt_cd4e5.cls ≠ "java/lang/invoke/VarHandle" ∧ (parseMethodDescriptor yJ2_putCharsAt_cd4e5.desc).map (fun d => d.parameters.length) = some 6 := ⟨by decide +kernel, by decide +kernel, by decide +kernel, by decide +kernel⟩
abbrev mJ2_checkBoundsBeginEnd_d044e : zk_MI := (yJ2_checkBoundsBeginEnd_d044e, cJ2_checkBoundsBeginEnd_d044e, 3, (none))
set_option maxRecDepth 100000 in
theorem jcJ2_checkBoundsBeginEnd_d044e : Cond.code yJ2_checkBoundsBeginEnd_d044e cJ2_checkBoundsBeginEnd_d044e 3 (none) ∈ zk_tg := zk_in 1238 rfl rfl
theorem jiJ2_checkBoundsBeginEnd_d044e : Cond.static yJ2_checkBoundsBeginEnd_d044e ∈ zk_tg := zk_in 1237 (by decide +kernel) rfl
theorem jpJ2_checkBoundsBeginEnd_d044e : plainName yJ2_checkBoundsBeginEnd_d044e.cls = true ∧ yJ2_checkBoundsBeginEnd_d044e.cls ≠ "java/lang/invoke/MethodHandle" ∧ yJ2_checkBoundsBeginEnd_d044e.cls ≠ "java/lang/invoke/VarHandle" ∧ (parseMethodDescriptor yJ2_checkBoundsBeginEnd_d044e.desc).map (fun d => d.parameters.length) = some 3 := ⟨by decide +kernel, by decide +kernel, by decide +kernel, by decide +kernel⟩
abbrev mJ0_checkBoundsBeginEnd_23922 : zk_MI := (yJ0_checkBoundsBeginEnd_23922, cJ0_checkBoundsBeginEnd_23922, 3, (none))
set_option maxRecDepth 100000 in
theorem jcJ0_checkBoundsBeginEnd_23922 : Cond.code yJ0_checkBoundsBeginEnd_23922 cJ0_checkBoundsBeginEnd_23922 3 (none) ∈ zk_tg := zk_in 1241 rfl rfl
theorem jiJ0_checkBoundsBeginEnd_23922 : Cond.static yJ0_checkBoundsBeginEnd_23922 ∈ zk_tg := zk_in 1240 (by decide +kernel) rfl
theorem jpJ0_checkBoundsBeginEnd_23922 : plainName yJ0_checkBoundsBeginEnd_23922.cls = true ∧ yJ0_checkBoundsBeginEnd_23922.cls ≠ "java/lang/invoke/MethodHandle" ∧ yJ0_checkBoundsBeginEnd_23922.cls ≠ "java/lang/invoke/VarHandle" ∧ (parseMethodDescriptor yJ0_checkBoundsBeginEnd_23922.desc).map (fun d => d.parameters.length) = some 3 := ⟨by decide +kernel, by decide +kernel, by decide +kernel, by decide +kernel⟩
abbrev mJ3_checkFromToIndex_8c36e : zk_MI := (yJ3_checkFromToIndex_8c36e, cJ3_checkFromToIndex_8c36e, 4, (some FieldType.int))
set_option maxRecDepth 100000 in
theorem jcJ3_checkFromToIndex_8c36e : Cond.code yJ3_checkFromToIndex_8c36e cJ3_checkFromToIndex_8c36e 4 (some FieldType.int) ∈ zk_tg := zk_in 1244 rfl rfl
theorem jiJ3_checkFromToIndex_8c36e : Cond.static yJ3_checkFromToIndex_8c36e ∈ zk_tg := zk_in 1243 (by decide +kernel) rfl
theorem jpJ3_checkFromToIndex_8c36e : plainName yJ3_checkFromToIndex_8c36e.cls = true ∧ yJ3_checkFromToIndex_8c36e.cls ≠ "java/lang/invoke/MethodHandle" ∧ yJ3_checkFromToIndex_8c36e.cls ≠ "java/lang/invoke/VarHandle" ∧ (parseMethodDescriptor yJ3_checkFromToIndex_8c36e.desc).map (fun d => d.parameters.length) = some 4 := ⟨by decide +kernel, by decide +kernel, by decide +kernel, by decide +kernel⟩
abbrev mJ2_putChar_b72d1 : zk_MI := (yJ2_putChar_b72d1, cJ2_putChar_b72d1, 3, (none))
set_option maxRecDepth 100000 in
theorem jcJ2_putChar_b72d1 : Cond.code yJ2_putChar_b72d1 cJ2_putChar_b72d1 3 (none) ∈ zk_tg := zk_in 1247 rfl rfl
theorem jiJ2_putChar_b72d1 : Cond.static yJ2_putChar_b72d1 ∈ zk_tg := zk_in 1246 (by decide +kernel) rfl
theorem jpJ2_putChar_b72d1 : plainName yJ2_putChar_b72d1.cls = true ∧ yJ2_putChar_b72d1.cls ≠ "java/lang/invoke/MethodHandle" ∧ yJ2_putChar_b72d1.cls ≠ "java/lang/invoke/VarHandle" ∧ (parseMethodDescriptor yJ2_putChar_b72d1.desc).map (fun d => d.parameters.length) = some 3 := ⟨by decide +kernel, by decide +kernel, by decide +kernel, by decide +kernel⟩
abbrev mJ5_putStringAt_47b60 : zk_MI := (yJ5_putStringAt_47b60, cJ5_putStringAt_47b60, 3, (none))
set_option maxRecDepth 100000 in
theorem jcJ5_putStringAt_47b60 : Cond.code yJ5_putStringAt_47b60 cJ5_putStringAt_47b60 3 (none) ∈ zk_tg := zk_in 1252 rfl rfl
theorem jiJ5_putStringAt_47b60 : Cond.instanceMethod yJ5_putStringAt_47b60 ∈ zk_tg := zk_in 1251 (by decide +kernel) rfl
theorem jpJ5_putStringAt_47b60 : plainName yJ5_putStringAt_47b60.cls = true ∧ yJ5_putStringAt_47b60.cls ≠ "java/lang/invoke/MethodHandle" ∧ yJ5_putStringAt_47b60.cls ≠ "java/lang/invoke/VarHandle" ∧ (parseMethodDescriptor yJ5_putStringAt_47b60.desc).map (fun d => d.parameters.length) = some 2 := ⟨by decide +kernel, by decide +kernel, by decide +kernel, by decide +kernel⟩
abbrev mJ5_inflateIfNeededFor_a7421 : zk_MI := (yJ5_inflateIfNeededFor_a7421, cJ5_inflateIfNeededFor_a7421, 2, (none))
set_option maxRecDepth 100000 in
theorem jcJ5_inflateIfNeededFor_a7421 : Cond.code yJ5_inflateIfNeededFor_a7421 cJ5_inflateIfNeededFor_a7421 2 (none) ∈ zk_tg := zk_in 1256 rfl rfl
theorem jiJ5_inflateIfNeededFor_a7421 : Cond.instanceMethod yJ5_inflateIfNeededFor_a7421 ∈ zk_tg := zk_in 1255 (by decide +kernel) rfl
theorem jpJ5_inflateIfNeededFor_a7421 : plainName yJ5_inflateIfNeededFor_a7421.cls = true ∧ yJ5_inflateIfNeededFor_a7421.cls ≠ "java/lang/invoke/MethodHandle" ∧ yJ5_inflateIfNeededFor_a7421.cls ≠ "java/lang/invoke/VarHandle" ∧ (parseMethodDescriptor yJ5_inflateIfNeededFor_a7421.desc).map (fun d => d.parameters.length) = some 1 := ⟨by decide +kernel, by decide +kernel, by decide +kernel, by decide +kernel⟩
abbrev mJ5_inflate_da8c8 : zk_MI := (yJ5_inflate_da8c8, cJ5_inflate_da8c8, 2, (none))
set_option maxRecDepth 100000 in
theorem jcJ5_inflate_da8c8 : Cond.code yJ5_inflate_da8c8 cJ5_inflate_da8c8 2 (none) ∈ zk_tg := zk_in 1261 rfl rfl
theorem jiJ5_inflate_da8c8 : Cond.instanceMethod yJ5_inflate_da8c8 ∈ zk_tg := zk_in 1260 (by decide +kernel) rfl
theorem jpJ5_inflate_da8c8 : plainName yJ5_inflate_da8c8.cls = true ∧ yJ5_inflate_da8c8.cls ≠ "java/lang/invoke/MethodHandle" ∧ yJ5_inflate_da8c8.cls ≠ "java/lang/invoke/VarHandle" ∧ (parseMethodDescriptor yJ5_inflate_da8c8.desc).map (fun d => d.parameters.length) = some 0 := ⟨by decide +kernel, by decide +kernel, by decide +kernel, by decide +kernel⟩
abbrev mJ2_newBytesFor_77867 : zk_MI := (yJ2_newBytesFor_77867, cJ2_newBytesFor_77867, 1, (some (FieldType.array FieldType.byte)))
set_option maxRecDepth 100000 in
theorem jcJ2_newBytesFor_77867 : Cond.code yJ2_newBytesFor_77867 cJ2_newBytesFor_77867 1 (some (FieldType.array FieldType.byte)) ∈ zk_tg := zk_in 1264 rfl rfl
theorem jiJ2_newBytesFor_77867 : Cond.static yJ2_newBytesFor_77867 ∈ zk_tg := zk_in 1263 (by decide +kernel) rfl
theorem jpJ2_newBytesFor_77867 : plainName yJ2_newBytesFor_77867.cls = true ∧ yJ2_newBytesFor_77867.cls ≠ "java/lang/invoke/MethodHandle" ∧ yJ2_newBytesFor_77867.cls ≠ "java/lang/invoke/VarHandle" ∧ (parseMethodDescriptor yJ2_newBytesFor_77867.desc).map (fun d => d.parameters.length) = some 1 := ⟨by decide +kernel, by decide +kernel, by decide +kernel, by decide +kernel⟩
abbrev mJ2_newBytesLength_0f7a4 : zk_MI := (yJ2_newBytesLength_0f7a4, cJ2_newBytesLength_0f7a4, 1, (some FieldType.int))
set_option maxRecDepth 100000 in
theorem jcJ2_newBytesLength_0f7a4 : Cond.code yJ2_newBytesLength_0f7a4 cJ2_newBytesLength_0f7a4 1 (some FieldType.int) ∈ zk_tg := zk_in 1267 rfl rfl
theorem jiJ2_newBytesLength_0f7a4 : Cond.static yJ2_newBytesLength_0f7a4 ∈ zk_tg := zk_in 1266 (by decide +kernel) rfl
theorem jpJ2_newBytesLength_0f7a4 : plainName yJ2_newBytesLength_0f7a4.cls = true ∧ yJ2_newBytesLength_0f7a4.cls ≠ "java/lang/invoke/MethodHandle" ∧ yJ2_newBytesLength_0f7a4.cls ≠ "java/lang/invoke/VarHandle" ∧ (parseMethodDescriptor yJ2_newBytesLength_0f7a4.desc).map (fun d => d.parameters.length) = some 1 := ⟨by decide +kernel, by decide +kernel, by decide +kernel, by decide +kernel⟩
abbrev mJ1_inflate_0e8fd : zk_MI := (yJ1_inflate_0e8fd, cJ1_inflate_0e8fd, 5, (none))
set_option maxRecDepth 100000 in
theorem jcJ1_inflate_0e8fd : Cond.code yJ1_inflate_0e8fd cJ1_inflate_0e8fd 5 (none) ∈ zk_tg := zk_in 1271 rfl rfl
theorem jiJ1_inflate_0e8fd : Cond.static yJ1_inflate_0e8fd ∈ zk_tg := zk_in 1270 (by decide +kernel) rfl
theorem jpJ1_inflate_0e8fd : plainName yJ1_inflate_0e8fd.cls = true ∧ yJ1_inflate_0e8fd.cls ≠ "java/lang/invoke/MethodHandle" ∧ yJ1_inflate_0e8fd.cls ≠ "java/lang/invoke/VarHandle" ∧ (parseMethodDescriptor yJ1_inflate_0e8fd.desc).map (fun d => d.parameters.length) = some 5 := ⟨by decide +kernel, by decide +kernel, by decide +kernel, by decide +kernel⟩
abbrev mJ2_inflate_0e8fd : zk_MI := (yJ2_inflate_0e8fd, cJ2_inflate_0e8fd, 6, (none))
set_option maxRecDepth 100000 in
theorem jcJ2_inflate_0e8fd : Cond.code yJ2_inflate_0e8fd cJ2_inflate_0e8fd 6 (none) ∈ zk_tg := zk_in 1274 rfl rfl
theorem jiJ2_inflate_0e8fd : Cond.static yJ2_inflate_0e8fd ∈ zk_tg := zk_in 1273 (by decide +kernel) rfl
theorem jpJ2_inflate_0e8fd : plainName yJ2_inflate_0e8fd.cls = true ∧ yJ2_inflate_0e8fd.cls ≠ "java/lang/invoke/MethodHandle" ∧ yJ2_inflate_0e8fd.cls ≠ "java/lang/invoke/VarHandle" ∧ (parseMethodDescriptor yJ2_inflate_0e8fd.desc).map (fun d => d.parameters.length) = some 5 := ⟨by decide +kernel, by decide +kernel, by decide +kernel, by decide +kernel⟩
abbrev mJ2_checkBoundsOffCount_d044e : zk_MI := (yJ2_checkBoundsOffCount_d044e, cJ2_checkBoundsOffCount_d044e, 3, (none))
set_option maxRecDepth 100000 in
theorem jcJ2_checkBoundsOffCount_d044e : Cond.code yJ2_checkBoundsOffCount_d044e cJ2_checkBoundsOffCount_d044e 3 (none) ∈ zk_tg := zk_in 1277 rfl rfl
theorem jiJ2_checkBoundsOffCount_d044e : Cond.static yJ2_checkBoundsOffCount_d044e ∈ zk_tg := zk_in 1276 (by decide +kernel) rfl
theorem jpJ2_checkBoundsOffCount_d044e : plainName yJ2_checkBoundsOffCount_d044e.cls = true ∧ yJ2_checkBoundsOffCount_d044e.cls ≠ "java/lang/invoke/MethodHandle" ∧ yJ2_checkBoundsOffCount_d044e.cls ≠ "java/lang/invoke/VarHandle" ∧ (parseMethodDescriptor yJ2_checkBoundsOffCount_d044e.desc).map (fun d => d.parameters.length) = some 3 := ⟨by decide +kernel, by decide +kernel, by decide +kernel, by decide +kernel⟩
abbrev mJ0_checkBoundsOffCount_cabcc : zk_MI := (yJ0_checkBoundsOffCount_cabcc, cJ0_checkBoundsOffCount_cabcc, 3, (some FieldType.int))
set_option maxRecDepth 100000 in
theorem jcJ0_checkBoundsOffCount_cabcc : Cond.code yJ0_checkBoundsOffCount_cabcc cJ0_checkBoundsOffCount_cabcc 3 (some FieldType.int) ∈ zk_tg := zk_in 1280 rfl rfl
theorem jiJ0_checkBoundsOffCount_cabcc : Cond.static yJ0_checkBoundsOffCount_cabcc ∈ zk_tg := zk_in 1279 (by decide +kernel) rfl
theorem jpJ0_checkBoundsOffCount_cabcc : plainName yJ0_checkBoundsOffCount_cabcc.cls = true ∧ yJ0_checkBoundsOffCount_cabcc.cls ≠ "java/lang/invoke/MethodHandle" ∧ yJ0_checkBoundsOffCount_cabcc.cls ≠ "java/lang/invoke/VarHandle" ∧ (parseMethodDescriptor yJ0_checkBoundsOffCount_cabcc.desc).map (fun d => d.parameters.length) = some 3 := ⟨by decide +kernel, by decide +kernel, by decide +kernel, by decide +kernel⟩
abbrev mJ3_checkFromIndexSize_8c36e : zk_MI := (yJ3_checkFromIndexSize_8c36e, cJ3_checkFromIndexSize_8c36e, 4, (some FieldType.int))
set_option maxRecDepth 100000 in
theorem jcJ3_checkFromIndexSize_8c36e : Cond.code yJ3_checkFromIndexSize_8c36e cJ3_checkFromIndexSize_8c36e 4 (some FieldType.int) ∈ zk_tg := zk_in 1283 rfl rfl
theorem jiJ3_checkFromIndexSize_8c36e : Cond.static yJ3_checkFromIndexSize_8c36e ∈ zk_tg := zk_in 1282 (by decide +kernel) rfl
theorem jpJ3_checkFromIndexSize_8c36e : plainName yJ3_checkFromIndexSize_8c36e.cls = true ∧ yJ3_checkFromIndexSize_8c36e.cls ≠ "java/lang/invoke/MethodHandle" ∧ yJ3_checkFromIndexSize_8c36e.cls ≠ "java/lang/invoke/VarHandle" ∧ (parseMethodDescriptor yJ3_checkFromIndexSize_8c36e.desc).map (fun d => d.parameters.length) = some 4 := ⟨by decide +kernel, by decide +kernel, by decide +kernel, by decide +kernel⟩
abbrev mJ0_getBytes_840e7 : zk_MI := (yJ0_getBytes_840e7, cJ0_getBytes_840e7, 4, (none))
set_option maxRecDepth 100000 in
theorem jcJ0_getBytes_840e7 : Cond.code yJ0_getBytes_840e7 cJ0_getBytes_840e7 4 (none) ∈ zk_tg := zk_in 1287 rfl rfl
theorem jiJ0_getBytes_840e7 : Cond.instanceMethod yJ0_getBytes_840e7 ∈ zk_tg := zk_in 1285 (by decide +kernel) rfl
theorem jsJ0_getBytes_840e7 : Cond.selects yJ0_getBytes_840e7.cls yJ0_getBytes_840e7 yJ0_getBytes_840e7 ∈ zk_tg := zk_in 1286 (by decide +kernel) rfl
theorem jpJ0_getBytes_840e7 : plainName yJ0_getBytes_840e7.cls = true ∧ yJ0_getBytes_840e7.cls ≠ "java/lang/invoke/MethodHandle" ∧ yJ0_getBytes_840e7.cls ≠ "java/lang/invoke/VarHandle" ∧ (parseMethodDescriptor yJ0_getBytes_840e7.desc).map (fun d => d.parameters.length) = some 3 := ⟨by decide +kernel, by decide +kernel, by decide +kernel, by decide +kernel⟩
abbrev mJ4_append_bf812 : zk_MI := (yJ4_append_bf812, cJ4_append_bf812, 2, (some (FieldType.object "java/lang/StringBuilder")))
set_option maxRecDepth 100000 in
theorem jcJ4_append_bf812 : Cond.code yJ4_append_bf812 cJ4_append_bf812 2 (some (FieldType.object "java/lang/StringBuilder")) ∈ zk_tg := zk_in 1293 rfl rfl
theorem jiJ4_append_bf812 : Cond.instanceMethod yJ4_append_bf812 ∈ zk_tg := zk_in 1291 (by decide +kernel) rfl
theorem jsJ4_append_bf812 : Cond.selects yJ4_append_bf812.cls yJ4_append_bf812 yJ4_append_bf812 ∈ zk_tg := zk_in 1292 (by decide +kernel) rfl
theorem jpJ4_append_bf812 : plainName yJ4_append_bf812.cls = true ∧ yJ4_append_bf812.cls ≠ "java/lang/invoke/MethodHandle" ∧ yJ4_append_bf812.cls ≠ "java/lang/invoke/VarHandle" ∧ (parseMethodDescriptor yJ4_append_bf812.desc).map (fun d => d.parameters.length) = some 1 := ⟨by decide +kernel, by decide +kernel, by decide +kernel, by decide +kernel⟩
abbrev mJ5_append_c97b9 : zk_MI := (yJ5_append_c97b9, cJ5_append_c97b9, 4, (some (FieldType.object "java/lang/AbstractStringBuilder")))
set_option maxRecDepth 100000 in
theorem jcJ5_append_c97b9 : Cond.code yJ5_append_c97b9 cJ5_append_c97b9 4 (some (FieldType.object "java/lang/AbstractStringBuilder")) ∈ zk_tg := zk_in 1296 rfl rfl
theorem jiJ5_append_c97b9 : Cond.instanceMethod yJ5_append_c97b9 ∈ zk_tg := zk_in 1295 (by decide +kernel) rfl
theorem jpJ5_append_c97b9 : plainName yJ5_append_c97b9.cls = true ∧ yJ5_append_c97b9.cls ≠ "java/lang/invoke/MethodHandle" ∧ yJ5_append_c97b9.cls ≠ "java/lang/invoke/VarHandle" ∧ (parseMethodDescriptor yJ5_append_c97b9.desc).map (fun d => d.parameters.length) = some 1 := ⟨by decide +kernel, by decide +kernel, by decide +kernel, by decide +kernel⟩
abbrev mJ6_stringSize_0f7a4 : zk_MI := (yJ6_stringSize_0f7a4, cJ6_stringSize_0f7a4, 4, (some FieldType.int))
set_option maxRecDepth 100000 in
theorem jcJ6_stringSize_0f7a4 : Cond.code yJ6_stringSize_0f7a4 cJ6_stringSize_0f7a4 4 (some FieldType.int) ∈ zk_tg := zk_in 1299 rfl rfl
theorem jiJ6_stringSize_0f7a4 : Cond.static yJ6_stringSize_0f7a4 ∈ zk_tg := zk_in 1298 (by decide +kernel) rfl
theorem jpJ6_stringSize_0f7a4 : plainName yJ6_stringSize_0f7a4.cls = true ∧ yJ6_stringSize_0f7a4.cls ≠ "java/lang/invoke/MethodHandle" ∧ yJ6_stringSize_0f7a4.cls ≠ "java/lang/invoke/VarHandle" ∧ (parseMethodDescriptor yJ6_stringSize_0f7a4.desc).map (fun d => d.parameters.length) = some 1 := ⟨by decide +kernel, by decide +kernel, by decide +kernel, by decide +kernel⟩
abbrev mJ6_getChars_ba4f3 : zk_MI := (yJ6_getChars_ba4f3, cJ6_getChars_ba4f3, 7, (some FieldType.int))
set_option maxRecDepth 100000 in
theorem jcJ6_getChars_ba4f3 : Cond.code yJ6_getChars_ba4f3 cJ6_getChars_ba4f3 7 (some FieldType.int) ∈ zk_tg := zk_in 1302 rfl rfl
theorem jiJ6_getChars_ba4f3 : Cond.static yJ6_getChars_ba4f3 ∈ zk_tg := zk_in 1301 (by decide +kernel) rfl
theorem jpJ6_getChars_ba4f3 : plainName yJ6_getChars_ba4f3.cls = true ∧ yJ6_getChars_ba4f3.cls ≠ "java/lang/invoke/MethodHandle" ∧ yJ6_getChars_ba4f3.cls ≠ "java/lang/invoke/VarHandle" ∧ (parseMethodDescriptor yJ6_getChars_ba4f3.desc).map (fun d => d.parameters.length) = some 3 := ⟨by decide +kernel, by decide +kernel, by decide +kernel, by decide +kernel⟩
abbrev mJ2_getChars_46870 : zk_MI := (yJ2_getChars_46870, cJ2_getChars_46870, 5, (some FieldType.int))
set_option maxRecDepth 100000 in
theorem jcJ2_getChars_46870 : Cond.code yJ2_getChars_46870 cJ2_getChars_46870 5 (some FieldType.int) ∈ zk_tg := zk_in 1309 rfl rfl
theorem jiJ2_getChars_46870 : Cond.static yJ2_getChars_46870 ∈ zk_tg := zk_in 1308 (by decide +kernel) rfl
theorem jpJ2_getChars_46870 : plainName yJ2_getChars_46870.cls = true ∧ yJ2_getChars_46870.cls ≠ "java/lang/invoke/MethodHandle" ∧ yJ2_getChars_46870.cls ≠ "java/lang/invoke/VarHandle" ∧ (parseMethodDescriptor yJ2_getChars_46870.desc).map (fun d => d.parameters.length) = some 4 := ⟨by decide +kernel, by decide +kernel, by decide +kernel, by decide +kernel⟩
abbrev mJ2_getChars_ba4f3 : zk_MI := (yJ2_getChars_ba4f3, cJ2_getChars_ba4f3, 7, (some FieldType.int))
set_option maxRecDepth 100000 in
theorem jcJ2_getChars_ba4f3 : Cond.code yJ2_getChars_ba4f3 cJ2_getChars_ba4f3 7 (some FieldType.int) ∈ zk_tg := zk_in 1312 rfl rfl
theorem jiJ2_getChars_ba4f3 : Cond.static yJ2_getChars_ba4f3 ∈ zk_tg := zk_in 1311 (by decide +kernel) rfl
theorem jpJ2_getChars_ba4f3 : plainName yJ2_getChars_ba4f3.cls = true ∧ yJ2_getChars_ba4f3.cls ≠ "java/lang/invoke/MethodHandle" ∧ yJ2_getChars_ba4f3.cls ≠ "java/lang/invoke/VarHandle" ∧ (parseMethodDescriptor yJ2_getChars_ba4f3.desc).map (fun d => d.parameters.length) = some 3 := ⟨by decide +kernel, by decide +kernel, by decide +kernel, by decide +kernel⟩
abbrev mL_test : zk_MI := (yL_test, cL_test, 2, (some (FieldType.object "java/lang/String")))
set_option maxRecDepth 100000 in
theorem jcL_test : Cond.code yL_test cL_test 2 (some (FieldType.object "java/lang/String")) ∈ zk_tg := zk_in 1337 rfl rfl
theorem jiL_test : Cond.static yL_test ∈ zk_tg := zk_in 1336 (by decide +kernel) rfl
theorem jpL_test : plainName yL_test.cls = true ∧ yL_test.cls ≠ "java/lang/invoke/MethodHandle" ∧ yL_test.cls ≠ "java/lang/invoke/VarHandle" ∧ (parseMethodDescriptor yL_test.desc).map (fun d => d.parameters.length) = some 1 := ⟨by decide +kernel, by decide +kernel, by decide +kernel, by decide +kernel⟩
abbrev mJ4_init_da8c8 : zk_MI := (yJ4_init_da8c8, cJ4_init_da8c8, 1, (none))
set_option maxRecDepth 100000 in
theorem jcJ4_init_da8c8 : Cond.code yJ4_init_da8c8 cJ4_init_da8c8 1 (none) ∈ zk_tg := zk_in 1342 rfl rfl
theorem jiJ4_init_da8c8 : Cond.instanceMethod yJ4_init_da8c8 ∈ zk_tg := zk_in 1341 (by decide +kernel) rfl
theorem jpJ4_init_da8c8 : plainName yJ4_init_da8c8.cls = true ∧ yJ4_init_da8c8.cls ≠ "java/lang/invoke/MethodHandle" ∧ yJ4_init_da8c8.cls ≠ "java/lang/invoke/VarHandle" ∧ (parseMethodDescriptor yJ4_init_da8c8.desc).map (fun d => d.parameters.length) = some 0 := ⟨by decide +kernel, by decide +kernel, by decide +kernel, by decide +kernel⟩
abbrev mJ5_init_d00df : zk_MI := (yJ5_init_d00df, cJ5_init_d00df, 2, (none))
set_option maxRecDepth 100000 in
theorem jcJ5_init_d00df : Cond.code yJ5_init_d00df cJ5_init_d00df 2 (none) ∈ zk_tg := zk_in 1345 rfl rfl
theorem jiJ5_init_d00df : Cond.instanceMethod yJ5_init_d00df ∈ zk_tg := zk_in 1344 (by decide +kernel) rfl
theorem jpJ5_init_d00df : plainName yJ5_init_d00df.cls = true ∧ yJ5_init_d00df.cls ≠ "java/lang/invoke/MethodHandle" ∧ yJ5_init_d00df.cls ≠ "java/lang/invoke/VarHandle" ∧ (parseMethodDescriptor yJ5_init_d00df.desc).map (fun d => d.parameters.length) = some 1 := ⟨by decide +kernel, by decide +kernel, by decide +kernel, by decide +kernel⟩
abbrev mJ4_toString_0e30d : zk_MI := (yJ4_toString_0e30d, cJ4_toString_0e30d, 1, (some (FieldType.object "java/lang/String")))
set_option maxRecDepth 100000 in
theorem jcJ4_toString_0e30d : Cond.code yJ4_toString_0e30d cJ4_toString_0e30d 1 (some (FieldType.object "java/lang/String")) ∈ zk_tg := zk_in 1363 rfl rfl
theorem jiJ4_toString_0e30d : Cond.instanceMethod yJ4_toString_0e30d ∈ zk_tg := zk_in 1361 (by decide +kernel) rfl
theorem jsJ4_toString_0e30d : Cond.selects yJ4_toString_0e30d.cls yJ4_toString_0e30d yJ4_toString_0e30d ∈ zk_tg := zk_in 1362 (by decide +kernel) rfl
theorem jpJ4_toString_0e30d : plainName yJ4_toString_0e30d.cls = true ∧ yJ4_toString_0e30d.cls ≠ "java/lang/invoke/MethodHandle" ∧ yJ4_toString_0e30d.cls ≠ "java/lang/invoke/VarHandle" ∧ (parseMethodDescriptor yJ4_toString_0e30d.desc).map (fun d => d.parameters.length) = some 0 := ⟨by decide +kernel, by decide +kernel, by decide +kernel, by decide +kernel⟩
abbrev mJ0_init_81219 : zk_MI := (yJ0_init_81219, cJ0_init_81219, 2, (none))
set_option maxRecDepth 100000 in
theorem jcJ0_init_81219 : Cond.code yJ0_init_81219 cJ0_init_81219 2 (none) ∈ zk_tg := zk_in 1368 rfl rfl
theorem jiJ0_init_81219 : Cond.instanceMethod yJ0_init_81219 ∈ zk_tg := zk_in 1367 (by decide +kernel) rfl
theorem jpJ0_init_81219 : plainName yJ0_init_81219.cls = true ∧ yJ0_init_81219.cls ≠ "java/lang/invoke/MethodHandle" ∧ yJ0_init_81219.cls ≠ "java/lang/invoke/VarHandle" ∧ (parseMethodDescriptor yJ0_init_81219.desc).map (fun d => d.parameters.length) = some 1 := ⟨by decide +kernel, by decide +kernel, by decide +kernel, by decide +kernel⟩
abbrev mJ0_init_db425 : zk_MI := (yJ0_init_db425, cJ0_init_db425, 5, (none))
set_option maxRecDepth 100000 in
theorem jcJ0_init_db425 : Cond.code yJ0_init_db425 cJ0_init_db425 5 (none) ∈ zk_tg := zk_in 1371 rfl rfl
theorem jiJ0_init_db425 : Cond.instanceMethod yJ0_init_db425 ∈ zk_tg := zk_in 1370 (by decide +kernel) rfl
theorem jpJ0_init_db425 : plainName yJ0_init_db425.cls = true ∧ yJ0_init_db425.cls ≠ "java/lang/invoke/MethodHandle" ∧ yJ0_init_db425.cls ≠ "java/lang/invoke/VarHandle" ∧ (parseMethodDescriptor yJ0_init_db425.desc).map (fun d => d.parameters.length) = some 2 := ⟨by decide +kernel, by decide +kernel, by decide +kernel, by decide +kernel⟩
abbrev mJ5_getValue_6d5f1 : zk_MI := (yJ5_getValue_6d5f1, cJ5_getValue_6d5f1, 1, (some (FieldType.array FieldType.byte)))
set_option maxRecDepth 100000 in
theorem jcJ5_getValue_6d5f1 : Cond.code yJ5_getValue_6d5f1 cJ5_getValue_6d5f1 1 (some (FieldType.array FieldType.byte)) ∈ zk_tg := zk_in 1377 rfl rfl
theorem jiJ5_getValue_6d5f1 : Cond.instanceMethod yJ5_getValue_6d5f1 ∈ zk_tg := zk_in 1374 (by decide +kernel) rfl
theorem jpJ5_getValue_6d5f1 : plainName yJ5_getValue_6d5f1.cls = true ∧ yJ5_getValue_6d5f1.cls ≠ "java/lang/invoke/MethodHandle" ∧ yJ5_getValue_6d5f1.cls ≠ "java/lang/invoke/VarHandle" ∧ (parseMethodDescriptor yJ5_getValue_6d5f1.desc).map (fun d => d.parameters.length) = some 0 := ⟨by decide +kernel, by decide +kernel, by decide +kernel, by decide +kernel⟩
abbrev mJ4_length_8abf5 : zk_MI := (yJ4_length_8abf5, cJ4_length_8abf5, 1, (some FieldType.int))
set_option maxRecDepth 100000 in
theorem jcJ4_length_8abf5 : Cond.code yJ4_length_8abf5 cJ4_length_8abf5 1 (some FieldType.int) ∈ zk_tg := zk_in 1383 rfl rfl
theorem jiJ4_length_8abf5 : Cond.instanceMethod yJ4_length_8abf5 ∈ zk_tg := zk_in 1382 (by decide +kernel) rfl
theorem jpJ4_length_8abf5 : plainName yJ4_length_8abf5.cls = true ∧ yJ4_length_8abf5.cls ≠ "java/lang/invoke/MethodHandle" ∧ yJ4_length_8abf5.cls ≠ "java/lang/invoke/VarHandle" ∧ (parseMethodDescriptor yJ4_length_8abf5.desc).map (fun d => d.parameters.length) = some 0 := ⟨by decide +kernel, by decide +kernel, by decide +kernel, by decide +kernel⟩
abbrev mJ5_length_8abf5 : zk_MI := (yJ5_length_8abf5, cJ5_length_8abf5, 1, (some FieldType.int))
set_option maxRecDepth 100000 in
theorem jcJ5_length_8abf5 : Cond.code yJ5_length_8abf5 cJ5_length_8abf5 1 (some FieldType.int) ∈ zk_tg := zk_in 1385 rfl rfl
theorem jiJ5_length_8abf5 : Cond.instanceMethod yJ5_length_8abf5 ∈ zk_tg := zk_in 1379 (by decide +kernel) rfl
theorem jpJ5_length_8abf5 : plainName yJ5_length_8abf5.cls = true ∧ yJ5_length_8abf5.cls ≠ "java/lang/invoke/MethodHandle" ∧ yJ5_length_8abf5.cls ≠ "java/lang/invoke/VarHandle" ∧ (parseMethodDescriptor yJ5_length_8abf5.desc).map (fun d => d.parameters.length) = some 0 := ⟨by decide +kernel, by decide +kernel, by decide +kernel, by decide +kernel⟩
abbrev mJ7_copyOfRange_39247 : zk_MI := (yJ7_copyOfRange_39247, cJ7_copyOfRange_39247, 3, (some (FieldType.array FieldType.byte)))
set_option maxRecDepth 100000 in
theorem jcJ7_copyOfRange_39247 : Cond.code yJ7_copyOfRange_39247 cJ7_copyOfRange_39247 3 (some (FieldType.array FieldType.byte)) ∈ zk_tg := zk_in 1389 rfl rfl
theorem jiJ7_copyOfRange_39247 : Cond.static yJ7_copyOfRange_39247 ∈ zk_tg := zk_in 1388 (by decide +kernel) rfl
theorem jpJ7_copyOfRange_39247 : plainName yJ7_copyOfRange_39247.cls = true ∧ yJ7_copyOfRange_39247.cls ≠ "java/lang/invoke/MethodHandle" ∧ yJ7_copyOfRange_39247.cls ≠ "java/lang/invoke/VarHandle" ∧ (parseMethodDescriptor yJ7_copyOfRange_39247.desc).map (fun d => d.parameters.length) = some 3 := ⟨by decide +kernel, by decide +kernel, by decide +kernel, by decide +kernel⟩
abbrev mJ7_copyOfRangeByte_39247 : zk_MI := (yJ7_copyOfRangeByte_39247, cJ7_copyOfRangeByte_39247, 5, (some (FieldType.array FieldType.byte)))
set_option maxRecDepth 100000 in
theorem jcJ7_copyOfRangeByte_39247 : Cond.code yJ7_copyOfRangeByte_39247 cJ7_copyOfRangeByte_39247 5 (some (FieldType.array FieldType.byte)) ∈ zk_tg := zk_in 1392 rfl rfl
theorem jiJ7_copyOfRangeByte_39247 : Cond.static yJ7_copyOfRangeByte_39247 ∈ zk_tg := zk_in 1391 (by decide +kernel) rfl
theorem jpJ7_copyOfRangeByte_39247 : plainName yJ7_copyOfRangeByte_39247.cls = true ∧ yJ7_copyOfRangeByte_39247.cls ≠ "java/lang/invoke/MethodHandle" ∧ yJ7_copyOfRangeByte_39247.cls ≠ "java/lang/invoke/VarHandle" ∧ (parseMethodDescriptor yJ7_copyOfRangeByte_39247.desc).map (fun d => d.parameters.length) = some 3 := ⟨by decide +kernel, by decide +kernel, by decide +kernel, by decide +kernel⟩
abbrev mJ7_checkLength_df160 : zk_MI := (yJ7_checkLength_df160, cJ7_checkLength_df160, 2, (none))
set_option maxRecDepth 100000 in
theorem jcJ7_checkLength_df160 : Cond.code yJ7_checkLength_df160 cJ7_checkLength_df160 2 (none) ∈ zk_tg := zk_in 1395 rfl rfl
theorem jiJ7_checkLength_df160 : Cond.static yJ7_checkLength_df160 ∈ zk_tg := zk_in 1394 (by decide +kernel) rfl
theorem jpJ7_checkLength_df160 : plainName yJ7_checkLength_df160.cls = true ∧ yJ7_checkLength_df160.cls ≠ "java/lang/invoke/MethodHandle" ∧ yJ7_checkLength_df160.cls ≠ "java/lang/invoke/VarHandle" ∧ (parseMethodDescriptor yJ7_checkLength_df160.desc).map (fun d => d.parameters.length) = some 2 := ⟨by decide +kernel, by decide +kernel, by decide +kernel, by decide +kernel⟩
abbrev mJ2_compress_39247 : zk_MI := (yJ2_compress_39247, cJ2_compress_39247, 6, (some (FieldType.array FieldType.byte)))
set_option maxRecDepth 100000 in
theorem jcJ2_compress_39247 : Cond.code yJ2_compress_39247 cJ2_compress_39247 6 (some (FieldType.array FieldType.byte)) ∈ zk_tg := zk_in 1398 rfl rfl
theorem jiJ2_compress_39247 : Cond.static yJ2_compress_39247 ∈ zk_tg := zk_in 1397 (by decide +kernel) rfl
theorem jpJ2_compress_39247 : plainName yJ2_compress_39247.cls = true ∧ yJ2_compress_39247.cls ≠ "java/lang/invoke/MethodHandle" ∧ yJ2_compress_39247.cls ≠ "java/lang/invoke/VarHandle" ∧ (parseMethodDescriptor yJ2_compress_39247.desc).map (fun d => d.parameters.length) = some 3 := ⟨by decide +kernel, by decide +kernel, by decide +kernel, by decide +kernel⟩
abbrev mJ2_compress_5af95 : zk_MI := (yJ2_compress_5af95, cJ2_compress_5af95, 7, (some FieldType.int))
set_option maxRecDepth 100000 in
theorem jcJ2_compress_5af95 : Cond.code yJ2_compress_5af95 cJ2_compress_5af95 7 (some FieldType.int) ∈ zk_tg := zk_in 1401 rfl rfl
theorem jiJ2_compress_5af95 : Cond.static yJ2_compress_5af95 ∈ zk_tg := zk_in 1400 (by decide +kernel) rfl
theorem jpJ2_compress_5af95 : plainName yJ2_compress_5af95.cls = true ∧ yJ2_compress_5af95.cls ≠ "java/lang/invoke/MethodHandle" ∧ yJ2_compress_5af95.cls ≠ "java/lang/invoke/VarHandle" ∧ (parseMethodDescriptor yJ2_compress_5af95.desc).map (fun d => d.parameters.length) = some 5 := ⟨by decide +kernel, by decide +kernel, by decide +kernel, by decide +kernel⟩
abbrev mJ2_coderFromArrayLen_85cad : zk_MI := (yJ2_coderFromArrayLen_85cad, cJ2_coderFromArrayLen_85cad, 2, (some FieldType.byte))
set_option maxRecDepth 100000 in
theorem jcJ2_coderFromArrayLen_85cad : Cond.code yJ2_coderFromArrayLen_85cad cJ2_coderFromArrayLen_85cad 2 (some FieldType.byte) ∈ zk_tg := zk_in 1405 rfl rfl
theorem jiJ2_coderFromArrayLen_85cad : Cond.static yJ2_coderFromArrayLen_85cad ∈ zk_tg := zk_in 1404 (by decide +kernel) rfl
theorem jpJ2_coderFromArrayLen_85cad : plainName yJ2_coderFromArrayLen_85cad.cls = true ∧ yJ2_coderFromArrayLen_85cad.cls ≠ "java/lang/invoke/MethodHandle" ∧ yJ2_coderFromArrayLen_85cad.cls ≠ "java/lang/invoke/VarHandle" ∧ (parseMethodDescriptor yJ2_coderFromArrayLen_85cad.desc).map (fun d => d.parameters.length) = some 2 := ⟨by decide +kernel, by decide +kernel, by decide +kernel, by decide +kernel⟩
abbrev mX7_mirror : zk_MI := (yX7_mirror, cX7_mirror, 3, (some FieldType.int))
set_option maxRecDepth 100000 in
theorem jcX7_mirror : Cond.code yX7_mirror cX7_mirror 3 (some FieldType.int) ∈ zk_tg := zk_in 1438 rfl rfl
theorem jiX7_mirror : Cond.instanceMethod yX7_mirror ∈ zk_tg := zk_in 1436 (by decide +kernel) rfl
theorem jsX7_mirror : Cond.selects yX7_mirror.cls yX7_mirror yX7_mirror ∈ zk_tg := zk_in 1437 (by decide +kernel) rfl
theorem jpX7_mirror : plainName yX7_mirror.cls = true ∧ yX7_mirror.cls ≠ "java/lang/invoke/MethodHandle" ∧ yX7_mirror.cls ≠ "java/lang/invoke/VarHandle" ∧ (parseMethodDescriptor yX7_mirror.desc).map (fun d => d.parameters.length) = some 2 := ⟨by decide +kernel, by decide +kernel, by decide +kernel, by decide +kernel⟩
abbrev mX7_stop : zk_MI := (yX7_stop, cX7_stop, 3, (some FieldType.int))
set_option maxRecDepth 100000 in
theorem jcX7_stop : Cond.code yX7_stop cX7_stop 3 (some FieldType.int) ∈ zk_tg := zk_in 1446 rfl rfl
theorem jiX7_stop : Cond.instanceMethod yX7_stop ∈ zk_tg := zk_in 1444 (by decide +kernel) rfl
theorem jsX7_stop : Cond.selects yX7_stop.cls yX7_stop yX7_stop ∈ zk_tg := zk_in 1445 (by decide +kernel) rfl
theorem jpX7_stop : plainName yX7_stop.cls = true ∧ yX7_stop.cls ≠ "java/lang/invoke/MethodHandle" ∧ yX7_stop.cls ≠ "java/lang/invoke/VarHandle" ∧ (parseMethodDescriptor yX7_stop.desc).map (fun d => d.parameters.length) = some 1 := ⟨by decide +kernel, by decide +kernel, by decide +kernel, by decide +kernel⟩
abbrev mX7_forward : zk_MI := (yX7_forward, cX7_forward, 3, (some FieldType.int))
set_option maxRecDepth 100000 in
theorem jcX7_forward : Cond.code yX7_forward cX7_forward 3 (some FieldType.int) ∈ zk_tg := zk_in 1452 rfl rfl
theorem jiX7_forward : Cond.instanceMethod yX7_forward ∈ zk_tg := zk_in 1450 (by decide +kernel) rfl
theorem jsX7_forward : Cond.selects yX7_forward.cls yX7_forward yX7_forward ∈ zk_tg := zk_in 1451 (by decide +kernel) rfl
theorem jpX7_forward : plainName yX7_forward.cls = true ∧ yX7_forward.cls ≠ "java/lang/invoke/MethodHandle" ∧ yX7_forward.cls ≠ "java/lang/invoke/VarHandle" ∧ (parseMethodDescriptor yX7_forward.desc).map (fun d => d.parameters.length) = some 2 := ⟨by decide +kernel, by decide +kernel, by decide +kernel, by decide +kernel⟩
abbrev mL_gone : zk_MI := (yL_gone, cL_gone, 3, (some FieldType.boolean))
set_option maxRecDepth 100000 in
theorem jcL_gone : Cond.code yL_gone cL_gone 3 (some FieldType.boolean) ∈ zk_tg := zk_in 1459 rfl rfl
theorem jiL_gone : Cond.static yL_gone ∈ zk_tg := zk_in 1458 (by decide +kernel) rfl
theorem jpL_gone : plainName yL_gone.cls = true ∧ yL_gone.cls ≠ "java/lang/invoke/MethodHandle" ∧ yL_gone.cls ≠ "java/lang/invoke/VarHandle" ∧ (parseMethodDescriptor yL_gone.desc).map (fun d => d.parameters.length) = some 3 := ⟨by decide +kernel, by decide +kernel, by decide +kernel, by decide +kernel⟩
abbrev mX8_go : zk_MI := (yX8_go, cX8_go, 4, (some FieldType.int))
set_option maxRecDepth 100000 in
theorem jcX8_go : Cond.code yX8_go cX8_go 4 (some FieldType.int) ∈ zk_tg := zk_in 1463 rfl rfl
theorem jiX8_go : Cond.instanceMethod yX8_go ∈ zk_tg := zk_in 1461 (by decide +kernel) rfl
theorem jsX8_go : Cond.selects yX8_go.cls yX8_go yX8_go ∈ zk_tg := zk_in 1462 (by decide +kernel) rfl
theorem jpX8_go : plainName yX8_go.cls = true ∧ yX8_go.cls ≠ "java/lang/invoke/MethodHandle" ∧ yX8_go.cls ≠ "java/lang/invoke/VarHandle" ∧ (parseMethodDescriptor yX8_go.desc).map (fun d => d.parameters.length) = some 1 := ⟨by decide +kernel, by decide +kernel, by decide +kernel, by decide +kernel⟩
theorem ju_Heliographs : ∀ w ∈ u_ws RX7 TX7 7, w ∈ zk_tg := by
  have h : (u_ws RX7 TX7 7).all (fun w => decide (w ∈ tables_1) && goodWord w) = true := by decide +kernel
  intro w hw
  have h1 := List.all_eq_true.mp h w hw
  rw [Bool.and_eq_true, decide_eq_true_eq] at h1
  exact List.mem_filter.mpr ⟨List.mem_append_right _ h1.1, h1.2⟩
theorem ju_Heliographs_Chain : ∀ w ∈ u_ws RX0 TX0 16, w ∈ zk_tg := by
  have h : (u_ws RX0 TX0 16).all (fun w => decide (w ∈ tables_1) && goodWord w) = true := by decide +kernel
  intro w hw
  have h1 := List.all_eq_true.mp h w hw
  rw [Bool.and_eq_true, decide_eq_true_eq] at h1
  exact List.mem_filter.mpr ⟨List.mem_append_right _ h1.1, h1.2⟩
theorem ju_Heliographs_Orders : ∀ w ∈ u_ws RX2 TX2 8, w ∈ zk_tg := by
  have h : (u_ws RX2 TX2 8).all (fun w => decide (w ∈ tables_1) && goodWord w) = true := by decide +kernel
  intro w hw
  have h1 := List.all_eq_true.mp h w hw
  rw [Bool.and_eq_true, decide_eq_true_eq] at h1
  exact List.mem_filter.mpr ⟨List.mem_append_right _ h1.1, h1.2⟩
theorem ju_Heliographs_Plan : ∀ w ∈ u_ws RX3 TX3 19, w ∈ zk_tg := by
  have h : (u_ws RX3 TX3 19).all (fun w => decide (w ∈ tables_1) && goodWord w) = true := by decide +kernel
  intro w hw
  have h1 := List.all_eq_true.mp h w hw
  rw [Bool.and_eq_true, decide_eq_true_eq] at h1
  exact List.mem_filter.mpr ⟨List.mem_append_right _ h1.1, h1.2⟩
theorem ju_Heliographs_Reader : ∀ w ∈ u_ws RX4 TX4 7, w ∈ zk_tg := by
  have h : (u_ws RX4 TX4 7).all (fun w => decide (w ∈ tables_1) && goodWord w) = true := by decide +kernel
  intro w hw
  have h1 := List.all_eq_true.mp h w hw
  rw [Bool.and_eq_true, decide_eq_true_eq] at h1
  exact List.mem_filter.mpr ⟨List.mem_append_right _ h1.1, h1.2⟩
theorem ju_Heliographs_Tape : ∀ w ∈ u_ws RX5 TX5 2, w ∈ zk_tg := by
  have h : (u_ws RX5 TX5 2).all (fun w => decide (w ∈ tables_1) && goodWord w) = true := by decide +kernel
  intro w hw
  have h1 := List.all_eq_true.mp h w hw
  rw [Bool.and_eq_true, decide_eq_true_eq] at h1
  exact List.mem_filter.mpr ⟨List.mem_append_right _ h1.1, h1.2⟩
theorem ju_Heliographs_Tokens : ∀ w ∈ u_ws RX6 TX6 7, w ∈ zk_tg := by
  have h : (u_ws RX6 TX6 7).all (fun w => decide (w ∈ tables_1) && goodWord w) = true := by decide +kernel
  intro w hw
  have h1 := List.all_eq_true.mp h w hw
  rw [Bool.and_eq_true, decide_eq_true_eq] at h1
  exact List.mem_filter.mpr ⟨List.mem_append_right _ h1.1, h1.2⟩
theorem ju_HeliographsLaw_Sim : ∀ w ∈ u_ws RX8 TX8 8, w ∈ zk_tg := by
  have h : (u_ws RX8 TX8 8).all (fun w => decide (w ∈ tables_1) && goodWord w) = true := by decide +kernel
  intro w hw
  have h1 := List.all_eq_true.mp h w hw
  rw [Bool.and_eq_true, decide_eq_true_eq] at h1
  exact List.mem_filter.mpr ⟨List.mem_append_right _ h1.1, h1.2⟩
theorem ju_String : ∀ w ∈ u_ws RJ0 TJ0 4, w ∈ zk_tg := by
  have h : (u_ws RJ0 TJ0 4).all (fun w => decide (w ∈ tables_1) && goodWord w) = true := by decide +kernel
  intro w hw
  have h1 := List.all_eq_true.mp h w hw
  rw [Bool.and_eq_true, decide_eq_true_eq] at h1
  exact List.mem_filter.mpr ⟨List.mem_append_right _ h1.1, h1.2⟩
theorem ju_StringBuilder : ∀ w ∈ u_ws RJ4 TJ4 4, w ∈ zk_tg := by
  have h : (u_ws RJ4 TJ4 4).all (fun w => decide (w ∈ tables_1) && goodWord w) = true := by decide +kernel
  intro w hw
  have h1 := List.all_eq_true.mp h w hw
  rw [Bool.and_eq_true, decide_eq_true_eq] at h1
  exact List.mem_filter.mpr ⟨List.mem_append_right _ h1.1, h1.2⟩

/-! THE WORDS that instructions and calls need, by their places -/
abbrev mX0_tally : zk_MI := (yX0_tally, cX0_tally, 2, (some FieldType.int))
set_option maxRecDepth 100000 in
theorem jcX0_tally : Cond.code yX0_tally cX0_tally 2 (some FieldType.int) ∈ zk_tg := zk_in 428 rfl rfl
theorem jiX0_tally : Cond.instanceMethod yX0_tally ∈ zk_tg := zk_in 426 (by decide +kernel) rfl
theorem jsX0_tally : Cond.selects yX0_tally.cls yX0_tally yX0_tally ∈ zk_tg := zk_in 427 (by decide +kernel) rfl
theorem jpX0_tally : plainName yX0_tally.cls = true ∧ yX0_tally.cls ≠ "java/lang/invoke/MethodHandle" ∧ yX0_tally.cls ≠ "java/lang/invoke/VarHandle" ∧ (parseMethodDescriptor yX0_tally.desc).map (fun d => d.parameters.length) = some 1 := ⟨by decide +kernel, by decide +kernel, by decide +kernel, by decide +kernel⟩
abbrev mX0_messagesIn : zk_MI := (yX0_messagesIn, cX0_messagesIn, 4, (some FieldType.int))
set_option maxRecDepth 100000 in
theorem jcX0_messagesIn : Cond.code yX0_messagesIn cX0_messagesIn 4 (some FieldType.int) ∈ zk_tg := zk_in 432 rfl rfl
theorem jiX0_messagesIn : Cond.instanceMethod yX0_messagesIn ∈ zk_tg := zk_in 430 (by decide +kernel) rfl
theorem jsX0_messagesIn : Cond.selects yX0_messagesIn.cls yX0_messagesIn yX0_messagesIn ∈ zk_tg := zk_in 431 (by decide +kernel) rfl
theorem jpX0_messagesIn : plainName yX0_messagesIn.cls = true ∧ yX0_messagesIn.cls ≠ "java/lang/invoke/MethodHandle" ∧ yX0_messagesIn.cls ≠ "java/lang/invoke/VarHandle" ∧ (parseMethodDescriptor yX0_messagesIn.desc).map (fun d => d.parameters.length) = some 1 := ⟨by decide +kernel, by decide +kernel, by decide +kernel, by decide +kernel⟩
abbrev mX0_breaksInAll : zk_MI := (yX0_breaksInAll, cX0_breaksInAll, 3, (some FieldType.int))
set_option maxRecDepth 100000 in
theorem jcX0_breaksInAll : Cond.code yX0_breaksInAll cX0_breaksInAll 3 (some FieldType.int) ∈ zk_tg := zk_in 436 rfl rfl
theorem jiX0_breaksInAll : Cond.instanceMethod yX0_breaksInAll ∈ zk_tg := zk_in 435 (by decide +kernel) rfl
theorem jsX0_breaksInAll : Cond.selects yX0_breaksInAll.cls yX0_breaksInAll yX0_breaksInAll ∈ zk_tg := zk_sel (n := 16) 2 (by decide +kernel)
theorem jpX0_breaksInAll : plainName yX0_breaksInAll.cls = true ∧ yX0_breaksInAll.cls ≠ "java/lang/invoke/MethodHandle" ∧ yX0_breaksInAll.cls ≠ "java/lang/invoke/VarHandle" ∧ (parseMethodDescriptor yX0_breaksInAll.desc).map (fun d => d.parameters.length) = some 0 := ⟨by decide +kernel, by decide +kernel, by decide +kernel, by decide +kernel⟩
abbrev mX7_peak : zk_MI := (yX7_peak, cX7_peak, 3, (some FieldType.int))
set_option maxRecDepth 100000 in
theorem jcX7_peak : Cond.code yX7_peak cX7_peak 3 (some FieldType.int) ∈ zk_tg := zk_in 440 rfl rfl
theorem jiX7_peak : Cond.instanceMethod yX7_peak ∈ zk_tg := zk_in 438 (by decide +kernel) rfl
theorem jsX7_peak : Cond.selects yX7_peak.cls yX7_peak yX7_peak ∈ zk_tg := zk_in 439 (by decide +kernel) rfl
theorem jpX7_peak : plainName yX7_peak.cls = true ∧ yX7_peak.cls ≠ "java/lang/invoke/MethodHandle" ∧ yX7_peak.cls ≠ "java/lang/invoke/VarHandle" ∧ (parseMethodDescriptor yX7_peak.desc).map (fun d => d.parameters.length) = some 2 := ⟨by decide +kernel, by decide +kernel, by decide +kernel, by decide +kernel⟩
abbrev mX0_peakTold : zk_MI := (yX0_peakTold, cX0_peakTold, 3, (some FieldType.int))
set_option maxRecDepth 100000 in
theorem jcX0_peakTold : Cond.code yX0_peakTold cX0_peakTold 3 (some FieldType.int) ∈ zk_tg := zk_in 446 rfl rfl
theorem jiX0_peakTold : Cond.instanceMethod yX0_peakTold ∈ zk_tg := zk_in 444 (by decide +kernel) rfl
theorem jsX0_peakTold : Cond.selects yX0_peakTold.cls yX0_peakTold yX0_peakTold ∈ zk_tg := zk_in 445 (by decide +kernel) rfl
theorem jpX0_peakTold : plainName yX0_peakTold.cls = true ∧ yX0_peakTold.cls ≠ "java/lang/invoke/MethodHandle" ∧ yX0_peakTold.cls ≠ "java/lang/invoke/VarHandle" ∧ (parseMethodDescriptor yX0_peakTold.desc).map (fun d => d.parameters.length) = some 2 := ⟨by decide +kernel, by decide +kernel, by decide +kernel, by decide +kernel⟩
abbrev mX0_freeMirrors : zk_MI := (yX0_freeMirrors, cX0_freeMirrors, 2, (some FieldType.int))
set_option maxRecDepth 100000 in
theorem jcX0_freeMirrors : Cond.code yX0_freeMirrors cX0_freeMirrors 2 (some FieldType.int) ∈ zk_tg := zk_in 451 rfl rfl
theorem jiX0_freeMirrors : Cond.instanceMethod yX0_freeMirrors ∈ zk_tg := zk_in 449 (by decide +kernel) rfl
theorem jsX0_freeMirrors : Cond.selects yX0_freeMirrors.cls yX0_freeMirrors yX0_freeMirrors ∈ zk_tg := zk_in 450 (by decide +kernel) rfl
theorem jpX0_freeMirrors : plainName yX0_freeMirrors.cls = true ∧ yX0_freeMirrors.cls ≠ "java/lang/invoke/MethodHandle" ∧ yX0_freeMirrors.cls ≠ "java/lang/invoke/VarHandle" ∧ (parseMethodDescriptor yX0_freeMirrors.desc).map (fun d => d.parameters.length) = some 1 := ⟨by decide +kernel, by decide +kernel, by decide +kernel, by decide +kernel⟩
abbrev mX0_messagesAt : zk_MI := (yX0_messagesAt, cX0_messagesAt, 5, (some FieldType.int))
set_option maxRecDepth 100000 in
theorem jcX0_messagesAt : Cond.code yX0_messagesAt cX0_messagesAt 5 (some FieldType.int) ∈ zk_tg := zk_in 455 rfl rfl
theorem jiX0_messagesAt : Cond.instanceMethod yX0_messagesAt ∈ zk_tg := zk_in 453 (by decide +kernel) rfl
theorem jsX0_messagesAt : Cond.selects yX0_messagesAt.cls yX0_messagesAt yX0_messagesAt ∈ zk_tg := zk_in 454 (by decide +kernel) rfl
theorem jpX0_messagesAt : plainName yX0_messagesAt.cls = true ∧ yX0_messagesAt.cls ≠ "java/lang/invoke/MethodHandle" ∧ yX0_messagesAt.cls ≠ "java/lang/invoke/VarHandle" ∧ (parseMethodDescriptor yX0_messagesAt.desc).map (fun d => d.parameters.length) = some 2 := ⟨by decide +kernel, by decide +kernel, by decide +kernel, by decide +kernel⟩
abbrev mX0_passesOf : zk_MI := (yX0_passesOf, cX0_passesOf, 4, (some FieldType.int))
set_option maxRecDepth 100000 in
theorem jcX0_passesOf : Cond.code yX0_passesOf cX0_passesOf 4 (some FieldType.int) ∈ zk_tg := zk_in 459 rfl rfl
theorem jiX0_passesOf : Cond.instanceMethod yX0_passesOf ∈ zk_tg := zk_in 458 (by decide +kernel) rfl
theorem jsX0_passesOf : Cond.selects yX0_passesOf.cls yX0_passesOf yX0_passesOf ∈ zk_tg := zk_sel (n := 16) 3 (by decide +kernel)
theorem jpX0_passesOf : plainName yX0_passesOf.cls = true ∧ yX0_passesOf.cls ≠ "java/lang/invoke/MethodHandle" ∧ yX0_passesOf.cls ≠ "java/lang/invoke/VarHandle" ∧ (parseMethodDescriptor yX0_passesOf.desc).map (fun d => d.parameters.length) = some 1 := ⟨by decide +kernel, by decide +kernel, by decide +kernel, by decide +kernel⟩
abbrev mX3_isEnd : zk_MI := (yX3_isEnd, cX3_isEnd, 3, (some FieldType.boolean))
set_option maxRecDepth 100000 in
theorem jcX3_isEnd : Cond.code yX3_isEnd cX3_isEnd 3 (some FieldType.boolean) ∈ zk_tg := zk_in 463 rfl rfl
theorem jiX3_isEnd : Cond.instanceMethod yX3_isEnd ∈ zk_tg := zk_in 461 (by decide +kernel) rfl
theorem jsX3_isEnd : Cond.selects yX3_isEnd.cls yX3_isEnd yX3_isEnd ∈ zk_tg := zk_in 462 (by decide +kernel) rfl
theorem jpX3_isEnd : plainName yX3_isEnd.cls = true ∧ yX3_isEnd.cls ≠ "java/lang/invoke/MethodHandle" ∧ yX3_isEnd.cls ≠ "java/lang/invoke/VarHandle" ∧ (parseMethodDescriptor yX3_isEnd.desc).map (fun d => d.parameters.length) = some 2 := ⟨by decide +kernel, by decide +kernel, by decide +kernel, by decide +kernel⟩
abbrev mX0_openPassesOf : zk_MI := (yX0_openPassesOf, cX0_openPassesOf, 4, (some FieldType.int))
set_option maxRecDepth 100000 in
theorem jcX0_openPassesOf : Cond.code yX0_openPassesOf cX0_openPassesOf 4 (some FieldType.int) ∈ zk_tg := zk_in 468 rfl rfl
theorem jiX0_openPassesOf : Cond.instanceMethod yX0_openPassesOf ∈ zk_tg := zk_in 467 (by decide +kernel) rfl
theorem jsX0_openPassesOf : Cond.selects yX0_openPassesOf.cls yX0_openPassesOf yX0_openPassesOf ∈ zk_tg := zk_sel (n := 16) 4 (by decide +kernel)
theorem jpX0_openPassesOf : plainName yX0_openPassesOf.cls = true ∧ yX0_openPassesOf.cls ≠ "java/lang/invoke/MethodHandle" ∧ yX0_openPassesOf.cls ≠ "java/lang/invoke/VarHandle" ∧ (parseMethodDescriptor yX0_openPassesOf.desc).map (fun d => d.parameters.length) = some 1 := ⟨by decide +kernel, by decide +kernel, by decide +kernel, by decide +kernel⟩
abbrev mX7_pass : zk_MI := (yX7_pass, cX7_pass, 3, (some FieldType.int))
set_option maxRecDepth 100000 in
theorem jcX7_pass : Cond.code yX7_pass cX7_pass 3 (some FieldType.int) ∈ zk_tg := zk_in 472 rfl rfl
theorem jiX7_pass : Cond.instanceMethod yX7_pass ∈ zk_tg := zk_in 470 (by decide +kernel) rfl
theorem jsX7_pass : Cond.selects yX7_pass.cls yX7_pass yX7_pass ∈ zk_tg := zk_in 471 (by decide +kernel) rfl
theorem jpX7_pass : plainName yX7_pass.cls = true ∧ yX7_pass.cls ≠ "java/lang/invoke/MethodHandle" ∧ yX7_pass.cls ≠ "java/lang/invoke/VarHandle" ∧ (parseMethodDescriptor yX7_pass.desc).map (fun d => d.parameters.length) = some 2 := ⟨by decide +kernel, by decide +kernel, by decide +kernel, by decide +kernel⟩
abbrev mX0_passTold : zk_MI := (yX0_passTold, cX0_passTold, 3, (some FieldType.int))
set_option maxRecDepth 100000 in
theorem jcX0_passTold : Cond.code yX0_passTold cX0_passTold 3 (some FieldType.int) ∈ zk_tg := zk_in 478 rfl rfl
theorem jiX0_passTold : Cond.instanceMethod yX0_passTold ∈ zk_tg := zk_in 476 (by decide +kernel) rfl
theorem jsX0_passTold : Cond.selects yX0_passTold.cls yX0_passTold yX0_passTold ∈ zk_tg := zk_in 477 (by decide +kernel) rfl
theorem jpX0_passTold : plainName yX0_passTold.cls = true ∧ yX0_passTold.cls ≠ "java/lang/invoke/MethodHandle" ∧ yX0_passTold.cls ≠ "java/lang/invoke/VarHandle" ∧ (parseMethodDescriptor yX0_passTold.desc).map (fun d => d.parameters.length) = some 2 := ⟨by decide +kernel, by decide +kernel, by decide +kernel, by decide +kernel⟩
abbrev mX3_cloudsOver : zk_MI := (yX3_cloudsOver, cX3_cloudsOver, 4, (some FieldType.int))
set_option maxRecDepth 100000 in
theorem jcX3_cloudsOver : Cond.code yX3_cloudsOver cX3_cloudsOver 4 (some FieldType.int) ∈ zk_tg := zk_in 482 rfl rfl
theorem jiX3_cloudsOver : Cond.instanceMethod yX3_cloudsOver ∈ zk_tg := zk_in 480 (by decide +kernel) rfl
theorem jsX3_cloudsOver : Cond.selects yX3_cloudsOver.cls yX3_cloudsOver yX3_cloudsOver ∈ zk_tg := zk_in 481 (by decide +kernel) rfl
theorem jpX3_cloudsOver : plainName yX3_cloudsOver.cls = true ∧ yX3_cloudsOver.cls ≠ "java/lang/invoke/MethodHandle" ∧ yX3_cloudsOver.cls ≠ "java/lang/invoke/VarHandle" ∧ (parseMethodDescriptor yX3_cloudsOver.desc).map (fun d => d.parameters.length) = some 1 := ⟨by decide +kernel, by decide +kernel, by decide +kernel, by decide +kernel⟩
abbrev mX0_messageOver : zk_MI := (yX0_messageOver, cX0_messageOver, 3, (some FieldType.int))
set_option maxRecDepth 100000 in
theorem jcX0_messageOver : Cond.code yX0_messageOver cX0_messageOver 3 (some FieldType.int) ∈ zk_tg := zk_in 486 rfl rfl
theorem jiX0_messageOver : Cond.instanceMethod yX0_messageOver ∈ zk_tg := zk_in 485 (by decide +kernel) rfl
theorem jsX0_messageOver : Cond.selects yX0_messageOver.cls yX0_messageOver yX0_messageOver ∈ zk_tg := zk_sel (n := 16) 5 (by decide +kernel)
theorem jpX0_messageOver : plainName yX0_messageOver.cls = true ∧ yX0_messageOver.cls ≠ "java/lang/invoke/MethodHandle" ∧ yX0_messageOver.cls ≠ "java/lang/invoke/VarHandle" ∧ (parseMethodDescriptor yX0_messageOver.desc).map (fun d => d.parameters.length) = some 1 := ⟨by decide +kernel, by decide +kernel, by decide +kernel, by decide +kernel⟩
abbrev mX7_message : zk_MI := (yX7_message, cX7_message, 3, (some FieldType.int))
set_option maxRecDepth 100000 in
theorem jcX7_message : Cond.code yX7_message cX7_message 3 (some FieldType.int) ∈ zk_tg := zk_in 490 rfl rfl
theorem jiX7_message : Cond.instanceMethod yX7_message ∈ zk_tg := zk_in 488 (by decide +kernel) rfl
theorem jsX7_message : Cond.selects yX7_message.cls yX7_message yX7_message ∈ zk_tg := zk_in 489 (by decide +kernel) rfl
theorem jpX7_message : plainName yX7_message.cls = true ∧ yX7_message.cls ≠ "java/lang/invoke/MethodHandle" ∧ yX7_message.cls ≠ "java/lang/invoke/VarHandle" ∧ (parseMethodDescriptor yX7_message.desc).map (fun d => d.parameters.length) = some 2 := ⟨by decide +kernel, by decide +kernel, by decide +kernel, by decide +kernel⟩
abbrev mX3_hasMessage : zk_MI := (yX3_hasMessage, cX3_hasMessage, 2, (some FieldType.boolean))
set_option maxRecDepth 100000 in
theorem jcX3_hasMessage : Cond.code yX3_hasMessage cX3_hasMessage 2 (some FieldType.boolean) ∈ zk_tg := zk_in 494 rfl rfl
theorem jiX3_hasMessage : Cond.instanceMethod yX3_hasMessage ∈ zk_tg := zk_in 492 (by decide +kernel) rfl
theorem jsX3_hasMessage : Cond.selects yX3_hasMessage.cls yX3_hasMessage yX3_hasMessage ∈ zk_tg := zk_in 493 (by decide +kernel) rfl
theorem jpX3_hasMessage : plainName yX3_hasMessage.cls = true ∧ yX3_hasMessage.cls ≠ "java/lang/invoke/MethodHandle" ∧ yX3_hasMessage.cls ≠ "java/lang/invoke/VarHandle" ∧ (parseMethodDescriptor yX3_hasMessage.desc).map (fun d => d.parameters.length) = some 1 := ⟨by decide +kernel, by decide +kernel, by decide +kernel, by decide +kernel⟩
abbrev mX0_messageTold : zk_MI := (yX0_messageTold, cX0_messageTold, 3, (some FieldType.int))
set_option maxRecDepth 100000 in
theorem jcX0_messageTold : Cond.code yX0_messageTold cX0_messageTold 3 (some FieldType.int) ∈ zk_tg := zk_in 499 rfl rfl
theorem jiX0_messageTold : Cond.instanceMethod yX0_messageTold ∈ zk_tg := zk_in 497 (by decide +kernel) rfl
theorem jsX0_messageTold : Cond.selects yX0_messageTold.cls yX0_messageTold yX0_messageTold ∈ zk_tg := zk_in 498 (by decide +kernel) rfl
theorem jpX0_messageTold : plainName yX0_messageTold.cls = true ∧ yX0_messageTold.cls ≠ "java/lang/invoke/MethodHandle" ∧ yX0_messageTold.cls ≠ "java/lang/invoke/VarHandle" ∧ (parseMethodDescriptor yX0_messageTold.desc).map (fun d => d.parameters.length) = some 2 := ⟨by decide +kernel, by decide +kernel, by decide +kernel, by decide +kernel⟩
abbrev mX7_hasSun : zk_MI := (yX7_hasSun, cX7_hasSun, 3, (some FieldType.boolean))
set_option maxRecDepth 100000 in
theorem jcX7_hasSun : Cond.code yX7_hasSun cX7_hasSun 3 (some FieldType.boolean) ∈ zk_tg := zk_in 504 rfl rfl
theorem jiX7_hasSun : Cond.instanceMethod yX7_hasSun ∈ zk_tg := zk_in 502 (by decide +kernel) rfl
theorem jsX7_hasSun : Cond.selects yX7_hasSun.cls yX7_hasSun yX7_hasSun ∈ zk_tg := zk_in 503 (by decide +kernel) rfl
theorem jpX7_hasSun : plainName yX7_hasSun.cls = true ∧ yX7_hasSun.cls ≠ "java/lang/invoke/MethodHandle" ∧ yX7_hasSun.cls ≠ "java/lang/invoke/VarHandle" ∧ (parseMethodDescriptor yX7_hasSun.desc).map (fun d => d.parameters.length) = some 2 := ⟨by decide +kernel, by decide +kernel, by decide +kernel, by decide +kernel⟩
abbrev mX7_isOpen : zk_MI := (yX7_isOpen, cX7_isOpen, 3, (some FieldType.boolean))
set_option maxRecDepth 100000 in
theorem jcX7_isOpen : Cond.code yX7_isOpen cX7_isOpen 3 (some FieldType.boolean) ∈ zk_tg := zk_in 526 rfl rfl
theorem jiX7_isOpen : Cond.instanceMethod yX7_isOpen ∈ zk_tg := zk_in 524 (by decide +kernel) rfl
theorem jsX7_isOpen : Cond.selects yX7_isOpen.cls yX7_isOpen yX7_isOpen ∈ zk_tg := zk_in 525 (by decide +kernel) rfl
theorem jpX7_isOpen : plainName yX7_isOpen.cls = true ∧ yX7_isOpen.cls ≠ "java/lang/invoke/MethodHandle" ∧ yX7_isOpen.cls ≠ "java/lang/invoke/VarHandle" ∧ (parseMethodDescriptor yX7_isOpen.desc).map (fun d => d.parameters.length) = some 2 := ⟨by decide +kernel, by decide +kernel, by decide +kernel, by decide +kernel⟩
abbrev mX7_way : zk_MI := (yX7_way, cX7_way, 3, (some FieldType.int))
set_option maxRecDepth 100000 in
theorem jcX7_way : Cond.code yX7_way cX7_way 3 (some FieldType.int) ∈ zk_tg := zk_in 532 rfl rfl
theorem jiX7_way : Cond.instanceMethod yX7_way ∈ zk_tg := zk_in 530 (by decide +kernel) rfl
theorem jsX7_way : Cond.selects yX7_way.cls yX7_way yX7_way ∈ zk_tg := zk_in 531 (by decide +kernel) rfl
theorem jpX7_way : plainName yX7_way.cls = true ∧ yX7_way.cls ≠ "java/lang/invoke/MethodHandle" ∧ yX7_way.cls ≠ "java/lang/invoke/VarHandle" ∧ (parseMethodDescriptor yX7_way.desc).map (fun d => d.parameters.length) = some 2 := ⟨by decide +kernel, by decide +kernel, by decide +kernel, by decide +kernel⟩
abbrev mX0_look : zk_MI := (yX0_look, cX0_look, 2, (none))
set_option maxRecDepth 100000 in
theorem jcX0_look : Cond.code yX0_look cX0_look 2 (none) ∈ zk_tg := zk_in 536 rfl rfl
theorem jiX0_look : Cond.instanceMethod yX0_look ∈ zk_tg := zk_in 534 (by decide +kernel) rfl
theorem jsX0_look : Cond.selects yX0_look.cls yX0_look yX0_look ∈ zk_tg := zk_in 535 (by decide +kernel) rfl
theorem jpX0_look : plainName yX0_look.cls = true ∧ yX0_look.cls ≠ "java/lang/invoke/MethodHandle" ∧ yX0_look.cls ≠ "java/lang/invoke/VarHandle" ∧ (parseMethodDescriptor yX0_look.desc).map (fun d => d.parameters.length) = some 0 := ⟨by decide +kernel, by decide +kernel, by decide +kernel, by decide +kernel⟩
abbrev mX0_farOfWay : zk_MI := (yX0_farOfWay, cX0_farOfWay, 3, (some FieldType.int))
set_option maxRecDepth 100000 in
theorem jcX0_farOfWay : Cond.code yX0_farOfWay cX0_farOfWay 3 (some FieldType.int) ∈ zk_tg := zk_in 540 rfl rfl
theorem jiX0_farOfWay : Cond.instanceMethod yX0_farOfWay ∈ zk_tg := zk_in 538 (by decide +kernel) rfl
theorem jsX0_farOfWay : Cond.selects yX0_farOfWay.cls yX0_farOfWay yX0_farOfWay ∈ zk_tg := zk_in 539 (by decide +kernel) rfl
theorem jpX0_farOfWay : plainName yX0_farOfWay.cls = true ∧ yX0_farOfWay.cls ≠ "java/lang/invoke/MethodHandle" ∧ yX0_farOfWay.cls ≠ "java/lang/invoke/VarHandle" ∧ (parseMethodDescriptor yX0_farOfWay.desc).map (fun d => d.parameters.length) = some 2 := ⟨by decide +kernel, by decide +kernel, by decide +kernel, by decide +kernel⟩
abbrev mX0_measure : zk_MI := (yX0_measure, cX0_measure, 7, (none))
set_option maxRecDepth 100000 in
theorem jcX0_measure : Cond.code yX0_measure cX0_measure 7 (none) ∈ zk_tg := zk_in 544 rfl rfl
theorem jiX0_measure : Cond.instanceMethod yX0_measure ∈ zk_tg := zk_in 543 (by decide +kernel) rfl
theorem jsX0_measure : Cond.selects yX0_measure.cls yX0_measure yX0_measure ∈ zk_tg := zk_sel (n := 16) 6 (by decide +kernel)
theorem jpX0_measure : plainName yX0_measure.cls = true ∧ yX0_measure.cls ≠ "java/lang/invoke/MethodHandle" ∧ yX0_measure.cls ≠ "java/lang/invoke/VarHandle" ∧ (parseMethodDescriptor yX0_measure.desc).map (fun d => d.parameters.length) = some 1 := ⟨by decide +kernel, by decide +kernel, by decide +kernel, by decide +kernel⟩
abbrev mX0_isLit : zk_MI := (yX0_isLit, cX0_isLit, 2, (some FieldType.boolean))
set_option maxRecDepth 100000 in
theorem jcX0_isLit : Cond.code yX0_isLit cX0_isLit 2 (some FieldType.boolean) ∈ zk_tg := zk_in 549 rfl rfl
theorem jiX0_isLit : Cond.instanceMethod yX0_isLit ∈ zk_tg := zk_in 547 (by decide +kernel) rfl
theorem jsX0_isLit : Cond.selects yX0_isLit.cls yX0_isLit yX0_isLit ∈ zk_tg := zk_in 548 (by decide +kernel) rfl
theorem jpX0_isLit : plainName yX0_isLit.cls = true ∧ yX0_isLit.cls ≠ "java/lang/invoke/MethodHandle" ∧ yX0_isLit.cls ≠ "java/lang/invoke/VarHandle" ∧ (parseMethodDescriptor yX0_isLit.desc).map (fun d => d.parameters.length) = some 1 := ⟨by decide +kernel, by decide +kernel, by decide +kernel, by decide +kernel⟩
abbrev mX0_shorten : zk_MI := (yX0_shorten, cX0_shorten, 4, (some FieldType.boolean))
set_option maxRecDepth 100000 in
theorem jcX0_shorten : Cond.code yX0_shorten cX0_shorten 4 (some FieldType.boolean) ∈ zk_tg := zk_in 553 rfl rfl
theorem jiX0_shorten : Cond.instanceMethod yX0_shorten ∈ zk_tg := zk_in 552 (by decide +kernel) rfl
theorem jsX0_shorten : Cond.selects yX0_shorten.cls yX0_shorten yX0_shorten ∈ zk_tg := zk_sel (n := 16) 7 (by decide +kernel)
theorem jpX0_shorten : plainName yX0_shorten.cls = true ∧ yX0_shorten.cls ≠ "java/lang/invoke/MethodHandle" ∧ yX0_shorten.cls ≠ "java/lang/invoke/VarHandle" ∧ (parseMethodDescriptor yX0_shorten.desc).map (fun d => d.parameters.length) = some 3 := ⟨by decide +kernel, by decide +kernel, by decide +kernel, by decide +kernel⟩
abbrev mX7_first : zk_MI := (yX7_first, cX7_first, 3, (some FieldType.int))
set_option maxRecDepth 100000 in
theorem jcX7_first : Cond.code yX7_first cX7_first 3 (some FieldType.int) ∈ zk_tg := zk_in 557 rfl rfl
theorem jiX7_first : Cond.instanceMethod yX7_first ∈ zk_tg := zk_in 555 (by decide +kernel) rfl
theorem jsX7_first : Cond.selects yX7_first.cls yX7_first yX7_first ∈ zk_tg := zk_in 556 (by decide +kernel) rfl
theorem jpX7_first : plainName yX7_first.cls = true ∧ yX7_first.cls ≠ "java/lang/invoke/MethodHandle" ∧ yX7_first.cls ≠ "java/lang/invoke/VarHandle" ∧ (parseMethodDescriptor yX7_first.desc).map (fun d => d.parameters.length) = some 2 := ⟨by decide +kernel, by decide +kernel, by decide +kernel, by decide +kernel⟩
abbrev mX0_firstPassOfWay : zk_MI := (yX0_firstPassOfWay, cX0_firstPassOfWay, 5, (some FieldType.int))
set_option maxRecDepth 100000 in
theorem jcX0_firstPassOfWay : Cond.code yX0_firstPassOfWay cX0_firstPassOfWay 5 (some FieldType.int) ∈ zk_tg := zk_in 561 rfl rfl
theorem jiX0_firstPassOfWay : Cond.instanceMethod yX0_firstPassOfWay ∈ zk_tg := zk_in 559 (by decide +kernel) rfl
theorem jsX0_firstPassOfWay : Cond.selects yX0_firstPassOfWay.cls yX0_firstPassOfWay yX0_firstPassOfWay ∈ zk_tg := zk_in 560 (by decide +kernel) rfl
theorem jpX0_firstPassOfWay : plainName yX0_firstPassOfWay.cls = true ∧ yX0_firstPassOfWay.cls ≠ "java/lang/invoke/MethodHandle" ∧ yX0_firstPassOfWay.cls ≠ "java/lang/invoke/VarHandle" ∧ (parseMethodDescriptor yX0_firstPassOfWay.desc).map (fun d => d.parameters.length) = some 2 := ⟨by decide +kernel, by decide +kernel, by decide +kernel, by decide +kernel⟩
abbrev mX3_across : zk_MI := (yX3_across, cX3_across, 3, (some FieldType.int))
set_option maxRecDepth 100000 in
theorem jcX3_across : Cond.code yX3_across cX3_across 3 (some FieldType.int) ∈ zk_tg := zk_in 565 rfl rfl
theorem jiX3_across : Cond.instanceMethod yX3_across ∈ zk_tg := zk_in 563 (by decide +kernel) rfl
theorem jsX3_across : Cond.selects yX3_across.cls yX3_across yX3_across ∈ zk_tg := zk_in 564 (by decide +kernel) rfl
theorem jpX3_across : plainName yX3_across.cls = true ∧ yX3_across.cls ≠ "java/lang/invoke/MethodHandle" ∧ yX3_across.cls ≠ "java/lang/invoke/VarHandle" ∧ (parseMethodDescriptor yX3_across.desc).map (fun d => d.parameters.length) = some 2 := ⟨by decide +kernel, by decide +kernel, by decide +kernel, by decide +kernel⟩
abbrev mX7_go : zk_MI := (yX7_go, cX7_go, 3, (some FieldType.int))
set_option maxRecDepth 100000 in
theorem jcX7_go : Cond.code yX7_go cX7_go 3 (some FieldType.int) ∈ zk_tg := zk_in 569 rfl rfl
theorem jiX7_go : Cond.instanceMethod yX7_go ∈ zk_tg := zk_in 567 (by decide +kernel) rfl
theorem jsX7_go : Cond.selects yX7_go.cls yX7_go yX7_go ∈ zk_tg := zk_in 568 (by decide +kernel) rfl
theorem jpX7_go : plainName yX7_go.cls = true ∧ yX7_go.cls ≠ "java/lang/invoke/MethodHandle" ∧ yX7_go.cls ≠ "java/lang/invoke/VarHandle" ∧ (parseMethodDescriptor yX7_go.desc).map (fun d => d.parameters.length) = some 1 := ⟨by decide +kernel, by decide +kernel, by decide +kernel, by decide +kernel⟩
abbrev mX0_run : zk_MI := (yX0_run, cX0_run, 4, (none))
set_option maxRecDepth 100000 in
theorem jcX0_run : Cond.code yX0_run cX0_run 4 (none) ∈ zk_tg := zk_in 575 rfl rfl
theorem jiX0_run : Cond.instanceMethod yX0_run ∈ zk_tg := zk_in 573 (by decide +kernel) rfl
theorem jsX0_run : Cond.selects yX0_run.cls yX0_run yX0_run ∈ zk_tg := zk_in 574 (by decide +kernel) rfl
theorem jpX0_run : plainName yX0_run.cls = true ∧ yX0_run.cls ≠ "java/lang/invoke/MethodHandle" ∧ yX0_run.cls ≠ "java/lang/invoke/VarHandle" ∧ (parseMethodDescriptor yX0_run.desc).map (fun d => d.parameters.length) = some 1 := ⟨by decide +kernel, by decide +kernel, by decide +kernel, by decide +kernel⟩
abbrev mX0_flashWord : zk_MI := (yX0_flashWord, cX0_flashWord, 3, (none))
set_option maxRecDepth 100000 in
theorem jcX0_flashWord : Cond.code yX0_flashWord cX0_flashWord 3 (none) ∈ zk_tg := zk_in 580 rfl rfl
theorem jiX0_flashWord : Cond.instanceMethod yX0_flashWord ∈ zk_tg := zk_in 579 (by decide +kernel) rfl
theorem jsX0_flashWord : Cond.selects yX0_flashWord.cls yX0_flashWord yX0_flashWord ∈ zk_tg := zk_sel (n := 16) 8 (by decide +kernel)
theorem jpX0_flashWord : plainName yX0_flashWord.cls = true ∧ yX0_flashWord.cls ≠ "java/lang/invoke/MethodHandle" ∧ yX0_flashWord.cls ≠ "java/lang/invoke/VarHandle" ∧ (parseMethodDescriptor yX0_flashWord.desc).map (fun d => d.parameters.length) = some 1 := ⟨by decide +kernel, by decide +kernel, by decide +kernel, by decide +kernel⟩
abbrev mX0_breakOff : zk_MI := (yX0_breakOff, cX0_breakOff, 2, (none))
set_option maxRecDepth 100000 in
theorem jcX0_breakOff : Cond.code yX0_breakOff cX0_breakOff 2 (none) ∈ zk_tg := zk_in 584 rfl rfl
theorem jiX0_breakOff : Cond.instanceMethod yX0_breakOff ∈ zk_tg := zk_in 582 (by decide +kernel) rfl
theorem jsX0_breakOff : Cond.selects yX0_breakOff.cls yX0_breakOff yX0_breakOff ∈ zk_tg := zk_in 583 (by decide +kernel) rfl
theorem jpX0_breakOff : plainName yX0_breakOff.cls = true ∧ yX0_breakOff.cls ≠ "java/lang/invoke/MethodHandle" ∧ yX0_breakOff.cls ≠ "java/lang/invoke/VarHandle" ∧ (parseMethodDescriptor yX0_breakOff.desc).map (fun d => d.parameters.length) = some 1 := ⟨by decide +kernel, by decide +kernel, by decide +kernel, by decide +kernel⟩
abbrev mX0_letWait : zk_MI := (yX0_letWait, cX0_letWait, 2, (none))
set_option maxRecDepth 100000 in
theorem jcX0_letWait : Cond.code yX0_letWait cX0_letWait 2 (none) ∈ zk_tg := zk_in 588 rfl rfl
theorem jiX0_letWait : Cond.instanceMethod yX0_letWait ∈ zk_tg := zk_in 586 (by decide +kernel) rfl
theorem jsX0_letWait : Cond.selects yX0_letWait.cls yX0_letWait yX0_letWait ∈ zk_tg := zk_in 587 (by decide +kernel) rfl
theorem jpX0_letWait : plainName yX0_letWait.cls = true ∧ yX0_letWait.cls ≠ "java/lang/invoke/MethodHandle" ∧ yX0_letWait.cls ≠ "java/lang/invoke/VarHandle" ∧ (parseMethodDescriptor yX0_letWait.desc).map (fun d => d.parameters.length) = some 1 := ⟨by decide +kernel, by decide +kernel, by decide +kernel, by decide +kernel⟩
abbrev mX0_arrive : zk_MI := (yX0_arrive, cX0_arrive, 3, (none))
set_option maxRecDepth 100000 in
theorem jcX0_arrive : Cond.code yX0_arrive cX0_arrive 3 (none) ∈ zk_tg := zk_in 592 rfl rfl
theorem jiX0_arrive : Cond.instanceMethod yX0_arrive ∈ zk_tg := zk_in 591 (by decide +kernel) rfl
theorem jsX0_arrive : Cond.selects yX0_arrive.cls yX0_arrive yX0_arrive ∈ zk_tg := zk_sel (n := 16) 9 (by decide +kernel)
theorem jpX0_arrive : plainName yX0_arrive.cls = true ∧ yX0_arrive.cls ≠ "java/lang/invoke/MethodHandle" ∧ yX0_arrive.cls ≠ "java/lang/invoke/VarHandle" ∧ (parseMethodDescriptor yX0_arrive.desc).map (fun d => d.parameters.length) = some 2 := ⟨by decide +kernel, by decide +kernel, by decide +kernel, by decide +kernel⟩
abbrev mX0_sendOff : zk_MI := (yX0_sendOff, cX0_sendOff, 3, (none))
set_option maxRecDepth 100000 in
theorem jcX0_sendOff : Cond.code yX0_sendOff cX0_sendOff 3 (none) ∈ zk_tg := zk_in 596 rfl rfl
theorem jiX0_sendOff : Cond.instanceMethod yX0_sendOff ∈ zk_tg := zk_in 595 (by decide +kernel) rfl
theorem jsX0_sendOff : Cond.selects yX0_sendOff.cls yX0_sendOff yX0_sendOff ∈ zk_tg := zk_sel (n := 16) 10 (by decide +kernel)
theorem jpX0_sendOff : plainName yX0_sendOff.cls = true ∧ yX0_sendOff.cls ≠ "java/lang/invoke/MethodHandle" ∧ yX0_sendOff.cls ≠ "java/lang/invoke/VarHandle" ∧ (parseMethodDescriptor yX0_sendOff.desc).map (fun d => d.parameters.length) = some 1 := ⟨by decide +kernel, by decide +kernel, by decide +kernel, by decide +kernel⟩
abbrev mX2_isHeld : zk_MI := (yX2_isHeld, cX2_isHeld, 5, (some FieldType.boolean))
set_option maxRecDepth 100000 in
theorem jcX2_isHeld : Cond.code yX2_isHeld cX2_isHeld 5 (some FieldType.boolean) ∈ zk_tg := zk_in 600 rfl rfl
theorem jiX2_isHeld : Cond.instanceMethod yX2_isHeld ∈ zk_tg := zk_in 598 (by decide +kernel) rfl
theorem jsX2_isHeld : Cond.selects yX2_isHeld.cls yX2_isHeld yX2_isHeld ∈ zk_tg := zk_in 599 (by decide +kernel) rfl
theorem jpX2_isHeld : plainName yX2_isHeld.cls = true ∧ yX2_isHeld.cls ≠ "java/lang/invoke/MethodHandle" ∧ yX2_isHeld.cls ≠ "java/lang/invoke/VarHandle" ∧ (parseMethodDescriptor yX2_isHeld.desc).map (fun d => d.parameters.length) = some 2 := ⟨by decide +kernel, by decide +kernel, by decide +kernel, by decide +kernel⟩
abbrev mX2_isTrue : zk_MI := (yX2_isTrue, cX2_isTrue, 5, (some FieldType.boolean))
set_option maxRecDepth 100000 in
theorem jcX2_isTrue : Cond.code yX2_isTrue cX2_isTrue 5 (some FieldType.boolean) ∈ zk_tg := zk_in 604 rfl rfl
theorem jiX2_isTrue : Cond.instanceMethod yX2_isTrue ∈ zk_tg := zk_in 603 (by decide +kernel) rfl
theorem jsX2_isTrue : Cond.selects yX2_isTrue.cls yX2_isTrue yX2_isTrue ∈ zk_tg := zk_sel (n := 8) 11 (by decide +kernel)
theorem jpX2_isTrue : plainName yX2_isTrue.cls = true ∧ yX2_isTrue.cls ≠ "java/lang/invoke/MethodHandle" ∧ yX2_isTrue.cls ≠ "java/lang/invoke/VarHandle" ∧ (parseMethodDescriptor yX2_isTrue.desc).map (fun d => d.parameters.length) = some 3 := ⟨by decide +kernel, by decide +kernel, by decide +kernel, by decide +kernel⟩
abbrev mX2_apply : zk_MI := (yX2_apply, cX2_apply, 5, (none))
set_option maxRecDepth 100000 in
theorem jcX2_apply : Cond.code yX2_apply cX2_apply 5 (none) ∈ zk_tg := zk_in 608 rfl rfl
theorem jiX2_apply : Cond.instanceMethod yX2_apply ∈ zk_tg := zk_in 607 (by decide +kernel) rfl
theorem jsX2_apply : Cond.selects yX2_apply.cls yX2_apply yX2_apply ∈ zk_tg := zk_sel (n := 8) 12 (by decide +kernel)
theorem jpX2_apply : plainName yX2_apply.cls = true ∧ yX2_apply.cls ≠ "java/lang/invoke/MethodHandle" ∧ yX2_apply.cls ≠ "java/lang/invoke/VarHandle" ∧ (parseMethodDescriptor yX2_apply.desc).map (fun d => d.parameters.length) = some 3 := ⟨by decide +kernel, by decide +kernel, by decide +kernel, by decide +kernel⟩
abbrev mX2_push : zk_MI := (yX2_push, cX2_push, 2, (none))
set_option maxRecDepth 100000 in
theorem jcX2_push : Cond.code yX2_push cX2_push 2 (none) ∈ zk_tg := zk_in 612 rfl rfl
theorem jiX2_push : Cond.instanceMethod yX2_push ∈ zk_tg := zk_in 611 (by decide +kernel) rfl
theorem jsX2_push : Cond.selects yX2_push.cls yX2_push yX2_push ∈ zk_tg := zk_sel (n := 8) 13 (by decide +kernel)
theorem jpX2_push : plainName yX2_push.cls = true ∧ yX2_push.cls ≠ "java/lang/invoke/MethodHandle" ∧ yX2_push.cls ≠ "java/lang/invoke/VarHandle" ∧ (parseMethodDescriptor yX2_push.desc).map (fun d => d.parameters.length) = some 1 := ⟨by decide +kernel, by decide +kernel, by decide +kernel, by decide +kernel⟩
abbrev mX0_leftOf : zk_MI := (yX0_leftOf, cX0_leftOf, 2, (some FieldType.int))
set_option maxRecDepth 100000 in
theorem jcX0_leftOf : Cond.code yX0_leftOf cX0_leftOf 2 (some FieldType.int) ∈ zk_tg := zk_in 617 rfl rfl
theorem jiX0_leftOf : Cond.instanceMethod yX0_leftOf ∈ zk_tg := zk_in 615 (by decide +kernel) rfl
theorem jsX0_leftOf : Cond.selects yX0_leftOf.cls yX0_leftOf yX0_leftOf ∈ zk_tg := zk_in 616 (by decide +kernel) rfl
theorem jpX0_leftOf : plainName yX0_leftOf.cls = true ∧ yX0_leftOf.cls ≠ "java/lang/invoke/MethodHandle" ∧ yX0_leftOf.cls ≠ "java/lang/invoke/VarHandle" ∧ (parseMethodDescriptor yX0_leftOf.desc).map (fun d => d.parameters.length) = some 1 := ⟨by decide +kernel, by decide +kernel, by decide +kernel, by decide +kernel⟩
abbrev mX0_breaksOf : zk_MI := (yX0_breaksOf, cX0_breaksOf, 2, (some FieldType.int))
set_option maxRecDepth 100000 in
theorem jcX0_breaksOf : Cond.code yX0_breaksOf cX0_breaksOf 2 (some FieldType.int) ∈ zk_tg := zk_in 621 rfl rfl
theorem jiX0_breaksOf : Cond.instanceMethod yX0_breaksOf ∈ zk_tg := zk_in 619 (by decide +kernel) rfl
theorem jsX0_breaksOf : Cond.selects yX0_breaksOf.cls yX0_breaksOf yX0_breaksOf ∈ zk_tg := zk_in 620 (by decide +kernel) rfl
theorem jpX0_breaksOf : plainName yX0_breaksOf.cls = true ∧ yX0_breaksOf.cls ≠ "java/lang/invoke/MethodHandle" ∧ yX0_breaksOf.cls ≠ "java/lang/invoke/VarHandle" ∧ (parseMethodDescriptor yX0_breaksOf.desc).map (fun d => d.parameters.length) = some 1 := ⟨by decide +kernel, by decide +kernel, by decide +kernel, by decide +kernel⟩
abbrev mX0_isCarried : zk_MI := (yX0_isCarried, cX0_isCarried, 2, (some FieldType.boolean))
set_option maxRecDepth 100000 in
theorem jcX0_isCarried : Cond.code yX0_isCarried cX0_isCarried 2 (some FieldType.boolean) ∈ zk_tg := zk_in 626 rfl rfl
theorem jiX0_isCarried : Cond.instanceMethod yX0_isCarried ∈ zk_tg := zk_in 624 (by decide +kernel) rfl
theorem jsX0_isCarried : Cond.selects yX0_isCarried.cls yX0_isCarried yX0_isCarried ∈ zk_tg := zk_in 625 (by decide +kernel) rfl
theorem jpX0_isCarried : plainName yX0_isCarried.cls = true ∧ yX0_isCarried.cls ≠ "java/lang/invoke/MethodHandle" ∧ yX0_isCarried.cls ≠ "java/lang/invoke/VarHandle" ∧ (parseMethodDescriptor yX0_isCarried.desc).map (fun d => d.parameters.length) = some 1 := ⟨by decide +kernel, by decide +kernel, by decide +kernel, by decide +kernel⟩
abbrev mX2_pop : zk_MI := (yX2_pop, cX2_pop, 1, (some FieldType.int))
set_option maxRecDepth 100000 in
theorem jcX2_pop : Cond.code yX2_pop cX2_pop 1 (some FieldType.int) ∈ zk_tg := zk_in 630 rfl rfl
theorem jiX2_pop : Cond.instanceMethod yX2_pop ∈ zk_tg := zk_in 629 (by decide +kernel) rfl
theorem jsX2_pop : Cond.selects yX2_pop.cls yX2_pop yX2_pop ∈ zk_tg := zk_sel (n := 8) 14 (by decide +kernel)
theorem jpX2_pop : plainName yX2_pop.cls = true ∧ yX2_pop.cls ≠ "java/lang/invoke/MethodHandle" ∧ yX2_pop.cls ≠ "java/lang/invoke/VarHandle" ∧ (parseMethodDescriptor yX2_pop.desc).map (fun d => d.parameters.length) = some 0 := ⟨by decide +kernel, by decide +kernel, by decide +kernel, by decide +kernel⟩
abbrev mX2_joined : zk_MI := (yX2_joined, cX2_joined, 3, (some FieldType.int))
set_option maxRecDepth 100000 in
theorem jcX2_joined : Cond.code yX2_joined cX2_joined 3 (some FieldType.int) ∈ zk_tg := zk_in 633 rfl rfl
theorem jiX2_joined : Cond.static yX2_joined ∈ zk_tg := zk_in 632 (by decide +kernel) rfl
theorem jpX2_joined : plainName yX2_joined.cls = true ∧ yX2_joined.cls ≠ "java/lang/invoke/MethodHandle" ∧ yX2_joined.cls ≠ "java/lang/invoke/VarHandle" ∧ (parseMethodDescriptor yX2_joined.desc).map (fun d => d.parameters.length) = some 3 := ⟨by decide +kernel, by decide +kernel, by decide +kernel, by decide +kernel⟩
abbrev mX7_until : zk_MI := (yX7_until, cX7_until, 3, (some FieldType.int))
set_option maxRecDepth 100000 in
theorem jcX7_until : Cond.code yX7_until cX7_until 3 (some FieldType.int) ∈ zk_tg := zk_in 638 rfl rfl
theorem jiX7_until : Cond.instanceMethod yX7_until ∈ zk_tg := zk_in 636 (by decide +kernel) rfl
theorem jsX7_until : Cond.selects yX7_until.cls yX7_until yX7_until ∈ zk_tg := zk_in 637 (by decide +kernel) rfl
theorem jpX7_until : plainName yX7_until.cls = true ∧ yX7_until.cls ≠ "java/lang/invoke/MethodHandle" ∧ yX7_until.cls ≠ "java/lang/invoke/VarHandle" ∧ (parseMethodDescriptor yX7_until.desc).map (fun d => d.parameters.length) = some 1 := ⟨by decide +kernel, by decide +kernel, by decide +kernel, by decide +kernel⟩
abbrev mX0_copy : zk_MI := (yX0_copy, cX0_copy, 2, (none))
set_option maxRecDepth 100000 in
theorem jcX0_copy : Cond.code yX0_copy cX0_copy 2 (none) ∈ zk_tg := zk_in 643 rfl rfl
theorem jiX0_copy : Cond.instanceMethod yX0_copy ∈ zk_tg := zk_in 641 (by decide +kernel) rfl
theorem jsX0_copy : Cond.selects yX0_copy.cls yX0_copy yX0_copy ∈ zk_tg := zk_in 642 (by decide +kernel) rfl
theorem jpX0_copy : plainName yX0_copy.cls = true ∧ yX0_copy.cls ≠ "java/lang/invoke/MethodHandle" ∧ yX0_copy.cls ≠ "java/lang/invoke/VarHandle" ∧ (parseMethodDescriptor yX0_copy.desc).map (fun d => d.parameters.length) = some 1 := ⟨by decide +kernel, by decide +kernel, by decide +kernel, by decide +kernel⟩
abbrev mX0_copyRow : zk_MI := (yX0_copyRow, cX0_copyRow, 3, (none))
set_option maxRecDepth 100000 in
theorem jcX0_copyRow : Cond.code yX0_copyRow cX0_copyRow 3 (none) ∈ zk_tg := zk_in 646 rfl rfl
theorem jiX0_copyRow : Cond.static yX0_copyRow ∈ zk_tg := zk_in 645 (by decide +kernel) rfl
theorem jpX0_copyRow : plainName yX0_copyRow.cls = true ∧ yX0_copyRow.cls ≠ "java/lang/invoke/MethodHandle" ∧ yX0_copyRow.cls ≠ "java/lang/invoke/VarHandle" ∧ (parseMethodDescriptor yX0_copyRow.desc).map (fun d => d.parameters.length) = some 2 := ⟨by decide +kernel, by decide +kernel, by decide +kernel, by decide +kernel⟩
abbrev mX7_opens : zk_MI := (yX7_opens, cX7_opens, 3, (some FieldType.int))
set_option maxRecDepth 100000 in
theorem jcX7_opens : Cond.code yX7_opens cX7_opens 3 (some FieldType.int) ∈ zk_tg := zk_in 650 rfl rfl
theorem jiX7_opens : Cond.instanceMethod yX7_opens ∈ zk_tg := zk_in 648 (by decide +kernel) rfl
theorem jsX7_opens : Cond.selects yX7_opens.cls yX7_opens yX7_opens ∈ zk_tg := zk_in 649 (by decide +kernel) rfl
theorem jpX7_opens : plainName yX7_opens.cls = true ∧ yX7_opens.cls ≠ "java/lang/invoke/MethodHandle" ∧ yX7_opens.cls ≠ "java/lang/invoke/VarHandle" ∧ (parseMethodDescriptor yX7_opens.desc).map (fun d => d.parameters.length) = some 1 := ⟨by decide +kernel, by decide +kernel, by decide +kernel, by decide +kernel⟩
abbrev mX7_foresee : zk_MI := (yX7_foresee, cX7_foresee, 3, (some FieldType.int))
set_option maxRecDepth 100000 in
theorem jcX7_foresee : Cond.code yX7_foresee cX7_foresee 3 (some FieldType.int) ∈ zk_tg := zk_in 654 rfl rfl
theorem jiX7_foresee : Cond.instanceMethod yX7_foresee ∈ zk_tg := zk_in 652 (by decide +kernel) rfl
theorem jsX7_foresee : Cond.selects yX7_foresee.cls yX7_foresee yX7_foresee ∈ zk_tg := zk_in 653 (by decide +kernel) rfl
theorem jpX7_foresee : plainName yX7_foresee.cls = true ∧ yX7_foresee.cls ≠ "java/lang/invoke/MethodHandle" ∧ yX7_foresee.cls ≠ "java/lang/invoke/VarHandle" ∧ (parseMethodDescriptor yX7_foresee.desc).map (fun d => d.parameters.length) = some 2 := ⟨by decide +kernel, by decide +kernel, by decide +kernel, by decide +kernel⟩
abbrev mX7_missed : zk_MI := (yX7_missed, cX7_missed, 6, (some FieldType.int))
set_option maxRecDepth 100000 in
theorem jcX7_missed : Cond.code yX7_missed cX7_missed 6 (some FieldType.int) ∈ zk_tg := zk_in 659 rfl rfl
theorem jiX7_missed : Cond.instanceMethod yX7_missed ∈ zk_tg := zk_in 657 (by decide +kernel) rfl
theorem jsX7_missed : Cond.selects yX7_missed.cls yX7_missed yX7_missed ∈ zk_tg := zk_in 658 (by decide +kernel) rfl
theorem jpX7_missed : plainName yX7_missed.cls = true ∧ yX7_missed.cls ≠ "java/lang/invoke/MethodHandle" ∧ yX7_missed.cls ≠ "java/lang/invoke/VarHandle" ∧ (parseMethodDescriptor yX7_missed.desc).map (fun d => d.parameters.length) = some 1 := ⟨by decide +kernel, by decide +kernel, by decide +kernel, by decide +kernel⟩
abbrev mX7_advise : zk_MI := (yX7_advise, cX7_advise, 6, (some FieldType.int))
set_option maxRecDepth 100000 in
theorem jcX7_advise : Cond.code yX7_advise cX7_advise 6 (some FieldType.int) ∈ zk_tg := zk_in 663 rfl rfl
theorem jiX7_advise : Cond.instanceMethod yX7_advise ∈ zk_tg := zk_in 661 (by decide +kernel) rfl
theorem jsX7_advise : Cond.selects yX7_advise.cls yX7_advise yX7_advise ∈ zk_tg := zk_in 662 (by decide +kernel) rfl
theorem jpX7_advise : plainName yX7_advise.cls = true ∧ yX7_advise.cls ≠ "java/lang/invoke/MethodHandle" ∧ yX7_advise.cls ≠ "java/lang/invoke/VarHandle" ∧ (parseMethodDescriptor yX7_advise.desc).map (fun d => d.parameters.length) = some 1 := ⟨by decide +kernel, by decide +kernel, by decide +kernel, by decide +kernel⟩
abbrev mX7_mean : zk_MI := (yX7_mean, cX7_mean, 4, (some FieldType.double))
set_option maxRecDepth 100000 in
theorem jcX7_mean : Cond.code yX7_mean cX7_mean 4 (some FieldType.double) ∈ zk_tg := zk_in 667 rfl rfl
theorem jiX7_mean : Cond.instanceMethod yX7_mean ∈ zk_tg := zk_in 665 (by decide +kernel) rfl
theorem jsX7_mean : Cond.selects yX7_mean.cls yX7_mean yX7_mean ∈ zk_tg := zk_in 666 (by decide +kernel) rfl
theorem jpX7_mean : plainName yX7_mean.cls = true ∧ yX7_mean.cls ≠ "java/lang/invoke/MethodHandle" ∧ yX7_mean.cls ≠ "java/lang/invoke/VarHandle" ∧ (parseMethodDescriptor yX7_mean.desc).map (fun d => d.parameters.length) = some 0 := ⟨by decide +kernel, by decide +kernel, by decide +kernel, by decide +kernel⟩
abbrev mX7_digest : zk_MI := (yX7_digest, cX7_digest, 5, (some FieldType.long))
set_option maxRecDepth 100000 in
theorem jcX7_digest : Cond.code yX7_digest cX7_digest 5 (some FieldType.long) ∈ zk_tg := zk_in 671 rfl rfl
theorem jiX7_digest : Cond.instanceMethod yX7_digest ∈ zk_tg := zk_in 669 (by decide +kernel) rfl
theorem jsX7_digest : Cond.selects yX7_digest.cls yX7_digest yX7_digest ∈ zk_tg := zk_in 670 (by decide +kernel) rfl
theorem jpX7_digest : plainName yX7_digest.cls = true ∧ yX7_digest.cls ≠ "java/lang/invoke/MethodHandle" ∧ yX7_digest.cls ≠ "java/lang/invoke/VarHandle" ∧ (parseMethodDescriptor yX7_digest.desc).map (fun d => d.parameters.length) = some 0 := ⟨by decide +kernel, by decide +kernel, by decide +kernel, by decide +kernel⟩
abbrev mX8_pass : zk_MI := (yX8_pass, cX8_pass, 7, (some FieldType.int))
set_option maxRecDepth 100000 in
theorem jcX8_pass : Cond.code yX8_pass cX8_pass 7 (some FieldType.int) ∈ zk_tg := zk_in 677 rfl rfl
theorem jiX8_pass : Cond.instanceMethod yX8_pass ∈ zk_tg := zk_in 675 (by decide +kernel) rfl
theorem jsX8_pass : Cond.selects yX8_pass.cls yX8_pass yX8_pass ∈ zk_tg := zk_in 676 (by decide +kernel) rfl
theorem jpX8_pass : plainName yX8_pass.cls = true ∧ yX8_pass.cls ≠ "java/lang/invoke/MethodHandle" ∧ yX8_pass.cls ≠ "java/lang/invoke/VarHandle" ∧ (parseMethodDescriptor yX8_pass.desc).map (fun d => d.parameters.length) = some 0 := ⟨by decide +kernel, by decide +kernel, by decide +kernel, by decide +kernel⟩
abbrev mX8_isOpen_ : zk_MI := (yX8_isOpen_, cX8_isOpen_, 2, (some FieldType.boolean))
set_option maxRecDepth 100000 in
theorem jcX8_isOpen_ : Cond.code yX8_isOpen_ cX8_isOpen_ 2 (some FieldType.boolean) ∈ zk_tg := zk_in 681 rfl rfl
theorem jiX8_isOpen_ : Cond.instanceMethod yX8_isOpen_ ∈ zk_tg := zk_in 679 (by decide +kernel) rfl
theorem jsX8_isOpen_ : Cond.selects yX8_isOpen_.cls yX8_isOpen_ yX8_isOpen_ ∈ zk_tg := zk_in 680 (by decide +kernel) rfl
theorem jpX8_isOpen_ : plainName yX8_isOpen_.cls = true ∧ yX8_isOpen_.cls ≠ "java/lang/invoke/MethodHandle" ∧ yX8_isOpen_.cls ≠ "java/lang/invoke/VarHandle" ∧ (parseMethodDescriptor yX8_isOpen_.desc).map (fun d => d.parameters.length) = some 1 := ⟨by decide +kernel, by decide +kernel, by decide +kernel, by decide +kernel⟩
abbrev mX8_isOpen : zk_MI := (yX8_isOpen, cX8_isOpen, 7, (some FieldType.boolean))
set_option maxRecDepth 100000 in
theorem jcX8_isOpen : Cond.code yX8_isOpen cX8_isOpen 7 (some FieldType.boolean) ∈ zk_tg := zk_in 685 rfl rfl
theorem jiX8_isOpen : Cond.instanceMethod yX8_isOpen ∈ zk_tg := zk_in 683 (by decide +kernel) rfl
theorem jsX8_isOpen : Cond.selects yX8_isOpen.cls yX8_isOpen yX8_isOpen ∈ zk_tg := zk_in 684 (by decide +kernel) rfl
theorem jpX8_isOpen : plainName yX8_isOpen.cls = true ∧ yX8_isOpen.cls ≠ "java/lang/invoke/MethodHandle" ∧ yX8_isOpen.cls ≠ "java/lang/invoke/VarHandle" ∧ (parseMethodDescriptor yX8_isOpen.desc).map (fun d => d.parameters.length) = some 2 := ⟨by decide +kernel, by decide +kernel, by decide +kernel, by decide +kernel⟩
abbrev mX8_hasSun : zk_MI := (yX8_hasSun, cX8_hasSun, 4, (some FieldType.boolean))
set_option maxRecDepth 100000 in
theorem jcX8_hasSun : Cond.code yX8_hasSun cX8_hasSun 4 (some FieldType.boolean) ∈ zk_tg := zk_in 689 rfl rfl
theorem jiX8_hasSun : Cond.instanceMethod yX8_hasSun ∈ zk_tg := zk_in 687 (by decide +kernel) rfl
theorem jsX8_hasSun : Cond.selects yX8_hasSun.cls yX8_hasSun yX8_hasSun ∈ zk_tg := zk_in 688 (by decide +kernel) rfl
theorem jpX8_hasSun : plainName yX8_hasSun.cls = true ∧ yX8_hasSun.cls ≠ "java/lang/invoke/MethodHandle" ∧ yX8_hasSun.cls ≠ "java/lang/invoke/VarHandle" ∧ (parseMethodDescriptor yX8_hasSun.desc).map (fun d => d.parameters.length) = some 2 := ⟨by decide +kernel, by decide +kernel, by decide +kernel, by decide +kernel⟩
abbrev mX8_breakOff : zk_MI := (yX8_breakOff, cX8_breakOff, 2, (none))
set_option maxRecDepth 100000 in
theorem jcX8_breakOff : Cond.code yX8_breakOff cX8_breakOff 2 (none) ∈ zk_tg := zk_in 693 rfl rfl
theorem jiX8_breakOff : Cond.instanceMethod yX8_breakOff ∈ zk_tg := zk_in 691 (by decide +kernel) rfl
theorem jsX8_breakOff : Cond.selects yX8_breakOff.cls yX8_breakOff yX8_breakOff ∈ zk_tg := zk_in 692 (by decide +kernel) rfl
theorem jpX8_breakOff : plainName yX8_breakOff.cls = true ∧ yX8_breakOff.cls ≠ "java/lang/invoke/MethodHandle" ∧ yX8_breakOff.cls ≠ "java/lang/invoke/VarHandle" ∧ (parseMethodDescriptor yX8_breakOff.desc).map (fun d => d.parameters.length) = some 1 := ⟨by decide +kernel, by decide +kernel, by decide +kernel, by decide +kernel⟩
abbrev mX8_ways : zk_MI := (yX8_ways, cX8_ways, 6, (some (FieldType.array (FieldType.array FieldType.int))))
set_option maxRecDepth 100000 in
theorem jcX8_ways : Cond.code yX8_ways cX8_ways 6 (some (FieldType.array (FieldType.array FieldType.int))) ∈ zk_tg := zk_in 697 rfl rfl
theorem jiX8_ways : Cond.instanceMethod yX8_ways ∈ zk_tg := zk_in 695 (by decide +kernel) rfl
theorem jsX8_ways : Cond.selects yX8_ways.cls yX8_ways yX8_ways ∈ zk_tg := zk_in 696 (by decide +kernel) rfl
theorem jpX8_ways : plainName yX8_ways.cls = true ∧ yX8_ways.cls ≠ "java/lang/invoke/MethodHandle" ∧ yX8_ways.cls ≠ "java/lang/invoke/VarHandle" ∧ (parseMethodDescriptor yX8_ways.desc).map (fun d => d.parameters.length) = some 0 := ⟨by decide +kernel, by decide +kernel, by decide +kernel, by decide +kernel⟩
abbrev mJ9_min_7cf53 : zk_MI := (yJ9_min_7cf53, cJ9_min_7cf53, 2, (some FieldType.int))
set_option maxRecDepth 100000 in
theorem jcJ9_min_7cf53 : Cond.code yJ9_min_7cf53 cJ9_min_7cf53 2 (some FieldType.int) ∈ zk_tg := zk_in 702 rfl rfl
theorem jiJ9_min_7cf53 : Cond.static yJ9_min_7cf53 ∈ zk_tg := zk_in 701 (by decide +kernel) rfl
abbrev mX8_isHeld : zk_MI := (yX8_isHeld, cX8_isHeld, 7, (some FieldType.boolean))
set_option maxRecDepth 100000 in
theorem jcX8_isHeld : Cond.code yX8_isHeld cX8_isHeld 7 (some FieldType.boolean) ∈ zk_tg := zk_in 706 rfl rfl
theorem jiX8_isHeld : Cond.instanceMethod yX8_isHeld ∈ zk_tg := zk_in 704 (by decide +kernel) rfl
theorem jsX8_isHeld : Cond.selects yX8_isHeld.cls yX8_isHeld yX8_isHeld ∈ zk_tg := zk_in 705 (by decide +kernel) rfl
theorem jpX8_isHeld : plainName yX8_isHeld.cls = true ∧ yX8_isHeld.cls ≠ "java/lang/invoke/MethodHandle" ∧ yX8_isHeld.cls ≠ "java/lang/invoke/VarHandle" ∧ (parseMethodDescriptor yX8_isHeld.desc).map (fun d => d.parameters.length) = some 1 := ⟨by decide +kernel, by decide +kernel, by decide +kernel, by decide +kernel⟩
abbrev mX8_holds : zk_MI := (yX8_holds, cX8_holds, 4, (some FieldType.boolean))
set_option maxRecDepth 100000 in
theorem jcX8_holds : Cond.code yX8_holds cX8_holds 4 (some FieldType.boolean) ∈ zk_tg := zk_in 710 rfl rfl
theorem jiX8_holds : Cond.instanceMethod yX8_holds ∈ zk_tg := zk_in 708 (by decide +kernel) rfl
theorem jsX8_holds : Cond.selects yX8_holds.cls yX8_holds yX8_holds ∈ zk_tg := zk_in 709 (by decide +kernel) rfl
theorem jpX8_holds : plainName yX8_holds.cls = true ∧ yX8_holds.cls ≠ "java/lang/invoke/MethodHandle" ∧ yX8_holds.cls ≠ "java/lang/invoke/VarHandle" ∧ (parseMethodDescriptor yX8_holds.desc).map (fun d => d.parameters.length) = some 1 := ⟨by decide +kernel, by decide +kernel, by decide +kernel, by decide +kernel⟩
abbrev mX8_queue : zk_MI := (yX8_queue, cX8_queue, 7, (some FieldType.int))
set_option maxRecDepth 100000 in
theorem jcX8_queue : Cond.code yX8_queue cX8_queue 7 (some FieldType.int) ∈ zk_tg := zk_in 714 rfl rfl
theorem jiX8_queue : Cond.instanceMethod yX8_queue ∈ zk_tg := zk_in 712 (by decide +kernel) rfl
theorem jsX8_queue : Cond.selects yX8_queue.cls yX8_queue yX8_queue ∈ zk_tg := zk_in 713 (by decide +kernel) rfl
theorem jpX8_queue : plainName yX8_queue.cls = true ∧ yX8_queue.cls ≠ "java/lang/invoke/MethodHandle" ∧ yX8_queue.cls ≠ "java/lang/invoke/VarHandle" ∧ (parseMethodDescriptor yX8_queue.desc).map (fun d => d.parameters.length) = some 1 := ⟨by decide +kernel, by decide +kernel, by decide +kernel, by decide +kernel⟩
abbrev mX8_busy : zk_MI := (yX8_busy, cX8_busy, 7, (some FieldType.int))
set_option maxRecDepth 100000 in
theorem jcX8_busy : Cond.code yX8_busy cX8_busy 7 (some FieldType.int) ∈ zk_tg := zk_in 718 rfl rfl
theorem jiX8_busy : Cond.instanceMethod yX8_busy ∈ zk_tg := zk_in 716 (by decide +kernel) rfl
theorem jsX8_busy : Cond.selects yX8_busy.cls yX8_busy yX8_busy ∈ zk_tg := zk_in 717 (by decide +kernel) rfl
theorem jpX8_busy : plainName yX8_busy.cls = true ∧ yX8_busy.cls ≠ "java/lang/invoke/MethodHandle" ∧ yX8_busy.cls ≠ "java/lang/invoke/VarHandle" ∧ (parseMethodDescriptor yX8_busy.desc).map (fun d => d.parameters.length) = some 1 := ⟨by decide +kernel, by decide +kernel, by decide +kernel, by decide +kernel⟩
abbrev mX8_first : zk_MI := (yX8_first, cX8_first, 7, (some FieldType.int))
set_option maxRecDepth 100000 in
theorem jcX8_first : Cond.code yX8_first cX8_first 7 (some FieldType.int) ∈ zk_tg := zk_in 722 rfl rfl
theorem jiX8_first : Cond.instanceMethod yX8_first ∈ zk_tg := zk_in 720 (by decide +kernel) rfl
theorem jsX8_first : Cond.selects yX8_first.cls yX8_first yX8_first ∈ zk_tg := zk_in 721 (by decide +kernel) rfl
theorem jpX8_first : plainName yX8_first.cls = true ∧ yX8_first.cls ≠ "java/lang/invoke/MethodHandle" ∧ yX8_first.cls ≠ "java/lang/invoke/VarHandle" ∧ (parseMethodDescriptor yX8_first.desc).map (fun d => d.parameters.length) = some 3 := ⟨by decide +kernel, by decide +kernel, by decide +kernel, by decide +kernel⟩
abbrev mX8_over : zk_MI := (yX8_over, cX8_over, 4, (some FieldType.int))
set_option maxRecDepth 100000 in
theorem jcX8_over : Cond.code yX8_over cX8_over 4 (some FieldType.int) ∈ zk_tg := zk_in 726 rfl rfl
theorem jiX8_over : Cond.instanceMethod yX8_over ∈ zk_tg := zk_in 724 (by decide +kernel) rfl
theorem jsX8_over : Cond.selects yX8_over.cls yX8_over yX8_over ∈ zk_tg := zk_in 725 (by decide +kernel) rfl
theorem jpX8_over : plainName yX8_over.cls = true ∧ yX8_over.cls ≠ "java/lang/invoke/MethodHandle" ∧ yX8_over.cls ≠ "java/lang/invoke/VarHandle" ∧ (parseMethodDescriptor yX8_over.desc).map (fun d => d.parameters.length) = some 1 := ⟨by decide +kernel, by decide +kernel, by decide +kernel, by decide +kernel⟩
abbrev mX8_isSame : zk_MI := (yX8_isSame, cX8_isSame, 10, (some FieldType.boolean))
set_option maxRecDepth 100000 in
theorem jcX8_isSame : Cond.code yX8_isSame cX8_isSame 10 (some FieldType.boolean) ∈ zk_tg := zk_in 730 rfl rfl
theorem jiX8_isSame : Cond.instanceMethod yX8_isSame ∈ zk_tg := zk_in 728 (by decide +kernel) rfl
theorem jsX8_isSame : Cond.selects yX8_isSame.cls yX8_isSame yX8_isSame ∈ zk_tg := zk_in 729 (by decide +kernel) rfl
theorem jpX8_isSame : plainName yX8_isSame.cls = true ∧ yX8_isSame.cls ≠ "java/lang/invoke/MethodHandle" ∧ yX8_isSame.cls ≠ "java/lang/invoke/VarHandle" ∧ (parseMethodDescriptor yX8_isSame.desc).map (fun d => d.parameters.length) = some 1 := ⟨by decide +kernel, by decide +kernel, by decide +kernel, by decide +kernel⟩
abbrev mX8_counts : zk_MI := (yX8_counts, cX8_counts, 6, (some (FieldType.array FieldType.int)))
set_option maxRecDepth 100000 in
theorem jcX8_counts : Cond.code yX8_counts cX8_counts 6 (some (FieldType.array FieldType.int)) ∈ zk_tg := zk_in 734 rfl rfl
theorem jiX8_counts : Cond.instanceMethod yX8_counts ∈ zk_tg := zk_in 732 (by decide +kernel) rfl
theorem jsX8_counts : Cond.selects yX8_counts.cls yX8_counts yX8_counts ∈ zk_tg := zk_in 733 (by decide +kernel) rfl
theorem jpX8_counts : plainName yX8_counts.cls = true ∧ yX8_counts.cls ≠ "java/lang/invoke/MethodHandle" ∧ yX8_counts.cls ≠ "java/lang/invoke/VarHandle" ∧ (parseMethodDescriptor yX8_counts.desc).map (fun d => d.parameters.length) = some 0 := ⟨by decide +kernel, by decide +kernel, by decide +kernel, by decide +kernel⟩
abbrev mL_below : zk_MI := (yL_below, cL_below, 2, (some FieldType.int))
set_option maxRecDepth 100000 in
theorem jcL_below : Cond.code yL_below cL_below 2 (some FieldType.int) ∈ zk_tg := zk_in 745 rfl rfl
theorem jiL_below : Cond.static yL_below ∈ zk_tg := zk_in 744 (by decide +kernel) rfl
theorem jpL_below : plainName yL_below.cls = true ∧ yL_below.cls ≠ "java/lang/invoke/MethodHandle" ∧ yL_below.cls ≠ "java/lang/invoke/VarHandle" ∧ (parseMethodDescriptor yL_below.desc).map (fun d => d.parameters.length) = some 2 := ⟨by decide +kernel, by decide +kernel, by decide +kernel, by decide +kernel⟩
abbrev mL_cell : zk_MI := (yL_cell, cL_cell, 2, (some FieldType.int))
set_option maxRecDepth 100000 in
theorem jcL_cell : Cond.code yL_cell cL_cell 2 (some FieldType.int) ∈ zk_tg := zk_in 749 rfl rfl
theorem jiL_cell : Cond.static yL_cell ∈ zk_tg := zk_in 748 (by decide +kernel) rfl
theorem jpL_cell : plainName yL_cell.cls = true ∧ yL_cell.cls ≠ "java/lang/invoke/MethodHandle" ∧ yL_cell.cls ≠ "java/lang/invoke/VarHandle" ∧ (parseMethodDescriptor yL_cell.desc).map (fun d => d.parameters.length) = some 2 := ⟨by decide +kernel, by decide +kernel, by decide +kernel, by decide +kernel⟩
abbrev mL_taught : zk_MI := (yL_taught, cL_taught, 6, (some FieldType.int))
set_option maxRecDepth 100000 in
theorem jcL_taught : Cond.code yL_taught cL_taught 6 (some FieldType.int) ∈ zk_tg := zk_in 753 rfl rfl
theorem jiL_taught : Cond.static yL_taught ∈ zk_tg := zk_in 752 (by decide +kernel) rfl
theorem jpL_taught : plainName yL_taught.cls = true ∧ yL_taught.cls ≠ "java/lang/invoke/MethodHandle" ∧ yL_taught.cls ≠ "java/lang/invoke/VarHandle" ∧ (parseMethodDescriptor yL_taught.desc).map (fun d => d.parameters.length) = some 2 := ⟨by decide +kernel, by decide +kernel, by decide +kernel, by decide +kernel⟩
abbrev mX7_trim : zk_MI := (yX7_trim, cX7_trim, 2, (some FieldType.int))
set_option maxRecDepth 100000 in
theorem jcX7_trim : Cond.code yX7_trim cX7_trim 2 (some FieldType.int) ∈ zk_tg := zk_in 757 rfl rfl
theorem jiX7_trim : Cond.instanceMethod yX7_trim ∈ zk_tg := zk_in 755 (by decide +kernel) rfl
theorem jsX7_trim : Cond.selects yX7_trim.cls yX7_trim yX7_trim ∈ zk_tg := zk_in 756 (by decide +kernel) rfl
theorem jpX7_trim : plainName yX7_trim.cls = true ∧ yX7_trim.cls ≠ "java/lang/invoke/MethodHandle" ∧ yX7_trim.cls ≠ "java/lang/invoke/VarHandle" ∧ (parseMethodDescriptor yX7_trim.desc).map (fun d => d.parameters.length) = some 1 := ⟨by decide +kernel, by decide +kernel, by decide +kernel, by decide +kernel⟩
abbrev mJ0_length_8abf5 : zk_MI := (yJ0_length_8abf5, cJ0_length_8abf5, 1, (some FieldType.int))
set_option maxRecDepth 100000 in
theorem jcJ0_length_8abf5 : Cond.code yJ0_length_8abf5 cJ0_length_8abf5 1 (some FieldType.int) ∈ zk_tg := zk_in 762 rfl rfl
theorem jiJ0_length_8abf5 : Cond.instanceMethod yJ0_length_8abf5 ∈ zk_tg := zk_in 760 (by decide +kernel) rfl
theorem jsJ0_length_8abf5 : Cond.selects yJ0_length_8abf5.cls yJ0_length_8abf5 yJ0_length_8abf5 ∈ zk_tg := zk_in 761 (by decide +kernel) rfl
theorem jpJ0_length_8abf5 : plainName yJ0_length_8abf5.cls = true ∧ yJ0_length_8abf5.cls ≠ "java/lang/invoke/MethodHandle" ∧ yJ0_length_8abf5.cls ≠ "java/lang/invoke/VarHandle" ∧ (parseMethodDescriptor yJ0_length_8abf5.desc).map (fun d => d.parameters.length) = some 0 := ⟨by decide +kernel, by decide +kernel, by decide +kernel, by decide +kernel⟩
abbrev mJ0_coder_7d493 : zk_MI := (yJ0_coder_7d493, cJ0_coder_7d493, 1, (some FieldType.byte))
set_option maxRecDepth 100000 in
theorem jcJ0_coder_7d493 : Cond.code yJ0_coder_7d493 cJ0_coder_7d493 1 (some FieldType.byte) ∈ zk_tg := zk_in 766 rfl rfl
theorem jiJ0_coder_7d493 : Cond.instanceMethod yJ0_coder_7d493 ∈ zk_tg := zk_in 764 (by decide +kernel) rfl
theorem jsJ0_coder_7d493 : Cond.selects yJ0_coder_7d493.cls yJ0_coder_7d493 yJ0_coder_7d493 ∈ zk_tg := zk_in 765 (by decide +kernel) rfl
theorem jpJ0_coder_7d493 : plainName yJ0_coder_7d493.cls = true ∧ yJ0_coder_7d493.cls ≠ "java/lang/invoke/MethodHandle" ∧ yJ0_coder_7d493.cls ≠ "java/lang/invoke/VarHandle" ∧ (parseMethodDescriptor yJ0_coder_7d493.desc).map (fun d => d.parameters.length) = some 0 := ⟨by decide +kernel, by decide +kernel, by decide +kernel, by decide +kernel⟩
abbrev mJ0_charAt_5068e : zk_MI := (yJ0_charAt_5068e, cJ0_charAt_5068e, 2, (some FieldType.char))
set_option maxRecDepth 100000 in
theorem jcJ0_charAt_5068e : Cond.code yJ0_charAt_5068e cJ0_charAt_5068e 2 (some FieldType.char) ∈ zk_tg := zk_in 772 rfl rfl
theorem jiJ0_charAt_5068e : Cond.instanceMethod yJ0_charAt_5068e ∈ zk_tg := zk_in 770 (by decide +kernel) rfl
theorem jsJ0_charAt_5068e : Cond.selects yJ0_charAt_5068e.cls yJ0_charAt_5068e yJ0_charAt_5068e ∈ zk_tg := zk_in 771 (by decide +kernel) rfl
theorem jpJ0_charAt_5068e : plainName yJ0_charAt_5068e.cls = true ∧ yJ0_charAt_5068e.cls ≠ "java/lang/invoke/MethodHandle" ∧ yJ0_charAt_5068e.cls ≠ "java/lang/invoke/VarHandle" ∧ (parseMethodDescriptor yJ0_charAt_5068e.desc).map (fun d => d.parameters.length) = some 1 := ⟨by decide +kernel, by decide +kernel, by decide +kernel, by decide +kernel⟩
abbrev mJ0_isLatin1_aae02 : zk_MI := (yJ0_isLatin1_aae02, cJ0_isLatin1_aae02, 1, (some FieldType.boolean))
set_option maxRecDepth 100000 in
theorem jcJ0_isLatin1_aae02 : Cond.code yJ0_isLatin1_aae02 cJ0_isLatin1_aae02 1 (some FieldType.boolean) ∈ zk_tg := zk_in 776 rfl rfl
theorem jiJ0_isLatin1_aae02 : Cond.instanceMethod yJ0_isLatin1_aae02 ∈ zk_tg := zk_in 774 (by decide +kernel) rfl
theorem jsJ0_isLatin1_aae02 : Cond.selects yJ0_isLatin1_aae02.cls yJ0_isLatin1_aae02 yJ0_isLatin1_aae02 ∈ zk_tg := zk_in 775 (by decide +kernel) rfl
theorem jpJ0_isLatin1_aae02 : plainName yJ0_isLatin1_aae02.cls = true ∧ yJ0_isLatin1_aae02.cls ≠ "java/lang/invoke/MethodHandle" ∧ yJ0_isLatin1_aae02.cls ≠ "java/lang/invoke/VarHandle" ∧ (parseMethodDescriptor yJ0_isLatin1_aae02.desc).map (fun d => d.parameters.length) = some 0 := ⟨by decide +kernel, by decide +kernel, by decide +kernel, by decide +kernel⟩
abbrev mJ1_charAt_3b067 : zk_MI := (yJ1_charAt_3b067, cJ1_charAt_3b067, 2, (some FieldType.char))
set_option maxRecDepth 100000 in
theorem jcJ1_charAt_3b067 : Cond.code yJ1_charAt_3b067 cJ1_charAt_3b067 2 (some FieldType.char) ∈ zk_tg := zk_in 779 rfl rfl
theorem jiJ1_charAt_3b067 : Cond.static yJ1_charAt_3b067 ∈ zk_tg := zk_in 778 (by decide +kernel) rfl
theorem jpJ1_charAt_3b067 : plainName yJ1_charAt_3b067.cls = true ∧ yJ1_charAt_3b067.cls ≠ "java/lang/invoke/MethodHandle" ∧ yJ1_charAt_3b067.cls ≠ "java/lang/invoke/VarHandle" ∧ (parseMethodDescriptor yJ1_charAt_3b067.desc).map (fun d => d.parameters.length) = some 2 := ⟨by decide +kernel, by decide +kernel, by decide +kernel, by decide +kernel⟩
abbrev mJ0_checkIndex_df160 : zk_MI := (yJ0_checkIndex_df160, cJ0_checkIndex_df160, 2, (none))
set_option maxRecDepth 100000 in
theorem jcJ0_checkIndex_df160 : Cond.code yJ0_checkIndex_df160 cJ0_checkIndex_df160 2 (none) ∈ zk_tg := zk_in 782 rfl rfl
theorem jiJ0_checkIndex_df160 : Cond.static yJ0_checkIndex_df160 ∈ zk_tg := zk_in 781 (by decide +kernel) rfl
theorem jpJ0_checkIndex_df160 : plainName yJ0_checkIndex_df160.cls = true ∧ yJ0_checkIndex_df160.cls ≠ "java/lang/invoke/MethodHandle" ∧ yJ0_checkIndex_df160.cls ≠ "java/lang/invoke/VarHandle" ∧ (parseMethodDescriptor yJ0_checkIndex_df160.desc).map (fun d => d.parameters.length) = some 2 := ⟨by decide +kernel, by decide +kernel, by decide +kernel, by decide +kernel⟩
abbrev mJ3_checkIndex_8e157 : zk_MI := (yJ3_checkIndex_8e157, cJ3_checkIndex_8e157, 3, (some FieldType.int))
set_option maxRecDepth 100000 in
theorem jcJ3_checkIndex_8e157 : Cond.code yJ3_checkIndex_8e157 cJ3_checkIndex_8e157 3 (some FieldType.int) ∈ zk_tg := zk_in 787 rfl rfl
theorem jiJ3_checkIndex_8e157 : Cond.static yJ3_checkIndex_8e157 ∈ zk_tg := zk_in 786 (by decide +kernel) rfl
theorem jpJ3_checkIndex_8e157 : plainName yJ3_checkIndex_8e157.cls = true ∧ yJ3_checkIndex_8e157.cls ≠ "java/lang/invoke/MethodHandle" ∧ yJ3_checkIndex_8e157.cls ≠ "java/lang/invoke/VarHandle" ∧ (parseMethodDescriptor yJ3_checkIndex_8e157.desc).map (fun d => d.parameters.length) = some 3 := ⟨by decide +kernel, by decide +kernel, by decide +kernel, by decide +kernel⟩
abbrev mJ2_charAt_3b067 : zk_MI := (yJ2_charAt_3b067, cJ2_charAt_3b067, 2, (some FieldType.char))
set_option maxRecDepth 100000 in
theorem jcJ2_charAt_3b067 : Cond.code yJ2_charAt_3b067 cJ2_charAt_3b067 2 (some FieldType.char) ∈ zk_tg := zk_in 790 rfl rfl
theorem jiJ2_charAt_3b067 : Cond.static yJ2_charAt_3b067 ∈ zk_tg := zk_in 789 (by decide +kernel) rfl
theorem jpJ2_charAt_3b067 : plainName yJ2_charAt_3b067.cls = true ∧ yJ2_charAt_3b067.cls ≠ "java/lang/invoke/MethodHandle" ∧ yJ2_charAt_3b067.cls ≠ "java/lang/invoke/VarHandle" ∧ (parseMethodDescriptor yJ2_charAt_3b067.desc).map (fun d => d.parameters.length) = some 2 := ⟨by decide +kernel, by decide +kernel, by decide +kernel, by decide +kernel⟩
abbrev mJ2_checkIndex_2214a : zk_MI := (yJ2_checkIndex_2214a, cJ2_checkIndex_2214a, 2, (none))
set_option maxRecDepth 100000 in
theorem jcJ2_checkIndex_2214a : Cond.code yJ2_checkIndex_2214a cJ2_checkIndex_2214a 2 (none) ∈ zk_tg := zk_in 793 rfl rfl
theorem jiJ2_checkIndex_2214a : Cond.static yJ2_checkIndex_2214a ∈ zk_tg := zk_in 792 (by decide +kernel) rfl
theorem jpJ2_checkIndex_2214a : plainName yJ2_checkIndex_2214a.cls = true ∧ yJ2_checkIndex_2214a.cls ≠ "java/lang/invoke/MethodHandle" ∧ yJ2_checkIndex_2214a.cls ≠ "java/lang/invoke/VarHandle" ∧ (parseMethodDescriptor yJ2_checkIndex_2214a.desc).map (fun d => d.parameters.length) = some 2 := ⟨by decide +kernel, by decide +kernel, by decide +kernel, by decide +kernel⟩
abbrev mJ2_length_9d52b : zk_MI := (yJ2_length_9d52b, cJ2_length_9d52b, 1, (some FieldType.int))
set_option maxRecDepth 100000 in
theorem jcJ2_length_9d52b : Cond.code yJ2_length_9d52b cJ2_length_9d52b 1 (some FieldType.int) ∈ zk_tg := zk_in 796 rfl rfl
theorem jiJ2_length_9d52b : Cond.static yJ2_length_9d52b ∈ zk_tg := zk_in 795 (by decide +kernel) rfl
theorem jpJ2_length_9d52b : plainName yJ2_length_9d52b.cls = true ∧ yJ2_length_9d52b.cls ≠ "java/lang/invoke/MethodHandle" ∧ yJ2_length_9d52b.cls ≠ "java/lang/invoke/VarHandle" ∧ (parseMethodDescriptor yJ2_length_9d52b.desc).map (fun d => d.parameters.length) = some 1 := ⟨by decide +kernel, by decide +kernel, by decide +kernel, by decide +kernel⟩
abbrev mJ2_getChar_3b067 : zk_MI := (yJ2_getChar_3b067, cJ2_getChar_3b067, 2, (some FieldType.char))
set_option maxRecDepth 100000 in
theorem jcJ2_getChar_3b067 : Cond.code yJ2_getChar_3b067 cJ2_getChar_3b067 2 (some FieldType.char) ∈ zk_tg := zk_in 800 rfl rfl
theorem jiJ2_getChar_3b067 : Cond.static yJ2_getChar_3b067 ∈ zk_tg := zk_in 799 (by decide +kernel) rfl
theorem jpJ2_getChar_3b067 : plainName yJ2_getChar_3b067.cls = true ∧ yJ2_getChar_3b067.cls ≠ "java/lang/invoke/MethodHandle" ∧ yJ2_getChar_3b067.cls ≠ "java/lang/invoke/VarHandle" ∧ (parseMethodDescriptor yJ2_getChar_3b067.desc).map (fun d => d.parameters.length) = some 2 := ⟨by decide +kernel, by decide +kernel, by decide +kernel, by decide +kernel⟩
abbrev mX7_feed : zk_MI := (yX7_feed, cX7_feed, 6, (some FieldType.int))
set_option maxRecDepth 100000 in
theorem jcX7_feed : Cond.code yX7_feed cX7_feed 6 (some FieldType.int) ∈ zk_tg := zk_in 810 rfl rfl
theorem jiX7_feed : Cond.instanceMethod yX7_feed ∈ zk_tg := zk_in 808 (by decide +kernel) rfl
theorem jsX7_feed : Cond.selects yX7_feed.cls yX7_feed yX7_feed ∈ zk_tg := zk_in 809 (by decide +kernel) rfl
theorem jpX7_feed : plainName yX7_feed.cls = true ∧ yX7_feed.cls ≠ "java/lang/invoke/MethodHandle" ∧ yX7_feed.cls ≠ "java/lang/invoke/VarHandle" ∧ (parseMethodDescriptor yX7_feed.desc).map (fun d => d.parameters.length) = some 5 := ⟨by decide +kernel, by decide +kernel, by decide +kernel, by decide +kernel⟩
abbrev mX5_append : zk_MI := (yX5_append, cX5_append, 3, (none))
set_option maxRecDepth 100000 in
theorem jcX5_append : Cond.code yX5_append cX5_append 3 (none) ∈ zk_tg := zk_in 830 rfl rfl
theorem jiX5_append : Cond.instanceMethod yX5_append ∈ zk_tg := zk_in 828 (by decide +kernel) rfl
theorem jsX5_append : Cond.selects yX5_append.cls yX5_append yX5_append ∈ zk_tg := zk_in 829 (by decide +kernel) rfl
theorem jpX5_append : plainName yX5_append.cls = true ∧ yX5_append.cls ≠ "java/lang/invoke/MethodHandle" ∧ yX5_append.cls ≠ "java/lang/invoke/VarHandle" ∧ (parseMethodDescriptor yX5_append.desc).map (fun d => d.parameters.length) = some 1 := ⟨by decide +kernel, by decide +kernel, by decide +kernel, by decide +kernel⟩
abbrev mX7_teach : zk_MI := (yX7_teach, cX7_teach, 3, (some FieldType.int))
set_option maxRecDepth 100000 in
theorem jcX7_teach : Cond.code yX7_teach cX7_teach 3 (some FieldType.int) ∈ zk_tg := zk_in 834 rfl rfl
theorem jiX7_teach : Cond.instanceMethod yX7_teach ∈ zk_tg := zk_in 832 (by decide +kernel) rfl
theorem jsX7_teach : Cond.selects yX7_teach.cls yX7_teach yX7_teach ∈ zk_tg := zk_in 833 (by decide +kernel) rfl
theorem jpX7_teach : plainName yX7_teach.cls = true ∧ yX7_teach.cls ≠ "java/lang/invoke/MethodHandle" ∧ yX7_teach.cls ≠ "java/lang/invoke/VarHandle" ∧ (parseMethodDescriptor yX7_teach.desc).map (fun d => d.parameters.length) = some 0 := ⟨by decide +kernel, by decide +kernel, by decide +kernel, by decide +kernel⟩
abbrev mX6_scan : zk_MI := (yX6_scan, cX6_scan, 4, (none))
set_option maxRecDepth 100000 in
theorem jcX6_scan : Cond.code yX6_scan cX6_scan 4 (none) ∈ zk_tg := zk_in 838 rfl rfl
theorem jiX6_scan : Cond.instanceMethod yX6_scan ∈ zk_tg := zk_in 836 (by decide +kernel) rfl
theorem jsX6_scan : Cond.selects yX6_scan.cls yX6_scan yX6_scan ∈ zk_tg := zk_in 837 (by decide +kernel) rfl
theorem jpX6_scan : plainName yX6_scan.cls = true ∧ yX6_scan.cls ≠ "java/lang/invoke/MethodHandle" ∧ yX6_scan.cls ≠ "java/lang/invoke/VarHandle" ∧ (parseMethodDescriptor yX6_scan.desc).map (fun d => d.parameters.length) = some 1 := ⟨by decide +kernel, by decide +kernel, by decide +kernel, by decide +kernel⟩
abbrev mX6_skipBlanks : zk_MI := (yX6_skipBlanks, cX6_skipBlanks, 2, (none))
set_option maxRecDepth 100000 in
theorem jcX6_skipBlanks : Cond.code yX6_skipBlanks cX6_skipBlanks 2 (none) ∈ zk_tg := zk_in 842 rfl rfl
theorem jiX6_skipBlanks : Cond.instanceMethod yX6_skipBlanks ∈ zk_tg := zk_in 841 (by decide +kernel) rfl
theorem jsX6_skipBlanks : Cond.selects yX6_skipBlanks.cls yX6_skipBlanks yX6_skipBlanks ∈ zk_tg := zk_sel (n := 7) 15 (by decide +kernel)
theorem jpX6_skipBlanks : plainName yX6_skipBlanks.cls = true ∧ yX6_skipBlanks.cls ≠ "java/lang/invoke/MethodHandle" ∧ yX6_skipBlanks.cls ≠ "java/lang/invoke/VarHandle" ∧ (parseMethodDescriptor yX6_skipBlanks.desc).map (fun d => d.parameters.length) = some 1 := ⟨by decide +kernel, by decide +kernel, by decide +kernel, by decide +kernel⟩
abbrev mX5_byteAt : zk_MI := (yX5_byteAt, cX5_byteAt, 2, (some FieldType.int))
set_option maxRecDepth 100000 in
theorem jcX5_byteAt : Cond.code yX5_byteAt cX5_byteAt 2 (some FieldType.int) ∈ zk_tg := zk_in 846 rfl rfl
theorem jiX5_byteAt : Cond.instanceMethod yX5_byteAt ∈ zk_tg := zk_in 844 (by decide +kernel) rfl
theorem jsX5_byteAt : Cond.selects yX5_byteAt.cls yX5_byteAt yX5_byteAt ∈ zk_tg := zk_in 845 (by decide +kernel) rfl
theorem jpX5_byteAt : plainName yX5_byteAt.cls = true ∧ yX5_byteAt.cls ≠ "java/lang/invoke/MethodHandle" ∧ yX5_byteAt.cls ≠ "java/lang/invoke/VarHandle" ∧ (parseMethodDescriptor yX5_byteAt.desc).map (fun d => d.parameters.length) = some 1 := ⟨by decide +kernel, by decide +kernel, by decide +kernel, by decide +kernel⟩
abbrev mX6_scanToken : zk_MI := (yX6_scanToken, cX6_scanToken, 5, (some FieldType.boolean))
set_option maxRecDepth 100000 in
theorem jcX6_scanToken : Cond.code yX6_scanToken cX6_scanToken 5 (some FieldType.boolean) ∈ zk_tg := zk_in 850 rfl rfl
theorem jiX6_scanToken : Cond.instanceMethod yX6_scanToken ∈ zk_tg := zk_in 849 (by decide +kernel) rfl
theorem jsX6_scanToken : Cond.selects yX6_scanToken.cls yX6_scanToken yX6_scanToken ∈ zk_tg := zk_sel (n := 7) 16 (by decide +kernel)
theorem jpX6_scanToken : plainName yX6_scanToken.cls = true ∧ yX6_scanToken.cls ≠ "java/lang/invoke/MethodHandle" ∧ yX6_scanToken.cls ≠ "java/lang/invoke/VarHandle" ∧ (parseMethodDescriptor yX6_scanToken.desc).map (fun d => d.parameters.length) = some 1 := ⟨by decide +kernel, by decide +kernel, by decide +kernel, by decide +kernel⟩
abbrev mX6_isLetter : zk_MI := (yX6_isLetter, cX6_isLetter, 1, (some FieldType.boolean))
set_option maxRecDepth 100000 in
theorem jcX6_isLetter : Cond.code yX6_isLetter cX6_isLetter 1 (some FieldType.boolean) ∈ zk_tg := zk_in 855 rfl rfl
theorem jiX6_isLetter : Cond.static yX6_isLetter ∈ zk_tg := zk_in 854 (by decide +kernel) rfl
theorem jpX6_isLetter : plainName yX6_isLetter.cls = true ∧ yX6_isLetter.cls ≠ "java/lang/invoke/MethodHandle" ∧ yX6_isLetter.cls ≠ "java/lang/invoke/VarHandle" ∧ (parseMethodDescriptor yX6_isLetter.desc).map (fun d => d.parameters.length) = some 1 := ⟨by decide +kernel, by decide +kernel, by decide +kernel, by decide +kernel⟩
abbrev mX6_scanWord : zk_MI := (yX6_scanWord, cX6_scanWord, 4, (some (FieldType.object "Heliographs$Kind")))
set_option maxRecDepth 100000 in
theorem jcX6_scanWord : Cond.code yX6_scanWord cX6_scanWord 4 (some (FieldType.object "Heliographs$Kind")) ∈ zk_tg := zk_in 859 rfl rfl
theorem jiX6_scanWord : Cond.instanceMethod yX6_scanWord ∈ zk_tg := zk_in 858 (by decide +kernel) rfl
theorem jsX6_scanWord : Cond.selects yX6_scanWord.cls yX6_scanWord yX6_scanWord ∈ zk_tg := zk_sel (n := 7) 17 (by decide +kernel)
theorem jpX6_scanWord : plainName yX6_scanWord.cls = true ∧ yX6_scanWord.cls ≠ "java/lang/invoke/MethodHandle" ∧ yX6_scanWord.cls ≠ "java/lang/invoke/VarHandle" ∧ (parseMethodDescriptor yX6_scanWord.desc).map (fun d => d.parameters.length) = some 1 := ⟨by decide +kernel, by decide +kernel, by decide +kernel, by decide +kernel⟩
abbrev mX6_isDigit : zk_MI := (yX6_isDigit, cX6_isDigit, 1, (some FieldType.boolean))
set_option maxRecDepth 100000 in
theorem jcX6_isDigit : Cond.code yX6_isDigit cX6_isDigit 1 (some FieldType.boolean) ∈ zk_tg := zk_in 862 rfl rfl
theorem jiX6_isDigit : Cond.static yX6_isDigit ∈ zk_tg := zk_in 861 (by decide +kernel) rfl
theorem jpX6_isDigit : plainName yX6_isDigit.cls = true ∧ yX6_isDigit.cls ≠ "java/lang/invoke/MethodHandle" ∧ yX6_isDigit.cls ≠ "java/lang/invoke/VarHandle" ∧ (parseMethodDescriptor yX6_isDigit.desc).map (fun d => d.parameters.length) = some 1 := ⟨by decide +kernel, by decide +kernel, by decide +kernel, by decide +kernel⟩
abbrev mX6_kindOf : zk_MI := (yX6_kindOf, cX6_kindOf, 4, (some (FieldType.object "Heliographs$Kind")))
set_option maxRecDepth 100000 in
theorem jcX6_kindOf : Cond.code yX6_kindOf cX6_kindOf 4 (some (FieldType.object "Heliographs$Kind")) ∈ zk_tg := zk_in 868 rfl rfl
theorem jiX6_kindOf : Cond.static yX6_kindOf ∈ zk_tg := zk_in 867 (by decide +kernel) rfl
theorem jpX6_kindOf : plainName yX6_kindOf.cls = true ∧ yX6_kindOf.cls ≠ "java/lang/invoke/MethodHandle" ∧ yX6_kindOf.cls ≠ "java/lang/invoke/VarHandle" ∧ (parseMethodDescriptor yX6_kindOf.desc).map (fun d => d.parameters.length) = some 3 := ⟨by decide +kernel, by decide +kernel, by decide +kernel, by decide +kernel⟩
abbrev mX5_reads : zk_MI := (yX5_reads, cX5_reads, 5, (some FieldType.boolean))
set_option maxRecDepth 100000 in
theorem jcX5_reads : Cond.code yX5_reads cX5_reads 5 (some FieldType.boolean) ∈ zk_tg := zk_in 874 rfl rfl
theorem jiX5_reads : Cond.instanceMethod yX5_reads ∈ zk_tg := zk_in 872 (by decide +kernel) rfl
theorem jsX5_reads : Cond.selects yX5_reads.cls yX5_reads yX5_reads ∈ zk_tg := zk_in 873 (by decide +kernel) rfl
theorem jpX5_reads : plainName yX5_reads.cls = true ∧ yX5_reads.cls ≠ "java/lang/invoke/MethodHandle" ∧ yX5_reads.cls ≠ "java/lang/invoke/VarHandle" ∧ (parseMethodDescriptor yX5_reads.desc).map (fun d => d.parameters.length) = some 3 := ⟨by decide +kernel, by decide +kernel, by decide +kernel, by decide +kernel⟩
abbrev mX6_scanNumber : zk_MI := (yX6_scanNumber, cX6_scanNumber, 3, (some (FieldType.object "Heliographs$Kind")))
set_option maxRecDepth 100000 in
theorem jcX6_scanNumber : Cond.code yX6_scanNumber cX6_scanNumber 3 (some (FieldType.object "Heliographs$Kind")) ∈ zk_tg := zk_in 883 rfl rfl
theorem jiX6_scanNumber : Cond.instanceMethod yX6_scanNumber ∈ zk_tg := zk_in 882 (by decide +kernel) rfl
theorem jsX6_scanNumber : Cond.selects yX6_scanNumber.cls yX6_scanNumber yX6_scanNumber ∈ zk_tg := zk_sel (n := 7) 18 (by decide +kernel)
theorem jpX6_scanNumber : plainName yX6_scanNumber.cls = true ∧ yX6_scanNumber.cls ≠ "java/lang/invoke/MethodHandle" ∧ yX6_scanNumber.cls ≠ "java/lang/invoke/VarHandle" ∧ (parseMethodDescriptor yX6_scanNumber.desc).map (fun d => d.parameters.length) = some 1 := ⟨by decide +kernel, by decide +kernel, by decide +kernel, by decide +kernel⟩
abbrev mX6_scanSymbol : zk_MI := (yX6_scanSymbol, cX6_scanSymbol, 5, (some (FieldType.object "Heliographs$Kind")))
set_option maxRecDepth 100000 in
theorem jcX6_scanSymbol : Cond.code yX6_scanSymbol cX6_scanSymbol 5 (some (FieldType.object "Heliographs$Kind")) ∈ zk_tg := zk_in 890 rfl rfl
theorem jiX6_scanSymbol : Cond.instanceMethod yX6_scanSymbol ∈ zk_tg := zk_in 889 (by decide +kernel) rfl
theorem jsX6_scanSymbol : Cond.selects yX6_scanSymbol.cls yX6_scanSymbol yX6_scanSymbol ∈ zk_tg := zk_sel (n := 7) 19 (by decide +kernel)
theorem jpX6_scanSymbol : plainName yX6_scanSymbol.cls = true ∧ yX6_scanSymbol.cls ≠ "java/lang/invoke/MethodHandle" ∧ yX6_scanSymbol.cls ≠ "java/lang/invoke/VarHandle" ∧ (parseMethodDescriptor yX6_scanSymbol.desc).map (fun d => d.parameters.length) = some 1 := ⟨by decide +kernel, by decide +kernel, by decide +kernel, by decide +kernel⟩
abbrev mX6_keep : zk_MI := (yX6_keep, cX6_keep, 3, (none))
set_option maxRecDepth 100000 in
theorem jcX6_keep : Cond.code yX6_keep cX6_keep 3 (none) ∈ zk_tg := zk_in 894 rfl rfl
theorem jiX6_keep : Cond.instanceMethod yX6_keep ∈ zk_tg := zk_in 893 (by decide +kernel) rfl
theorem jsX6_keep : Cond.selects yX6_keep.cls yX6_keep yX6_keep ∈ zk_tg := zk_sel (n := 7) 20 (by decide +kernel)
theorem jpX6_keep : plainName yX6_keep.cls = true ∧ yX6_keep.cls ≠ "java/lang/invoke/MethodHandle" ∧ yX6_keep.cls ≠ "java/lang/invoke/VarHandle" ∧ (parseMethodDescriptor yX6_keep.desc).map (fun d => d.parameters.length) = some 2 := ⟨by decide +kernel, by decide +kernel, by decide +kernel, by decide +kernel⟩
abbrev mX4_read : zk_MI := (yX4_read, cX4_read, 3, (some FieldType.int))
set_option maxRecDepth 100000 in
theorem jcX4_read : Cond.code yX4_read cX4_read 3 (some FieldType.int) ∈ zk_tg := zk_in 898 rfl rfl
theorem jiX4_read : Cond.instanceMethod yX4_read ∈ zk_tg := zk_in 896 (by decide +kernel) rfl
theorem jsX4_read : Cond.selects yX4_read.cls yX4_read yX4_read ∈ zk_tg := zk_in 897 (by decide +kernel) rfl
theorem jpX4_read : plainName yX4_read.cls = true ∧ yX4_read.cls ≠ "java/lang/invoke/MethodHandle" ∧ yX4_read.cls ≠ "java/lang/invoke/VarHandle" ∧ (parseMethodDescriptor yX4_read.desc).map (fun d => d.parameters.length) = some 1 := ⟨by decide +kernel, by decide +kernel, by decide +kernel, by decide +kernel⟩
abbrev mX3_clear : zk_MI := (yX3_clear, cX3_clear, 1, (none))
set_option maxRecDepth 100000 in
theorem jcX3_clear : Cond.code yX3_clear cX3_clear 1 (none) ∈ zk_tg := zk_in 902 rfl rfl
theorem jiX3_clear : Cond.instanceMethod yX3_clear ∈ zk_tg := zk_in 900 (by decide +kernel) rfl
theorem jsX3_clear : Cond.selects yX3_clear.cls yX3_clear yX3_clear ∈ zk_tg := zk_in 901 (by decide +kernel) rfl
theorem jpX3_clear : plainName yX3_clear.cls = true ∧ yX3_clear.cls ≠ "java/lang/invoke/MethodHandle" ∧ yX3_clear.cls ≠ "java/lang/invoke/VarHandle" ∧ (parseMethodDescriptor yX3_clear.desc).map (fun d => d.parameters.length) = some 0 := ⟨by decide +kernel, by decide +kernel, by decide +kernel, by decide +kernel⟩
abbrev mX2_clear : zk_MI := (yX2_clear, cX2_clear, 1, (none))
set_option maxRecDepth 100000 in
theorem jcX2_clear : Cond.code yX2_clear cX2_clear 1 (none) ∈ zk_tg := zk_in 906 rfl rfl
theorem jiX2_clear : Cond.instanceMethod yX2_clear ∈ zk_tg := zk_in 904 (by decide +kernel) rfl
theorem jsX2_clear : Cond.selects yX2_clear.cls yX2_clear yX2_clear ∈ zk_tg := zk_in 905 (by decide +kernel) rfl
theorem jpX2_clear : plainName yX2_clear.cls = true ∧ yX2_clear.cls ≠ "java/lang/invoke/MethodHandle" ∧ yX2_clear.cls ≠ "java/lang/invoke/VarHandle" ∧ (parseMethodDescriptor yX2_clear.desc).map (fun d => d.parameters.length) = some 0 := ⟨by decide +kernel, by decide +kernel, by decide +kernel, by decide +kernel⟩
abbrev mX6_kind : zk_MI := (yX6_kind, cX6_kind, 1, (some (FieldType.object "Heliographs$Kind")))
set_option maxRecDepth 100000 in
theorem jcX6_kind : Cond.code yX6_kind cX6_kind 1 (some (FieldType.object "Heliographs$Kind")) ∈ zk_tg := zk_in 910 rfl rfl
theorem jiX6_kind : Cond.instanceMethod yX6_kind ∈ zk_tg := zk_in 908 (by decide +kernel) rfl
theorem jsX6_kind : Cond.selects yX6_kind.cls yX6_kind yX6_kind ∈ zk_tg := zk_in 909 (by decide +kernel) rfl
theorem jpX6_kind : plainName yX6_kind.cls = true ∧ yX6_kind.cls ≠ "java/lang/invoke/MethodHandle" ∧ yX6_kind.cls ≠ "java/lang/invoke/VarHandle" ∧ (parseMethodDescriptor yX6_kind.desc).map (fun d => d.parameters.length) = some 0 := ⟨by decide +kernel, by decide +kernel, by decide +kernel, by decide +kernel⟩
abbrev mX4_accept : zk_MI := (yX4_accept, cX4_accept, 2, (some FieldType.boolean))
set_option maxRecDepth 100000 in
theorem jcX4_accept : Cond.code yX4_accept cX4_accept 2 (some FieldType.boolean) ∈ zk_tg := zk_in 917 rfl rfl
theorem jiX4_accept : Cond.instanceMethod yX4_accept ∈ zk_tg := zk_in 916 (by decide +kernel) rfl
theorem jsX4_accept : Cond.selects yX4_accept.cls yX4_accept yX4_accept ∈ zk_tg := zk_sel (n := 7) 21 (by decide +kernel)
theorem jpX4_accept : plainName yX4_accept.cls = true ∧ yX4_accept.cls ≠ "java/lang/invoke/MethodHandle" ∧ yX4_accept.cls ≠ "java/lang/invoke/VarHandle" ∧ (parseMethodDescriptor yX4_accept.desc).map (fun d => d.parameters.length) = some 1 := ⟨by decide +kernel, by decide +kernel, by decide +kernel, by decide +kernel⟩
abbrev mX6_advance : zk_MI := (yX6_advance, cX6_advance, 1, (none))
set_option maxRecDepth 100000 in
theorem jcX6_advance : Cond.code yX6_advance cX6_advance 1 (none) ∈ zk_tg := zk_in 921 rfl rfl
theorem jiX6_advance : Cond.instanceMethod yX6_advance ∈ zk_tg := zk_in 919 (by decide +kernel) rfl
theorem jsX6_advance : Cond.selects yX6_advance.cls yX6_advance yX6_advance ∈ zk_tg := zk_in 920 (by decide +kernel) rfl
theorem jpX6_advance : plainName yX6_advance.cls = true ∧ yX6_advance.cls ≠ "java/lang/invoke/MethodHandle" ∧ yX6_advance.cls ≠ "java/lang/invoke/VarHandle" ∧ (parseMethodDescriptor yX6_advance.desc).map (fun d => d.parameters.length) = some 0 := ⟨by decide +kernel, by decide +kernel, by decide +kernel, by decide +kernel⟩
abbrev mX4_readPeak : zk_MI := (yX4_readPeak, cX4_readPeak, 6, (none))
set_option maxRecDepth 100000 in
theorem jcX4_readPeak : Cond.code yX4_readPeak cX4_readPeak 6 (none) ∈ zk_tg := zk_in 925 rfl rfl
theorem jiX4_readPeak : Cond.instanceMethod yX4_readPeak ∈ zk_tg := zk_in 924 (by decide +kernel) rfl
theorem jsX4_readPeak : Cond.selects yX4_readPeak.cls yX4_readPeak yX4_readPeak ∈ zk_tg := zk_sel (n := 7) 22 (by decide +kernel)
theorem jpX4_readPeak : plainName yX4_readPeak.cls = true ∧ yX4_readPeak.cls ≠ "java/lang/invoke/MethodHandle" ∧ yX4_readPeak.cls ≠ "java/lang/invoke/VarHandle" ∧ (parseMethodDescriptor yX4_readPeak.desc).map (fun d => d.parameters.length) = some 0 := ⟨by decide +kernel, by decide +kernel, by decide +kernel, by decide +kernel⟩
abbrev mX4_newName : zk_MI := (yX4_newName, cX4_newName, 5, (some FieldType.long))
set_option maxRecDepth 100000 in
theorem jcX4_newName : Cond.code yX4_newName cX4_newName 5 (some FieldType.long) ∈ zk_tg := zk_in 929 rfl rfl
theorem jiX4_newName : Cond.instanceMethod yX4_newName ∈ zk_tg := zk_in 928 (by decide +kernel) rfl
theorem jsX4_newName : Cond.selects yX4_newName.cls yX4_newName yX4_newName ∈ zk_tg := zk_sel (n := 7) 23 (by decide +kernel)
theorem jpX4_newName : plainName yX4_newName.cls = true ∧ yX4_newName.cls ≠ "java/lang/invoke/MethodHandle" ∧ yX4_newName.cls ≠ "java/lang/invoke/VarHandle" ∧ (parseMethodDescriptor yX4_newName.desc).map (fun d => d.parameters.length) = some 2 := ⟨by decide +kernel, by decide +kernel, by decide +kernel, by decide +kernel⟩
abbrev mX4_fail : zk_MI := (yX4_fail, cX4_fail, 1, (none))
set_option maxRecDepth 100000 in
theorem jcX4_fail : Cond.code yX4_fail cX4_fail 1 (none) ∈ zk_tg := zk_in 934 rfl rfl
theorem jiX4_fail : Cond.instanceMethod yX4_fail ∈ zk_tg := zk_in 933 (by decide +kernel) rfl
theorem jsX4_fail : Cond.selects yX4_fail.cls yX4_fail yX4_fail ∈ zk_tg := zk_sel (n := 7) 24 (by decide +kernel)
theorem jpX4_fail : plainName yX4_fail.cls = true ∧ yX4_fail.cls ≠ "java/lang/invoke/MethodHandle" ∧ yX4_fail.cls ≠ "java/lang/invoke/VarHandle" ∧ (parseMethodDescriptor yX4_fail.desc).map (fun d => d.parameters.length) = some 0 := ⟨by decide +kernel, by decide +kernel, by decide +kernel, by decide +kernel⟩
abbrev mX6_start : zk_MI := (yX6_start, cX6_start, 1, (some FieldType.int))
set_option maxRecDepth 100000 in
theorem jcX6_start : Cond.code yX6_start cX6_start 1 (some FieldType.int) ∈ zk_tg := zk_in 938 rfl rfl
theorem jiX6_start : Cond.instanceMethod yX6_start ∈ zk_tg := zk_in 936 (by decide +kernel) rfl
theorem jsX6_start : Cond.selects yX6_start.cls yX6_start yX6_start ∈ zk_tg := zk_in 937 (by decide +kernel) rfl
theorem jpX6_start : plainName yX6_start.cls = true ∧ yX6_start.cls ≠ "java/lang/invoke/MethodHandle" ∧ yX6_start.cls ≠ "java/lang/invoke/VarHandle" ∧ (parseMethodDescriptor yX6_start.desc).map (fun d => d.parameters.length) = some 0 := ⟨by decide +kernel, by decide +kernel, by decide +kernel, by decide +kernel⟩
abbrev mX6_giveUp : zk_MI := (yX6_giveUp, cX6_giveUp, 1, (none))
set_option maxRecDepth 100000 in
theorem jcX6_giveUp : Cond.code yX6_giveUp cX6_giveUp 1 (none) ∈ zk_tg := zk_in 942 rfl rfl
theorem jiX6_giveUp : Cond.instanceMethod yX6_giveUp ∈ zk_tg := zk_in 940 (by decide +kernel) rfl
theorem jsX6_giveUp : Cond.selects yX6_giveUp.cls yX6_giveUp yX6_giveUp ∈ zk_tg := zk_in 941 (by decide +kernel) rfl
theorem jpX6_giveUp : plainName yX6_giveUp.cls = true ∧ yX6_giveUp.cls ≠ "java/lang/invoke/MethodHandle" ∧ yX6_giveUp.cls ≠ "java/lang/invoke/VarHandle" ∧ (parseMethodDescriptor yX6_giveUp.desc).map (fun d => d.parameters.length) = some 0 := ⟨by decide +kernel, by decide +kernel, by decide +kernel, by decide +kernel⟩
abbrev mX6_value : zk_MI := (yX6_value, cX6_value, 1, (some FieldType.long))
set_option maxRecDepth 100000 in
theorem jcX6_value : Cond.code yX6_value cX6_value 1 (some FieldType.long) ∈ zk_tg := zk_in 946 rfl rfl
theorem jiX6_value : Cond.instanceMethod yX6_value ∈ zk_tg := zk_in 944 (by decide +kernel) rfl
theorem jsX6_value : Cond.selects yX6_value.cls yX6_value yX6_value ∈ zk_tg := zk_in 945 (by decide +kernel) rfl
theorem jpX6_value : plainName yX6_value.cls = true ∧ yX6_value.cls ≠ "java/lang/invoke/MethodHandle" ∧ yX6_value.cls ≠ "java/lang/invoke/VarHandle" ∧ (parseMethodDescriptor yX6_value.desc).map (fun d => d.parameters.length) = some 0 := ⟨by decide +kernel, by decide +kernel, by decide +kernel, by decide +kernel⟩
abbrev mX4_find : zk_MI := (yX4_find, cX4_find, 5, (some FieldType.int))
set_option maxRecDepth 100000 in
theorem jcX4_find : Cond.code yX4_find cX4_find 5 (some FieldType.int) ∈ zk_tg := zk_in 949 rfl rfl
theorem jiX4_find : Cond.static yX4_find ∈ zk_tg := zk_in 948 (by decide +kernel) rfl
theorem jpX4_find : plainName yX4_find.cls = true ∧ yX4_find.cls ≠ "java/lang/invoke/MethodHandle" ∧ yX4_find.cls ≠ "java/lang/invoke/VarHandle" ∧ (parseMethodDescriptor yX4_find.desc).map (fun d => d.parameters.length) = some 3 := ⟨by decide +kernel, by decide +kernel, by decide +kernel, by decide +kernel⟩
abbrev mX4_complain : zk_MI := (yX4_complain, cX4_complain, 2, (none))
set_option maxRecDepth 100000 in
theorem jcX4_complain : Cond.code yX4_complain cX4_complain 2 (none) ∈ zk_tg := zk_in 953 rfl rfl
theorem jiX4_complain : Cond.instanceMethod yX4_complain ∈ zk_tg := zk_in 952 (by decide +kernel) rfl
theorem jsX4_complain : Cond.selects yX4_complain.cls yX4_complain yX4_complain ∈ zk_tg := zk_sel (n := 7) 25 (by decide +kernel)
theorem jpX4_complain : plainName yX4_complain.cls = true ∧ yX4_complain.cls ≠ "java/lang/invoke/MethodHandle" ∧ yX4_complain.cls ≠ "java/lang/invoke/VarHandle" ∧ (parseMethodDescriptor yX4_complain.desc).map (fun d => d.parameters.length) = some 1 := ⟨by decide +kernel, by decide +kernel, by decide +kernel, by decide +kernel⟩
abbrev mX4_expect : zk_MI := (yX4_expect, cX4_expect, 2, (none))
set_option maxRecDepth 100000 in
theorem jcX4_expect : Cond.code yX4_expect cX4_expect 2 (none) ∈ zk_tg := zk_in 959 rfl rfl
theorem jiX4_expect : Cond.instanceMethod yX4_expect ∈ zk_tg := zk_in 958 (by decide +kernel) rfl
theorem jsX4_expect : Cond.selects yX4_expect.cls yX4_expect yX4_expect ∈ zk_tg := zk_sel (n := 7) 26 (by decide +kernel)
theorem jpX4_expect : plainName yX4_expect.cls = true ∧ yX4_expect.cls ≠ "java/lang/invoke/MethodHandle" ∧ yX4_expect.cls ≠ "java/lang/invoke/VarHandle" ∧ (parseMethodDescriptor yX4_expect.desc).map (fun d => d.parameters.length) = some 1 := ⟨by decide +kernel, by decide +kernel, by decide +kernel, by decide +kernel⟩
abbrev mX4_number : zk_MI := (yX4_number, cX4_number, 4, (some FieldType.int))
set_option maxRecDepth 100000 in
theorem jcX4_number : Cond.code yX4_number cX4_number 4 (some FieldType.int) ∈ zk_tg := zk_in 965 rfl rfl
theorem jiX4_number : Cond.instanceMethod yX4_number ∈ zk_tg := zk_in 964 (by decide +kernel) rfl
theorem jsX4_number : Cond.selects yX4_number.cls yX4_number yX4_number ∈ zk_tg := zk_sel (n := 7) 27 (by decide +kernel)
theorem jpX4_number : plainName yX4_number.cls = true ∧ yX4_number.cls ≠ "java/lang/invoke/MethodHandle" ∧ yX4_number.cls ≠ "java/lang/invoke/VarHandle" ∧ (parseMethodDescriptor yX4_number.desc).map (fun d => d.parameters.length) = some 2 := ⟨by decide +kernel, by decide +kernel, by decide +kernel, by decide +kernel⟩
abbrev mX3_addPeak : zk_MI := (yX3_addPeak, cX3_addPeak, 4, (none))
set_option maxRecDepth 100000 in
theorem jcX3_addPeak : Cond.code yX3_addPeak cX3_addPeak 4 (none) ∈ zk_tg := zk_in 974 rfl rfl
theorem jiX3_addPeak : Cond.instanceMethod yX3_addPeak ∈ zk_tg := zk_in 972 (by decide +kernel) rfl
theorem jsX3_addPeak : Cond.selects yX3_addPeak.cls yX3_addPeak yX3_addPeak ∈ zk_tg := zk_in 973 (by decide +kernel) rfl
theorem jpX3_addPeak : plainName yX3_addPeak.cls = true ∧ yX3_addPeak.cls ≠ "java/lang/invoke/MethodHandle" ∧ yX3_addPeak.cls ≠ "java/lang/invoke/VarHandle" ∧ (parseMethodDescriptor yX3_addPeak.desc).map (fun d => d.parameters.length) = some 3 := ⟨by decide +kernel, by decide +kernel, by decide +kernel, by decide +kernel⟩
abbrev mX4_readPass : zk_MI := (yX4_readPass, cX4_readPass, 6, (none))
set_option maxRecDepth 100000 in
theorem jcX4_readPass : Cond.code yX4_readPass cX4_readPass 6 (none) ∈ zk_tg := zk_in 980 rfl rfl
theorem jiX4_readPass : Cond.instanceMethod yX4_readPass ∈ zk_tg := zk_in 979 (by decide +kernel) rfl
theorem jsX4_readPass : Cond.selects yX4_readPass.cls yX4_readPass yX4_readPass ∈ zk_tg := zk_sel (n := 7) 28 (by decide +kernel)
theorem jpX4_readPass : plainName yX4_readPass.cls = true ∧ yX4_readPass.cls ≠ "java/lang/invoke/MethodHandle" ∧ yX4_readPass.cls ≠ "java/lang/invoke/VarHandle" ∧ (parseMethodDescriptor yX4_readPass.desc).map (fun d => d.parameters.length) = some 0 := ⟨by decide +kernel, by decide +kernel, by decide +kernel, by decide +kernel⟩
abbrev mX4_oldName : zk_MI := (yX4_oldName, cX4_oldName, 4, (some FieldType.int))
set_option maxRecDepth 100000 in
theorem jcX4_oldName : Cond.code yX4_oldName cX4_oldName 4 (some FieldType.int) ∈ zk_tg := zk_in 986 rfl rfl
theorem jiX4_oldName : Cond.instanceMethod yX4_oldName ∈ zk_tg := zk_in 985 (by decide +kernel) rfl
theorem jsX4_oldName : Cond.selects yX4_oldName.cls yX4_oldName yX4_oldName ∈ zk_tg := zk_sel (n := 7) 29 (by decide +kernel)
theorem jpX4_oldName : plainName yX4_oldName.cls = true ∧ yX4_oldName.cls ≠ "java/lang/invoke/MethodHandle" ∧ yX4_oldName.cls ≠ "java/lang/invoke/VarHandle" ∧ (parseMethodDescriptor yX4_oldName.desc).map (fun d => d.parameters.length) = some 2 := ⟨by decide +kernel, by decide +kernel, by decide +kernel, by decide +kernel⟩
abbrev mX4_otherPeak : zk_MI := (yX4_otherPeak, cX4_otherPeak, 3, (some FieldType.int))
set_option maxRecDepth 100000 in
theorem jcX4_otherPeak : Cond.code yX4_otherPeak cX4_otherPeak 3 (some FieldType.int) ∈ zk_tg := zk_in 992 rfl rfl
theorem jiX4_otherPeak : Cond.instanceMethod yX4_otherPeak ∈ zk_tg := zk_in 991 (by decide +kernel) rfl
theorem jsX4_otherPeak : Cond.selects yX4_otherPeak.cls yX4_otherPeak yX4_otherPeak ∈ zk_tg := zk_sel (n := 7) 30 (by decide +kernel)
theorem jpX4_otherPeak : plainName yX4_otherPeak.cls = true ∧ yX4_otherPeak.cls ≠ "java/lang/invoke/MethodHandle" ∧ yX4_otherPeak.cls ≠ "java/lang/invoke/VarHandle" ∧ (parseMethodDescriptor yX4_otherPeak.desc).map (fun d => d.parameters.length) = some 1 := ⟨by decide +kernel, by decide +kernel, by decide +kernel, by decide +kernel⟩
abbrev mX3_addPass : zk_MI := (yX3_addPass, cX3_addPass, 4, (none))
set_option maxRecDepth 100000 in
theorem jcX3_addPass : Cond.code yX3_addPass cX3_addPass 4 (none) ∈ zk_tg := zk_in 998 rfl rfl
theorem jiX3_addPass : Cond.instanceMethod yX3_addPass ∈ zk_tg := zk_in 996 (by decide +kernel) rfl
theorem jsX3_addPass : Cond.selects yX3_addPass.cls yX3_addPass yX3_addPass ∈ zk_tg := zk_in 997 (by decide +kernel) rfl
theorem jpX3_addPass : plainName yX3_addPass.cls = true ∧ yX3_addPass.cls ≠ "java/lang/invoke/MethodHandle" ∧ yX3_addPass.cls ≠ "java/lang/invoke/VarHandle" ∧ (parseMethodDescriptor yX3_addPass.desc).map (fun d => d.parameters.length) = some 3 := ⟨by decide +kernel, by decide +kernel, by decide +kernel, by decide +kernel⟩
abbrev mX4_readCloud : zk_MI := (yX4_readCloud, cX4_readCloud, 5, (none))
set_option maxRecDepth 100000 in
theorem jcX4_readCloud : Cond.code yX4_readCloud cX4_readCloud 5 (none) ∈ zk_tg := zk_in 1004 rfl rfl
theorem jiX4_readCloud : Cond.instanceMethod yX4_readCloud ∈ zk_tg := zk_in 1003 (by decide +kernel) rfl
theorem jsX4_readCloud : Cond.selects yX4_readCloud.cls yX4_readCloud yX4_readCloud ∈ zk_tg := zk_sel (n := 7) 31 (by decide +kernel)
theorem jpX4_readCloud : plainName yX4_readCloud.cls = true ∧ yX4_readCloud.cls ≠ "java/lang/invoke/MethodHandle" ∧ yX4_readCloud.cls ≠ "java/lang/invoke/VarHandle" ∧ (parseMethodDescriptor yX4_readCloud.desc).map (fun d => d.parameters.length) = some 0 := ⟨by decide +kernel, by decide +kernel, by decide +kernel, by decide +kernel⟩
abbrev mX3_addCloud : zk_MI := (yX3_addCloud, cX3_addCloud, 5, (none))
set_option maxRecDepth 100000 in
theorem jcX3_addCloud : Cond.code yX3_addCloud cX3_addCloud 5 (none) ∈ zk_tg := zk_in 1014 rfl rfl
theorem jiX3_addCloud : Cond.instanceMethod yX3_addCloud ∈ zk_tg := zk_in 1012 (by decide +kernel) rfl
theorem jsX3_addCloud : Cond.selects yX3_addCloud.cls yX3_addCloud yX3_addCloud ∈ zk_tg := zk_in 1013 (by decide +kernel) rfl
theorem jpX3_addCloud : plainName yX3_addCloud.cls = true ∧ yX3_addCloud.cls ≠ "java/lang/invoke/MethodHandle" ∧ yX3_addCloud.cls ≠ "java/lang/invoke/VarHandle" ∧ (parseMethodDescriptor yX3_addCloud.desc).map (fun d => d.parameters.length) = some 4 := ⟨by decide +kernel, by decide +kernel, by decide +kernel, by decide +kernel⟩
abbrev mX4_readMessage : zk_MI := (yX4_readMessage, cX4_readMessage, 7, (none))
set_option maxRecDepth 100000 in
theorem jcX4_readMessage : Cond.code yX4_readMessage cX4_readMessage 7 (none) ∈ zk_tg := zk_in 1020 rfl rfl
theorem jiX4_readMessage : Cond.instanceMethod yX4_readMessage ∈ zk_tg := zk_in 1019 (by decide +kernel) rfl
theorem jsX4_readMessage : Cond.selects yX4_readMessage.cls yX4_readMessage yX4_readMessage ∈ zk_tg := zk_sel (n := 7) 32 (by decide +kernel)
theorem jpX4_readMessage : plainName yX4_readMessage.cls = true ∧ yX4_readMessage.cls ≠ "java/lang/invoke/MethodHandle" ∧ yX4_readMessage.cls ≠ "java/lang/invoke/VarHandle" ∧ (parseMethodDescriptor yX4_readMessage.desc).map (fun d => d.parameters.length) = some 0 := ⟨by decide +kernel, by decide +kernel, by decide +kernel, by decide +kernel⟩
abbrev mX3_addMessage : zk_MI := (yX3_addMessage, cX3_addMessage, 5, (none))
set_option maxRecDepth 100000 in
theorem jcX3_addMessage : Cond.code yX3_addMessage cX3_addMessage 5 (none) ∈ zk_tg := zk_in 1030 rfl rfl
theorem jiX3_addMessage : Cond.instanceMethod yX3_addMessage ∈ zk_tg := zk_in 1028 (by decide +kernel) rfl
theorem jsX3_addMessage : Cond.selects yX3_addMessage.cls yX3_addMessage yX3_addMessage ∈ zk_tg := zk_in 1029 (by decide +kernel) rfl
theorem jpX3_addMessage : plainName yX3_addMessage.cls = true ∧ yX3_addMessage.cls ≠ "java/lang/invoke/MethodHandle" ∧ yX3_addMessage.cls ≠ "java/lang/invoke/VarHandle" ∧ (parseMethodDescriptor yX3_addMessage.desc).map (fun d => d.parameters.length) = some 4 := ⟨by decide +kernel, by decide +kernel, by decide +kernel, by decide +kernel⟩
abbrev mX4_readHold : zk_MI := (yX4_readHold, cX4_readHold, 2, (none))
set_option maxRecDepth 100000 in
theorem jcX4_readHold : Cond.code yX4_readHold cX4_readHold 2 (none) ∈ zk_tg := zk_in 1036 rfl rfl
theorem jiX4_readHold : Cond.instanceMethod yX4_readHold ∈ zk_tg := zk_in 1035 (by decide +kernel) rfl

theorem dX4_goDeeper_7 : decode cX4_goDeeper 7 = .ok (.aload_n 1, 1) := by decide +kernel
theorem dX4_goDeeper_8 : decode cX4_goDeeper 8 = .ok (.invokevirtual 56, 3) := by decide +kernel
theorem dX4_goDeeper_11 : decode cX4_goDeeper 11 = .ok (.ifCond .eq 5, 3) := by decide +kernel
theorem dX4_goDeeper_14 : decode cX4_goDeeper 14 = .ok (.iconst 1, 1) := by decide +kernel
theorem dX4_goDeeper_15 : decode cX4_goDeeper 15 = .ok (.ireturn, 1) := by decide +kernel
theorem dX4_goDeeper_16 : decode cX4_goDeeper 16 = .ok (.aload_n 0, 1) := by decide +kernel
theorem dX4_goDeeper_17 : decode cX4_goDeeper 17 = .ok (.invokevirtual 87, 3) := by decide +kernel
theorem dX4_goDeeper_20 : decode cX4_goDeeper 20 = .ok (.iconst 0, 1) := by decide +kernel
theorem dX4_goDeeper_21 : decode cX4_goDeeper 21 = .ok (.ireturn, 1) := by decide +kernel
theorem dX4_newName_0 : decode cX4_newName 0 = .ok (.aload_n 0, 1) := by decide +kernel
theorem dX4_newName_1 : decode cX4_newName 1 = .ok (.getfield 21, 3) := by decide +kernel
theorem dX4_newName_4 : decode cX4_newName 4 = .ok (.invokevirtual 41, 3) := by decide +kernel
theorem dX4_newName_7 : decode cX4_newName 7 = .ok (.getstatic 312, 3) := by decide +kernel
theorem dX4_newName_10 : decode cX4_newName 10 = .ok (.if_acmp .eq 9, 3) := by decide +kernel
theorem dX4_newName_13 : decode cX4_newName 13 = .ok (.aload_n 0, 1) := by decide +kernel
theorem dX4_newName_14 : decode cX4_newName 14 = .ok (.invokevirtual 87, 3) := by decide +kernel
theorem dX4_newName_17 : decode cX4_newName 17 = .ok (.lconst 0, 1) := by decide +kernel
theorem dX4_newName_18 : decode cX4_newName 18 = .ok (.lreturn, 1) := by decide +kernel
theorem dX4_newName_19 : decode cX4_newName 19 = .ok (.aload_n 0, 1) := by decide +kernel
theorem dX4_newName_20 : decode cX4_newName 20 = .ok (.getfield 21, 3) := by decide +kernel
theorem dX4_newName_23 : decode cX4_newName 23 = .ok (.invokevirtual 278, 3) := by decide +kernel
theorem dX4_newName_26 : decode cX4_newName 26 = .ok (.lstore_n 3, 1) := by decide +kernel
theorem dX4_newName_27 : decode cX4_newName 27 = .ok (.aload_n 1, 1) := by decide +kernel
theorem dX4_newName_28 : decode cX4_newName 28 = .ok (.iload_n 2, 1) := by decide +kernel
theorem dX4_newName_29 : decode cX4_newName 29 = .ok (.lload_n 3, 1) := by decide +kernel
theorem dX4_newName_30 : decode cX4_newName 30 = .ok (.invokestatic 315, 3) := by decide +kernel
theorem dX4_newName_33 : decode cX4_newName 33 = .ok (.ifCond .lt 11, 3) := by decide +kernel
theorem dX4_newName_36 : decode cX4_newName 36 = .ok (.aload_n 0, 1) := by decide +kernel
theorem dX4_newName_37 : decode cX4_newName 37 = .ok (.iconst 2, 1) := by decide +kernel
theorem dX4_newName_38 : decode cX4_newName 38 = .ok (.invokevirtual 150, 3) := by decide +kernel
theorem dX4_newName_41 : decode cX4_newName 41 = .ok (.goto 14, 3) := by decide +kernel
theorem dX4_newName_44 : decode cX4_newName 44 = .ok (.iload_n 2, 1) := by decide +kernel
theorem dX4_newName_45 : decode cX4_newName 45 = .ok (.aload_n 1, 1) := by decide +kernel
theorem dX4_newName_46 : decode cX4_newName 46 = .ok (.arraylength, 1) := by decide +kernel
theorem dX4_newName_47 : decode cX4_newName 47 = .ok (.if_icmp .lt 8, 3) := by decide +kernel
theorem dX4_newName_50 : decode cX4_newName 50 = .ok (.aload_n 0, 1) := by decide +kernel
theorem dX4_newName_51 : decode cX4_newName 51 = .ok (.iconst 4, 1) := by decide +kernel
theorem dX4_newName_52 : decode cX4_newName 52 = .ok (.invokevirtual 150, 3) := by decide +kernel
theorem dX4_newName_55 : decode cX4_newName 55 = .ok (.aload_n 0, 1) := by decide +kernel
theorem dX4_newName_56 : decode cX4_newName 56 = .ok (.getfield 21, 3) := by decide +kernel
theorem dX4_newName_59 : decode cX4_newName 59 = .ok (.invokevirtual 239, 3) := by decide +kernel
theorem dX4_newName_62 : decode cX4_newName 62 = .ok (.lload_n 3, 1) := by decide +kernel
theorem dX4_newName_63 : decode cX4_newName 63 = .ok (.lreturn, 1) := by decide +kernel
theorem dX4_oldName_0 : decode cX4_oldName 0 = .ok (.aload_n 0, 1) := by decide +kernel
theorem dX4_oldName_1 : decode cX4_oldName 1 = .ok (.getfield 21, 3) := by decide +kernel
theorem dX4_oldName_4 : decode cX4_oldName 4 = .ok (.invokevirtual 41, 3) := by decide +kernel
theorem dX4_oldName_7 : decode cX4_oldName 7 = .ok (.getstatic 312, 3) := by decide +kernel
theorem dX4_oldName_10 : decode cX4_oldName 10 = .ok (.if_acmp .eq 9, 3) := by decide +kernel
theorem dX4_oldName_13 : decode cX4_oldName 13 = .ok (.aload_n 0, 1) := by decide +kernel
theorem dX4_oldName_14 : decode cX4_oldName 14 = .ok (.invokevirtual 87, 3) := by decide +kernel
theorem dX4_oldName_17 : decode cX4_oldName 17 = .ok (.iconst (-1), 1) := by decide +kernel
theorem dX4_oldName_18 : decode cX4_oldName 18 = .ok (.ireturn, 1) := by decide +kernel
theorem dX4_oldName_19 : decode cX4_oldName 19 = .ok (.aload_n 1, 1) := by decide +kernel
theorem dX4_oldName_20 : decode cX4_oldName 20 = .ok (.iload_n 2, 1) := by decide +kernel
theorem dX4_oldName_21 : decode cX4_oldName 21 = .ok (.aload_n 0, 1) := by decide +kernel
theorem dX4_oldName_22 : decode cX4_oldName 22 = .ok (.getfield 21, 3) := by decide +kernel
theorem dX4_oldName_25 : decode cX4_oldName 25 = .ok (.invokevirtual 278, 3) := by decide +kernel
theorem dX4_oldName_28 : decode cX4_oldName 28 = .ok (.invokestatic 315, 3) := by decide +kernel
theorem dX4_oldName_31 : decode cX4_oldName 31 = .ok (.istore_n 3, 1) := by decide +kernel
theorem dX4_oldName_32 : decode cX4_oldName 32 = .ok (.iload_n 3, 1) := by decide +kernel
theorem dX4_oldName_33 : decode cX4_oldName 33 = .ok (.ifCond .ge 8, 3) := by decide +kernel
theorem dX4_oldName_36 : decode cX4_oldName 36 = .ok (.aload_n 0, 1) := by decide +kernel
theorem dX4_oldName_37 : decode cX4_oldName 37 = .ok (.iconst 3, 1) := by decide +kernel
theorem dX4_oldName_38 : decode cX4_oldName 38 = .ok (.invokevirtual 150, 3) := by decide +kernel
theorem dX4_oldName_41 : decode cX4_oldName 41 = .ok (.aload_n 0, 1) := by decide +kernel
theorem dX4_oldName_42 : decode cX4_oldName 42 = .ok (.getfield 21, 3) := by decide +kernel
theorem dX4_oldName_45 : decode cX4_oldName 45 = .ok (.invokevirtual 239, 3) := by decide +kernel
theorem dX4_oldName_48 : decode cX4_oldName 48 = .ok (.iload_n 3, 1) := by decide +kernel
theorem dX4_oldName_49 : decode cX4_oldName 49 = .ok (.ireturn, 1) := by decide +kernel
theorem dX4_otherPeak_0 : decode cX4_otherPeak 0 = .ok (.aload_n 0, 1) := by decide +kernel
theorem dX4_otherPeak_1 : decode cX4_otherPeak 1 = .ok (.getfield 21, 3) := by decide +kernel
theorem dX4_otherPeak_4 : decode cX4_otherPeak 4 = .ok (.invokevirtual 41, 3) := by decide +kernel
theorem dX4_otherPeak_7 : decode cX4_otherPeak 7 = .ok (.getstatic 312, 3) := by decide +kernel
theorem dX4_otherPeak_10 : decode cX4_otherPeak 10 = .ok (.if_acmp .ne 7, 3) := by decide +kernel
theorem dX4_otherPeak_13 : decode cX4_otherPeak 13 = .ok (.iconst 1, 1) := by decide +kernel
theorem dX4_otherPeak_14 : decode cX4_otherPeak 14 = .ok (.goto 4, 3) := by decide +kernel
theorem dX4_otherPeak_17 : decode cX4_otherPeak 17 = .ok (.iconst 0, 1) := by decide +kernel
theorem dX4_otherPeak_18 : decode cX4_otherPeak 18 = .ok (.istore_n 2, 1) := by decide +kernel
theorem dX4_otherPeak_19 : decode cX4_otherPeak 19 = .ok (.iload_n 2, 1) := by decide +kernel
theorem dX4_otherPeak_20 : decode cX4_otherPeak 20 = .ok (.ifCond .eq 37, 3) := by decide +kernel
theorem dX4_otherPeak_23 : decode cX4_otherPeak 23 = .ok (.iload_n 1, 1) := by decide +kernel
theorem dX4_otherPeak_24 : decode cX4_otherPeak 24 = .ok (.ifCond .lt 33, 3) := by decide +kernel
theorem dX4_otherPeak_27 : decode cX4_otherPeak 27 = .ok (.aload_n 0, 1) := by decide +kernel
theorem dX4_otherPeak_28 : decode cX4_otherPeak 28 = .ok (.getfield 9, 3) := by decide +kernel
theorem dX4_otherPeak_31 : decode cX4_otherPeak 31 = .ok (.aload_n 0, 1) := by decide +kernel
theorem dX4_otherPeak_32 : decode cX4_otherPeak 32 = .ok (.getfield 25, 3) := by decide +kernel
theorem dX4_otherPeak_35 : decode cX4_otherPeak 35 = .ok (.getfield 97, 3) := by decide +kernel
theorem dX4_otherPeak_38 : decode cX4_otherPeak 38 = .ok (.aload_n 0, 1) := by decide +kernel
theorem dX4_otherPeak_39 : decode cX4_otherPeak 39 = .ok (.getfield 21, 3) := by decide +kernel
theorem dX4_otherPeak_42 : decode cX4_otherPeak 42 = .ok (.invokevirtual 278, 3) := by decide +kernel
theorem dX4_otherPeak_45 : decode cX4_otherPeak 45 = .ok (.invokestatic 315, 3) := by decide +kernel
theorem dX4_otherPeak_48 : decode cX4_otherPeak 48 = .ok (.iload_n 1, 1) := by decide +kernel
theorem dX4_otherPeak_49 : decode cX4_otherPeak 49 = .ok (.if_icmp .ne 8, 3) := by decide +kernel
theorem dX4_otherPeak_52 : decode cX4_otherPeak 52 = .ok (.aload_n 0, 1) := by decide +kernel
theorem dX4_otherPeak_53 : decode cX4_otherPeak 53 = .ok (.iconst 5, 1) := by decide +kernel
theorem dX4_otherPeak_54 : decode cX4_otherPeak 54 = .ok (.invokevirtual 150, 3) := by decide +kernel
theorem dX4_otherPeak_57 : decode cX4_otherPeak 57 = .ok (.aload_n 0, 1) := by decide +kernel
theorem dX4_otherPeak_58 : decode cX4_otherPeak 58 = .ok (.aload_n 0, 1) := by decide +kernel
theorem dX4_otherPeak_59 : decode cX4_otherPeak 59 = .ok (.getfield 9, 3) := by decide +kernel
theorem dX4_otherPeak_62 : decode cX4_otherPeak 62 = .ok (.aload_n 0, 1) := by decide +kernel
theorem dX4_otherPeak_63 : decode cX4_otherPeak 63 = .ok (.getfield 25, 3) := by decide +kernel
theorem dX4_otherPeak_66 : decode cX4_otherPeak 66 = .ok (.getfield 97, 3) := by decide +kernel
theorem dX4_otherPeak_69 : decode cX4_otherPeak 69 = .ok (.invokevirtual 130, 3) := by decide +kernel
theorem dX4_otherPeak_72 : decode cX4_otherPeak 72 = .ok (.ireturn, 1) := by decide +kernel
theorem dX4_find_0 : decode cX4_find 0 = .ok (.iconst 0, 1) := by decide +kernel
theorem dX4_find_1 : decode cX4_find 1 = .ok (.istore 4, 2) := by decide +kernel
theorem dX4_find_3 : decode cX4_find 3 = .ok (.iload 4, 2) := by decide +kernel
theorem dX4_find_5 : decode cX4_find 5 = .ok (.iload_n 1, 1) := by decide +kernel
theorem dX4_find_6 : decode cX4_find 6 = .ok (.if_icmp .ge 28, 3) := by decide +kernel
theorem dX4_find_9 : decode cX4_find 9 = .ok (.iload 4, 2) := by decide +kernel
theorem dX4_find_11 : decode cX4_find 11 = .ok (.aload_n 0, 1) := by decide +kernel
theorem dX4_find_12 : decode cX4_find 12 = .ok (.arraylength, 1) := by decide +kernel
theorem dX4_find_13 : decode cX4_find 13 = .ok (.if_icmp .ge 21, 3) := by decide +kernel
theorem dX4_find_16 : decode cX4_find 16 = .ok (.aload_n 0, 1) := by decide +kernel
theorem dX4_find_17 : decode cX4_find 17 = .ok (.iload 4, 2) := by decide +kernel
theorem dX4_find_19 : decode cX4_find 19 = .ok (.laload, 1) := by decide +kernel
theorem dX4_find_20 : decode cX4_find 20 = .ok (.lload_n 2, 1) := by decide +kernel
theorem dX4_find_21 : decode cX4_find 21 = .ok (.lcmp, 1) := by decide +kernel
theorem dX4_find_22 : decode cX4_find 22 = .ok (.ifCond .ne 6, 3) := by decide +kernel
theorem dX4_find_25 : decode cX4_find 25 = .ok (.iload 4, 2) := by decide +kernel
theorem dX4_find_27 : decode cX4_find 27 = .ok (.ireturn, 1) := by decide +kernel
theorem dX4_find_28 : decode cX4_find 28 = .ok (.iinc 4 1, 3) := by decide +kernel
theorem dX4_find_31 : decode cX4_find 31 = .ok (.goto (-28), 3) := by decide +kernel
theorem dX4_find_34 : decode cX4_find 34 = .ok (.iconst (-1), 1) := by decide +kernel
theorem dX4_find_35 : decode cX4_find 35 = .ok (.ireturn, 1) := by decide +kernel
theorem dX4_number_0 : decode cX4_number 0 = .ok (.aload_n 0, 1) := by decide +kernel
theorem dX4_number_1 : decode cX4_number 1 = .ok (.getfield 21, 3) := by decide +kernel
theorem dX4_number_4 : decode cX4_number 4 = .ok (.invokevirtual 41, 3) := by decide +kernel
theorem dX4_number_7 : decode cX4_number 7 = .ok (.getstatic 275, 3) := by decide +kernel
theorem dX4_number_10 : decode cX4_number 10 = .ok (.if_acmp .eq 9, 3) := by decide +kernel
theorem dX4_number_13 : decode cX4_number 13 = .ok (.aload_n 0, 1) := by decide +kernel
theorem dX4_number_14 : decode cX4_number 14 = .ok (.invokevirtual 87, 3) := by decide +kernel
theorem dX4_number_17 : decode cX4_number 17 = .ok (.iconst 0, 1) := by decide +kernel
theorem dX4_number_18 : decode cX4_number 18 = .ok (.ireturn, 1) := by decide +kernel
theorem dX4_number_19 : decode cX4_number 19 = .ok (.aload_n 0, 1) := by decide +kernel
theorem dX4_number_20 : decode cX4_number 20 = .ok (.getfield 21, 3) := by decide +kernel
theorem dX4_number_23 : decode cX4_number 23 = .ok (.invokevirtual 278, 3) := by decide +kernel
theorem dX4_number_26 : decode cX4_number 26 = .ok (.l2i, 1) := by decide +kernel
theorem dX4_number_27 : decode cX4_number 27 = .ok (.istore_n 3, 1) := by decide +kernel
theorem dX4_number_28 : decode cX4_number 28 = .ok (.iload_n 3, 1) := by decide +kernel
theorem dX4_number_29 : decode cX4_number 29 = .ok (.iload_n 1, 1) := by decide +kernel
theorem dX4_number_30 : decode cX4_number 30 = .ok (.if_icmp .lt 8, 3) := by decide +kernel
theorem dX4_number_33 : decode cX4_number 33 = .ok (.iload_n 3, 1) := by decide +kernel
theorem dX4_number_34 : decode cX4_number 34 = .ok (.iload_n 2, 1) := by decide +kernel
theorem dX4_number_35 : decode cX4_number 35 = .ok (.if_icmp .le 8, 3) := by decide +kernel
theorem dX4_number_38 : decode cX4_number 38 = .ok (.aload_n 0, 1) := by decide +kernel
theorem dX4_number_39 : decode cX4_number 39 = .ok (.iconst 5, 1) := by decide +kernel
theorem dX4_number_40 : decode cX4_number 40 = .ok (.invokevirtual 150, 3) := by decide +kernel
theorem dX4_number_43 : decode cX4_number 43 = .ok (.aload_n 0, 1) := by decide +kernel
theorem dX4_number_44 : decode cX4_number 44 = .ok (.getfield 21, 3) := by decide +kernel
theorem dX4_number_47 : decode cX4_number 47 = .ok (.invokevirtual 239, 3) := by decide +kernel
theorem dX4_number_50 : decode cX4_number 50 = .ok (.iload_n 3, 1) := by decide +kernel
theorem dX4_number_51 : decode cX4_number 51 = .ok (.ireturn, 1) := by decide +kernel
theorem dX4_emit_0 : decode cX4_emit 0 = .ok (.aload_n 0, 1) := by decide +kernel
theorem dX4_emit_1 : decode cX4_emit 1 = .ok (.getfield 25, 3) := by decide +kernel
theorem dX4_emit_4 : decode cX4_emit 4 = .ok (.getfield 182, 3) := by decide +kernel
theorem dX4_emit_7 : decode cX4_emit 7 = .ok (.iload_n 1, 1) := by decide +kernel
theorem dX4_emit_8 : decode cX4_emit 8 = .ok (.iload_n 2, 1) := by decide +kernel
theorem dX4_emit_9 : decode cX4_emit 9 = .ok (.invokevirtual 319, 3) := by decide +kernel
theorem dX4_emit_12 : decode cX4_emit 12 = .ok (.return_, 1) := by decide +kernel
theorem dX4_accept_0 : decode cX4_accept 0 = .ok (.aload_n 0, 1) := by decide +kernel
theorem dX4_accept_1 : decode cX4_accept 1 = .ok (.getfield 21, 3) := by decide +kernel
theorem dX4_accept_4 : decode cX4_accept 4 = .ok (.invokevirtual 41, 3) := by decide +kernel
theorem dX4_accept_7 : decode cX4_accept 7 = .ok (.aload_n 1, 1) := by decide +kernel
theorem dX4_accept_8 : decode cX4_accept 8 = .ok (.if_acmp .eq 5, 3) := by decide +kernel
theorem dX4_accept_11 : decode cX4_accept 11 = .ok (.iconst 0, 1) := by decide +kernel
theorem dX4_accept_12 : decode cX4_accept 12 = .ok (.ireturn, 1) := by decide +kernel
theorem dX4_accept_13 : decode cX4_accept 13 = .ok (.aload_n 0, 1) := by decide +kernel
theorem dX4_accept_14 : decode cX4_accept 14 = .ok (.getfield 21, 3) := by decide +kernel
theorem dX4_accept_17 : decode cX4_accept 17 = .ok (.invokevirtual 239, 3) := by decide +kernel
theorem dX4_accept_20 : decode cX4_accept 20 = .ok (.iconst 1, 1) := by decide +kernel
theorem dX4_accept_21 : decode cX4_accept 21 = .ok (.ireturn, 1) := by decide +kernel
theorem dX4_expect_0 : decode cX4_expect 0 = .ok (.aload_n 0, 1) := by decide +kernel
theorem dX4_expect_1 : decode cX4_expect 1 = .ok (.aload_n 1, 1) := by decide +kernel
theorem dX4_expect_2 : decode cX4_expect 2 = .ok (.invokevirtual 56, 3) := by decide +kernel
theorem dX4_expect_5 : decode cX4_expect 5 = .ok (.ifCond .ne 7, 3) := by decide +kernel
theorem dX4_expect_8 : decode cX4_expect 8 = .ok (.aload_n 0, 1) := by decide +kernel
theorem dX4_expect_9 : decode cX4_expect 9 = .ok (.invokevirtual 87, 3) := by decide +kernel
theorem dX4_expect_12 : decode cX4_expect 12 = .ok (.return_, 1) := by decide +kernel
theorem dX4_fail_0 : decode cX4_fail 0 = .ok (.aload_n 0, 1) := by decide +kernel
theorem dX4_fail_1 : decode cX4_fail 1 = .ok (.getfield 34, 3) := by decide +kernel
theorem dX4_fail_4 : decode cX4_fail 4 = .ok (.iconst 1, 1) := by decide +kernel
theorem dX4_fail_5 : decode cX4_fail 5 = .ok (.if_icmp .eq 26, 3) := by decide +kernel
theorem dX4_fail_8 : decode cX4_fail 8 = .ok (.aload_n 0, 1) := by decide +kernel
theorem dX4_fail_9 : decode cX4_fail 9 = .ok (.iconst 1, 1) := by decide +kernel
theorem dX4_fail_10 : decode cX4_fail 10 = .ok (.putfield 34, 3) := by decide +kernel
theorem dX4_fail_13 : decode cX4_fail 13 = .ok (.aload_n 0, 1) := by decide +kernel
theorem dX4_fail_14 : decode cX4_fail 14 = .ok (.aload_n 0, 1) := by decide +kernel
theorem dX4_fail_15 : decode cX4_fail 15 = .ok (.getfield 21, 3) := by decide +kernel
theorem dX4_fail_18 : decode cX4_fail 18 = .ok (.invokevirtual 322, 3) := by decide +kernel
theorem dX4_fail_21 : decode cX4_fail 21 = .ok (.putfield 38, 3) := by decide +kernel
theorem dX4_fail_24 : decode cX4_fail 24 = .ok (.aload_n 0, 1) := by decide +kernel
theorem dX4_fail_25 : decode cX4_fail 25 = .ok (.getfield 21, 3) := by decide +kernel
theorem dX4_fail_28 : decode cX4_fail 28 = .ok (.invokevirtual 326, 3) := by decide +kernel
theorem dX4_fail_31 : decode cX4_fail 31 = .ok (.return_, 1) := by decide +kernel
theorem dX4_complain_0 : decode cX4_complain 0 = .ok (.aload_n 0, 1) := by decide +kernel
theorem dX4_complain_1 : decode cX4_complain 1 = .ok (.getfield 34, 3) := by decide +kernel
theorem dX4_complain_4 : decode cX4_complain 4 = .ok (.ifCond .ne 19, 3) := by decide +kernel
theorem dX4_complain_7 : decode cX4_complain 7 = .ok (.aload_n 0, 1) := by decide +kernel
theorem dX4_complain_8 : decode cX4_complain 8 = .ok (.iload_n 1, 1) := by decide +kernel
theorem dX4_complain_9 : decode cX4_complain 9 = .ok (.putfield 34, 3) := by decide +kernel
theorem dX4_complain_12 : decode cX4_complain 12 = .ok (.aload_n 0, 1) := by decide +kernel
theorem dX4_complain_13 : decode cX4_complain 13 = .ok (.aload_n 0, 1) := by decide +kernel
theorem dX4_complain_14 : decode cX4_complain 14 = .ok (.getfield 21, 3) := by decide +kernel
theorem dX4_complain_17 : decode cX4_complain 17 = .ok (.invokevirtual 322, 3) := by decide +kernel
theorem dX4_complain_20 : decode cX4_complain 20 = .ok (.putfield 38, 3) := by decide +kernel
theorem dX4_complain_23 : decode cX4_complain 23 = .ok (.return_, 1) := by decide +kernel
theorem dX5_init_0 : decode cX5_init 0 = .ok (.aload_n 0, 1) := by decide +kernel
theorem dX5_init_1 : decode cX5_init 1 = .ok (.invokespecial 3, 3) := by decide +kernel
theorem dX5_init_4 : decode cX5_init 4 = .ok (.aload_n 0, 1) := by decide +kernel
theorem dX5_init_5 : decode cX5_init 5 = .ok (.sipush 2000, 3) := by decide +kernel
theorem dX5_init_8 : decode cX5_init 8 = .ok (.newarray .int, 2) := by decide +kernel
theorem dX5_init_10 : decode cX5_init 10 = .ok (.putfield 9, 3) := by decide +kernel
theorem dX5_init_13 : decode cX5_init 13 = .ok (.return_, 1) := by decide +kernel
theorem dX5_append_0 : decode cX5_append 0 = .ok (.bipush 24, 2) := by decide +kernel
theorem dX5_append_2 : decode cX5_append 2 = .ok (.istore_n 2, 1) := by decide +kernel
theorem dX5_append_3 : decode cX5_append 3 = .ok (.iload_n 2, 1) := by decide +kernel
theorem dX5_append_4 : decode cX5_append 4 = .ok (.ifCond .lt 47, 3) := by decide +kernel
theorem dX5_append_7 : decode cX5_append 7 = .ok (.aload_n 0, 1) := by decide +kernel
theorem dX5_append_8 : decode cX5_append 8 = .ok (.getfield 15, 3) := by decide +kernel
theorem dX5_append_11 : decode cX5_append 11 = .ok (.aload_n 0, 1) := by decide +kernel
theorem dX5_append_12 : decode cX5_append 12 = .ok (.getfield 9, 3) := by decide +kernel
theorem dX5_append_15 : decode cX5_append 15 = .ok (.arraylength, 1) := by decide +kernel
theorem dX5_append_16 : decode cX5_append 16 = .ok (.if_icmp .ge 29, 3) := by decide +kernel
theorem dX5_append_19 : decode cX5_append 19 = .ok (.aload_n 0, 1) := by decide +kernel
theorem dX5_append_20 : decode cX5_append 20 = .ok (.getfield 9, 3) := by decide +kernel
theorem dX5_append_23 : decode cX5_append 23 = .ok (.aload_n 0, 1) := by decide +kernel
theorem dX5_append_24 : decode cX5_append 24 = .ok (.getfield 15, 3) := by decide +kernel
theorem dX5_append_27 : decode cX5_append 27 = .ok (.iload_n 1, 1) := by decide +kernel
theorem dX5_append_28 : decode cX5_append 28 = .ok (.iload_n 2, 1) := by decide +kernel
theorem dX5_append_29 : decode cX5_append 29 = .ok (.iushr, 1) := by decide +kernel
theorem dX5_append_30 : decode cX5_append 30 = .ok (.sipush 255, 3) := by decide +kernel
theorem dX5_append_33 : decode cX5_append 33 = .ok (.iand, 1) := by decide +kernel
theorem dX5_append_34 : decode cX5_append 34 = .ok (.iastore, 1) := by decide +kernel
theorem dX5_append_35 : decode cX5_append 35 = .ok (.aload_n 0, 1) := by decide +kernel
theorem dX5_append_36 : decode cX5_append 36 = .ok (.dup, 1) := by decide +kernel
theorem dX5_append_37 : decode cX5_append 37 = .ok (.getfield 15, 3) := by decide +kernel
theorem dX5_append_40 : decode cX5_append 40 = .ok (.iconst 1, 1) := by decide +kernel
theorem dX5_append_41 : decode cX5_append 41 = .ok (.iadd, 1) := by decide +kernel
theorem dX5_append_42 : decode cX5_append 42 = .ok (.putfield 15, 3) := by decide +kernel
theorem dX5_append_45 : decode cX5_append 45 = .ok (.iinc 2 (-8), 3) := by decide +kernel
theorem dX5_append_48 : decode cX5_append 48 = .ok (.goto (-45), 3) := by decide +kernel
theorem dX5_append_51 : decode cX5_append 51 = .ok (.return_, 1) := by decide +kernel
theorem dX5_byteAt_0 : decode cX5_byteAt 0 = .ok (.iload_n 1, 1) := by decide +kernel
theorem dX5_byteAt_1 : decode cX5_byteAt 1 = .ok (.ifCond .lt 20, 3) := by decide +kernel
theorem dX5_byteAt_4 : decode cX5_byteAt 4 = .ok (.iload_n 1, 1) := by decide +kernel
theorem dX5_byteAt_5 : decode cX5_byteAt 5 = .ok (.aload_n 0, 1) := by decide +kernel
theorem dX5_byteAt_6 : decode cX5_byteAt 6 = .ok (.getfield 15, 3) := by decide +kernel
theorem dX5_byteAt_9 : decode cX5_byteAt 9 = .ok (.if_icmp .ge 12, 3) := by decide +kernel
theorem dX5_byteAt_12 : decode cX5_byteAt 12 = .ok (.iload_n 1, 1) := by decide +kernel
theorem dX5_byteAt_13 : decode cX5_byteAt 13 = .ok (.aload_n 0, 1) := by decide +kernel
theorem dX5_byteAt_14 : decode cX5_byteAt 14 = .ok (.getfield 9, 3) := by decide +kernel
theorem dX5_byteAt_17 : decode cX5_byteAt 17 = .ok (.arraylength, 1) := by decide +kernel
theorem dX5_byteAt_18 : decode cX5_byteAt 18 = .ok (.if_icmp .lt 5, 3) := by decide +kernel
theorem dX5_byteAt_21 : decode cX5_byteAt 21 = .ok (.iconst (-1), 1) := by decide +kernel
theorem dX5_byteAt_22 : decode cX5_byteAt 22 = .ok (.ireturn, 1) := by decide +kernel
theorem dX5_byteAt_23 : decode cX5_byteAt 23 = .ok (.aload_n 0, 1) := by decide +kernel
theorem dX5_byteAt_24 : decode cX5_byteAt 24 = .ok (.getfield 9, 3) := by decide +kernel
theorem dX5_byteAt_27 : decode cX5_byteAt 27 = .ok (.iload_n 1, 1) := by decide +kernel
theorem dX5_byteAt_28 : decode cX5_byteAt 28 = .ok (.iaload, 1) := by decide +kernel
theorem dX5_byteAt_29 : decode cX5_byteAt 29 = .ok (.ireturn, 1) := by decide +kernel
theorem dX5_reads_0 : decode cX5_reads 0 = .ok (.aload_n 1, 1) := by decide +kernel
theorem dX5_reads_1 : decode cX5_reads 1 = .ok (.invokevirtual 19, 3) := by decide +kernel
theorem dX5_reads_4 : decode cX5_reads 4 = .ok (.iload_n 3, 1) := by decide +kernel
theorem dX5_reads_5 : decode cX5_reads 5 = .ok (.iload_n 2, 1) := by decide +kernel
theorem dX5_reads_6 : decode cX5_reads 6 = .ok (.isub, 1) := by decide +kernel
theorem dX5_reads_7 : decode cX5_reads 7 = .ok (.if_icmp .eq 5, 3) := by decide +kernel
theorem dX5_reads_10 : decode cX5_reads 10 = .ok (.iconst 0, 1) := by decide +kernel
theorem dX5_reads_11 : decode cX5_reads 11 = .ok (.ireturn, 1) := by decide +kernel
theorem dX5_reads_12 : decode cX5_reads 12 = .ok (.iconst 0, 1) := by decide +kernel
theorem dX5_reads_13 : decode cX5_reads 13 = .ok (.istore 4, 2) := by decide +kernel
theorem dX5_reads_15 : decode cX5_reads 15 = .ok (.iload 4, 2) := by decide +kernel
theorem dX5_reads_17 : decode cX5_reads 17 = .ok (.aload_n 1, 1) := by decide +kernel
theorem dX5_reads_18 : decode cX5_reads 18 = .ok (.invokevirtual 19, 3) := by decide +kernel
theorem dX5_reads_21 : decode cX5_reads 21 = .ok (.if_icmp .ge 28, 3) := by decide +kernel
theorem dX5_reads_24 : decode cX5_reads 24 = .ok (.aload_n 0, 1) := by decide +kernel
theorem dX5_reads_25 : decode cX5_reads 25 = .ok (.iload_n 2, 1) := by decide +kernel
theorem dX5_reads_26 : decode cX5_reads 26 = .ok (.iload 4, 2) := by decide +kernel
theorem dX5_reads_28 : decode cX5_reads 28 = .ok (.iadd, 1) := by decide +kernel
theorem dX5_reads_29 : decode cX5_reads 29 = .ok (.invokevirtual 24, 3) := by decide +kernel
theorem dX5_reads_32 : decode cX5_reads 32 = .ok (.aload_n 1, 1) := by decide +kernel
theorem dX5_reads_33 : decode cX5_reads 33 = .ok (.iload 4, 2) := by decide +kernel
theorem dX5_reads_35 : decode cX5_reads 35 = .ok (.invokevirtual 28, 3) := by decide +kernel
theorem dX5_reads_38 : decode cX5_reads 38 = .ok (.if_icmp .eq 5, 3) := by decide +kernel
theorem dX5_reads_41 : decode cX5_reads 41 = .ok (.iconst 0, 1) := by decide +kernel
theorem dX5_reads_42 : decode cX5_reads 42 = .ok (.ireturn, 1) := by decide +kernel
theorem dX5_reads_43 : decode cX5_reads 43 = .ok (.iinc 4 1, 3) := by decide +kernel
theorem dX5_reads_46 : decode cX5_reads 46 = .ok (.goto (-31), 3) := by decide +kernel
theorem dX5_reads_49 : decode cX5_reads 49 = .ok (.iconst 1, 1) := by decide +kernel
theorem dX5_reads_50 : decode cX5_reads 50 = .ok (.ireturn, 1) := by decide +kernel
theorem dX6_init_0 : decode cX6_init 0 = .ok (.aload_n 0, 1) := by decide +kernel
theorem dX6_init_1 : decode cX6_init 1 = .ok (.invokespecial 3, 3) := by decide +kernel
theorem dX6_init_4 : decode cX6_init 4 = .ok (.aload_n 0, 1) := by decide +kernel
theorem dX6_init_5 : decode cX6_init 5 = .ok (.sipush 401, 3) := by decide +kernel
theorem dX6_init_8 : decode cX6_init 8 = .ok (.anewarray 9, 3) := by decide +kernel
theorem dX6_init_11 : decode cX6_init 11 = .ok (.putfield 11, 3) := by decide +kernel
theorem dX6_init_14 : decode cX6_init 14 = .ok (.aload_n 0, 1) := by decide +kernel
theorem dX6_init_15 : decode cX6_init 15 = .ok (.sipush 401, 3) := by decide +kernel
theorem dX6_init_18 : decode cX6_init 18 = .ok (.newarray .int, 2) := by decide +kernel
theorem dX6_init_20 : decode cX6_init 20 = .ok (.putfield 17, 3) := by decide +kernel
theorem dX6_init_23 : decode cX6_init 23 = .ok (.aload_n 0, 1) := by decide +kernel
theorem dX6_init_24 : decode cX6_init 24 = .ok (.sipush 401, 3) := by decide +kernel
theorem dX6_init_27 : decode cX6_init 27 = .ok (.newarray .long, 2) := by decide +kernel
theorem dX6_init_29 : decode cX6_init 29 = .ok (.putfield 21, 3) := by decide +kernel
theorem dX6_init_32 : decode cX6_init 32 = .ok (.return_, 1) := by decide +kernel
theorem dX6_scan_0 : decode cX6_scan 0 = .ok (.aload_n 0, 1) := by decide +kernel
theorem dX6_scan_1 : decode cX6_scan 1 = .ok (.iconst 0, 1) := by decide +kernel
theorem dX6_scan_2 : decode cX6_scan 2 = .ok (.putfield 25, 3) := by decide +kernel
theorem dX6_scan_5 : decode cX6_scan 5 = .ok (.aload_n 0, 1) := by decide +kernel
theorem dX6_scan_6 : decode cX6_scan 6 = .ok (.iconst 0, 1) := by decide +kernel
theorem dX6_scan_7 : decode cX6_scan 7 = .ok (.putfield 29, 3) := by decide +kernel
theorem dX6_scan_10 : decode cX6_scan 10 = .ok (.aload_n 0, 1) := by decide +kernel
theorem dX6_scan_11 : decode cX6_scan 11 = .ok (.iconst 0, 1) := by decide +kernel
theorem dX6_scan_12 : decode cX6_scan 12 = .ok (.putfield 32, 3) := by decide +kernel
theorem dX6_scan_15 : decode cX6_scan 15 = .ok (.iconst 1, 1) := by decide +kernel
theorem dX6_scan_16 : decode cX6_scan 16 = .ok (.istore_n 2, 1) := by decide +kernel
theorem dX6_scan_17 : decode cX6_scan 17 = .ok (.iconst 0, 1) := by decide +kernel
theorem dX6_scan_18 : decode cX6_scan 18 = .ok (.istore_n 3, 1) := by decide +kernel
theorem dX6_scan_19 : decode cX6_scan 19 = .ok (.iload_n 3, 1) := by decide +kernel
theorem dX6_scan_20 : decode cX6_scan 20 = .ok (.sipush 400, 3) := by decide +kernel
theorem dX6_scan_23 : decode cX6_scan 23 = .ok (.if_icmp .ge 24, 3) := by decide +kernel
theorem dX6_scan_26 : decode cX6_scan 26 = .ok (.iload_n 2, 1) := by decide +kernel
theorem dX6_scan_27 : decode cX6_scan 27 = .ok (.ifCond .eq 20, 3) := by decide +kernel
theorem dX6_scan_30 : decode cX6_scan 30 = .ok (.aload_n 0, 1) := by decide +kernel
theorem dX6_scan_31 : decode cX6_scan 31 = .ok (.aload_n 1, 1) := by decide +kernel
theorem dX6_scan_32 : decode cX6_scan 32 = .ok (.invokevirtual 35, 3) := by decide +kernel
theorem dX6_scan_35 : decode cX6_scan 35 = .ok (.aload_n 0, 1) := by decide +kernel
theorem dX6_scan_36 : decode cX6_scan 36 = .ok (.aload_n 1, 1) := by decide +kernel
theorem dX6_scan_37 : decode cX6_scan 37 = .ok (.invokevirtual 39, 3) := by decide +kernel
theorem dX6_scan_40 : decode cX6_scan 40 = .ok (.istore_n 2, 1) := by decide +kernel
theorem dX6_scan_41 : decode cX6_scan 41 = .ok (.iinc 3 1, 3) := by decide +kernel
theorem dX6_scan_44 : decode cX6_scan 44 = .ok (.goto (-25), 3) := by decide +kernel
theorem dX6_scan_47 : decode cX6_scan 47 = .ok (.iload_n 2, 1) := by decide +kernel
theorem dX6_scan_48 : decode cX6_scan 48 = .ok (.ifCond .eq 36, 3) := by decide +kernel
theorem dX6_scan_51 : decode cX6_scan 51 = .ok (.aload_n 0, 1) := by decide +kernel
theorem dX6_scan_52 : decode cX6_scan 52 = .ok (.aload_n 1, 1) := by decide +kernel
theorem dX6_scan_53 : decode cX6_scan 53 = .ok (.invokevirtual 35, 3) := by decide +kernel
theorem dX6_scan_56 : decode cX6_scan 56 = .ok (.aload_n 0, 1) := by decide +kernel
theorem dX6_scan_57 : decode cX6_scan 57 = .ok (.aload_n 0, 1) := by decide +kernel
theorem dX6_scan_58 : decode cX6_scan 58 = .ok (.getfield 32, 3) := by decide +kernel
theorem dX6_scan_61 : decode cX6_scan 61 = .ok (.aload_n 1, 1) := by decide +kernel
theorem dX6_scan_62 : decode cX6_scan 62 = .ok (.getfield 43, 3) := by decide +kernel
theorem dX6_scan_65 : decode cX6_scan 65 = .ok (.if_icmp .ge 9, 3) := by decide +kernel
theorem dX6_scan_68 : decode cX6_scan 68 = .ok (.getstatic 48, 3) := by decide +kernel
theorem dX6_scan_71 : decode cX6_scan 71 = .ok (.goto 6, 3) := by decide +kernel
theorem dX6_scan_74 : decode cX6_scan 74 = .ok (.getstatic 52, 3) := by decide +kernel
theorem dX6_scan_77 : decode cX6_scan 77 = .ok (.aload_n 0, 1) := by decide +kernel
theorem dX6_scan_78 : decode cX6_scan 78 = .ok (.getfield 32, 3) := by decide +kernel
theorem dX6_scan_81 : decode cX6_scan 81 = .ok (.invokevirtual 55, 3) := by decide +kernel
theorem dX6_scan_84 : decode cX6_scan 84 = .ok (.return_, 1) := by decide +kernel
theorem dX6_kind_0 : decode cX6_kind 0 = .ok (.aload_n 0, 1) := by decide +kernel
theorem dX6_kind_1 : decode cX6_kind 1 = .ok (.getfield 29, 3) := by decide +kernel
theorem dX6_kind_4 : decode cX6_kind 4 = .ok (.aload_n 0, 1) := by decide +kernel
theorem dX6_kind_5 : decode cX6_kind 5 = .ok (.getfield 25, 3) := by decide +kernel
theorem dX6_kind_8 : decode cX6_kind 8 = .ok (.if_icmp .ge 27, 3) := by decide +kernel
theorem dX6_kind_11 : decode cX6_kind 11 = .ok (.aload_n 0, 1) := by decide +kernel
theorem dX6_kind_12 : decode cX6_kind 12 = .ok (.getfield 29, 3) := by decide +kernel
theorem dX6_kind_15 : decode cX6_kind 15 = .ok (.aload_n 0, 1) := by decide +kernel
theorem dX6_kind_16 : decode cX6_kind 16 = .ok (.getfield 11, 3) := by decide +kernel
theorem dX6_kind_19 : decode cX6_kind 19 = .ok (.arraylength, 1) := by decide +kernel
theorem dX6_kind_20 : decode cX6_kind 20 = .ok (.if_icmp .ge 15, 3) := by decide +kernel
theorem dX6_kind_23 : decode cX6_kind 23 = .ok (.aload_n 0, 1) := by decide +kernel
theorem dX6_kind_24 : decode cX6_kind 24 = .ok (.getfield 11, 3) := by decide +kernel
theorem dX6_kind_27 : decode cX6_kind 27 = .ok (.aload_n 0, 1) := by decide +kernel
theorem dX6_kind_28 : decode cX6_kind 28 = .ok (.getfield 29, 3) := by decide +kernel
theorem dX6_kind_31 : decode cX6_kind 31 = .ok (.aaload, 1) := by decide +kernel
theorem dX6_kind_32 : decode cX6_kind 32 = .ok (.goto 6, 3) := by decide +kernel
theorem dX6_kind_35 : decode cX6_kind 35 = .ok (.getstatic 48, 3) := by decide +kernel
theorem dX6_kind_38 : decode cX6_kind 38 = .ok (.areturn, 1) := by decide +kernel
theorem dX6_start_0 : decode cX6_start 0 = .ok (.aload_n 0, 1) := by decide +kernel
theorem dX6_start_1 : decode cX6_start 1 = .ok (.getfield 29, 3) := by decide +kernel
theorem dX6_start_4 : decode cX6_start 4 = .ok (.aload_n 0, 1) := by decide +kernel
theorem dX6_start_5 : decode cX6_start 5 = .ok (.getfield 25, 3) := by decide +kernel
theorem dX6_start_8 : decode cX6_start 8 = .ok (.if_icmp .ge 27, 3) := by decide +kernel
theorem dX6_start_11 : decode cX6_start 11 = .ok (.aload_n 0, 1) := by decide +kernel
theorem dX6_start_12 : decode cX6_start 12 = .ok (.getfield 29, 3) := by decide +kernel
theorem dX6_start_15 : decode cX6_start 15 = .ok (.aload_n 0, 1) := by decide +kernel
theorem dX6_start_16 : decode cX6_start 16 = .ok (.getfield 17, 3) := by decide +kernel
theorem dX6_start_19 : decode cX6_start 19 = .ok (.arraylength, 1) := by decide +kernel
theorem dX6_start_20 : decode cX6_start 20 = .ok (.if_icmp .ge 15, 3) := by decide +kernel
theorem dX6_start_23 : decode cX6_start 23 = .ok (.aload_n 0, 1) := by decide +kernel
theorem dX6_start_24 : decode cX6_start 24 = .ok (.getfield 17, 3) := by decide +kernel
theorem dX6_start_27 : decode cX6_start 27 = .ok (.aload_n 0, 1) := by decide +kernel
theorem dX6_start_28 : decode cX6_start 28 = .ok (.getfield 29, 3) := by decide +kernel
theorem dX6_start_31 : decode cX6_start 31 = .ok (.iaload, 1) := by decide +kernel
theorem dX6_start_32 : decode cX6_start 32 = .ok (.goto 4, 3) := by decide +kernel
theorem dX6_start_35 : decode cX6_start 35 = .ok (.iconst 0, 1) := by decide +kernel
theorem dX6_start_36 : decode cX6_start 36 = .ok (.ireturn, 1) := by decide +kernel
theorem dX6_value_0 : decode cX6_value 0 = .ok (.aload_n 0, 1) := by decide +kernel
theorem dX6_value_1 : decode cX6_value 1 = .ok (.getfield 29, 3) := by decide +kernel
theorem dX6_value_4 : decode cX6_value 4 = .ok (.aload_n 0, 1) := by decide +kernel
theorem dX6_value_5 : decode cX6_value 5 = .ok (.getfield 25, 3) := by decide +kernel
theorem dX6_value_8 : decode cX6_value 8 = .ok (.if_icmp .ge 27, 3) := by decide +kernel
theorem dX6_value_11 : decode cX6_value 11 = .ok (.aload_n 0, 1) := by decide +kernel
theorem dX6_value_12 : decode cX6_value 12 = .ok (.getfield 29, 3) := by decide +kernel
theorem dX6_value_15 : decode cX6_value 15 = .ok (.aload_n 0, 1) := by decide +kernel
theorem dX6_value_16 : decode cX6_value 16 = .ok (.getfield 21, 3) := by decide +kernel
theorem dX6_value_19 : decode cX6_value 19 = .ok (.arraylength, 1) := by decide +kernel
theorem dX6_value_20 : decode cX6_value 20 = .ok (.if_icmp .ge 15, 3) := by decide +kernel
theorem dX6_value_23 : decode cX6_value 23 = .ok (.aload_n 0, 1) := by decide +kernel
theorem dX6_value_24 : decode cX6_value 24 = .ok (.getfield 21, 3) := by decide +kernel
theorem dX6_value_27 : decode cX6_value 27 = .ok (.aload_n 0, 1) := by decide +kernel
theorem dX6_value_28 : decode cX6_value 28 = .ok (.getfield 29, 3) := by decide +kernel
theorem dX6_value_31 : decode cX6_value 31 = .ok (.laload, 1) := by decide +kernel
theorem dX6_value_32 : decode cX6_value 32 = .ok (.goto 4, 3) := by decide +kernel
theorem dX6_value_35 : decode cX6_value 35 = .ok (.lconst 0, 1) := by decide +kernel
theorem dX6_value_36 : decode cX6_value 36 = .ok (.lreturn, 1) := by decide +kernel
theorem dX6_advance_0 : decode cX6_advance 0 = .ok (.aload_n 0, 1) := by decide +kernel
theorem dX6_advance_1 : decode cX6_advance 1 = .ok (.getfield 29, 3) := by decide +kernel
theorem dX6_advance_4 : decode cX6_advance 4 = .ok (.aload_n 0, 1) := by decide +kernel
theorem dX6_advance_5 : decode cX6_advance 5 = .ok (.getfield 25, 3) := by decide +kernel
theorem dX6_advance_8 : decode cX6_advance 8 = .ok (.if_icmp .ge 13, 3) := by decide +kernel
theorem dX6_advance_11 : decode cX6_advance 11 = .ok (.aload_n 0, 1) := by decide +kernel
theorem dX6_advance_12 : decode cX6_advance 12 = .ok (.dup, 1) := by decide +kernel
theorem dX6_advance_13 : decode cX6_advance 13 = .ok (.getfield 29, 3) := by decide +kernel
theorem dX6_advance_16 : decode cX6_advance 16 = .ok (.iconst 1, 1) := by decide +kernel
theorem dX6_advance_17 : decode cX6_advance 17 = .ok (.iadd, 1) := by decide +kernel
theorem dX6_advance_18 : decode cX6_advance 18 = .ok (.putfield 29, 3) := by decide +kernel
theorem dX6_advance_21 : decode cX6_advance 21 = .ok (.return_, 1) := by decide +kernel
theorem dX6_giveUp_0 : decode cX6_giveUp 0 = .ok (.aload_n 0, 1) := by decide +kernel
theorem dX6_giveUp_1 : decode cX6_giveUp 1 = .ok (.aload_n 0, 1) := by decide +kernel
theorem dX6_giveUp_2 : decode cX6_giveUp 2 = .ok (.getfield 25, 3) := by decide +kernel
theorem dX6_giveUp_5 : decode cX6_giveUp 5 = .ok (.putfield 29, 3) := by decide +kernel
theorem dX6_giveUp_8 : decode cX6_giveUp 8 = .ok (.return_, 1) := by decide +kernel
theorem dX6_skipBlanks_0 : decode cX6_skipBlanks 0 = .ok (.aload_n 0, 1) := by decide +kernel
theorem dX6_skipBlanks_1 : decode cX6_skipBlanks 1 = .ok (.getfield 32, 3) := by decide +kernel
theorem dX6_skipBlanks_4 : decode cX6_skipBlanks 4 = .ok (.aload_n 1, 1) := by decide +kernel
theorem dX6_skipBlanks_5 : decode cX6_skipBlanks 5 = .ok (.getfield 43, 3) := by decide +kernel
theorem dX6_skipBlanks_8 : decode cX6_skipBlanks 8 = .ok (.if_icmp .ge 42, 3) := by decide +kernel
theorem dX6_skipBlanks_11 : decode cX6_skipBlanks 11 = .ok (.aload_n 1, 1) := by decide +kernel
theorem dX6_skipBlanks_12 : decode cX6_skipBlanks 12 = .ok (.aload_n 0, 1) := by decide +kernel
theorem dX6_skipBlanks_13 : decode cX6_skipBlanks 13 = .ok (.getfield 32, 3) := by decide +kernel
theorem dX6_skipBlanks_16 : decode cX6_skipBlanks 16 = .ok (.invokevirtual 59, 3) := by decide +kernel
theorem dX6_skipBlanks_19 : decode cX6_skipBlanks 19 = .ok (.bipush 32, 2) := by decide +kernel
theorem dX6_skipBlanks_21 : decode cX6_skipBlanks 21 = .ok (.if_icmp .eq 16, 3) := by decide +kernel
theorem dX6_skipBlanks_24 : decode cX6_skipBlanks 24 = .ok (.aload_n 1, 1) := by decide +kernel
theorem dX6_skipBlanks_25 : decode cX6_skipBlanks 25 = .ok (.aload_n 0, 1) := by decide +kernel
theorem dX6_skipBlanks_26 : decode cX6_skipBlanks 26 = .ok (.getfield 32, 3) := by decide +kernel
theorem dX6_skipBlanks_29 : decode cX6_skipBlanks 29 = .ok (.invokevirtual 59, 3) := by decide +kernel
theorem dX6_skipBlanks_32 : decode cX6_skipBlanks 32 = .ok (.bipush 10, 2) := by decide +kernel
theorem dX6_skipBlanks_34 : decode cX6_skipBlanks 34 = .ok (.if_icmp .ne 16, 3) := by decide +kernel
theorem dX6_skipBlanks_37 : decode cX6_skipBlanks 37 = .ok (.aload_n 0, 1) := by decide +kernel
theorem dX6_skipBlanks_38 : decode cX6_skipBlanks 38 = .ok (.dup, 1) := by decide +kernel
theorem dX6_skipBlanks_39 : decode cX6_skipBlanks 39 = .ok (.getfield 32, 3) := by decide +kernel
theorem dX6_skipBlanks_42 : decode cX6_skipBlanks 42 = .ok (.iconst 1, 1) := by decide +kernel
theorem dX6_skipBlanks_43 : decode cX6_skipBlanks 43 = .ok (.iadd, 1) := by decide +kernel
theorem dX6_skipBlanks_44 : decode cX6_skipBlanks 44 = .ok (.putfield 32, 3) := by decide +kernel
theorem dX6_skipBlanks_47 : decode cX6_skipBlanks 47 = .ok (.goto (-47), 3) := by decide +kernel
theorem dX6_skipBlanks_50 : decode cX6_skipBlanks 50 = .ok (.return_, 1) := by decide +kernel
theorem dX6_scanToken_0 : decode cX6_scanToken 0 = .ok (.aload_n 0, 1) := by decide +kernel
theorem dX6_scanToken_1 : decode cX6_scanToken 1 = .ok (.getfield 32, 3) := by decide +kernel
theorem dX6_scanToken_4 : decode cX6_scanToken 4 = .ok (.istore_n 2, 1) := by decide +kernel
theorem dX6_scanToken_5 : decode cX6_scanToken 5 = .ok (.aload_n 1, 1) := by decide +kernel
theorem dX6_scanToken_6 : decode cX6_scanToken 6 = .ok (.iload_n 2, 1) := by decide +kernel
theorem dX6_scanToken_7 : decode cX6_scanToken 7 = .ok (.invokevirtual 59, 3) := by decide +kernel
theorem dX6_scanToken_10 : decode cX6_scanToken 10 = .ok (.istore_n 3, 1) := by decide +kernel
theorem dX6_scanToken_11 : decode cX6_scanToken 11 = .ok (.aload_n 0, 1) := by decide +kernel
theorem dX6_scanToken_12 : decode cX6_scanToken 12 = .ok (.lconst 0, 1) := by decide +kernel
theorem dX6_scanToken_13 : decode cX6_scanToken 13 = .ok (.putfield 63, 3) := by decide +kernel
theorem dX6_scanToken_16 : decode cX6_scanToken 16 = .ok (.iload_n 3, 1) := by decide +kernel
theorem dX6_scanToken_17 : decode cX6_scanToken 17 = .ok (.ifCond .ge 11, 3) := by decide +kernel
theorem dX6_scanToken_20 : decode cX6_scanToken 20 = .ok (.getstatic 52, 3) := by decide +kernel
theorem dX6_scanToken_23 : decode cX6_scanToken 23 = .ok (.astore 4, 2) := by decide +kernel
theorem dX6_scanToken_25 : decode cX6_scanToken 25 = .ok (.goto 44, 3) := by decide +kernel
theorem dX6_scanToken_28 : decode cX6_scanToken 28 = .ok (.iload_n 3, 1) := by decide +kernel
theorem dX6_scanToken_29 : decode cX6_scanToken 29 = .ok (.invokestatic 67, 3) := by decide +kernel
theorem dX6_scanToken_32 : decode cX6_scanToken 32 = .ok (.ifCond .eq 13, 3) := by decide +kernel
theorem dX6_scanToken_35 : decode cX6_scanToken 35 = .ok (.aload_n 0, 1) := by decide +kernel
theorem dX6_scanToken_36 : decode cX6_scanToken 36 = .ok (.aload_n 1, 1) := by decide +kernel
theorem dX6_scanToken_37 : decode cX6_scanToken 37 = .ok (.invokevirtual 71, 3) := by decide +kernel
theorem dX6_scanToken_40 : decode cX6_scanToken 40 = .ok (.astore 4, 2) := by decide +kernel
theorem dX6_scanToken_42 : decode cX6_scanToken 42 = .ok (.goto 27, 3) := by decide +kernel
theorem dX6_scanToken_45 : decode cX6_scanToken 45 = .ok (.iload_n 3, 1) := by decide +kernel
theorem dX6_scanToken_46 : decode cX6_scanToken 46 = .ok (.invokestatic 75, 3) := by decide +kernel
theorem dX6_scanToken_49 : decode cX6_scanToken 49 = .ok (.ifCond .eq 13, 3) := by decide +kernel
theorem dX6_scanToken_52 : decode cX6_scanToken 52 = .ok (.aload_n 0, 1) := by decide +kernel
theorem dX6_scanToken_53 : decode cX6_scanToken 53 = .ok (.aload_n 1, 1) := by decide +kernel
theorem dX6_scanToken_54 : decode cX6_scanToken 54 = .ok (.invokevirtual 78, 3) := by decide +kernel
theorem dX6_scanToken_57 : decode cX6_scanToken 57 = .ok (.astore 4, 2) := by decide +kernel
theorem dX6_scanToken_59 : decode cX6_scanToken 59 = .ok (.goto 10, 3) := by decide +kernel
theorem dX6_scanToken_62 : decode cX6_scanToken 62 = .ok (.aload_n 0, 1) := by decide +kernel
theorem dX6_scanToken_63 : decode cX6_scanToken 63 = .ok (.aload_n 1, 1) := by decide +kernel
theorem dX6_scanToken_64 : decode cX6_scanToken 64 = .ok (.invokevirtual 81, 3) := by decide +kernel
theorem dX6_scanToken_67 : decode cX6_scanToken 67 = .ok (.astore 4, 2) := by decide +kernel
theorem dX6_scanToken_69 : decode cX6_scanToken 69 = .ok (.aload_n 0, 1) := by decide +kernel
theorem dX6_scanToken_70 : decode cX6_scanToken 70 = .ok (.aload 4, 2) := by decide +kernel
theorem dX6_scanToken_72 : decode cX6_scanToken 72 = .ok (.iload_n 2, 1) := by decide +kernel
theorem dX6_scanToken_73 : decode cX6_scanToken 73 = .ok (.invokevirtual 55, 3) := by decide +kernel
theorem dX6_scanToken_76 : decode cX6_scanToken 76 = .ok (.aload 4, 2) := by decide +kernel
theorem dX6_scanToken_78 : decode cX6_scanToken 78 = .ok (.getstatic 52, 3) := by decide +kernel
theorem dX6_scanToken_81 : decode cX6_scanToken 81 = .ok (.if_acmp .eq 15, 3) := by decide +kernel
theorem dX6_scanToken_84 : decode cX6_scanToken 84 = .ok (.aload 4, 2) := by decide +kernel
theorem dX6_scanToken_86 : decode cX6_scanToken 86 = .ok (.getstatic 48, 3) := by decide +kernel
theorem dX6_scanToken_89 : decode cX6_scanToken 89 = .ok (.if_acmp .eq 7, 3) := by decide +kernel
theorem dX6_scanToken_92 : decode cX6_scanToken 92 = .ok (.iconst 1, 1) := by decide +kernel
theorem dX6_scanToken_93 : decode cX6_scanToken 93 = .ok (.goto 4, 3) := by decide +kernel
theorem dX6_scanToken_96 : decode cX6_scanToken 96 = .ok (.iconst 0, 1) := by decide +kernel
theorem dX6_scanToken_97 : decode cX6_scanToken 97 = .ok (.ireturn, 1) := by decide +kernel
theorem dX6_scanWord_0 : decode cX6_scanWord 0 = .ok (.aload_n 0, 1) := by decide +kernel
theorem dX6_scanWord_1 : decode cX6_scanWord 1 = .ok (.getfield 32, 3) := by decide +kernel
theorem dX6_scanWord_4 : decode cX6_scanWord 4 = .ok (.istore_n 2, 1) := by decide +kernel
theorem dX6_scanWord_5 : decode cX6_scanWord 5 = .ok (.aload_n 0, 1) := by decide +kernel
theorem dX6_scanWord_6 : decode cX6_scanWord 6 = .ok (.getfield 32, 3) := by decide +kernel
theorem dX6_scanWord_9 : decode cX6_scanWord 9 = .ok (.aload_n 1, 1) := by decide +kernel
theorem dX6_scanWord_10 : decode cX6_scanWord 10 = .ok (.getfield 43, 3) := by decide +kernel
theorem dX6_scanWord_13 : decode cX6_scanWord 13 = .ok (.if_icmp .ge 90, 3) := by decide +kernel
theorem dX6_scanWord_16 : decode cX6_scanWord 16 = .ok (.aload_n 1, 1) := by decide +kernel
theorem dX6_scanWord_17 : decode cX6_scanWord 17 = .ok (.aload_n 0, 1) := by decide +kernel
theorem dX6_scanWord_18 : decode cX6_scanWord 18 = .ok (.getfield 32, 3) := by decide +kernel
theorem dX6_scanWord_21 : decode cX6_scanWord 21 = .ok (.invokevirtual 59, 3) := by decide +kernel
theorem dX6_scanWord_24 : decode cX6_scanWord 24 = .ok (.invokestatic 67, 3) := by decide +kernel
theorem dX6_scanWord_27 : decode cX6_scanWord 27 = .ok (.ifCond .ne 17, 3) := by decide +kernel
theorem dX6_scanWord_30 : decode cX6_scanWord 30 = .ok (.aload_n 1, 1) := by decide +kernel
theorem dX6_scanWord_31 : decode cX6_scanWord 31 = .ok (.aload_n 0, 1) := by decide +kernel
theorem dX6_scanWord_32 : decode cX6_scanWord 32 = .ok (.getfield 32, 3) := by decide +kernel
theorem dX6_scanWord_35 : decode cX6_scanWord 35 = .ok (.invokevirtual 59, 3) := by decide +kernel
theorem dX6_scanWord_38 : decode cX6_scanWord 38 = .ok (.invokestatic 75, 3) := by decide +kernel
theorem dX6_scanWord_41 : decode cX6_scanWord 41 = .ok (.ifCond .eq 62, 3) := by decide +kernel
theorem dX6_scanWord_44 : decode cX6_scanWord 44 = .ok (.aload_n 1, 1) := by decide +kernel
theorem dX6_scanWord_45 : decode cX6_scanWord 45 = .ok (.aload_n 0, 1) := by decide +kernel
theorem dX6_scanWord_46 : decode cX6_scanWord 46 = .ok (.getfield 32, 3) := by decide +kernel
theorem dX6_scanWord_49 : decode cX6_scanWord 49 = .ok (.invokevirtual 59, 3) := by decide +kernel
theorem dX6_scanWord_52 : decode cX6_scanWord 52 = .ok (.istore_n 3, 1) := by decide +kernel
theorem dX6_scanWord_53 : decode cX6_scanWord 53 = .ok (.aload_n 0, 1) := by decide +kernel
theorem dX6_scanWord_54 : decode cX6_scanWord 54 = .ok (.aload_n 0, 1) := by decide +kernel
theorem dX6_scanWord_55 : decode cX6_scanWord 55 = .ok (.getfield 63, 3) := by decide +kernel
theorem dX6_scanWord_58 : decode cX6_scanWord 58 = .ok (.ldc2_w 84, 3) := by decide +kernel
theorem dX6_scanWord_61 : decode cX6_scanWord 61 = .ok (.lmul, 1) := by decide +kernel
theorem dX6_scanWord_62 : decode cX6_scanWord 62 = .ok (.iload_n 3, 1) := by decide +kernel
theorem dX6_scanWord_63 : decode cX6_scanWord 63 = .ok (.invokestatic 67, 3) := by decide +kernel
theorem dX6_scanWord_66 : decode cX6_scanWord 66 = .ok (.ifCond .eq 12, 3) := by decide +kernel
theorem dX6_scanWord_69 : decode cX6_scanWord 69 = .ok (.iload_n 3, 1) := by decide +kernel
theorem dX6_scanWord_70 : decode cX6_scanWord 70 = .ok (.bipush 97, 2) := by decide +kernel
theorem dX6_scanWord_72 : decode cX6_scanWord 72 = .ok (.isub, 1) := by decide +kernel
theorem dX6_scanWord_73 : decode cX6_scanWord 73 = .ok (.iconst 1, 1) := by decide +kernel
theorem dX6_scanWord_74 : decode cX6_scanWord 74 = .ok (.iadd, 1) := by decide +kernel
theorem dX6_scanWord_75 : decode cX6_scanWord 75 = .ok (.goto 10, 3) := by decide +kernel
theorem dX6_scanWord_78 : decode cX6_scanWord 78 = .ok (.iload_n 3, 1) := by decide +kernel
theorem dX6_scanWord_79 : decode cX6_scanWord 79 = .ok (.bipush 48, 2) := by decide +kernel
theorem dX6_scanWord_81 : decode cX6_scanWord 81 = .ok (.isub, 1) := by decide +kernel
theorem dX6_scanWord_82 : decode cX6_scanWord 82 = .ok (.bipush 27, 2) := by decide +kernel
theorem dX6_scanWord_84 : decode cX6_scanWord 84 = .ok (.iadd, 1) := by decide +kernel
theorem dX6_scanWord_85 : decode cX6_scanWord 85 = .ok (.i2l, 1) := by decide +kernel
theorem dX6_scanWord_86 : decode cX6_scanWord 86 = .ok (.ladd, 1) := by decide +kernel
theorem dX6_scanWord_87 : decode cX6_scanWord 87 = .ok (.putfield 63, 3) := by decide +kernel
theorem dX6_scanWord_90 : decode cX6_scanWord 90 = .ok (.aload_n 0, 1) := by decide +kernel
theorem dX6_scanWord_91 : decode cX6_scanWord 91 = .ok (.dup, 1) := by decide +kernel
theorem dX6_scanWord_92 : decode cX6_scanWord 92 = .ok (.getfield 32, 3) := by decide +kernel
theorem dX6_scanWord_95 : decode cX6_scanWord 95 = .ok (.iconst 1, 1) := by decide +kernel
theorem dX6_scanWord_96 : decode cX6_scanWord 96 = .ok (.iadd, 1) := by decide +kernel
theorem dX6_scanWord_97 : decode cX6_scanWord 97 = .ok (.putfield 32, 3) := by decide +kernel
theorem dX6_scanWord_100 : decode cX6_scanWord 100 = .ok (.goto (-95), 3) := by decide +kernel
theorem dX6_scanWord_103 : decode cX6_scanWord 103 = .ok (.aload_n 0, 1) := by decide +kernel
theorem dX6_scanWord_104 : decode cX6_scanWord 104 = .ok (.getfield 32, 3) := by decide +kernel
theorem dX6_scanWord_107 : decode cX6_scanWord 107 = .ok (.iload_n 2, 1) := by decide +kernel
theorem dX6_scanWord_108 : decode cX6_scanWord 108 = .ok (.isub, 1) := by decide +kernel
theorem dX6_scanWord_109 : decode cX6_scanWord 109 = .ok (.bipush 10, 2) := by decide +kernel
theorem dX6_scanWord_111 : decode cX6_scanWord 111 = .ok (.if_icmp .le 7, 3) := by decide +kernel
theorem dX6_scanWord_114 : decode cX6_scanWord 114 = .ok (.getstatic 48, 3) := by decide +kernel
theorem dX6_scanWord_117 : decode cX6_scanWord 117 = .ok (.areturn, 1) := by decide +kernel
theorem dX6_scanWord_118 : decode cX6_scanWord 118 = .ok (.aload_n 1, 1) := by decide +kernel
theorem dX6_scanWord_119 : decode cX6_scanWord 119 = .ok (.iload_n 2, 1) := by decide +kernel
theorem dX6_scanWord_120 : decode cX6_scanWord 120 = .ok (.aload_n 0, 1) := by decide +kernel
theorem dX6_scanWord_121 : decode cX6_scanWord 121 = .ok (.getfield 32, 3) := by decide +kernel
theorem dX6_scanWord_124 : decode cX6_scanWord 124 = .ok (.invokestatic 86, 3) := by decide +kernel
theorem dX6_scanWord_127 : decode cX6_scanWord 127 = .ok (.astore_n 3, 1) := by decide +kernel
theorem dX6_scanWord_128 : decode cX6_scanWord 128 = .ok (.aload_n 3, 1) := by decide +kernel
theorem dX6_scanWord_129 : decode cX6_scanWord 129 = .ok (.getstatic 48, 3) := by decide +kernel
theorem dX6_scanWord_132 : decode cX6_scanWord 132 = .ok (.if_acmp .ne 9, 3) := by decide +kernel
theorem dX6_scanWord_135 : decode cX6_scanWord 135 = .ok (.getstatic 90, 3) := by decide +kernel
theorem dX6_scanWord_138 : decode cX6_scanWord 138 = .ok (.goto 4, 3) := by decide +kernel
theorem dX6_scanWord_141 : decode cX6_scanWord 141 = .ok (.aload_n 3, 1) := by decide +kernel
theorem dX6_scanWord_142 : decode cX6_scanWord 142 = .ok (.areturn, 1) := by decide +kernel
theorem dX6_scanNumber_0 : decode cX6_scanNumber 0 = .ok (.aload_n 0, 1) := by decide +kernel
theorem dX6_scanNumber_1 : decode cX6_scanNumber 1 = .ok (.getfield 32, 3) := by decide +kernel
theorem dX6_scanNumber_4 : decode cX6_scanNumber 4 = .ok (.istore_n 2, 1) := by decide +kernel
theorem dX6_scanNumber_5 : decode cX6_scanNumber 5 = .ok (.aload_n 0, 1) := by decide +kernel
theorem dX6_scanNumber_6 : decode cX6_scanNumber 6 = .ok (.getfield 32, 3) := by decide +kernel
theorem dX6_scanNumber_9 : decode cX6_scanNumber 9 = .ok (.aload_n 1, 1) := by decide +kernel
theorem dX6_scanNumber_10 : decode cX6_scanNumber 10 = .ok (.getfield 43, 3) := by decide +kernel
theorem dX6_scanNumber_13 : decode cX6_scanNumber 13 = .ok (.if_icmp .ge 55, 3) := by decide +kernel
theorem dX6_scanNumber_16 : decode cX6_scanNumber 16 = .ok (.aload_n 1, 1) := by decide +kernel
theorem dX6_scanNumber_17 : decode cX6_scanNumber 17 = .ok (.aload_n 0, 1) := by decide +kernel
theorem dX6_scanNumber_18 : decode cX6_scanNumber 18 = .ok (.getfield 32, 3) := by decide +kernel
theorem dX6_scanNumber_21 : decode cX6_scanNumber 21 = .ok (.invokevirtual 59, 3) := by decide +kernel
theorem dX6_scanNumber_24 : decode cX6_scanNumber 24 = .ok (.invokestatic 75, 3) := by decide +kernel
theorem dX6_scanNumber_27 : decode cX6_scanNumber 27 = .ok (.ifCond .eq 41, 3) := by decide +kernel
theorem dX6_scanNumber_30 : decode cX6_scanNumber 30 = .ok (.aload_n 0, 1) := by decide +kernel
theorem dX6_scanNumber_31 : decode cX6_scanNumber 31 = .ok (.aload_n 0, 1) := by decide +kernel
theorem dX6_scanNumber_32 : decode cX6_scanNumber 32 = .ok (.getfield 63, 3) := by decide +kernel
theorem dX6_scanNumber_35 : decode cX6_scanNumber 35 = .ok (.ldc2_w 93, 3) := by decide +kernel
theorem dX6_scanNumber_38 : decode cX6_scanNumber 38 = .ok (.lmul, 1) := by decide +kernel
theorem dX6_scanNumber_39 : decode cX6_scanNumber 39 = .ok (.aload_n 1, 1) := by decide +kernel
theorem dX6_scanNumber_40 : decode cX6_scanNumber 40 = .ok (.aload_n 0, 1) := by decide +kernel
theorem dX6_scanNumber_41 : decode cX6_scanNumber 41 = .ok (.getfield 32, 3) := by decide +kernel
theorem dX6_scanNumber_44 : decode cX6_scanNumber 44 = .ok (.invokevirtual 59, 3) := by decide +kernel
theorem dX6_scanNumber_47 : decode cX6_scanNumber 47 = .ok (.bipush 48, 2) := by decide +kernel
theorem dX6_scanNumber_49 : decode cX6_scanNumber 49 = .ok (.isub, 1) := by decide +kernel
theorem dX6_scanNumber_50 : decode cX6_scanNumber 50 = .ok (.i2l, 1) := by decide +kernel
theorem dX6_scanNumber_51 : decode cX6_scanNumber 51 = .ok (.ladd, 1) := by decide +kernel
theorem dX6_scanNumber_52 : decode cX6_scanNumber 52 = .ok (.putfield 63, 3) := by decide +kernel
theorem dX6_scanNumber_55 : decode cX6_scanNumber 55 = .ok (.aload_n 0, 1) := by decide +kernel
theorem dX6_scanNumber_56 : decode cX6_scanNumber 56 = .ok (.dup, 1) := by decide +kernel
theorem dX6_scanNumber_57 : decode cX6_scanNumber 57 = .ok (.getfield 32, 3) := by decide +kernel
theorem dX6_scanNumber_60 : decode cX6_scanNumber 60 = .ok (.iconst 1, 1) := by decide +kernel
theorem dX6_scanNumber_61 : decode cX6_scanNumber 61 = .ok (.iadd, 1) := by decide +kernel
theorem dX6_scanNumber_62 : decode cX6_scanNumber 62 = .ok (.putfield 32, 3) := by decide +kernel
theorem dX6_scanNumber_65 : decode cX6_scanNumber 65 = .ok (.goto (-60), 3) := by decide +kernel
theorem dX6_scanNumber_68 : decode cX6_scanNumber 68 = .ok (.aload_n 0, 1) := by decide +kernel
theorem dX6_scanNumber_69 : decode cX6_scanNumber 69 = .ok (.getfield 32, 3) := by decide +kernel
theorem dX6_scanNumber_72 : decode cX6_scanNumber 72 = .ok (.iload_n 2, 1) := by decide +kernel
theorem dX6_scanNumber_73 : decode cX6_scanNumber 73 = .ok (.isub, 1) := by decide +kernel
theorem dX6_scanNumber_74 : decode cX6_scanNumber 74 = .ok (.bipush 6, 2) := by decide +kernel
theorem dX6_scanNumber_76 : decode cX6_scanNumber 76 = .ok (.if_icmp .le 9, 3) := by decide +kernel
theorem dX6_scanNumber_79 : decode cX6_scanNumber 79 = .ok (.getstatic 48, 3) := by decide +kernel
theorem dX6_scanNumber_82 : decode cX6_scanNumber 82 = .ok (.goto 6, 3) := by decide +kernel
theorem dX6_scanNumber_85 : decode cX6_scanNumber 85 = .ok (.getstatic 95, 3) := by decide +kernel
theorem dX6_scanNumber_88 : decode cX6_scanNumber 88 = .ok (.areturn, 1) := by decide +kernel
theorem dX6_scanSymbol_0 : decode cX6_scanSymbol 0 = .ok (.aload_n 0, 1) := by decide +kernel
theorem dX6_scanSymbol_1 : decode cX6_scanSymbol 1 = .ok (.getfield 32, 3) := by decide +kernel
theorem dX6_scanSymbol_4 : decode cX6_scanSymbol 4 = .ok (.istore_n 2, 1) := by decide +kernel
theorem dX6_scanSymbol_5 : decode cX6_scanSymbol 5 = .ok (.aload_n 1, 1) := by decide +kernel
theorem dX6_scanSymbol_6 : decode cX6_scanSymbol 6 = .ok (.iload_n 2, 1) := by decide +kernel
theorem dX6_scanSymbol_7 : decode cX6_scanSymbol 7 = .ok (.invokevirtual 59, 3) := by decide +kernel
theorem dX6_scanSymbol_10 : decode cX6_scanSymbol 10 = .ok (.istore_n 3, 1) := by decide +kernel
theorem dX6_scanSymbol_11 : decode cX6_scanSymbol 11 = .ok (.iload_n 3, 1) := by decide +kernel
theorem dX6_scanSymbol_12 : decode cX6_scanSymbol 12 = .ok (.bipush 60, 2) := by decide +kernel
theorem dX6_scanSymbol_14 : decode cX6_scanSymbol 14 = .ok (.if_icmp .eq 9, 3) := by decide +kernel
theorem dX6_scanSymbol_17 : decode cX6_scanSymbol 17 = .ok (.iload_n 3, 1) := by decide +kernel
theorem dX6_scanSymbol_18 : decode cX6_scanSymbol 18 = .ok (.bipush 62, 2) := by decide +kernel
theorem dX6_scanSymbol_20 : decode cX6_scanSymbol 20 = .ok (.if_icmp .ne 19, 3) := by decide +kernel
theorem dX6_scanSymbol_23 : decode cX6_scanSymbol 23 = .ok (.aload_n 1, 1) := by decide +kernel
theorem dX6_scanSymbol_24 : decode cX6_scanSymbol 24 = .ok (.iload_n 2, 1) := by decide +kernel
theorem dX6_scanSymbol_25 : decode cX6_scanSymbol 25 = .ok (.iconst 1, 1) := by decide +kernel
theorem dX6_scanSymbol_26 : decode cX6_scanSymbol 26 = .ok (.iadd, 1) := by decide +kernel
theorem dX6_scanSymbol_27 : decode cX6_scanSymbol 27 = .ok (.invokevirtual 59, 3) := by decide +kernel
theorem dX6_scanSymbol_30 : decode cX6_scanSymbol 30 = .ok (.bipush 61, 2) := by decide +kernel
theorem dX6_scanSymbol_32 : decode cX6_scanSymbol 32 = .ok (.if_icmp .ne 7, 3) := by decide +kernel
theorem dX6_scanSymbol_35 : decode cX6_scanSymbol 35 = .ok (.iconst 1, 1) := by decide +kernel
theorem dX6_scanSymbol_36 : decode cX6_scanSymbol 36 = .ok (.goto 4, 3) := by decide +kernel
theorem dX6_scanSymbol_39 : decode cX6_scanSymbol 39 = .ok (.iconst 0, 1) := by decide +kernel
theorem dX6_scanSymbol_40 : decode cX6_scanSymbol 40 = .ok (.istore 4, 2) := by decide +kernel
theorem dX6_scanSymbol_42 : decode cX6_scanSymbol 42 = .ok (.aload_n 0, 1) := by decide +kernel
theorem dX6_scanSymbol_43 : decode cX6_scanSymbol 43 = .ok (.iload_n 2, 1) := by decide +kernel
theorem dX6_scanSymbol_44 : decode cX6_scanSymbol 44 = .ok (.iload 4, 2) := by decide +kernel
theorem dX6_scanSymbol_46 : decode cX6_scanSymbol 46 = .ok (.ifCond .eq 7, 3) := by decide +kernel
theorem dX6_scanSymbol_49 : decode cX6_scanSymbol 49 = .ok (.iconst 2, 1) := by decide +kernel
theorem dX6_scanSymbol_50 : decode cX6_scanSymbol 50 = .ok (.goto 4, 3) := by decide +kernel
theorem dX6_scanSymbol_53 : decode cX6_scanSymbol 53 = .ok (.iconst 1, 1) := by decide +kernel
theorem dX6_scanSymbol_54 : decode cX6_scanSymbol 54 = .ok (.iadd, 1) := by decide +kernel
theorem dX6_scanSymbol_55 : decode cX6_scanSymbol 55 = .ok (.putfield 32, 3) := by decide +kernel
theorem dX6_scanSymbol_58 : decode cX6_scanSymbol 58 = .ok (.aload_n 1, 1) := by decide +kernel
theorem dX6_scanSymbol_59 : decode cX6_scanSymbol 59 = .ok (.iload_n 2, 1) := by decide +kernel
theorem dX6_scanSymbol_60 : decode cX6_scanSymbol 60 = .ok (.aload_n 0, 1) := by decide +kernel
theorem dX6_scanSymbol_61 : decode cX6_scanSymbol 61 = .ok (.getfield 32, 3) := by decide +kernel
theorem dX6_scanSymbol_64 : decode cX6_scanSymbol 64 = .ok (.invokestatic 86, 3) := by decide +kernel
theorem dX6_scanSymbol_67 : decode cX6_scanSymbol 67 = .ok (.areturn, 1) := by decide +kernel
theorem dX6_kindOf_0 : decode cX6_kindOf 0 = .ok (.iconst 0, 1) := by decide +kernel
theorem dX6_kindOf_1 : decode cX6_kindOf 1 = .ok (.istore_n 3, 1) := by decide +kernel
theorem dX6_kindOf_2 : decode cX6_kindOf 2 = .ok (.iload_n 3, 1) := by decide +kernel
theorem dX6_kindOf_3 : decode cX6_kindOf 3 = .ok (.getstatic 98, 3) := by decide +kernel
theorem dX6_kindOf_6 : decode cX6_kindOf 6 = .ok (.arraylength, 1) := by decide +kernel
theorem dX6_kindOf_7 : decode cX6_kindOf 7 = .ok (.if_icmp .ge 32, 3) := by decide +kernel
theorem dX6_kindOf_10 : decode cX6_kindOf 10 = .ok (.aload_n 0, 1) := by decide +kernel
theorem dX6_kindOf_11 : decode cX6_kindOf 11 = .ok (.getstatic 98, 3) := by decide +kernel
theorem dX6_kindOf_14 : decode cX6_kindOf 14 = .ok (.iload_n 3, 1) := by decide +kernel
theorem dX6_kindOf_15 : decode cX6_kindOf 15 = .ok (.aaload, 1) := by decide +kernel
theorem dX6_kindOf_16 : decode cX6_kindOf 16 = .ok (.getfield 101, 3) := by decide +kernel
theorem dX6_kindOf_19 : decode cX6_kindOf 19 = .ok (.iload_n 1, 1) := by decide +kernel
theorem dX6_kindOf_20 : decode cX6_kindOf 20 = .ok (.iload_n 2, 1) := by decide +kernel
theorem dX6_kindOf_21 : decode cX6_kindOf 21 = .ok (.invokevirtual 105, 3) := by decide +kernel
theorem dX6_kindOf_24 : decode cX6_kindOf 24 = .ok (.ifCond .eq 9, 3) := by decide +kernel
theorem dX6_kindOf_27 : decode cX6_kindOf 27 = .ok (.getstatic 98, 3) := by decide +kernel
theorem dX6_kindOf_30 : decode cX6_kindOf 30 = .ok (.iload_n 3, 1) := by decide +kernel
theorem dX6_kindOf_31 : decode cX6_kindOf 31 = .ok (.aaload, 1) := by decide +kernel
theorem dX6_kindOf_32 : decode cX6_kindOf 32 = .ok (.areturn, 1) := by decide +kernel
theorem dX6_kindOf_33 : decode cX6_kindOf 33 = .ok (.iinc 3 1, 3) := by decide +kernel
theorem dX6_kindOf_36 : decode cX6_kindOf 36 = .ok (.goto (-34), 3) := by decide +kernel
theorem dX6_kindOf_39 : decode cX6_kindOf 39 = .ok (.getstatic 48, 3) := by decide +kernel
theorem dX6_kindOf_42 : decode cX6_kindOf 42 = .ok (.areturn, 1) := by decide +kernel
theorem dX6_keep_0 : decode cX6_keep 0 = .ok (.aload_n 0, 1) := by decide +kernel
theorem dX6_keep_1 : decode cX6_keep 1 = .ok (.getfield 25, 3) := by decide +kernel
theorem dX6_keep_4 : decode cX6_keep 4 = .ok (.aload_n 0, 1) := by decide +kernel
theorem dX6_keep_5 : decode cX6_keep 5 = .ok (.getfield 11, 3) := by decide +kernel
theorem dX6_keep_8 : decode cX6_keep 8 = .ok (.arraylength, 1) := by decide +kernel
theorem dX6_keep_9 : decode cX6_keep 9 = .ok (.if_icmp .ge 46, 3) := by decide +kernel
theorem dX6_keep_12 : decode cX6_keep 12 = .ok (.aload_n 0, 1) := by decide +kernel
theorem dX6_keep_13 : decode cX6_keep 13 = .ok (.getfield 11, 3) := by decide +kernel
theorem dX6_keep_16 : decode cX6_keep 16 = .ok (.aload_n 0, 1) := by decide +kernel
theorem dX6_keep_17 : decode cX6_keep 17 = .ok (.getfield 25, 3) := by decide +kernel
theorem dX6_keep_20 : decode cX6_keep 20 = .ok (.aload_n 1, 1) := by decide +kernel
theorem dX6_keep_21 : decode cX6_keep 21 = .ok (.aastore, 1) := by decide +kernel
theorem dX6_keep_22 : decode cX6_keep 22 = .ok (.aload_n 0, 1) := by decide +kernel
theorem dX6_keep_23 : decode cX6_keep 23 = .ok (.getfield 17, 3) := by decide +kernel
theorem dX6_keep_26 : decode cX6_keep 26 = .ok (.aload_n 0, 1) := by decide +kernel
theorem dX6_keep_27 : decode cX6_keep 27 = .ok (.getfield 25, 3) := by decide +kernel
theorem dX6_keep_30 : decode cX6_keep 30 = .ok (.iload_n 2, 1) := by decide +kernel
theorem dX6_keep_31 : decode cX6_keep 31 = .ok (.iastore, 1) := by decide +kernel
theorem dX6_keep_32 : decode cX6_keep 32 = .ok (.aload_n 0, 1) := by decide +kernel
theorem dX6_keep_33 : decode cX6_keep 33 = .ok (.getfield 21, 3) := by decide +kernel
theorem dX6_keep_36 : decode cX6_keep 36 = .ok (.aload_n 0, 1) := by decide +kernel
theorem dX6_keep_37 : decode cX6_keep 37 = .ok (.getfield 25, 3) := by decide +kernel
theorem dX6_keep_40 : decode cX6_keep 40 = .ok (.aload_n 0, 1) := by decide +kernel
theorem dX6_keep_41 : decode cX6_keep 41 = .ok (.getfield 63, 3) := by decide +kernel
theorem dX6_keep_44 : decode cX6_keep 44 = .ok (.lastore, 1) := by decide +kernel
theorem dX6_keep_45 : decode cX6_keep 45 = .ok (.aload_n 0, 1) := by decide +kernel
theorem dX6_keep_46 : decode cX6_keep 46 = .ok (.dup, 1) := by decide +kernel
theorem dX6_keep_47 : decode cX6_keep 47 = .ok (.getfield 25, 3) := by decide +kernel
theorem dX6_keep_50 : decode cX6_keep 50 = .ok (.iconst 1, 1) := by decide +kernel
theorem dX6_keep_51 : decode cX6_keep 51 = .ok (.iadd, 1) := by decide +kernel
theorem dX6_keep_52 : decode cX6_keep 52 = .ok (.putfield 25, 3) := by decide +kernel
theorem dX6_keep_55 : decode cX6_keep 55 = .ok (.return_, 1) := by decide +kernel
theorem dX6_isLetter_0 : decode cX6_isLetter 0 = .ok (.iload_n 0, 1) := by decide +kernel
theorem dX6_isLetter_1 : decode cX6_isLetter 1 = .ok (.bipush 97, 2) := by decide +kernel
theorem dX6_isLetter_3 : decode cX6_isLetter 3 = .ok (.if_icmp .lt 13, 3) := by decide +kernel
theorem dX6_isLetter_6 : decode cX6_isLetter 6 = .ok (.iload_n 0, 1) := by decide +kernel
theorem dX6_isLetter_7 : decode cX6_isLetter 7 = .ok (.bipush 122, 2) := by decide +kernel
theorem dX6_isLetter_9 : decode cX6_isLetter 9 = .ok (.if_icmp .gt 7, 3) := by decide +kernel
theorem dX6_isLetter_12 : decode cX6_isLetter 12 = .ok (.iconst 1, 1) := by decide +kernel
theorem dX6_isLetter_13 : decode cX6_isLetter 13 = .ok (.goto 4, 3) := by decide +kernel
theorem dX6_isLetter_16 : decode cX6_isLetter 16 = .ok (.iconst 0, 1) := by decide +kernel
theorem dX6_isLetter_17 : decode cX6_isLetter 17 = .ok (.ireturn, 1) := by decide +kernel
theorem dX6_isDigit_0 : decode cX6_isDigit 0 = .ok (.iload_n 0, 1) := by decide +kernel
theorem dX6_isDigit_1 : decode cX6_isDigit 1 = .ok (.bipush 48, 2) := by decide +kernel
theorem dX6_isDigit_3 : decode cX6_isDigit 3 = .ok (.if_icmp .lt 13, 3) := by decide +kernel
theorem dX6_isDigit_6 : decode cX6_isDigit 6 = .ok (.iload_n 0, 1) := by decide +kernel
theorem dX6_isDigit_7 : decode cX6_isDigit 7 = .ok (.bipush 57, 2) := by decide +kernel
theorem dX6_isDigit_9 : decode cX6_isDigit 9 = .ok (.if_icmp .gt 7, 3) := by decide +kernel
theorem dX6_isDigit_12 : decode cX6_isDigit 12 = .ok (.iconst 1, 1) := by decide +kernel
theorem dX6_isDigit_13 : decode cX6_isDigit 13 = .ok (.goto 4, 3) := by decide +kernel
theorem dX6_isDigit_16 : decode cX6_isDigit 16 = .ok (.iconst 0, 1) := by decide +kernel
theorem dX6_isDigit_17 : decode cX6_isDigit 17 = .ok (.ireturn, 1) := by decide +kernel
theorem dX7_init_0 : decode cX7_init 0 = .ok (.aload_n 0, 1) := by decide +kernel
theorem dX7_init_1 : decode cX7_init 1 = .ok (.invokespecial 1, 3) := by decide +kernel
theorem dX7_init_4 : decode cX7_init 4 = .ok (.aload_n 0, 1) := by decide +kernel
theorem dX7_init_5 : decode cX7_init 5 = .ok (.new 7, 3) := by decide +kernel
theorem dX7_init_8 : decode cX7_init 8 = .ok (.dup, 1) := by decide +kernel
theorem dX7_init_9 : decode cX7_init 9 = .ok (.invokespecial 9, 3) := by decide +kernel
theorem dX7_init_12 : decode cX7_init 12 = .ok (.putfield 10, 3) := by decide +kernel
theorem dX7_init_15 : decode cX7_init 15 = .ok (.aload_n 0, 1) := by decide +kernel
theorem dX7_init_16 : decode cX7_init 16 = .ok (.new 16, 3) := by decide +kernel
theorem dX7_init_19 : decode cX7_init 19 = .ok (.dup, 1) := by decide +kernel
theorem dX7_init_20 : decode cX7_init 20 = .ok (.invokespecial 18, 3) := by decide +kernel
theorem dX7_init_23 : decode cX7_init 23 = .ok (.putfield 19, 3) := by decide +kernel
theorem dX7_init_26 : decode cX7_init 26 = .ok (.aload_n 0, 1) := by decide +kernel
theorem dX7_init_27 : decode cX7_init 27 = .ok (.new 23, 3) := by decide +kernel
theorem dX7_init_30 : decode cX7_init 30 = .ok (.dup, 1) := by decide +kernel
theorem dX7_init_31 : decode cX7_init 31 = .ok (.invokespecial 25, 3) := by decide +kernel
theorem dX7_init_34 : decode cX7_init 34 = .ok (.putfield 26, 3) := by decide +kernel
theorem dX7_init_37 : decode cX7_init 37 = .ok (.aload_n 0, 1) := by decide +kernel
theorem dX7_init_38 : decode cX7_init 38 = .ok (.iconst (-1), 1) := by decide +kernel
theorem dX7_init_39 : decode cX7_init 39 = .ok (.putfield 30, 3) := by decide +kernel
theorem dX7_init_42 : decode cX7_init 42 = .ok (.new 23, 3) := by decide +kernel
theorem dX7_init_45 : decode cX7_init 45 = .ok (.dup, 1) := by decide +kernel
theorem dX7_init_46 : decode cX7_init 46 = .ok (.invokespecial 25, 3) := by decide +kernel
theorem dX7_init_49 : decode cX7_init 49 = .ok (.astore_n 1, 1) := by decide +kernel
theorem dX7_init_50 : decode cX7_init 50 = .ok (.aload_n 0, 1) := by decide +kernel
theorem dX7_init_51 : decode cX7_init 51 = .ok (.new 34, 3) := by decide +kernel
theorem dX7_init_54 : decode cX7_init 54 = .ok (.dup, 1) := by decide +kernel
theorem dX7_init_55 : decode cX7_init 55 = .ok (.aload_n 1, 1) := by decide +kernel
theorem dX7_init_56 : decode cX7_init 56 = .ok (.invokespecial 36, 3) := by decide +kernel
theorem dX7_init_59 : decode cX7_init 59 = .ok (.putfield 39, 3) := by decide +kernel
theorem dX7_init_62 : decode cX7_init 62 = .ok (.aload_n 0, 1) := by decide +kernel
theorem dX7_init_63 : decode cX7_init 63 = .ok (.new 34, 3) := by decide +kernel
theorem dX7_init_66 : decode cX7_init 66 = .ok (.dup, 1) := by decide +kernel
theorem dX7_init_67 : decode cX7_init 67 = .ok (.aload_n 1, 1) := by decide +kernel
theorem dX7_init_68 : decode cX7_init 68 = .ok (.invokespecial 36, 3) := by decide +kernel
theorem dX7_init_71 : decode cX7_init 71 = .ok (.putfield 43, 3) := by decide +kernel
theorem dX7_init_74 : decode cX7_init 74 = .ok (.aload_n 0, 1) := by decide +kernel
theorem dX7_init_75 : decode cX7_init 75 = .ok (.new 46, 3) := by decide +kernel
theorem dX7_init_78 : decode cX7_init 78 = .ok (.dup, 1) := by decide +kernel
theorem dX7_init_79 : decode cX7_init 79 = .ok (.aload_n 0, 1) := by decide +kernel
theorem dX7_init_80 : decode cX7_init 80 = .ok (.getfield 19, 3) := by decide +kernel
theorem dX7_init_83 : decode cX7_init 83 = .ok (.aload_n 0, 1) := by decide +kernel
theorem dX7_init_84 : decode cX7_init 84 = .ok (.getfield 26, 3) := by decide +kernel
theorem dX7_init_87 : decode cX7_init 87 = .ok (.invokespecial 48, 3) := by decide +kernel
theorem dX7_init_90 : decode cX7_init 90 = .ok (.putfield 51, 3) := by decide +kernel
theorem dX7_init_93 : decode cX7_init 93 = .ok (.return_, 1) := by decide +kernel
theorem dX7_feed_0 : decode cX7_feed 0 = .ok (.aload_n 0, 1) := by decide +kernel
theorem dX7_feed_1 : decode cX7_feed 1 = .ok (.getfield 10, 3) := by decide +kernel
theorem dX7_feed_4 : decode cX7_feed 4 = .ok (.getfield 55, 3) := by decide +kernel
theorem dX7_feed_7 : decode cX7_feed 7 = .ok (.bipush 20, 2) := by decide +kernel
theorem dX7_feed_9 : decode cX7_feed 9 = .ok (.iadd, 1) := by decide +kernel
theorem dX7_feed_10 : decode cX7_feed 10 = .ok (.sipush 2000, 3) := by decide +kernel
theorem dX7_feed_13 : decode cX7_feed 13 = .ok (.if_icmp .le 13, 3) := by decide +kernel
theorem dX7_feed_16 : decode cX7_feed 16 = .ok (.new 58, 3) := by decide +kernel
theorem dX7_feed_19 : decode cX7_feed 19 = .ok (.dup, 1) := by decide +kernel
theorem dX7_feed_20 : decode cX7_feed 20 = .ok (.ldc 60, 2) := by decide +kernel
theorem dX7_feed_22 : decode cX7_feed 22 = .ok (.invokespecial 62, 3) := by decide +kernel
theorem dX7_feed_25 : decode cX7_feed 25 = .ok (.athrow, 1) := by decide +kernel
theorem dX7_feed_26 : decode cX7_feed 26 = .ok (.aload_n 0, 1) := by decide +kernel
theorem dX7_feed_27 : decode cX7_feed 27 = .ok (.getfield 10, 3) := by decide +kernel
theorem dX7_feed_30 : decode cX7_feed 30 = .ok (.iload_n 1, 1) := by decide +kernel
theorem dX7_feed_31 : decode cX7_feed 31 = .ok (.invokevirtual 65, 3) := by decide +kernel
theorem dX7_feed_34 : decode cX7_feed 34 = .ok (.aload_n 0, 1) := by decide +kernel
theorem dX7_feed_35 : decode cX7_feed 35 = .ok (.getfield 10, 3) := by decide +kernel
theorem dX7_feed_38 : decode cX7_feed 38 = .ok (.iload_n 2, 1) := by decide +kernel
theorem dX7_feed_39 : decode cX7_feed 39 = .ok (.invokevirtual 65, 3) := by decide +kernel
theorem dX7_feed_42 : decode cX7_feed 42 = .ok (.aload_n 0, 1) := by decide +kernel
theorem dX7_feed_43 : decode cX7_feed 43 = .ok (.getfield 10, 3) := by decide +kernel
theorem dX7_feed_46 : decode cX7_feed 46 = .ok (.iload_n 3, 1) := by decide +kernel
theorem dX7_feed_47 : decode cX7_feed 47 = .ok (.invokevirtual 65, 3) := by decide +kernel
theorem dX7_feed_50 : decode cX7_feed 50 = .ok (.aload_n 0, 1) := by decide +kernel
theorem dX7_feed_51 : decode cX7_feed 51 = .ok (.getfield 10, 3) := by decide +kernel
theorem dX7_feed_54 : decode cX7_feed 54 = .ok (.iload 4, 2) := by decide +kernel
theorem dX7_feed_56 : decode cX7_feed 56 = .ok (.invokevirtual 65, 3) := by decide +kernel
theorem dX7_feed_59 : decode cX7_feed 59 = .ok (.aload_n 0, 1) := by decide +kernel
theorem dX7_feed_60 : decode cX7_feed 60 = .ok (.getfield 10, 3) := by decide +kernel
theorem dX7_feed_63 : decode cX7_feed 63 = .ok (.iload 5, 2) := by decide +kernel
theorem dX7_feed_65 : decode cX7_feed 65 = .ok (.invokevirtual 65, 3) := by decide +kernel
theorem dX7_feed_68 : decode cX7_feed 68 = .ok (.aload_n 0, 1) := by decide +kernel
theorem dX7_feed_69 : decode cX7_feed 69 = .ok (.getfield 10, 3) := by decide +kernel
theorem dX7_feed_72 : decode cX7_feed 72 = .ok (.getfield 55, 3) := by decide +kernel
theorem dX7_feed_75 : decode cX7_feed 75 = .ok (.ireturn, 1) := by decide +kernel
theorem dX7_trim_0 : decode cX7_trim 0 = .ok (.iload_n 1, 1) := by decide +kernel
theorem dX7_trim_1 : decode cX7_trim 1 = .ok (.ifCond .lt 14, 3) := by decide +kernel
theorem dX7_trim_4 : decode cX7_trim 4 = .ok (.iload_n 1, 1) := by decide +kernel
theorem dX7_trim_5 : decode cX7_trim 5 = .ok (.aload_n 0, 1) := by decide +kernel
theorem dX7_trim_6 : decode cX7_trim 6 = .ok (.getfield 10, 3) := by decide +kernel
theorem dX7_trim_9 : decode cX7_trim 9 = .ok (.getfield 55, 3) := by decide +kernel
theorem dX7_trim_12 : decode cX7_trim 12 = .ok (.if_icmp .le 13, 3) := by decide +kernel
theorem dX7_trim_15 : decode cX7_trim 15 = .ok (.new 69, 3) := by decide +kernel
theorem dX7_trim_18 : decode cX7_trim 18 = .ok (.dup, 1) := by decide +kernel
theorem dX7_trim_19 : decode cX7_trim 19 = .ok (.ldc 71, 2) := by decide +kernel
theorem dX7_trim_21 : decode cX7_trim 21 = .ok (.invokespecial 73, 3) := by decide +kernel
theorem dX7_trim_24 : decode cX7_trim 24 = .ok (.athrow, 1) := by decide +kernel
theorem dX7_trim_25 : decode cX7_trim 25 = .ok (.aload_n 0, 1) := by decide +kernel
theorem dX7_trim_26 : decode cX7_trim 26 = .ok (.getfield 10, 3) := by decide +kernel
theorem dX7_trim_29 : decode cX7_trim 29 = .ok (.iload_n 1, 1) := by decide +kernel
theorem dX7_trim_30 : decode cX7_trim 30 = .ok (.putfield 55, 3) := by decide +kernel
theorem dX7_trim_33 : decode cX7_trim 33 = .ok (.iload_n 1, 1) := by decide +kernel
theorem dX7_trim_34 : decode cX7_trim 34 = .ok (.ireturn, 1) := by decide +kernel
theorem dX7_teach_0 : decode cX7_teach 0 = .ok (.aload_n 0, 1) := by decide +kernel
theorem dX7_teach_1 : decode cX7_teach 1 = .ok (.getfield 19, 3) := by decide +kernel
theorem dX7_teach_4 : decode cX7_teach 4 = .ok (.aload_n 0, 1) := by decide +kernel
theorem dX7_teach_5 : decode cX7_teach 5 = .ok (.getfield 10, 3) := by decide +kernel
theorem dX7_teach_8 : decode cX7_teach 8 = .ok (.invokevirtual 74, 3) := by decide +kernel
theorem dX7_teach_11 : decode cX7_teach 11 = .ok (.aload_n 0, 1) := by decide +kernel
theorem dX7_teach_12 : decode cX7_teach 12 = .ok (.getfield 51, 3) := by decide +kernel
theorem dX7_teach_15 : decode cX7_teach 15 = .ok (.aload_n 0, 1) := by decide +kernel
theorem dX7_teach_16 : decode cX7_teach 16 = .ok (.getfield 26, 3) := by decide +kernel
theorem dX7_teach_19 : decode cX7_teach 19 = .ok (.invokevirtual 78, 3) := by decide +kernel
theorem dX7_teach_22 : decode cX7_teach 22 = .ok (.istore_n 1, 1) := by decide +kernel
theorem dX7_teach_23 : decode cX7_teach 23 = .ok (.aload_n 0, 1) := by decide +kernel
theorem dX7_teach_24 : decode cX7_teach 24 = .ok (.aload_n 0, 1) := by decide +kernel
theorem dX7_teach_25 : decode cX7_teach 25 = .ok (.getfield 51, 3) := by decide +kernel
theorem dX7_teach_28 : decode cX7_teach 28 = .ok (.getfield 82, 3) := by decide +kernel
theorem dX7_teach_31 : decode cX7_teach 31 = .ok (.putfield 30, 3) := by decide +kernel
theorem dX7_teach_34 : decode cX7_teach 34 = .ok (.aload_n 0, 1) := by decide +kernel
theorem dX7_teach_35 : decode cX7_teach 35 = .ok (.getfield 10, 3) := by decide +kernel
theorem dX7_teach_38 : decode cX7_teach 38 = .ok (.iconst 0, 1) := by decide +kernel
theorem dX7_teach_39 : decode cX7_teach 39 = .ok (.putfield 55, 3) := by decide +kernel
theorem dX7_teach_42 : decode cX7_teach 42 = .ok (.iload_n 1, 1) := by decide +kernel
theorem dX7_teach_43 : decode cX7_teach 43 = .ok (.ifCond .ne 27, 3) := by decide +kernel
theorem dX7_teach_46 : decode cX7_teach 46 = .ok (.aload_n 0, 1) := by decide +kernel
theorem dX7_teach_47 : decode cX7_teach 47 = .ok (.getfield 39, 3) := by decide +kernel
theorem dX7_teach_50 : decode cX7_teach 50 = .ok (.getfield 83, 3) := by decide +kernel
theorem dX7_teach_53 : decode cX7_teach 53 = .ok (.astore_n 2, 1) := by decide +kernel
theorem dX7_teach_54 : decode cX7_teach 54 = .ok (.aload_n 0, 1) := by decide +kernel
theorem dX7_teach_55 : decode cX7_teach 55 = .ok (.getfield 39, 3) := by decide +kernel
theorem dX7_teach_58 : decode cX7_teach 58 = .ok (.aload_n 0, 1) := by decide +kernel
theorem dX7_teach_59 : decode cX7_teach 59 = .ok (.getfield 26, 3) := by decide +kernel
theorem dX7_teach_62 : decode cX7_teach 62 = .ok (.invokevirtual 86, 3) := by decide +kernel
theorem dX7_teach_65 : decode cX7_teach 65 = .ok (.aload_n 0, 1) := by decide +kernel
theorem dX7_teach_66 : decode cX7_teach 66 = .ok (.aload_n 2, 1) := by decide +kernel
theorem dX7_teach_67 : decode cX7_teach 67 = .ok (.putfield 26, 3) := by decide +kernel
theorem dX7_teach_70 : decode cX7_teach 70 = .ok (.iload_n 1, 1) := by decide +kernel
theorem dX7_teach_71 : decode cX7_teach 71 = .ok (.ireturn, 1) := by decide +kernel
theorem dX7_count_0 : decode cX7_count 0 = .ok (.iload_n 1, 1) := by decide +kernel
theorem dX7_count_1 : decode cX7_count 1 = .ok (.ifCond .lt 9, 3) := by decide +kernel
theorem dX7_count_4 : decode cX7_count 4 = .ok (.iload_n 1, 1) := by decide +kernel
theorem dX7_count_5 : decode cX7_count 5 = .ok (.bipush 13, 2) := by decide +kernel
theorem dX7_count_7 : decode cX7_count 7 = .ok (.if_icmp .le 13, 3) := by decide +kernel
theorem dX7_count_10 : decode cX7_count 10 = .ok (.new 89, 3) := by decide +kernel
theorem dX7_count_13 : decode cX7_count 13 = .ok (.dup, 1) := by decide +kernel
theorem dX7_count_14 : decode cX7_count 14 = .ok (.ldc 91, 2) := by decide +kernel
theorem dX7_count_16 : decode cX7_count 16 = .ok (.invokespecial 93, 3) := by decide +kernel
theorem dX7_count_19 : decode cX7_count 19 = .ok (.athrow, 1) := by decide +kernel
theorem dX7_count_20 : decode cX7_count 20 = .ok (.aload_n 0, 1) := by decide +kernel
theorem dX7_count_21 : decode cX7_count 21 = .ok (.iload_n 1, 1) := by decide +kernel
theorem dX7_count_22 : decode cX7_count 22 = .ok (.invokevirtual 94, 3) := by decide +kernel
theorem dX7_count_25 : decode cX7_count 25 = .ok (.ireturn, 1) := by decide +kernel
theorem dX7_peak_0 : decode cX7_peak 0 = .ok (.aload_n 0, 1) := by decide +kernel
theorem dX7_peak_1 : decode cX7_peak 1 = .ok (.getfield 39, 3) := by decide +kernel
theorem dX7_peak_4 : decode cX7_peak 4 = .ok (.getfield 83, 3) := by decide +kernel
theorem dX7_peak_7 : decode cX7_peak 7 = .ok (.iload_n 1, 1) := by decide +kernel
theorem dX7_peak_8 : decode cX7_peak 8 = .ok (.invokevirtual 98, 3) := by decide +kernel
theorem dX7_peak_11 : decode cX7_peak 11 = .ok (.ifCond .eq 13, 3) := by decide +kernel
theorem dX7_peak_14 : decode cX7_peak 14 = .ok (.iload_n 2, 1) := by decide +kernel
theorem dX7_peak_15 : decode cX7_peak 15 = .ok (.ifCond .lt 9, 3) := by decide +kernel
theorem dX7_peak_18 : decode cX7_peak 18 = .ok (.iload_n 2, 1) := by decide +kernel
theorem dX7_peak_19 : decode cX7_peak 19 = .ok (.bipush 6, 2) := by decide +kernel
theorem dX7_peak_21 : decode cX7_peak 21 = .ok (.if_icmp .le 13, 3) := by decide +kernel
theorem dX7_peak_24 : decode cX7_peak 24 = .ok (.new 89, 3) := by decide +kernel
theorem dX7_peak_27 : decode cX7_peak 27 = .ok (.dup, 1) := by decide +kernel
theorem dX7_peak_28 : decode cX7_peak 28 = .ok (.ldc 102, 2) := by decide +kernel
theorem dX7_peak_30 : decode cX7_peak 30 = .ok (.invokespecial 93, 3) := by decide +kernel
theorem dX7_peak_33 : decode cX7_peak 33 = .ok (.athrow, 1) := by decide +kernel
theorem dX7_peak_34 : decode cX7_peak 34 = .ok (.aload_n 0, 1) := by decide +kernel
theorem dX7_peak_35 : decode cX7_peak 35 = .ok (.getfield 39, 3) := by decide +kernel

theorem dX7_peak_38 : decode cX7_peak 38 = .ok (.iload_n 1, 1) := by decide +kernel
theorem dX7_peak_39 : decode cX7_peak 39 = .ok (.iload_n 2, 1) := by decide +kernel
theorem dX7_peak_40 : decode cX7_peak 40 = .ok (.invokevirtual 104, 3) := by decide +kernel
theorem dX7_peak_43 : decode cX7_peak 43 = .ok (.ireturn, 1) := by decide +kernel
theorem dX7_pass_0 : decode cX7_pass 0 = .ok (.aload_n 0, 1) := by decide +kernel
theorem dX7_pass_1 : decode cX7_pass 1 = .ok (.getfield 39, 3) := by decide +kernel
theorem dX7_pass_4 : decode cX7_pass 4 = .ok (.getfield 83, 3) := by decide +kernel
theorem dX7_pass_7 : decode cX7_pass 7 = .ok (.iload_n 1, 1) := by decide +kernel
theorem dX7_pass_8 : decode cX7_pass 8 = .ok (.invokevirtual 108, 3) := by decide +kernel
theorem dX7_pass_11 : decode cX7_pass 11 = .ok (.ifCond .eq 12, 3) := by decide +kernel
theorem dX7_pass_14 : decode cX7_pass 14 = .ok (.iload_n 2, 1) := by decide +kernel
theorem dX7_pass_15 : decode cX7_pass 15 = .ok (.ifCond .lt 8, 3) := by decide +kernel
theorem dX7_pass_18 : decode cX7_pass 18 = .ok (.iload_n 2, 1) := by decide +kernel
theorem dX7_pass_19 : decode cX7_pass 19 = .ok (.iconst 5, 1) := by decide +kernel
theorem dX7_pass_20 : decode cX7_pass 20 = .ok (.if_icmp .le 13, 3) := by decide +kernel
theorem dX7_pass_23 : decode cX7_pass 23 = .ok (.new 89, 3) := by decide +kernel
theorem dX7_pass_26 : decode cX7_pass 26 = .ok (.dup, 1) := by decide +kernel
theorem dX7_pass_27 : decode cX7_pass 27 = .ok (.ldc 111, 2) := by decide +kernel
theorem dX7_pass_29 : decode cX7_pass 29 = .ok (.invokespecial 93, 3) := by decide +kernel
theorem dX7_pass_32 : decode cX7_pass 32 = .ok (.athrow, 1) := by decide +kernel
theorem dX7_pass_33 : decode cX7_pass 33 = .ok (.aload_n 0, 1) := by decide +kernel
theorem dX7_pass_34 : decode cX7_pass 34 = .ok (.getfield 39, 3) := by decide +kernel
theorem dX7_pass_37 : decode cX7_pass 37 = .ok (.iload_n 1, 1) := by decide +kernel
theorem dX7_pass_38 : decode cX7_pass 38 = .ok (.iload_n 2, 1) := by decide +kernel
theorem dX7_pass_39 : decode cX7_pass 39 = .ok (.invokevirtual 113, 3) := by decide +kernel
theorem dX7_pass_42 : decode cX7_pass 42 = .ok (.ireturn, 1) := by decide +kernel
theorem dX7_message_0 : decode cX7_message 0 = .ok (.aload_n 0, 1) := by decide +kernel
theorem dX7_message_1 : decode cX7_message 1 = .ok (.getfield 39, 3) := by decide +kernel
theorem dX7_message_4 : decode cX7_message 4 = .ok (.getfield 83, 3) := by decide +kernel
theorem dX7_message_7 : decode cX7_message 7 = .ok (.iload_n 1, 1) := by decide +kernel
theorem dX7_message_8 : decode cX7_message 8 = .ok (.invokevirtual 116, 3) := by decide +kernel
theorem dX7_message_11 : decode cX7_message 11 = .ok (.ifCond .eq 13, 3) := by decide +kernel
theorem dX7_message_14 : decode cX7_message 14 = .ok (.iload_n 2, 1) := by decide +kernel
theorem dX7_message_15 : decode cX7_message 15 = .ok (.ifCond .lt 9, 3) := by decide +kernel
theorem dX7_message_18 : decode cX7_message 18 = .ok (.iload_n 2, 1) := by decide +kernel
theorem dX7_message_19 : decode cX7_message 19 = .ok (.bipush 8, 2) := by decide +kernel
theorem dX7_message_21 : decode cX7_message 21 = .ok (.if_icmp .le 13, 3) := by decide +kernel
theorem dX7_message_24 : decode cX7_message 24 = .ok (.new 89, 3) := by decide +kernel
theorem dX7_message_27 : decode cX7_message 27 = .ok (.dup, 1) := by decide +kernel
theorem dX7_message_28 : decode cX7_message 28 = .ok (.ldc 119, 2) := by decide +kernel
theorem dX7_message_30 : decode cX7_message 30 = .ok (.invokespecial 93, 3) := by decide +kernel
theorem dX7_message_33 : decode cX7_message 33 = .ok (.athrow, 1) := by decide +kernel
theorem dX7_message_34 : decode cX7_message 34 = .ok (.aload_n 0, 1) := by decide +kernel
theorem dX7_message_35 : decode cX7_message 35 = .ok (.getfield 39, 3) := by decide +kernel
theorem dX7_message_38 : decode cX7_message 38 = .ok (.iload_n 1, 1) := by decide +kernel
theorem dX7_message_39 : decode cX7_message 39 = .ok (.iload_n 2, 1) := by decide +kernel
theorem dX7_message_40 : decode cX7_message 40 = .ok (.invokevirtual 121, 3) := by decide +kernel
theorem dX7_message_43 : decode cX7_message 43 = .ok (.ireturn, 1) := by decide +kernel
theorem dX7_hasSun_0 : decode cX7_hasSun 0 = .ok (.aload_n 0, 1) := by decide +kernel
theorem dX7_hasSun_1 : decode cX7_hasSun 1 = .ok (.getfield 39, 3) := by decide +kernel
theorem dX7_hasSun_4 : decode cX7_hasSun 4 = .ok (.getfield 83, 3) := by decide +kernel
theorem dX7_hasSun_7 : decode cX7_hasSun 7 = .ok (.iload_n 1, 1) := by decide +kernel
theorem dX7_hasSun_8 : decode cX7_hasSun 8 = .ok (.invokevirtual 98, 3) := by decide +kernel
theorem dX7_hasSun_11 : decode cX7_hasSun 11 = .ok (.ifCond .ne 13, 3) := by decide +kernel
theorem dX7_hasSun_14 : decode cX7_hasSun 14 = .ok (.new 89, 3) := by decide +kernel
theorem dX7_hasSun_17 : decode cX7_hasSun 17 = .ok (.dup, 1) := by decide +kernel
theorem dX7_hasSun_18 : decode cX7_hasSun 18 = .ok (.ldc 124, 2) := by decide +kernel
theorem dX7_hasSun_20 : decode cX7_hasSun 20 = .ok (.invokespecial 93, 3) := by decide +kernel
theorem dX7_hasSun_23 : decode cX7_hasSun 23 = .ok (.athrow, 1) := by decide +kernel
theorem dX7_hasSun_24 : decode cX7_hasSun 24 = .ok (.iload_n 2, 1) := by decide +kernel
theorem dX7_hasSun_25 : decode cX7_hasSun 25 = .ok (.ifCond .lt 10, 3) := by decide +kernel
theorem dX7_hasSun_28 : decode cX7_hasSun 28 = .ok (.iload_n 2, 1) := by decide +kernel
theorem dX7_hasSun_29 : decode cX7_hasSun 29 = .ok (.sipush 9999, 3) := by decide +kernel
theorem dX7_hasSun_32 : decode cX7_hasSun 32 = .ok (.if_icmp .le 13, 3) := by decide +kernel
theorem dX7_hasSun_35 : decode cX7_hasSun 35 = .ok (.new 69, 3) := by decide +kernel
theorem dX7_hasSun_38 : decode cX7_hasSun 38 = .ok (.dup, 1) := by decide +kernel
theorem dX7_hasSun_39 : decode cX7_hasSun 39 = .ok (.ldc 126, 2) := by decide +kernel
theorem dX7_hasSun_41 : decode cX7_hasSun 41 = .ok (.invokespecial 73, 3) := by decide +kernel
theorem dX7_hasSun_44 : decode cX7_hasSun 44 = .ok (.athrow, 1) := by decide +kernel
theorem dX7_hasSun_45 : decode cX7_hasSun 45 = .ok (.aload_n 0, 1) := by decide +kernel
theorem dX7_hasSun_46 : decode cX7_hasSun 46 = .ok (.getfield 39, 3) := by decide +kernel
theorem dX7_hasSun_49 : decode cX7_hasSun 49 = .ok (.getfield 83, 3) := by decide +kernel
theorem dX7_hasSun_52 : decode cX7_hasSun 52 = .ok (.iload_n 1, 1) := by decide +kernel
theorem dX7_hasSun_53 : decode cX7_hasSun 53 = .ok (.iload_n 2, 1) := by decide +kernel
theorem dX7_hasSun_54 : decode cX7_hasSun 54 = .ok (.invokevirtual 128, 3) := by decide +kernel
theorem dX7_hasSun_57 : decode cX7_hasSun 57 = .ok (.ireturn, 1) := by decide +kernel
theorem dX7_isOpen_0 : decode cX7_isOpen 0 = .ok (.aload_n 0, 1) := by decide +kernel
theorem dX7_isOpen_1 : decode cX7_isOpen 1 = .ok (.getfield 39, 3) := by decide +kernel
theorem dX7_isOpen_4 : decode cX7_isOpen 4 = .ok (.getfield 83, 3) := by decide +kernel
theorem dX7_isOpen_7 : decode cX7_isOpen 7 = .ok (.iload_n 1, 1) := by decide +kernel
theorem dX7_isOpen_8 : decode cX7_isOpen 8 = .ok (.invokevirtual 108, 3) := by decide +kernel
theorem dX7_isOpen_11 : decode cX7_isOpen 11 = .ok (.ifCond .ne 13, 3) := by decide +kernel
theorem dX7_isOpen_14 : decode cX7_isOpen 14 = .ok (.new 89, 3) := by decide +kernel
theorem dX7_isOpen_17 : decode cX7_isOpen 17 = .ok (.dup, 1) := by decide +kernel
theorem dX7_isOpen_18 : decode cX7_isOpen 18 = .ok (.ldc 132, 2) := by decide +kernel
theorem dX7_isOpen_20 : decode cX7_isOpen 20 = .ok (.invokespecial 93, 3) := by decide +kernel
theorem dX7_isOpen_23 : decode cX7_isOpen 23 = .ok (.athrow, 1) := by decide +kernel
theorem dX7_isOpen_24 : decode cX7_isOpen 24 = .ok (.iload_n 2, 1) := by decide +kernel
theorem dX7_isOpen_25 : decode cX7_isOpen 25 = .ok (.ifCond .lt 10, 3) := by decide +kernel
theorem dX7_isOpen_28 : decode cX7_isOpen 28 = .ok (.iload_n 2, 1) := by decide +kernel
theorem dX7_isOpen_29 : decode cX7_isOpen 29 = .ok (.sipush 9999, 3) := by decide +kernel
theorem dX7_isOpen_32 : decode cX7_isOpen 32 = .ok (.if_icmp .le 13, 3) := by decide +kernel
theorem dX7_isOpen_35 : decode cX7_isOpen 35 = .ok (.new 69, 3) := by decide +kernel
theorem dX7_isOpen_38 : decode cX7_isOpen 38 = .ok (.dup, 1) := by decide +kernel
theorem dX7_isOpen_39 : decode cX7_isOpen 39 = .ok (.ldc 126, 2) := by decide +kernel
theorem dX7_isOpen_41 : decode cX7_isOpen 41 = .ok (.invokespecial 73, 3) := by decide +kernel
theorem dX7_isOpen_44 : decode cX7_isOpen 44 = .ok (.athrow, 1) := by decide +kernel
theorem dX7_isOpen_45 : decode cX7_isOpen 45 = .ok (.aload_n 0, 1) := by decide +kernel
theorem dX7_isOpen_46 : decode cX7_isOpen 46 = .ok (.getfield 39, 3) := by decide +kernel
theorem dX7_isOpen_49 : decode cX7_isOpen 49 = .ok (.iload_n 1, 1) := by decide +kernel
theorem dX7_isOpen_50 : decode cX7_isOpen 50 = .ok (.iload_n 2, 1) := by decide +kernel
theorem dX7_isOpen_51 : decode cX7_isOpen 51 = .ok (.invokevirtual 134, 3) := by decide +kernel
theorem dX7_isOpen_54 : decode cX7_isOpen 54 = .ok (.ireturn, 1) := by decide +kernel
theorem dX7_way_0 : decode cX7_way 0 = .ok (.aload_n 0, 1) := by decide +kernel
theorem dX7_way_1 : decode cX7_way 1 = .ok (.getfield 39, 3) := by decide +kernel
theorem dX7_way_4 : decode cX7_way 4 = .ok (.getfield 83, 3) := by decide +kernel
theorem dX7_way_7 : decode cX7_way 7 = .ok (.iload_n 1, 1) := by decide +kernel
theorem dX7_way_8 : decode cX7_way 8 = .ok (.invokevirtual 98, 3) := by decide +kernel
theorem dX7_way_11 : decode cX7_way 11 = .ok (.ifCond .eq 17, 3) := by decide +kernel
theorem dX7_way_14 : decode cX7_way 14 = .ok (.aload_n 0, 1) := by decide +kernel
theorem dX7_way_15 : decode cX7_way 15 = .ok (.getfield 39, 3) := by decide +kernel
theorem dX7_way_18 : decode cX7_way 18 = .ok (.getfield 83, 3) := by decide +kernel
theorem dX7_way_21 : decode cX7_way 21 = .ok (.iload_n 2, 1) := by decide +kernel
theorem dX7_way_22 : decode cX7_way 22 = .ok (.invokevirtual 98, 3) := by decide +kernel
theorem dX7_way_25 : decode cX7_way 25 = .ok (.ifCond .ne 13, 3) := by decide +kernel
theorem dX7_way_28 : decode cX7_way 28 = .ok (.new 89, 3) := by decide +kernel
theorem dX7_way_31 : decode cX7_way 31 = .ok (.dup, 1) := by decide +kernel
theorem dX7_way_32 : decode cX7_way 32 = .ok (.ldc 124, 2) := by decide +kernel
theorem dX7_way_34 : decode cX7_way 34 = .ok (.invokespecial 93, 3) := by decide +kernel
theorem dX7_way_37 : decode cX7_way 37 = .ok (.athrow, 1) := by decide +kernel
theorem dX7_way_38 : decode cX7_way 38 = .ok (.aload_n 0, 1) := by decide +kernel
theorem dX7_way_39 : decode cX7_way 39 = .ok (.getfield 39, 3) := by decide +kernel
theorem dX7_way_42 : decode cX7_way 42 = .ok (.invokevirtual 137, 3) := by decide +kernel
theorem dX7_way_45 : decode cX7_way 45 = .ok (.aload_n 0, 1) := by decide +kernel
theorem dX7_way_46 : decode cX7_way 46 = .ok (.getfield 39, 3) := by decide +kernel
theorem dX7_way_49 : decode cX7_way 49 = .ok (.iload_n 1, 1) := by decide +kernel
theorem dX7_way_50 : decode cX7_way 50 = .ok (.iload_n 2, 1) := by decide +kernel
theorem dX7_way_51 : decode cX7_way 51 = .ok (.invokevirtual 140, 3) := by decide +kernel
theorem dX7_way_54 : decode cX7_way 54 = .ok (.ireturn, 1) := by decide +kernel
theorem dX7_first_0 : decode cX7_first 0 = .ok (.aload_n 0, 1) := by decide +kernel
theorem dX7_first_1 : decode cX7_first 1 = .ok (.getfield 39, 3) := by decide +kernel
theorem dX7_first_4 : decode cX7_first 4 = .ok (.getfield 83, 3) := by decide +kernel
theorem dX7_first_7 : decode cX7_first 7 = .ok (.iload_n 1, 1) := by decide +kernel
theorem dX7_first_8 : decode cX7_first 8 = .ok (.invokevirtual 98, 3) := by decide +kernel
theorem dX7_first_11 : decode cX7_first 11 = .ok (.ifCond .eq 17, 3) := by decide +kernel
theorem dX7_first_14 : decode cX7_first 14 = .ok (.aload_n 0, 1) := by decide +kernel
theorem dX7_first_15 : decode cX7_first 15 = .ok (.getfield 39, 3) := by decide +kernel
theorem dX7_first_18 : decode cX7_first 18 = .ok (.getfield 83, 3) := by decide +kernel
theorem dX7_first_21 : decode cX7_first 21 = .ok (.iload_n 2, 1) := by decide +kernel
theorem dX7_first_22 : decode cX7_first 22 = .ok (.invokevirtual 98, 3) := by decide +kernel
theorem dX7_first_25 : decode cX7_first 25 = .ok (.ifCond .ne 13, 3) := by decide +kernel
theorem dX7_first_28 : decode cX7_first 28 = .ok (.new 89, 3) := by decide +kernel
theorem dX7_first_31 : decode cX7_first 31 = .ok (.dup, 1) := by decide +kernel
theorem dX7_first_32 : decode cX7_first 32 = .ok (.ldc 124, 2) := by decide +kernel
theorem dX7_first_34 : decode cX7_first 34 = .ok (.invokespecial 93, 3) := by decide +kernel
theorem dX7_first_37 : decode cX7_first 37 = .ok (.athrow, 1) := by decide +kernel
theorem dX7_first_38 : decode cX7_first 38 = .ok (.aload_n 0, 1) := by decide +kernel
theorem dX7_first_39 : decode cX7_first 39 = .ok (.getfield 39, 3) := by decide +kernel
theorem dX7_first_42 : decode cX7_first 42 = .ok (.invokevirtual 137, 3) := by decide +kernel
theorem dX7_first_45 : decode cX7_first 45 = .ok (.aload_n 0, 1) := by decide +kernel
theorem dX7_first_46 : decode cX7_first 46 = .ok (.getfield 39, 3) := by decide +kernel
theorem dX7_first_49 : decode cX7_first 49 = .ok (.iload_n 1, 1) := by decide +kernel
theorem dX7_first_50 : decode cX7_first 50 = .ok (.iload_n 2, 1) := by decide +kernel
theorem dX7_first_51 : decode cX7_first 51 = .ok (.invokevirtual 143, 3) := by decide +kernel
theorem dX7_first_54 : decode cX7_first 54 = .ok (.ireturn, 1) := by decide +kernel
theorem dX7_mirror_0 : decode cX7_mirror 0 = .ok (.aload_n 0, 1) := by decide +kernel
theorem dX7_mirror_1 : decode cX7_mirror 1 = .ok (.getfield 39, 3) := by decide +kernel
theorem dX7_mirror_4 : decode cX7_mirror 4 = .ok (.getfield 83, 3) := by decide +kernel
theorem dX7_mirror_7 : decode cX7_mirror 7 = .ok (.iload_n 1, 1) := by decide +kernel
theorem dX7_mirror_8 : decode cX7_mirror 8 = .ok (.invokevirtual 98, 3) := by decide +kernel
theorem dX7_mirror_11 : decode cX7_mirror 11 = .ok (.ifCond .ne 13, 3) := by decide +kernel
theorem dX7_mirror_14 : decode cX7_mirror 14 = .ok (.new 89, 3) := by decide +kernel
theorem dX7_mirror_17 : decode cX7_mirror 17 = .ok (.dup, 1) := by decide +kernel
theorem dX7_mirror_18 : decode cX7_mirror 18 = .ok (.ldc 124, 2) := by decide +kernel
theorem dX7_mirror_20 : decode cX7_mirror 20 = .ok (.invokespecial 93, 3) := by decide +kernel
theorem dX7_mirror_23 : decode cX7_mirror 23 = .ok (.athrow, 1) := by decide +kernel
theorem dX7_mirror_24 : decode cX7_mirror 24 = .ok (.iload_n 2, 1) := by decide +kernel
theorem dX7_mirror_25 : decode cX7_mirror 25 = .ok (.ifCond .eq 26, 3) := by decide +kernel
theorem dX7_mirror_28 : decode cX7_mirror 28 = .ok (.aload_n 0, 1) := by decide +kernel
theorem dX7_mirror_29 : decode cX7_mirror 29 = .ok (.getfield 39, 3) := by decide +kernel
theorem dX7_mirror_32 : decode cX7_mirror 32 = .ok (.getfield 146, 3) := by decide +kernel
theorem dX7_mirror_35 : decode cX7_mirror 35 = .ok (.iload_n 1, 1) := by decide +kernel
theorem dX7_mirror_36 : decode cX7_mirror 36 = .ok (.iaload, 1) := by decide +kernel
theorem dX7_mirror_37 : decode cX7_mirror 37 = .ok (.iconst 4, 1) := by decide +kernel
theorem dX7_mirror_38 : decode cX7_mirror 38 = .ok (.if_icmp .lt 13, 3) := by decide +kernel
theorem dX7_mirror_41 : decode cX7_mirror 41 = .ok (.new 58, 3) := by decide +kernel
theorem dX7_mirror_44 : decode cX7_mirror 44 = .ok (.dup, 1) := by decide +kernel
theorem dX7_mirror_45 : decode cX7_mirror 45 = .ok (.ldc 150, 2) := by decide +kernel
theorem dX7_mirror_47 : decode cX7_mirror 47 = .ok (.invokespecial 62, 3) := by decide +kernel
theorem dX7_mirror_50 : decode cX7_mirror 50 = .ok (.athrow, 1) := by decide +kernel
theorem dX7_mirror_51 : decode cX7_mirror 51 = .ok (.iload_n 2, 1) := by decide +kernel
theorem dX7_mirror_52 : decode cX7_mirror 52 = .ok (.ifCond .ne 24, 3) := by decide +kernel
theorem dX7_mirror_55 : decode cX7_mirror 55 = .ok (.aload_n 0, 1) := by decide +kernel
theorem dX7_mirror_56 : decode cX7_mirror 56 = .ok (.getfield 39, 3) := by decide +kernel
theorem dX7_mirror_59 : decode cX7_mirror 59 = .ok (.iload_n 1, 1) := by decide +kernel
theorem dX7_mirror_60 : decode cX7_mirror 60 = .ok (.invokevirtual 152, 3) := by decide +kernel
theorem dX7_mirror_63 : decode cX7_mirror 63 = .ok (.ifCond .gt 13, 3) := by decide +kernel
theorem dX7_mirror_66 : decode cX7_mirror 66 = .ok (.new 58, 3) := by decide +kernel
theorem dX7_mirror_69 : decode cX7_mirror 69 = .ok (.dup, 1) := by decide +kernel
theorem dX7_mirror_70 : decode cX7_mirror 70 = .ok (.ldc 155, 2) := by decide +kernel
theorem dX7_mirror_72 : decode cX7_mirror 72 = .ok (.invokespecial 62, 3) := by decide +kernel
theorem dX7_mirror_75 : decode cX7_mirror 75 = .ok (.athrow, 1) := by decide +kernel
theorem dX7_mirror_76 : decode cX7_mirror 76 = .ok (.aload_n 0, 1) := by decide +kernel
theorem dX7_mirror_77 : decode cX7_mirror 77 = .ok (.getfield 39, 3) := by decide +kernel
theorem dX7_mirror_80 : decode cX7_mirror 80 = .ok (.getfield 146, 3) := by decide +kernel
theorem dX7_mirror_83 : decode cX7_mirror 83 = .ok (.iload_n 1, 1) := by decide +kernel
theorem dX7_mirror_84 : decode cX7_mirror 84 = .ok (.dup2, 1) := by decide +kernel
theorem dX7_mirror_85 : decode cX7_mirror 85 = .ok (.iaload, 1) := by decide +kernel
theorem dX7_mirror_86 : decode cX7_mirror 86 = .ok (.iload_n 2, 1) := by decide +kernel
theorem dX7_mirror_87 : decode cX7_mirror 87 = .ok (.ifCond .eq 7, 3) := by decide +kernel
theorem dX7_mirror_90 : decode cX7_mirror 90 = .ok (.iconst 1, 1) := by decide +kernel
theorem dX7_mirror_91 : decode cX7_mirror 91 = .ok (.goto 4, 3) := by decide +kernel
theorem dX7_mirror_94 : decode cX7_mirror 94 = .ok (.iconst (-1), 1) := by decide +kernel
theorem dX7_mirror_95 : decode cX7_mirror 95 = .ok (.iadd, 1) := by decide +kernel
theorem dX7_mirror_96 : decode cX7_mirror 96 = .ok (.iastore, 1) := by decide +kernel
theorem dX7_mirror_97 : decode cX7_mirror 97 = .ok (.aload_n 0, 1) := by decide +kernel
theorem dX7_mirror_98 : decode cX7_mirror 98 = .ok (.getfield 39, 3) := by decide +kernel
theorem dX7_mirror_101 : decode cX7_mirror 101 = .ok (.getfield 146, 3) := by decide +kernel
theorem dX7_mirror_104 : decode cX7_mirror 104 = .ok (.iload_n 1, 1) := by decide +kernel
theorem dX7_mirror_105 : decode cX7_mirror 105 = .ok (.iaload, 1) := by decide +kernel
theorem dX7_mirror_106 : decode cX7_mirror 106 = .ok (.ireturn, 1) := by decide +kernel
theorem dX7_stop_0 : decode cX7_stop 0 = .ok (.aload_n 0, 1) := by decide +kernel
theorem dX7_stop_1 : decode cX7_stop 1 = .ok (.getfield 39, 3) := by decide +kernel
theorem dX7_stop_4 : decode cX7_stop 4 = .ok (.getfield 83, 3) := by decide +kernel
theorem dX7_stop_7 : decode cX7_stop 7 = .ok (.iload_n 1, 1) := by decide +kernel
theorem dX7_stop_8 : decode cX7_stop 8 = .ok (.invokevirtual 116, 3) := by decide +kernel
theorem dX7_stop_11 : decode cX7_stop 11 = .ok (.ifCond .ne 13, 3) := by decide +kernel
theorem dX7_stop_14 : decode cX7_stop 14 = .ok (.new 89, 3) := by decide +kernel
theorem dX7_stop_17 : decode cX7_stop 17 = .ok (.dup, 1) := by decide +kernel
theorem dX7_stop_18 : decode cX7_stop 18 = .ok (.ldc 157, 2) := by decide +kernel
theorem dX7_stop_20 : decode cX7_stop 20 = .ok (.invokespecial 93, 3) := by decide +kernel
theorem dX7_stop_23 : decode cX7_stop 23 = .ok (.athrow, 1) := by decide +kernel
theorem dX7_stop_24 : decode cX7_stop 24 = .ok (.aload_n 0, 1) := by decide +kernel
theorem dX7_stop_25 : decode cX7_stop 25 = .ok (.getfield 39, 3) := by decide +kernel
theorem dX7_stop_28 : decode cX7_stop 28 = .ok (.getfield 159, 3) := by decide +kernel
theorem dX7_stop_31 : decode cX7_stop 31 = .ok (.iload_n 1, 1) := by decide +kernel
theorem dX7_stop_32 : decode cX7_stop 32 = .ok (.iaload, 1) := by decide +kernel
theorem dX7_stop_33 : decode cX7_stop 33 = .ok (.iconst 1, 1) := by decide +kernel
theorem dX7_stop_34 : decode cX7_stop 34 = .ok (.if_icmp .eq 13, 3) := by decide +kernel
theorem dX7_stop_37 : decode cX7_stop 37 = .ok (.new 58, 3) := by decide +kernel
theorem dX7_stop_40 : decode cX7_stop 40 = .ok (.dup, 1) := by decide +kernel
theorem dX7_stop_41 : decode cX7_stop 41 = .ok (.ldc 162, 2) := by decide +kernel
theorem dX7_stop_43 : decode cX7_stop 43 = .ok (.invokespecial 62, 3) := by decide +kernel
theorem dX7_stop_46 : decode cX7_stop 46 = .ok (.athrow, 1) := by decide +kernel
theorem dX7_stop_47 : decode cX7_stop 47 = .ok (.aload_n 0, 1) := by decide +kernel
theorem dX7_stop_48 : decode cX7_stop 48 = .ok (.getfield 39, 3) := by decide +kernel
theorem dX7_stop_51 : decode cX7_stop 51 = .ok (.getfield 164, 3) := by decide +kernel
theorem dX7_stop_54 : decode cX7_stop 54 = .ok (.iload_n 1, 1) := by decide +kernel
theorem dX7_stop_55 : decode cX7_stop 55 = .ok (.iaload, 1) := by decide +kernel
theorem dX7_stop_56 : decode cX7_stop 56 = .ok (.istore_n 2, 1) := by decide +kernel
theorem dX7_stop_57 : decode cX7_stop 57 = .ok (.aload_n 0, 1) := by decide +kernel
theorem dX7_stop_58 : decode cX7_stop 58 = .ok (.getfield 39, 3) := by decide +kernel
theorem dX7_stop_61 : decode cX7_stop 61 = .ok (.iload_n 1, 1) := by decide +kernel
theorem dX7_stop_62 : decode cX7_stop 62 = .ok (.invokevirtual 167, 3) := by decide +kernel
theorem dX7_stop_65 : decode cX7_stop 65 = .ok (.iload_n 2, 1) := by decide +kernel
theorem dX7_stop_66 : decode cX7_stop 66 = .ok (.ireturn, 1) := by decide +kernel
theorem dX7_forward_0 : decode cX7_forward 0 = .ok (.aload_n 0, 1) := by decide +kernel
theorem dX7_forward_1 : decode cX7_forward 1 = .ok (.getfield 39, 3) := by decide +kernel
theorem dX7_forward_4 : decode cX7_forward 4 = .ok (.getfield 83, 3) := by decide +kernel
theorem dX7_forward_7 : decode cX7_forward 7 = .ok (.iload_n 1, 1) := by decide +kernel
theorem dX7_forward_8 : decode cX7_forward 8 = .ok (.invokevirtual 116, 3) := by decide +kernel
theorem dX7_forward_11 : decode cX7_forward 11 = .ok (.ifCond .eq 17, 3) := by decide +kernel
theorem dX7_forward_14 : decode cX7_forward 14 = .ok (.aload_n 0, 1) := by decide +kernel
theorem dX7_forward_15 : decode cX7_forward 15 = .ok (.getfield 39, 3) := by decide +kernel
theorem dX7_forward_18 : decode cX7_forward 18 = .ok (.getfield 83, 3) := by decide +kernel
theorem dX7_forward_21 : decode cX7_forward 21 = .ok (.iload_n 2, 1) := by decide +kernel
theorem dX7_forward_22 : decode cX7_forward 22 = .ok (.invokevirtual 98, 3) := by decide +kernel
theorem dX7_forward_25 : decode cX7_forward 25 = .ok (.ifCond .ne 13, 3) := by decide +kernel
theorem dX7_forward_28 : decode cX7_forward 28 = .ok (.new 89, 3) := by decide +kernel
theorem dX7_forward_31 : decode cX7_forward 31 = .ok (.dup, 1) := by decide +kernel
theorem dX7_forward_32 : decode cX7_forward 32 = .ok (.ldc 170, 2) := by decide +kernel
theorem dX7_forward_34 : decode cX7_forward 34 = .ok (.invokespecial 93, 3) := by decide +kernel
theorem dX7_forward_37 : decode cX7_forward 37 = .ok (.athrow, 1) := by decide +kernel
theorem dX7_forward_38 : decode cX7_forward 38 = .ok (.aload_n 0, 1) := by decide +kernel
theorem dX7_forward_39 : decode cX7_forward 39 = .ok (.getfield 39, 3) := by decide +kernel
theorem dX7_forward_42 : decode cX7_forward 42 = .ok (.getfield 172, 3) := by decide +kernel
theorem dX7_forward_45 : decode cX7_forward 45 = .ok (.iload_n 1, 1) := by decide +kernel
theorem dX7_forward_46 : decode cX7_forward 46 = .ok (.iaload, 1) := by decide +kernel
theorem dX7_forward_47 : decode cX7_forward 47 = .ok (.iload_n 2, 1) := by decide +kernel
theorem dX7_forward_48 : decode cX7_forward 48 = .ok (.if_icmp .ne 13, 3) := by decide +kernel
theorem dX7_forward_51 : decode cX7_forward 51 = .ok (.new 69, 3) := by decide +kernel
theorem dX7_forward_54 : decode cX7_forward 54 = .ok (.dup, 1) := by decide +kernel
theorem dX7_forward_55 : decode cX7_forward 55 = .ok (.ldc 175, 2) := by decide +kernel
theorem dX7_forward_57 : decode cX7_forward 57 = .ok (.invokespecial 73, 3) := by decide +kernel
theorem dX7_forward_60 : decode cX7_forward 60 = .ok (.athrow, 1) := by decide +kernel
theorem dX7_forward_61 : decode cX7_forward 61 = .ok (.aload_n 0, 1) := by decide +kernel
theorem dX7_forward_62 : decode cX7_forward 62 = .ok (.getfield 39, 3) := by decide +kernel
theorem dX7_forward_65 : decode cX7_forward 65 = .ok (.getfield 159, 3) := by decide +kernel
theorem dX7_forward_68 : decode cX7_forward 68 = .ok (.iload_n 1, 1) := by decide +kernel
theorem dX7_forward_69 : decode cX7_forward 69 = .ok (.iaload, 1) := by decide +kernel
theorem dX7_forward_70 : decode cX7_forward 70 = .ok (.iconst 2, 1) := by decide +kernel
theorem dX7_forward_71 : decode cX7_forward 71 = .ok (.if_icmp .eq 13, 3) := by decide +kernel
theorem dX7_forward_74 : decode cX7_forward 74 = .ok (.new 58, 3) := by decide +kernel
theorem dX7_forward_77 : decode cX7_forward 77 = .ok (.dup, 1) := by decide +kernel
theorem dX7_forward_78 : decode cX7_forward 78 = .ok (.ldc 177, 2) := by decide +kernel
theorem dX7_forward_80 : decode cX7_forward 80 = .ok (.invokespecial 62, 3) := by decide +kernel
theorem dX7_forward_83 : decode cX7_forward 83 = .ok (.athrow, 1) := by decide +kernel
theorem dX7_forward_84 : decode cX7_forward 84 = .ok (.aload_n 0, 1) := by decide +kernel
theorem dX7_forward_85 : decode cX7_forward 85 = .ok (.getfield 39, 3) := by decide +kernel
theorem dX7_forward_88 : decode cX7_forward 88 = .ok (.getfield 179, 3) := by decide +kernel
theorem dX7_forward_91 : decode cX7_forward 91 = .ok (.iload_n 1, 1) := by decide +kernel
theorem dX7_forward_92 : decode cX7_forward 92 = .ok (.iload_n 2, 1) := by decide +kernel
theorem dX7_forward_93 : decode cX7_forward 93 = .ok (.iastore, 1) := by decide +kernel
theorem dX7_forward_94 : decode cX7_forward 94 = .ok (.aload_n 0, 1) := by decide +kernel
theorem dX7_forward_95 : decode cX7_forward 95 = .ok (.getfield 39, 3) := by decide +kernel
theorem dX7_forward_98 : decode cX7_forward 98 = .ok (.getfield 182, 3) := by decide +kernel
theorem dX7_forward_101 : decode cX7_forward 101 = .ok (.iload_n 1, 1) := by decide +kernel
theorem dX7_forward_102 : decode cX7_forward 102 = .ok (.iconst (-1), 1) := by decide +kernel
theorem dX7_forward_103 : decode cX7_forward 103 = .ok (.iastore, 1) := by decide +kernel
theorem dX7_forward_104 : decode cX7_forward 104 = .ok (.aload_n 0, 1) := by decide +kernel
theorem dX7_forward_105 : decode cX7_forward 105 = .ok (.getfield 39, 3) := by decide +kernel
theorem dX7_forward_108 : decode cX7_forward 108 = .ok (.iload_n 1, 1) := by decide +kernel
theorem dX7_forward_109 : decode cX7_forward 109 = .ok (.invokevirtual 185, 3) := by decide +kernel
theorem dX7_forward_112 : decode cX7_forward 112 = .ok (.aload_n 0, 1) := by decide +kernel
theorem dX7_forward_113 : decode cX7_forward 113 = .ok (.getfield 39, 3) := by decide +kernel
theorem dX7_forward_116 : decode cX7_forward 116 = .ok (.getfield 172, 3) := by decide +kernel
theorem dX7_forward_119 : decode cX7_forward 119 = .ok (.iload_n 1, 1) := by decide +kernel
theorem dX7_forward_120 : decode cX7_forward 120 = .ok (.iaload, 1) := by decide +kernel
theorem dX7_forward_121 : decode cX7_forward 121 = .ok (.ireturn, 1) := by decide +kernel
theorem dX7_go_0 : decode cX7_go 0 = .ok (.iload_n 1, 1) := by decide +kernel
theorem dX7_go_1 : decode cX7_go 1 = .ok (.iconst 1, 1) := by decide +kernel
theorem dX7_go_2 : decode cX7_go 2 = .ok (.if_icmp .lt 10, 3) := by decide +kernel
theorem dX7_go_5 : decode cX7_go 5 = .ok (.iload_n 1, 1) := by decide +kernel
theorem dX7_go_6 : decode cX7_go 6 = .ok (.sipush 240, 3) := by decide +kernel
theorem dX7_go_9 : decode cX7_go 9 = .ok (.if_icmp .le 13, 3) := by decide +kernel
theorem dX7_go_12 : decode cX7_go 12 = .ok (.new 69, 3) := by decide +kernel
theorem dX7_go_15 : decode cX7_go 15 = .ok (.dup, 1) := by decide +kernel
theorem dX7_go_16 : decode cX7_go 16 = .ok (.ldc 188, 2) := by decide +kernel
theorem dX7_go_18 : decode cX7_go 18 = .ok (.invokespecial 73, 3) := by decide +kernel
theorem dX7_go_21 : decode cX7_go 21 = .ok (.athrow, 1) := by decide +kernel
theorem dX7_go_22 : decode cX7_go 22 = .ok (.aload_n 0, 1) := by decide +kernel
theorem dX7_go_23 : decode cX7_go 23 = .ok (.getfield 39, 3) := by decide +kernel
theorem dX7_go_26 : decode cX7_go 26 = .ok (.iconst 2, 1) := by decide +kernel
theorem dX7_go_27 : decode cX7_go 27 = .ok (.invokevirtual 190, 3) := by decide +kernel
theorem dX7_go_30 : decode cX7_go 30 = .ok (.istore_n 2, 1) := by decide +kernel
theorem dX7_go_31 : decode cX7_go 31 = .ok (.aload_n 0, 1) := by decide +kernel
theorem dX7_go_32 : decode cX7_go 32 = .ok (.getfield 39, 3) := by decide +kernel
theorem dX7_go_35 : decode cX7_go 35 = .ok (.iload_n 1, 1) := by decide +kernel
theorem dX7_go_36 : decode cX7_go 36 = .ok (.invokevirtual 193, 3) := by decide +kernel
theorem dX7_go_39 : decode cX7_go 39 = .ok (.aload_n 0, 1) := by decide +kernel
theorem dX7_go_40 : decode cX7_go 40 = .ok (.getfield 39, 3) := by decide +kernel
theorem dX7_go_43 : decode cX7_go 43 = .ok (.iconst 2, 1) := by decide +kernel
theorem dX7_go_44 : decode cX7_go 44 = .ok (.invokevirtual 190, 3) := by decide +kernel
theorem dX7_go_47 : decode cX7_go 47 = .ok (.iload_n 2, 1) := by decide +kernel
theorem dX7_go_48 : decode cX7_go 48 = .ok (.isub, 1) := by decide +kernel
theorem dX7_go_49 : decode cX7_go 49 = .ok (.ireturn, 1) := by decide +kernel
theorem dX7_until_0 : decode cX7_until 0 = .ok (.aload_n 0, 1) := by decide +kernel
theorem dX7_until_1 : decode cX7_until 1 = .ok (.getfield 39, 3) := by decide +kernel
theorem dX7_until_4 : decode cX7_until 4 = .ok (.getfield 83, 3) := by decide +kernel
theorem dX7_until_7 : decode cX7_until 7 = .ok (.iload_n 1, 1) := by decide +kernel
theorem dX7_until_8 : decode cX7_until 8 = .ok (.invokevirtual 116, 3) := by decide +kernel
theorem dX7_until_11 : decode cX7_until 11 = .ok (.ifCond .ne 13, 3) := by decide +kernel
theorem dX7_until_14 : decode cX7_until 14 = .ok (.new 89, 3) := by decide +kernel
theorem dX7_until_17 : decode cX7_until 17 = .ok (.dup, 1) := by decide +kernel
theorem dX7_until_18 : decode cX7_until 18 = .ok (.ldc 157, 2) := by decide +kernel
theorem dX7_until_20 : decode cX7_until 20 = .ok (.invokespecial 93, 3) := by decide +kernel
theorem dX7_until_23 : decode cX7_until 23 = .ok (.athrow, 1) := by decide +kernel
theorem dX7_until_24 : decode cX7_until 24 = .ok (.aload_n 0, 1) := by decide +kernel
theorem dX7_until_25 : decode cX7_until 25 = .ok (.getfield 43, 3) := by decide +kernel
theorem dX7_until_28 : decode cX7_until 28 = .ok (.aload_n 0, 1) := by decide +kernel
theorem dX7_until_29 : decode cX7_until 29 = .ok (.getfield 39, 3) := by decide +kernel
theorem dX7_until_32 : decode cX7_until 32 = .ok (.invokevirtual 196, 3) := by decide +kernel
theorem dX7_until_35 : decode cX7_until 35 = .ok (.iconst 0, 1) := by decide +kernel
theorem dX7_until_36 : decode cX7_until 36 = .ok (.istore_n 2, 1) := by decide +kernel
theorem dX7_until_37 : decode cX7_until 37 = .ok (.iload_n 2, 1) := by decide +kernel
theorem dX7_until_38 : decode cX7_until 38 = .ok (.sipush 360, 3) := by decide +kernel
theorem dX7_until_41 : decode cX7_until 41 = .ok (.if_icmp .gt 32, 3) := by decide +kernel
theorem dX7_until_44 : decode cX7_until 44 = .ok (.aload_n 0, 1) := by decide +kernel
theorem dX7_until_45 : decode cX7_until 45 = .ok (.getfield 43, 3) := by decide +kernel
theorem dX7_until_48 : decode cX7_until 48 = .ok (.getfield 159, 3) := by decide +kernel
theorem dX7_until_51 : decode cX7_until 51 = .ok (.iload_n 1, 1) := by decide +kernel
theorem dX7_until_52 : decode cX7_until 52 = .ok (.iaload, 1) := by decide +kernel
theorem dX7_until_53 : decode cX7_until 53 = .ok (.iconst 2, 1) := by decide +kernel
theorem dX7_until_54 : decode cX7_until 54 = .ok (.if_icmp .ne 5, 3) := by decide +kernel
theorem dX7_until_57 : decode cX7_until 57 = .ok (.iload_n 2, 1) := by decide +kernel
theorem dX7_until_58 : decode cX7_until 58 = .ok (.ireturn, 1) := by decide +kernel
theorem dX7_until_59 : decode cX7_until 59 = .ok (.aload_n 0, 1) := by decide +kernel
theorem dX7_until_60 : decode cX7_until 60 = .ok (.getfield 43, 3) := by decide +kernel
theorem dX7_until_63 : decode cX7_until 63 = .ok (.iconst 1, 1) := by decide +kernel
theorem dX7_until_64 : decode cX7_until 64 = .ok (.invokevirtual 193, 3) := by decide +kernel
theorem dX7_until_67 : decode cX7_until 67 = .ok (.iinc 2 1, 3) := by decide +kernel
theorem dX7_until_70 : decode cX7_until 70 = .ok (.goto (-33), 3) := by decide +kernel
theorem dX7_until_73 : decode cX7_until 73 = .ok (.iconst (-1), 1) := by decide +kernel
theorem dX7_until_74 : decode cX7_until 74 = .ok (.ireturn, 1) := by decide +kernel
theorem dX7_opens_0 : decode cX7_opens 0 = .ok (.aload_n 0, 1) := by decide +kernel
theorem dX7_opens_1 : decode cX7_opens 1 = .ok (.getfield 39, 3) := by decide +kernel
theorem dX7_opens_4 : decode cX7_opens 4 = .ok (.getfield 83, 3) := by decide +kernel
theorem dX7_opens_7 : decode cX7_opens 7 = .ok (.iload_n 1, 1) := by decide +kernel
theorem dX7_opens_8 : decode cX7_opens 8 = .ok (.invokevirtual 108, 3) := by decide +kernel
theorem dX7_opens_11 : decode cX7_opens 11 = .ok (.ifCond .ne 13, 3) := by decide +kernel
theorem dX7_opens_14 : decode cX7_opens 14 = .ok (.new 89, 3) := by decide +kernel
theorem dX7_opens_17 : decode cX7_opens 17 = .ok (.dup, 1) := by decide +kernel
theorem dX7_opens_18 : decode cX7_opens 18 = .ok (.ldc 132, 2) := by decide +kernel
theorem dX7_opens_20 : decode cX7_opens 20 = .ok (.invokespecial 93, 3) := by decide +kernel
theorem dX7_opens_23 : decode cX7_opens 23 = .ok (.athrow, 1) := by decide +kernel
theorem dX7_opens_24 : decode cX7_opens 24 = .ok (.iconst 0, 1) := by decide +kernel
theorem dX7_opens_25 : decode cX7_opens 25 = .ok (.istore_n 2, 1) := by decide +kernel
theorem dX7_opens_26 : decode cX7_opens 26 = .ok (.iload_n 2, 1) := by decide +kernel
theorem dX7_opens_27 : decode cX7_opens 27 = .ok (.sipush 240, 3) := by decide +kernel
theorem dX7_opens_30 : decode cX7_opens 30 = .ok (.if_icmp .gt 31, 3) := by decide +kernel
theorem dX7_opens_33 : decode cX7_opens 33 = .ok (.aload_n 0, 1) := by decide +kernel
theorem dX7_opens_34 : decode cX7_opens 34 = .ok (.getfield 39, 3) := by decide +kernel
theorem dX7_opens_37 : decode cX7_opens 37 = .ok (.iload_n 1, 1) := by decide +kernel
theorem dX7_opens_38 : decode cX7_opens 38 = .ok (.aload_n 0, 1) := by decide +kernel
theorem dX7_opens_39 : decode cX7_opens 39 = .ok (.getfield 39, 3) := by decide +kernel
theorem dX7_opens_42 : decode cX7_opens 42 = .ok (.getfield 200, 3) := by decide +kernel
theorem dX7_opens_45 : decode cX7_opens 45 = .ok (.iload_n 2, 1) := by decide +kernel
theorem dX7_opens_46 : decode cX7_opens 46 = .ok (.iadd, 1) := by decide +kernel
theorem dX7_opens_47 : decode cX7_opens 47 = .ok (.invokevirtual 134, 3) := by decide +kernel
theorem dX7_opens_50 : decode cX7_opens 50 = .ok (.ifCond .eq 5, 3) := by decide +kernel
theorem dX7_opens_53 : decode cX7_opens 53 = .ok (.iload_n 2, 1) := by decide +kernel
theorem dX7_opens_54 : decode cX7_opens 54 = .ok (.ireturn, 1) := by decide +kernel
theorem dX7_opens_55 : decode cX7_opens 55 = .ok (.iinc 2 1, 3) := by decide +kernel
theorem dX7_opens_58 : decode cX7_opens 58 = .ok (.goto (-32), 3) := by decide +kernel
theorem dX7_opens_61 : decode cX7_opens 61 = .ok (.iconst (-1), 1) := by decide +kernel
theorem dX7_opens_62 : decode cX7_opens 62 = .ok (.ireturn, 1) := by decide +kernel
theorem dX7_foresee_0 : decode cX7_foresee 0 = .ok (.iload_n 1, 1) := by decide +kernel
theorem dX7_foresee_1 : decode cX7_foresee 1 = .ok (.iconst 1, 1) := by decide +kernel
theorem dX7_foresee_2 : decode cX7_foresee 2 = .ok (.if_icmp .lt 10, 3) := by decide +kernel
theorem dX7_foresee_5 : decode cX7_foresee 5 = .ok (.iload_n 1, 1) := by decide +kernel
theorem dX7_foresee_6 : decode cX7_foresee 6 = .ok (.sipush 240, 3) := by decide +kernel
theorem dX7_foresee_9 : decode cX7_foresee 9 = .ok (.if_icmp .le 13, 3) := by decide +kernel
theorem dX7_foresee_12 : decode cX7_foresee 12 = .ok (.new 69, 3) := by decide +kernel
theorem dX7_foresee_15 : decode cX7_foresee 15 = .ok (.dup, 1) := by decide +kernel
theorem dX7_foresee_16 : decode cX7_foresee 16 = .ok (.ldc 188, 2) := by decide +kernel
theorem dX7_foresee_18 : decode cX7_foresee 18 = .ok (.invokespecial 73, 3) := by decide +kernel
theorem dX7_foresee_21 : decode cX7_foresee 21 = .ok (.athrow, 1) := by decide +kernel
theorem dX7_foresee_22 : decode cX7_foresee 22 = .ok (.iload_n 2, 1) := by decide +kernel
theorem dX7_foresee_23 : decode cX7_foresee 23 = .ok (.bipush 8, 2) := by decide +kernel
theorem dX7_foresee_25 : decode cX7_foresee 25 = .ok (.if_icmp .lt 9, 3) := by decide +kernel
theorem dX7_foresee_28 : decode cX7_foresee 28 = .ok (.iload_n 2, 1) := by decide +kernel
theorem dX7_foresee_29 : decode cX7_foresee 29 = .ok (.bipush 12, 2) := by decide +kernel
theorem dX7_foresee_31 : decode cX7_foresee 31 = .ok (.if_icmp .le 13, 3) := by decide +kernel
theorem dX7_foresee_34 : decode cX7_foresee 34 = .ok (.new 89, 3) := by decide +kernel
theorem dX7_foresee_37 : decode cX7_foresee 37 = .ok (.dup, 1) := by decide +kernel
theorem dX7_foresee_38 : decode cX7_foresee 38 = .ok (.ldc 203, 2) := by decide +kernel
theorem dX7_foresee_40 : decode cX7_foresee 40 = .ok (.invokespecial 93, 3) := by decide +kernel
theorem dX7_foresee_43 : decode cX7_foresee 43 = .ok (.athrow, 1) := by decide +kernel
theorem dX7_foresee_44 : decode cX7_foresee 44 = .ok (.aload_n 0, 1) := by decide +kernel
theorem dX7_foresee_45 : decode cX7_foresee 45 = .ok (.getfield 43, 3) := by decide +kernel
theorem dX7_foresee_48 : decode cX7_foresee 48 = .ok (.aload_n 0, 1) := by decide +kernel
theorem dX7_foresee_49 : decode cX7_foresee 49 = .ok (.getfield 39, 3) := by decide +kernel
theorem dX7_foresee_52 : decode cX7_foresee 52 = .ok (.invokevirtual 196, 3) := by decide +kernel
theorem dX7_foresee_55 : decode cX7_foresee 55 = .ok (.aload_n 0, 1) := by decide +kernel
theorem dX7_foresee_56 : decode cX7_foresee 56 = .ok (.getfield 43, 3) := by decide +kernel
theorem dX7_foresee_59 : decode cX7_foresee 59 = .ok (.iload_n 1, 1) := by decide +kernel
theorem dX7_foresee_60 : decode cX7_foresee 60 = .ok (.invokevirtual 193, 3) := by decide +kernel
theorem dX7_foresee_63 : decode cX7_foresee 63 = .ok (.aload_n 0, 1) := by decide +kernel
theorem dX7_foresee_64 : decode cX7_foresee 64 = .ok (.getfield 43, 3) := by decide +kernel
theorem dX7_foresee_67 : decode cX7_foresee 67 = .ok (.iload_n 2, 1) := by decide +kernel
theorem dX7_foresee_68 : decode cX7_foresee 68 = .ok (.invokevirtual 205, 3) := by decide +kernel
theorem dX7_foresee_71 : decode cX7_foresee 71 = .ok (.ireturn, 1) := by decide +kernel
theorem dX7_missed_0 : decode cX7_missed 0 = .ok (.iload_n 1, 1) := by decide +kernel
theorem dX7_missed_1 : decode cX7_missed 1 = .ok (.iconst 1, 1) := by decide +kernel
theorem dX7_missed_2 : decode cX7_missed 2 = .ok (.if_icmp .lt 10, 3) := by decide +kernel
theorem dX7_missed_5 : decode cX7_missed 5 = .ok (.iload_n 1, 1) := by decide +kernel
theorem dX7_missed_6 : decode cX7_missed 6 = .ok (.sipush 240, 3) := by decide +kernel
theorem dX7_missed_9 : decode cX7_missed 9 = .ok (.if_icmp .le 13, 3) := by decide +kernel
theorem dX7_missed_12 : decode cX7_missed 12 = .ok (.new 69, 3) := by decide +kernel
theorem dX7_missed_15 : decode cX7_missed 15 = .ok (.dup, 1) := by decide +kernel
theorem dX7_missed_16 : decode cX7_missed 16 = .ok (.ldc 188, 2) := by decide +kernel
theorem dX7_missed_18 : decode cX7_missed 18 = .ok (.invokespecial 73, 3) := by decide +kernel
theorem dX7_missed_21 : decode cX7_missed 21 = .ok (.athrow, 1) := by decide +kernel
theorem dX7_missed_22 : decode cX7_missed 22 = .ok (.iconst (-1), 1) := by decide +kernel
theorem dX7_missed_23 : decode cX7_missed 23 = .ok (.istore_n 2, 1) := by decide +kernel
theorem dX7_missed_24 : decode cX7_missed 24 = .ok (.bipush 9, 2) := by decide +kernel
theorem dX7_missed_26 : decode cX7_missed 26 = .ok (.istore_n 3, 1) := by decide +kernel
theorem dX7_missed_27 : decode cX7_missed 27 = .ok (.iconst 0, 1) := by decide +kernel
theorem dX7_missed_28 : decode cX7_missed 28 = .ok (.istore 4, 2) := by decide +kernel
theorem dX7_missed_30 : decode cX7_missed 30 = .ok (.iload 4, 2) := by decide +kernel
theorem dX7_missed_32 : decode cX7_missed 32 = .ok (.aload_n 0, 1) := by decide +kernel
theorem dX7_missed_33 : decode cX7_missed 33 = .ok (.getfield 39, 3) := by decide +kernel
theorem dX7_missed_36 : decode cX7_missed 36 = .ok (.getfield 83, 3) := by decide +kernel
theorem dX7_missed_39 : decode cX7_missed 39 = .ok (.getfield 208, 3) := by decide +kernel
theorem dX7_missed_42 : decode cX7_missed 42 = .ok (.if_icmp .ge 59, 3) := by decide +kernel
theorem dX7_missed_45 : decode cX7_missed 45 = .ok (.aload_n 0, 1) := by decide +kernel
theorem dX7_missed_46 : decode cX7_missed 46 = .ok (.getfield 43, 3) := by decide +kernel
theorem dX7_missed_49 : decode cX7_missed 49 = .ok (.aload_n 0, 1) := by decide +kernel
theorem dX7_missed_50 : decode cX7_missed 50 = .ok (.getfield 39, 3) := by decide +kernel
theorem dX7_missed_53 : decode cX7_missed 53 = .ok (.invokevirtual 196, 3) := by decide +kernel
theorem dX7_missed_56 : decode cX7_missed 56 = .ok (.aload_n 0, 1) := by decide +kernel
theorem dX7_missed_57 : decode cX7_missed 57 = .ok (.getfield 43, 3) := by decide +kernel
theorem dX7_missed_60 : decode cX7_missed 60 = .ok (.iload 4, 2) := by decide +kernel
theorem dX7_missed_62 : decode cX7_missed 62 = .ok (.putfield 211, 3) := by decide +kernel
theorem dX7_missed_65 : decode cX7_missed 65 = .ok (.aload_n 0, 1) := by decide +kernel
theorem dX7_missed_66 : decode cX7_missed 66 = .ok (.getfield 43, 3) := by decide +kernel
theorem dX7_missed_69 : decode cX7_missed 69 = .ok (.iload_n 1, 1) := by decide +kernel
theorem dX7_missed_70 : decode cX7_missed 70 = .ok (.invokevirtual 193, 3) := by decide +kernel
theorem dX7_missed_73 : decode cX7_missed 73 = .ok (.aload_n 0, 1) := by decide +kernel
theorem dX7_missed_74 : decode cX7_missed 74 = .ok (.getfield 43, 3) := by decide +kernel
theorem dX7_missed_77 : decode cX7_missed 77 = .ok (.iconst 2, 1) := by decide +kernel
theorem dX7_missed_78 : decode cX7_missed 78 = .ok (.invokevirtual 190, 3) := by decide +kernel
theorem dX7_missed_81 : decode cX7_missed 81 = .ok (.istore 5, 2) := by decide +kernel
theorem dX7_missed_83 : decode cX7_missed 83 = .ok (.iload 5, 2) := by decide +kernel
theorem dX7_missed_85 : decode cX7_missed 85 = .ok (.iload_n 3, 1) := by decide +kernel
theorem dX7_missed_86 : decode cX7_missed 86 = .ok (.if_icmp .ge 9, 3) := by decide +kernel
theorem dX7_missed_89 : decode cX7_missed 89 = .ok (.iload 5, 2) := by decide +kernel
theorem dX7_missed_91 : decode cX7_missed 91 = .ok (.istore_n 3, 1) := by decide +kernel
theorem dX7_missed_92 : decode cX7_missed 92 = .ok (.iload 4, 2) := by decide +kernel
theorem dX7_missed_94 : decode cX7_missed 94 = .ok (.istore_n 2, 1) := by decide +kernel
theorem dX7_missed_95 : decode cX7_missed 95 = .ok (.iinc 4 1, 3) := by decide +kernel
theorem dX7_missed_98 : decode cX7_missed 98 = .ok (.goto (-68), 3) := by decide +kernel
theorem dX7_missed_101 : decode cX7_missed 101 = .ok (.iload_n 2, 1) := by decide +kernel
theorem dX7_missed_102 : decode cX7_missed 102 = .ok (.ireturn, 1) := by decide +kernel
theorem dX7_advise_0 : decode cX7_advise 0 = .ok (.iload_n 1, 1) := by decide +kernel
theorem dX7_advise_1 : decode cX7_advise 1 = .ok (.iconst 1, 1) := by decide +kernel
theorem dX7_advise_2 : decode cX7_advise 2 = .ok (.if_icmp .lt 10, 3) := by decide +kernel
theorem dX7_advise_5 : decode cX7_advise 5 = .ok (.iload_n 1, 1) := by decide +kernel
theorem dX7_advise_6 : decode cX7_advise 6 = .ok (.sipush 240, 3) := by decide +kernel
theorem dX7_advise_9 : decode cX7_advise 9 = .ok (.if_icmp .le 13, 3) := by decide +kernel
theorem dX7_advise_12 : decode cX7_advise 12 = .ok (.new 69, 3) := by decide +kernel
theorem dX7_advise_15 : decode cX7_advise 15 = .ok (.dup, 1) := by decide +kernel
theorem dX7_advise_16 : decode cX7_advise 16 = .ok (.ldc 188, 2) := by decide +kernel
theorem dX7_advise_18 : decode cX7_advise 18 = .ok (.invokespecial 73, 3) := by decide +kernel
theorem dX7_advise_21 : decode cX7_advise 21 = .ok (.athrow, 1) := by decide +kernel
theorem dX7_advise_22 : decode cX7_advise 22 = .ok (.aload_n 0, 1) := by decide +kernel
theorem dX7_advise_23 : decode cX7_advise 23 = .ok (.getfield 43, 3) := by decide +kernel
theorem dX7_advise_26 : decode cX7_advise 26 = .ok (.aload_n 0, 1) := by decide +kernel
theorem dX7_advise_27 : decode cX7_advise 27 = .ok (.getfield 39, 3) := by decide +kernel
theorem dX7_advise_30 : decode cX7_advise 30 = .ok (.invokevirtual 196, 3) := by decide +kernel
theorem dX7_advise_33 : decode cX7_advise 33 = .ok (.aload_n 0, 1) := by decide +kernel
theorem dX7_advise_34 : decode cX7_advise 34 = .ok (.getfield 43, 3) := by decide +kernel
theorem dX7_advise_37 : decode cX7_advise 37 = .ok (.iload_n 1, 1) := by decide +kernel
theorem dX7_advise_38 : decode cX7_advise 38 = .ok (.invokevirtual 193, 3) := by decide +kernel
theorem dX7_advise_41 : decode cX7_advise 41 = .ok (.iconst (-1), 1) := by decide +kernel
theorem dX7_advise_42 : decode cX7_advise 42 = .ok (.istore_n 2, 1) := by decide +kernel
theorem dX7_advise_43 : decode cX7_advise 43 = .ok (.aload_n 0, 1) := by decide +kernel
theorem dX7_advise_44 : decode cX7_advise 44 = .ok (.getfield 43, 3) := by decide +kernel
theorem dX7_advise_47 : decode cX7_advise 47 = .ok (.iconst 2, 1) := by decide +kernel
theorem dX7_advise_48 : decode cX7_advise 48 = .ok (.invokevirtual 190, 3) := by decide +kernel
theorem dX7_advise_51 : decode cX7_advise 51 = .ok (.istore_n 3, 1) := by decide +kernel
theorem dX7_advise_52 : decode cX7_advise 52 = .ok (.iconst 0, 1) := by decide +kernel
theorem dX7_advise_53 : decode cX7_advise 53 = .ok (.istore 4, 2) := by decide +kernel
theorem dX7_advise_55 : decode cX7_advise 55 = .ok (.iload 4, 2) := by decide +kernel
theorem dX7_advise_57 : decode cX7_advise 57 = .ok (.aload_n 0, 1) := by decide +kernel
theorem dX7_advise_58 : decode cX7_advise 58 = .ok (.getfield 39, 3) := by decide +kernel
theorem dX7_advise_61 : decode cX7_advise 61 = .ok (.getfield 83, 3) := by decide +kernel
theorem dX7_advise_64 : decode cX7_advise 64 = .ok (.getfield 214, 3) := by decide +kernel
theorem dX7_advise_67 : decode cX7_advise 67 = .ok (.if_icmp .ge 64, 3) := by decide +kernel
theorem dX7_advise_70 : decode cX7_advise 70 = .ok (.aload_n 0, 1) := by decide +kernel
theorem dX7_advise_71 : decode cX7_advise 71 = .ok (.getfield 43, 3) := by decide +kernel
theorem dX7_advise_74 : decode cX7_advise 74 = .ok (.aload_n 0, 1) := by decide +kernel
theorem dX7_advise_75 : decode cX7_advise 75 = .ok (.getfield 39, 3) := by decide +kernel
theorem dX7_advise_78 : decode cX7_advise 78 = .ok (.invokevirtual 196, 3) := by decide +kernel
theorem dX7_advise_81 : decode cX7_advise 81 = .ok (.aload_n 0, 1) := by decide +kernel
theorem dX7_advise_82 : decode cX7_advise 82 = .ok (.getfield 43, 3) := by decide +kernel
theorem dX7_advise_85 : decode cX7_advise 85 = .ok (.getfield 146, 3) := by decide +kernel
theorem dX7_advise_88 : decode cX7_advise 88 = .ok (.iload 4, 2) := by decide +kernel
theorem dX7_advise_90 : decode cX7_advise 90 = .ok (.dup2, 1) := by decide +kernel
theorem dX7_advise_91 : decode cX7_advise 91 = .ok (.iaload, 1) := by decide +kernel
theorem dX7_advise_92 : decode cX7_advise 92 = .ok (.iconst 1, 1) := by decide +kernel
theorem dX7_advise_93 : decode cX7_advise 93 = .ok (.iadd, 1) := by decide +kernel
theorem dX7_advise_94 : decode cX7_advise 94 = .ok (.iastore, 1) := by decide +kernel
theorem dX7_advise_95 : decode cX7_advise 95 = .ok (.aload_n 0, 1) := by decide +kernel
theorem dX7_advise_96 : decode cX7_advise 96 = .ok (.getfield 43, 3) := by decide +kernel
theorem dX7_advise_99 : decode cX7_advise 99 = .ok (.iload_n 1, 1) := by decide +kernel
theorem dX7_advise_100 : decode cX7_advise 100 = .ok (.invokevirtual 193, 3) := by decide +kernel
theorem dX7_advise_103 : decode cX7_advise 103 = .ok (.aload_n 0, 1) := by decide +kernel
theorem dX7_advise_104 : decode cX7_advise 104 = .ok (.getfield 43, 3) := by decide +kernel
theorem dX7_advise_107 : decode cX7_advise 107 = .ok (.iconst 2, 1) := by decide +kernel
theorem dX7_advise_108 : decode cX7_advise 108 = .ok (.invokevirtual 190, 3) := by decide +kernel
theorem dX7_advise_111 : decode cX7_advise 111 = .ok (.istore 5, 2) := by decide +kernel
theorem dX7_advise_113 : decode cX7_advise 113 = .ok (.iload 5, 2) := by decide +kernel
theorem dX7_advise_115 : decode cX7_advise 115 = .ok (.iload_n 3, 1) := by decide +kernel
theorem dX7_advise_116 : decode cX7_advise 116 = .ok (.if_icmp .le 9, 3) := by decide +kernel
theorem dX7_advise_119 : decode cX7_advise 119 = .ok (.iload 5, 2) := by decide +kernel
theorem dX7_advise_121 : decode cX7_advise 121 = .ok (.istore_n 3, 1) := by decide +kernel
theorem dX7_advise_122 : decode cX7_advise 122 = .ok (.iload 4, 2) := by decide +kernel
theorem dX7_advise_124 : decode cX7_advise 124 = .ok (.istore_n 2, 1) := by decide +kernel
theorem dX7_advise_125 : decode cX7_advise 125 = .ok (.iinc 4 1, 3) := by decide +kernel
theorem dX7_advise_128 : decode cX7_advise 128 = .ok (.goto (-73), 3) := by decide +kernel
theorem dX7_advise_131 : decode cX7_advise 131 = .ok (.iload_n 2, 1) := by decide +kernel
theorem dX7_advise_132 : decode cX7_advise 132 = .ok (.ireturn, 1) := by decide +kernel
theorem dX7_mean_0 : decode cX7_mean 0 = .ok (.aload_n 0, 1) := by decide +kernel
theorem dX7_mean_1 : decode cX7_mean 1 = .ok (.getfield 39, 3) := by decide +kernel
theorem dX7_mean_4 : decode cX7_mean 4 = .ok (.getfield 83, 3) := by decide +kernel
theorem dX7_mean_7 : decode cX7_mean 7 = .ok (.getfield 217, 3) := by decide +kernel
theorem dX7_mean_10 : decode cX7_mean 10 = .ok (.istore_n 1, 1) := by decide +kernel
theorem dX7_mean_11 : decode cX7_mean 11 = .ok (.iload_n 1, 1) := by decide +kernel
theorem dX7_mean_12 : decode cX7_mean 12 = .ok (.ifCond .ne 5, 3) := by decide +kernel
theorem dX7_mean_15 : decode cX7_mean 15 = .ok (.dconst 0, 1) := by decide +kernel
theorem dX7_mean_16 : decode cX7_mean 16 = .ok (.dreturn, 1) := by decide +kernel
theorem dX7_mean_17 : decode cX7_mean 17 = .ok (.iconst 0, 1) := by decide +kernel
theorem dX7_mean_18 : decode cX7_mean 18 = .ok (.istore_n 2, 1) := by decide +kernel
theorem dX7_mean_19 : decode cX7_mean 19 = .ok (.iconst 0, 1) := by decide +kernel
theorem dX7_mean_20 : decode cX7_mean 20 = .ok (.istore_n 3, 1) := by decide +kernel
theorem dX7_mean_21 : decode cX7_mean 21 = .ok (.iload_n 3, 1) := by decide +kernel
theorem dX7_mean_22 : decode cX7_mean 22 = .ok (.iload_n 1, 1) := by decide +kernel
theorem dX7_mean_23 : decode cX7_mean 23 = .ok (.if_icmp .ge 21, 3) := by decide +kernel
theorem dX7_mean_26 : decode cX7_mean 26 = .ok (.iload_n 2, 1) := by decide +kernel
theorem dX7_mean_27 : decode cX7_mean 27 = .ok (.aload_n 0, 1) := by decide +kernel
theorem dX7_mean_28 : decode cX7_mean 28 = .ok (.getfield 39, 3) := by decide +kernel
theorem dX7_mean_31 : decode cX7_mean 31 = .ok (.getfield 164, 3) := by decide +kernel
theorem dX7_mean_34 : decode cX7_mean 34 = .ok (.iload_n 3, 1) := by decide +kernel
theorem dX7_mean_35 : decode cX7_mean 35 = .ok (.iaload, 1) := by decide +kernel
theorem dX7_mean_36 : decode cX7_mean 36 = .ok (.iadd, 1) := by decide +kernel
theorem dX7_mean_37 : decode cX7_mean 37 = .ok (.istore_n 2, 1) := by decide +kernel
theorem dX7_mean_38 : decode cX7_mean 38 = .ok (.iinc 3 1, 3) := by decide +kernel
theorem dX7_mean_41 : decode cX7_mean 41 = .ok (.goto (-20), 3) := by decide +kernel
theorem dX7_mean_44 : decode cX7_mean 44 = .ok (.iload_n 2, 1) := by decide +kernel
theorem dX7_mean_45 : decode cX7_mean 45 = .ok (.i2d, 1) := by decide +kernel
theorem dX7_mean_46 : decode cX7_mean 46 = .ok (.iload_n 1, 1) := by decide +kernel
theorem dX7_mean_47 : decode cX7_mean 47 = .ok (.i2d, 1) := by decide +kernel
theorem dX7_mean_48 : decode cX7_mean 48 = .ok (.ddiv, 1) := by decide +kernel
theorem dX7_mean_49 : decode cX7_mean 49 = .ok (.dreturn, 1) := by decide +kernel
theorem dX7_digest_0 : decode cX7_digest 0 = .ok (.ldc2_w 220, 3) := by decide +kernel
theorem dX7_digest_3 : decode cX7_digest 3 = .ok (.lstore_n 1, 1) := by decide +kernel
theorem dX7_digest_4 : decode cX7_digest 4 = .ok (.iconst 0, 1) := by decide +kernel
theorem dX7_digest_5 : decode cX7_digest 5 = .ok (.istore_n 3, 1) := by decide +kernel
theorem dX7_digest_6 : decode cX7_digest 6 = .ok (.iload_n 3, 1) := by decide +kernel
theorem dX7_digest_7 : decode cX7_digest 7 = .ok (.bipush 13, 2) := by decide +kernel
theorem dX7_digest_9 : decode cX7_digest 9 = .ok (.if_icmp .gt 22, 3) := by decide +kernel
theorem dX7_digest_12 : decode cX7_digest 12 = .ok (.lload_n 1, 1) := by decide +kernel
theorem dX7_digest_13 : decode cX7_digest 13 = .ok (.ldc2_w 222, 3) := by decide +kernel
theorem dX7_digest_16 : decode cX7_digest 16 = .ok (.lmul, 1) := by decide +kernel
theorem dX7_digest_17 : decode cX7_digest 17 = .ok (.aload_n 0, 1) := by decide +kernel
theorem dX7_digest_18 : decode cX7_digest 18 = .ok (.iload_n 3, 1) := by decide +kernel
theorem dX7_digest_19 : decode cX7_digest 19 = .ok (.invokevirtual 94, 3) := by decide +kernel
theorem dX7_digest_22 : decode cX7_digest 22 = .ok (.i2l, 1) := by decide +kernel
theorem dX7_digest_23 : decode cX7_digest 23 = .ok (.ladd, 1) := by decide +kernel
theorem dX7_digest_24 : decode cX7_digest 24 = .ok (.lstore_n 1, 1) := by decide +kernel
theorem dX7_digest_25 : decode cX7_digest 25 = .ok (.iinc 3 1, 3) := by decide +kernel
theorem dX7_digest_28 : decode cX7_digest 28 = .ok (.goto (-22), 3) := by decide +kernel
theorem dX7_digest_31 : decode cX7_digest 31 = .ok (.iconst 0, 1) := by decide +kernel
theorem dX7_digest_32 : decode cX7_digest 32 = .ok (.istore_n 3, 1) := by decide +kernel
theorem dX7_digest_33 : decode cX7_digest 33 = .ok (.iload_n 3, 1) := by decide +kernel
theorem dX7_digest_34 : decode cX7_digest 34 = .ok (.aload_n 0, 1) := by decide +kernel
theorem dX7_digest_35 : decode cX7_digest 35 = .ok (.getfield 39, 3) := by decide +kernel
theorem dX7_digest_38 : decode cX7_digest 38 = .ok (.getfield 83, 3) := by decide +kernel
theorem dX7_digest_41 : decode cX7_digest 41 = .ok (.getfield 214, 3) := by decide +kernel
theorem dX7_digest_44 : decode cX7_digest 44 = .ok (.if_icmp .ge 43, 3) := by decide +kernel
theorem dX7_digest_47 : decode cX7_digest 47 = .ok (.iconst 0, 1) := by decide +kernel
theorem dX7_digest_48 : decode cX7_digest 48 = .ok (.istore 4, 2) := by decide +kernel
theorem dX7_digest_50 : decode cX7_digest 50 = .ok (.iload 4, 2) := by decide +kernel
theorem dX7_digest_52 : decode cX7_digest 52 = .ok (.bipush 6, 2) := by decide +kernel
theorem dX7_digest_54 : decode cX7_digest 54 = .ok (.if_icmp .gt 27, 3) := by decide +kernel
theorem dX7_digest_57 : decode cX7_digest 57 = .ok (.lload_n 1, 1) := by decide +kernel
theorem dX7_digest_58 : decode cX7_digest 58 = .ok (.ldc2_w 222, 3) := by decide +kernel
theorem dX7_digest_61 : decode cX7_digest 61 = .ok (.lmul, 1) := by decide +kernel
theorem dX7_digest_62 : decode cX7_digest 62 = .ok (.aload_n 0, 1) := by decide +kernel
theorem dX7_digest_63 : decode cX7_digest 63 = .ok (.getfield 39, 3) := by decide +kernel
theorem dX7_digest_66 : decode cX7_digest 66 = .ok (.iload_n 3, 1) := by decide +kernel
theorem dX7_digest_67 : decode cX7_digest 67 = .ok (.iload 4, 2) := by decide +kernel
theorem dX7_digest_69 : decode cX7_digest 69 = .ok (.invokevirtual 104, 3) := by decide +kernel
theorem dX7_digest_72 : decode cX7_digest 72 = .ok (.i2l, 1) := by decide +kernel
theorem dX7_digest_73 : decode cX7_digest 73 = .ok (.ladd, 1) := by decide +kernel
theorem dX7_digest_74 : decode cX7_digest 74 = .ok (.lstore_n 1, 1) := by decide +kernel
theorem dX7_digest_75 : decode cX7_digest 75 = .ok (.iinc 4 1, 3) := by decide +kernel
theorem dX7_digest_78 : decode cX7_digest 78 = .ok (.goto (-28), 3) := by decide +kernel
theorem dX7_digest_81 : decode cX7_digest 81 = .ok (.iinc 3 1, 3) := by decide +kernel
theorem dX7_digest_84 : decode cX7_digest 84 = .ok (.goto (-51), 3) := by decide +kernel
theorem dX7_digest_87 : decode cX7_digest 87 = .ok (.iconst 0, 1) := by decide +kernel
theorem dX7_digest_88 : decode cX7_digest 88 = .ok (.istore_n 3, 1) := by decide +kernel
theorem dX7_digest_89 : decode cX7_digest 89 = .ok (.iload_n 3, 1) := by decide +kernel
theorem dX7_digest_90 : decode cX7_digest 90 = .ok (.aload_n 0, 1) := by decide +kernel
theorem dX7_digest_91 : decode cX7_digest 91 = .ok (.getfield 39, 3) := by decide +kernel
theorem dX7_digest_94 : decode cX7_digest 94 = .ok (.getfield 83, 3) := by decide +kernel
theorem dX7_digest_97 : decode cX7_digest 97 = .ok (.getfield 208, 3) := by decide +kernel
theorem dX7_digest_100 : decode cX7_digest 100 = .ok (.if_icmp .ge 73, 3) := by decide +kernel
theorem dX7_digest_103 : decode cX7_digest 103 = .ok (.iconst 0, 1) := by decide +kernel
theorem dX7_digest_104 : decode cX7_digest 104 = .ok (.istore 4, 2) := by decide +kernel
theorem dX7_digest_106 : decode cX7_digest 106 = .ok (.iload 4, 2) := by decide +kernel
theorem dX7_digest_108 : decode cX7_digest 108 = .ok (.iconst 5, 1) := by decide +kernel
theorem dX7_digest_109 : decode cX7_digest 109 = .ok (.if_icmp .gt 27, 3) := by decide +kernel
theorem dX7_digest_112 : decode cX7_digest 112 = .ok (.lload_n 1, 1) := by decide +kernel
theorem dX7_digest_113 : decode cX7_digest 113 = .ok (.ldc2_w 222, 3) := by decide +kernel
theorem dX7_digest_116 : decode cX7_digest 116 = .ok (.lmul, 1) := by decide +kernel
theorem dX7_digest_117 : decode cX7_digest 117 = .ok (.aload_n 0, 1) := by decide +kernel
theorem dX7_digest_118 : decode cX7_digest 118 = .ok (.getfield 39, 3) := by decide +kernel
theorem dX7_digest_121 : decode cX7_digest 121 = .ok (.iload_n 3, 1) := by decide +kernel
theorem dX7_digest_122 : decode cX7_digest 122 = .ok (.iload 4, 2) := by decide +kernel
theorem dX7_digest_124 : decode cX7_digest 124 = .ok (.invokevirtual 113, 3) := by decide +kernel
theorem dX7_digest_127 : decode cX7_digest 127 = .ok (.i2l, 1) := by decide +kernel
theorem dX7_digest_128 : decode cX7_digest 128 = .ok (.ladd, 1) := by decide +kernel
theorem dX7_digest_129 : decode cX7_digest 129 = .ok (.lstore_n 1, 1) := by decide +kernel
theorem dX7_digest_130 : decode cX7_digest 130 = .ok (.iinc 4 1, 3) := by decide +kernel
theorem dX7_digest_133 : decode cX7_digest 133 = .ok (.goto (-27), 3) := by decide +kernel
theorem dX7_digest_136 : decode cX7_digest 136 = .ok (.lload_n 1, 1) := by decide +kernel
theorem dX7_digest_137 : decode cX7_digest 137 = .ok (.ldc2_w 222, 3) := by decide +kernel
theorem dX7_digest_140 : decode cX7_digest 140 = .ok (.lmul, 1) := by decide +kernel
theorem dX7_digest_141 : decode cX7_digest 141 = .ok (.aload_n 0, 1) := by decide +kernel
theorem dX7_digest_142 : decode cX7_digest 142 = .ok (.getfield 39, 3) := by decide +kernel
theorem dX7_digest_145 : decode cX7_digest 145 = .ok (.iload_n 3, 1) := by decide +kernel
theorem dX7_digest_146 : decode cX7_digest 146 = .ok (.aload_n 0, 1) := by decide +kernel
theorem dX7_digest_147 : decode cX7_digest 147 = .ok (.getfield 39, 3) := by decide +kernel
theorem dX7_digest_150 : decode cX7_digest 150 = .ok (.getfield 200, 3) := by decide +kernel
theorem dX7_digest_153 : decode cX7_digest 153 = .ok (.invokevirtual 134, 3) := by decide +kernel
theorem dX7_digest_156 : decode cX7_digest 156 = .ok (.ifCond .eq 7, 3) := by decide +kernel
theorem dX7_digest_159 : decode cX7_digest 159 = .ok (.iconst 1, 1) := by decide +kernel
theorem dX7_digest_160 : decode cX7_digest 160 = .ok (.goto 4, 3) := by decide +kernel
theorem dX7_digest_163 : decode cX7_digest 163 = .ok (.iconst 0, 1) := by decide +kernel
theorem dX7_digest_164 : decode cX7_digest 164 = .ok (.i2l, 1) := by decide +kernel
theorem dX7_digest_165 : decode cX7_digest 165 = .ok (.ladd, 1) := by decide +kernel
theorem dX7_digest_166 : decode cX7_digest 166 = .ok (.lstore_n 1, 1) := by decide +kernel
theorem dX7_digest_167 : decode cX7_digest 167 = .ok (.iinc 3 1, 3) := by decide +kernel
theorem dX7_digest_170 : decode cX7_digest 170 = .ok (.goto (-81), 3) := by decide +kernel
theorem dX7_digest_173 : decode cX7_digest 173 = .ok (.iconst 0, 1) := by decide +kernel
theorem dX7_digest_174 : decode cX7_digest 174 = .ok (.istore_n 3, 1) := by decide +kernel
theorem dX7_digest_175 : decode cX7_digest 175 = .ok (.iload_n 3, 1) := by decide +kernel
theorem dX7_digest_176 : decode cX7_digest 176 = .ok (.aload_n 0, 1) := by decide +kernel
theorem dX7_digest_177 : decode cX7_digest 177 = .ok (.getfield 39, 3) := by decide +kernel
theorem dX7_digest_180 : decode cX7_digest 180 = .ok (.getfield 83, 3) := by decide +kernel
theorem dX7_digest_183 : decode cX7_digest 183 = .ok (.getfield 217, 3) := by decide +kernel
theorem dX7_digest_186 : decode cX7_digest 186 = .ok (.if_icmp .ge 43, 3) := by decide +kernel
theorem dX7_digest_189 : decode cX7_digest 189 = .ok (.iconst 0, 1) := by decide +kernel
theorem dX7_digest_190 : decode cX7_digest 190 = .ok (.istore 4, 2) := by decide +kernel
theorem dX7_digest_192 : decode cX7_digest 192 = .ok (.iload 4, 2) := by decide +kernel
theorem dX7_digest_194 : decode cX7_digest 194 = .ok (.bipush 8, 2) := by decide +kernel
theorem dX7_digest_196 : decode cX7_digest 196 = .ok (.if_icmp .gt 27, 3) := by decide +kernel
theorem dX7_digest_199 : decode cX7_digest 199 = .ok (.lload_n 1, 1) := by decide +kernel
theorem dX7_digest_200 : decode cX7_digest 200 = .ok (.ldc2_w 222, 3) := by decide +kernel
theorem dX7_digest_203 : decode cX7_digest 203 = .ok (.lmul, 1) := by decide +kernel
theorem dX7_digest_204 : decode cX7_digest 204 = .ok (.aload_n 0, 1) := by decide +kernel
theorem dX7_digest_205 : decode cX7_digest 205 = .ok (.getfield 39, 3) := by decide +kernel
theorem dX7_digest_208 : decode cX7_digest 208 = .ok (.iload_n 3, 1) := by decide +kernel
theorem dX7_digest_209 : decode cX7_digest 209 = .ok (.iload 4, 2) := by decide +kernel
theorem dX7_digest_211 : decode cX7_digest 211 = .ok (.invokevirtual 121, 3) := by decide +kernel
theorem dX7_digest_214 : decode cX7_digest 214 = .ok (.i2l, 1) := by decide +kernel
theorem dX7_digest_215 : decode cX7_digest 215 = .ok (.ladd, 1) := by decide +kernel
theorem dX7_digest_216 : decode cX7_digest 216 = .ok (.lstore_n 1, 1) := by decide +kernel
theorem dX7_digest_217 : decode cX7_digest 217 = .ok (.iinc 4 1, 3) := by decide +kernel
theorem dX7_digest_220 : decode cX7_digest 220 = .ok (.goto (-28), 3) := by decide +kernel
theorem dX7_digest_223 : decode cX7_digest 223 = .ok (.iinc 3 1, 3) := by decide +kernel
theorem dX7_digest_226 : decode cX7_digest 226 = .ok (.goto (-51), 3) := by decide +kernel
theorem dX7_digest_229 : decode cX7_digest 229 = .ok (.lload_n 1, 1) := by decide +kernel
theorem dX7_digest_230 : decode cX7_digest 230 = .ok (.lreturn, 1) := by decide +kernel
theorem dX7_countTold_0 : decode cX7_countTold 0 = .ok (.iload_n 1, 1) := by decide +kernel
theorem dX7_countTold_1 : decode cX7_countTold 1 = .ok (.tableswitch 161 0 13 #[71, 79, 90, 101, 112, 123, 137, 145, 161, 161, 161, 161, 161, 153], 71) := by decide +kernel
theorem dX7_countTold_72 : decode cX7_countTold 72 = .ok (.aload_n 0, 1) := by decide +kernel
theorem dX7_countTold_73 : decode cX7_countTold 73 = .ok (.getfield 39, 3) := by decide +kernel
theorem dX7_countTold_76 : decode cX7_countTold 76 = .ok (.getfield 200, 3) := by decide +kernel
theorem dX7_countTold_79 : decode cX7_countTold 79 = .ok (.ireturn, 1) := by decide +kernel
theorem dX7_countTold_80 : decode cX7_countTold 80 = .ok (.aload_n 0, 1) := by decide +kernel
theorem dX7_countTold_81 : decode cX7_countTold 81 = .ok (.getfield 39, 3) := by decide +kernel
theorem dX7_countTold_84 : decode cX7_countTold 84 = .ok (.getfield 83, 3) := by decide +kernel
theorem dX7_countTold_87 : decode cX7_countTold 87 = .ok (.getfield 214, 3) := by decide +kernel
theorem dX7_countTold_90 : decode cX7_countTold 90 = .ok (.ireturn, 1) := by decide +kernel
theorem dX7_countTold_91 : decode cX7_countTold 91 = .ok (.aload_n 0, 1) := by decide +kernel
theorem dX7_countTold_92 : decode cX7_countTold 92 = .ok (.getfield 39, 3) := by decide +kernel
theorem dX7_countTold_95 : decode cX7_countTold 95 = .ok (.getfield 83, 3) := by decide +kernel
theorem dX7_countTold_98 : decode cX7_countTold 98 = .ok (.getfield 208, 3) := by decide +kernel
theorem dX7_countTold_101 : decode cX7_countTold 101 = .ok (.ireturn, 1) := by decide +kernel
theorem dX7_countTold_102 : decode cX7_countTold 102 = .ok (.aload_n 0, 1) := by decide +kernel
theorem dX7_countTold_103 : decode cX7_countTold 103 = .ok (.getfield 39, 3) := by decide +kernel
theorem dX7_countTold_106 : decode cX7_countTold 106 = .ok (.getfield 83, 3) := by decide +kernel
theorem dX7_countTold_109 : decode cX7_countTold 109 = .ok (.getfield 224, 3) := by decide +kernel
theorem dX7_countTold_112 : decode cX7_countTold 112 = .ok (.ireturn, 1) := by decide +kernel
theorem dX7_countTold_113 : decode cX7_countTold 113 = .ok (.aload_n 0, 1) := by decide +kernel
theorem dX7_countTold_114 : decode cX7_countTold 114 = .ok (.getfield 39, 3) := by decide +kernel
theorem dX7_countTold_117 : decode cX7_countTold 117 = .ok (.getfield 83, 3) := by decide +kernel
theorem dX7_countTold_120 : decode cX7_countTold 120 = .ok (.getfield 217, 3) := by decide +kernel
theorem dX7_countTold_123 : decode cX7_countTold 123 = .ok (.ireturn, 1) := by decide +kernel
theorem dX7_countTold_124 : decode cX7_countTold 124 = .ok (.aload_n 0, 1) := by decide +kernel
theorem dX7_countTold_125 : decode cX7_countTold 125 = .ok (.getfield 39, 3) := by decide +kernel
theorem dX7_countTold_128 : decode cX7_countTold 128 = .ok (.getfield 83, 3) := by decide +kernel
theorem dX7_countTold_131 : decode cX7_countTold 131 = .ok (.getfield 227, 3) := by decide +kernel
theorem dX7_countTold_134 : decode cX7_countTold 134 = .ok (.getfield 231, 3) := by decide +kernel
theorem dX7_countTold_137 : decode cX7_countTold 137 = .ok (.ireturn, 1) := by decide +kernel
theorem dX7_countTold_138 : decode cX7_countTold 138 = .ok (.aload_n 0, 1) := by decide +kernel
theorem dX7_countTold_139 : decode cX7_countTold 139 = .ok (.getfield 39, 3) := by decide +kernel
theorem dX7_countTold_142 : decode cX7_countTold 142 = .ok (.invokevirtual 236, 3) := by decide +kernel
theorem dX7_countTold_145 : decode cX7_countTold 145 = .ok (.ireturn, 1) := by decide +kernel
theorem dX7_countTold_146 : decode cX7_countTold 146 = .ok (.aload_n 0, 1) := by decide +kernel
theorem dX7_countTold_147 : decode cX7_countTold 147 = .ok (.getfield 39, 3) := by decide +kernel
theorem dX7_countTold_150 : decode cX7_countTold 150 = .ok (.invokevirtual 240, 3) := by decide +kernel
theorem dX7_countTold_153 : decode cX7_countTold 153 = .ok (.ireturn, 1) := by decide +kernel
theorem dX7_countTold_154 : decode cX7_countTold 154 = .ok (.aload_n 0, 1) := by decide +kernel
theorem dX7_countTold_155 : decode cX7_countTold 155 = .ok (.getfield 10, 3) := by decide +kernel
theorem dX7_countTold_158 : decode cX7_countTold 158 = .ok (.getfield 55, 3) := by decide +kernel
theorem dX7_countTold_161 : decode cX7_countTold 161 = .ok (.ireturn, 1) := by decide +kernel
theorem dX7_countTold_162 : decode cX7_countTold 162 = .ok (.aload_n 0, 1) := by decide +kernel
theorem dX7_countTold_163 : decode cX7_countTold 163 = .ok (.getfield 39, 3) := by decide +kernel
theorem dX7_countTold_166 : decode cX7_countTold 166 = .ok (.iload_n 1, 1) := by decide +kernel
theorem dX7_countTold_167 : decode cX7_countTold 167 = .ok (.invokevirtual 205, 3) := by decide +kernel
theorem dX7_countTold_170 : decode cX7_countTold 170 = .ok (.ireturn, 1) := by decide +kernel
theorem dX8_init_0 : decode cX8_init 0 = .ok (.aload_n 0, 1) := by decide +kernel
theorem dX8_init_1 : decode cX8_init 1 = .ok (.invokespecial 1, 3) := by decide +kernel
theorem dX8_init_4 : decode cX8_init 4 = .ok (.aload_n 0, 1) := by decide +kernel
theorem dX8_init_5 : decode cX8_init 5 = .ok (.iconst (-1), 1) := by decide +kernel
theorem dX8_init_6 : decode cX8_init 6 = .ok (.putfield 7, 3) := by decide +kernel
theorem dX8_init_9 : decode cX8_init 9 = .ok (.aload_n 0, 1) := by decide +kernel
theorem dX8_init_10 : decode cX8_init 10 = .ok (.iconst 0, 1) := by decide +kernel
theorem dX8_init_11 : decode cX8_init 11 = .ok (.anewarray 13, 3) := by decide +kernel
theorem dX8_init_14 : decode cX8_init 14 = .ok (.putfield 15, 3) := by decide +kernel
theorem dX8_init_17 : decode cX8_init 17 = .ok (.aload_n 0, 1) := by decide +kernel
theorem dX8_init_18 : decode cX8_init 18 = .ok (.iconst 0, 1) := by decide +kernel
theorem dX8_init_19 : decode cX8_init 19 = .ok (.anewarray 13, 3) := by decide +kernel
theorem dX8_init_22 : decode cX8_init 22 = .ok (.putfield 19, 3) := by decide +kernel
theorem dX8_init_25 : decode cX8_init 25 = .ok (.aload_n 0, 1) := by decide +kernel
theorem dX8_init_26 : decode cX8_init 26 = .ok (.iconst 0, 1) := by decide +kernel
theorem dX8_init_27 : decode cX8_init 27 = .ok (.anewarray 13, 3) := by decide +kernel
theorem dX8_init_30 : decode cX8_init 30 = .ok (.putfield 22, 3) := by decide +kernel
theorem dX8_init_33 : decode cX8_init 33 = .ok (.aload_n 0, 1) := by decide +kernel
theorem dX8_init_34 : decode cX8_init 34 = .ok (.iconst 0, 1) := by decide +kernel
theorem dX8_init_35 : decode cX8_init 35 = .ok (.anewarray 13, 3) := by decide +kernel
theorem dX8_init_38 : decode cX8_init 38 = .ok (.putfield 25, 3) := by decide +kernel
theorem dX8_init_41 : decode cX8_init 41 = .ok (.aload_n 0, 1) := by decide +kernel
theorem dX8_init_42 : decode cX8_init 42 = .ok (.iconst 0, 1) := by decide +kernel
theorem dX8_init_43 : decode cX8_init 43 = .ok (.anewarray 13, 3) := by decide +kernel
theorem dX8_init_46 : decode cX8_init 46 = .ok (.putfield 28, 3) := by decide +kernel
theorem dX8_init_49 : decode cX8_init 49 = .ok (.return_, 1) := by decide +kernel
theorem dX8_hasSun_0 : decode cX8_hasSun 0 = .ok (.iload_n 2, 1) := by decide +kernel
theorem dX8_hasSun_1 : decode cX8_hasSun 1 = .ok (.iload_n 2, 1) := by decide +kernel
theorem dX8_hasSun_2 : decode cX8_hasSun 2 = .ok (.bipush 120, 2) := by decide +kernel
theorem dX8_hasSun_4 : decode cX8_hasSun 4 = .ok (.idiv, 1) := by decide +kernel
theorem dX8_hasSun_5 : decode cX8_hasSun 5 = .ok (.bipush 120, 2) := by decide +kernel
theorem dX8_hasSun_7 : decode cX8_hasSun 7 = .ok (.imul, 1) := by decide +kernel
theorem dX8_hasSun_8 : decode cX8_hasSun 8 = .ok (.isub, 1) := by decide +kernel
theorem dX8_hasSun_9 : decode cX8_hasSun 9 = .ok (.istore_n 3, 1) := by decide +kernel
theorem dX8_hasSun_10 : decode cX8_hasSun 10 = .ok (.iload_n 3, 1) := by decide +kernel
theorem dX8_hasSun_11 : decode cX8_hasSun 11 = .ok (.aload_n 0, 1) := by decide +kernel
theorem dX8_hasSun_12 : decode cX8_hasSun 12 = .ok (.getfield 15, 3) := by decide +kernel
theorem dX8_hasSun_15 : decode cX8_hasSun 15 = .ok (.iload_n 1, 1) := by decide +kernel
theorem dX8_hasSun_16 : decode cX8_hasSun 16 = .ok (.aaload, 1) := by decide +kernel
theorem dX8_hasSun_17 : decode cX8_hasSun 17 = .ok (.iconst 0, 1) := by decide +kernel
theorem dX8_hasSun_18 : decode cX8_hasSun 18 = .ok (.iaload, 1) := by decide +kernel
theorem dX8_hasSun_19 : decode cX8_hasSun 19 = .ok (.if_icmp .lt 19, 3) := by decide +kernel
theorem dX8_hasSun_22 : decode cX8_hasSun 22 = .ok (.iload_n 3, 1) := by decide +kernel
theorem dX8_hasSun_23 : decode cX8_hasSun 23 = .ok (.aload_n 0, 1) := by decide +kernel
theorem dX8_hasSun_24 : decode cX8_hasSun 24 = .ok (.getfield 15, 3) := by decide +kernel
theorem dX8_hasSun_27 : decode cX8_hasSun 27 = .ok (.iload_n 1, 1) := by decide +kernel
theorem dX8_hasSun_28 : decode cX8_hasSun 28 = .ok (.aaload, 1) := by decide +kernel
theorem dX8_hasSun_29 : decode cX8_hasSun 29 = .ok (.iconst 1, 1) := by decide +kernel
theorem dX8_hasSun_30 : decode cX8_hasSun 30 = .ok (.iaload, 1) := by decide +kernel
theorem dX8_hasSun_31 : decode cX8_hasSun 31 = .ok (.if_icmp .ge 7, 3) := by decide +kernel
theorem dX8_hasSun_34 : decode cX8_hasSun 34 = .ok (.iconst 1, 1) := by decide +kernel
theorem dX8_hasSun_35 : decode cX8_hasSun 35 = .ok (.goto 4, 3) := by decide +kernel
theorem dX8_hasSun_38 : decode cX8_hasSun 38 = .ok (.iconst 0, 1) := by decide +kernel
theorem dX8_hasSun_39 : decode cX8_hasSun 39 = .ok (.ireturn, 1) := by decide +kernel
theorem dX8_isOpen_0 : decode cX8_isOpen 0 = .ok (.aload_n 0, 1) := by decide +kernel
theorem dX8_isOpen_1 : decode cX8_isOpen 1 = .ok (.aload_n 0, 1) := by decide +kernel
theorem dX8_isOpen_2 : decode cX8_isOpen 2 = .ok (.getfield 19, 3) := by decide +kernel
theorem dX8_isOpen_5 : decode cX8_isOpen 5 = .ok (.iload_n 1, 1) := by decide +kernel
theorem dX8_isOpen_6 : decode cX8_isOpen 6 = .ok (.aaload, 1) := by decide +kernel
theorem dX8_isOpen_7 : decode cX8_isOpen 7 = .ok (.iconst 0, 1) := by decide +kernel
theorem dX8_isOpen_8 : decode cX8_isOpen 8 = .ok (.iaload, 1) := by decide +kernel
theorem dX8_isOpen_9 : decode cX8_isOpen 9 = .ok (.iload_n 2, 1) := by decide +kernel
theorem dX8_isOpen_10 : decode cX8_isOpen 10 = .ok (.invokevirtual 31, 3) := by decide +kernel
theorem dX8_isOpen_13 : decode cX8_isOpen 13 = .ok (.ifCond .eq 19, 3) := by decide +kernel
theorem dX8_isOpen_16 : decode cX8_isOpen 16 = .ok (.aload_n 0, 1) := by decide +kernel
theorem dX8_isOpen_17 : decode cX8_isOpen 17 = .ok (.aload_n 0, 1) := by decide +kernel
theorem dX8_isOpen_18 : decode cX8_isOpen 18 = .ok (.getfield 19, 3) := by decide +kernel
theorem dX8_isOpen_21 : decode cX8_isOpen 21 = .ok (.iload_n 1, 1) := by decide +kernel
theorem dX8_isOpen_22 : decode cX8_isOpen 22 = .ok (.aaload, 1) := by decide +kernel
theorem dX8_isOpen_23 : decode cX8_isOpen 23 = .ok (.iconst 1, 1) := by decide +kernel
theorem dX8_isOpen_24 : decode cX8_isOpen 24 = .ok (.iaload, 1) := by decide +kernel
theorem dX8_isOpen_25 : decode cX8_isOpen 25 = .ok (.iload_n 2, 1) := by decide +kernel
theorem dX8_isOpen_26 : decode cX8_isOpen 26 = .ok (.invokevirtual 31, 3) := by decide +kernel
theorem dX8_isOpen_29 : decode cX8_isOpen 29 = .ok (.ifCond .ne 5, 3) := by decide +kernel
theorem dX8_isOpen_32 : decode cX8_isOpen 32 = .ok (.iconst 0, 1) := by decide +kernel
theorem dX8_isOpen_33 : decode cX8_isOpen 33 = .ok (.ireturn, 1) := by decide +kernel
theorem dX8_isOpen_34 : decode cX8_isOpen 34 = .ok (.aload_n 0, 1) := by decide +kernel
theorem dX8_isOpen_35 : decode cX8_isOpen 35 = .ok (.getfield 22, 3) := by decide +kernel
theorem dX8_isOpen_38 : decode cX8_isOpen 38 = .ok (.astore_n 3, 1) := by decide +kernel
theorem dX8_isOpen_39 : decode cX8_isOpen 39 = .ok (.aload_n 3, 1) := by decide +kernel
theorem dX8_isOpen_40 : decode cX8_isOpen 40 = .ok (.arraylength, 1) := by decide +kernel
theorem dX8_isOpen_41 : decode cX8_isOpen 41 = .ok (.istore 4, 2) := by decide +kernel
theorem dX8_isOpen_43 : decode cX8_isOpen 43 = .ok (.iconst 0, 1) := by decide +kernel
theorem dX8_isOpen_44 : decode cX8_isOpen 44 = .ok (.istore 5, 2) := by decide +kernel
theorem dX8_isOpen_46 : decode cX8_isOpen 46 = .ok (.iload 5, 2) := by decide +kernel
theorem dX8_isOpen_48 : decode cX8_isOpen 48 = .ok (.iload 4, 2) := by decide +kernel
theorem dX8_isOpen_50 : decode cX8_isOpen 50 = .ok (.if_icmp .ge 43, 3) := by decide +kernel
theorem dX8_isOpen_53 : decode cX8_isOpen 53 = .ok (.aload_n 3, 1) := by decide +kernel
theorem dX8_isOpen_54 : decode cX8_isOpen 54 = .ok (.iload 5, 2) := by decide +kernel
theorem dX8_isOpen_56 : decode cX8_isOpen 56 = .ok (.aaload, 1) := by decide +kernel
theorem dX8_isOpen_57 : decode cX8_isOpen 57 = .ok (.astore 6, 2) := by decide +kernel
theorem dX8_isOpen_59 : decode cX8_isOpen 59 = .ok (.aload 6, 2) := by decide +kernel
theorem dX8_isOpen_61 : decode cX8_isOpen 61 = .ok (.iconst 0, 1) := by decide +kernel
theorem dX8_isOpen_62 : decode cX8_isOpen 62 = .ok (.iaload, 1) := by decide +kernel
theorem dX8_isOpen_63 : decode cX8_isOpen 63 = .ok (.iload_n 1, 1) := by decide +kernel
theorem dX8_isOpen_64 : decode cX8_isOpen 64 = .ok (.if_icmp .ne 23, 3) := by decide +kernel
theorem dX8_isOpen_67 : decode cX8_isOpen 67 = .ok (.iload_n 2, 1) := by decide +kernel
theorem dX8_isOpen_68 : decode cX8_isOpen 68 = .ok (.aload 6, 2) := by decide +kernel
theorem dX8_isOpen_70 : decode cX8_isOpen 70 = .ok (.iconst 3, 1) := by decide +kernel
theorem dX8_isOpen_71 : decode cX8_isOpen 71 = .ok (.iaload, 1) := by decide +kernel
theorem dX8_isOpen_72 : decode cX8_isOpen 72 = .ok (.iadd, 1) := by decide +kernel
theorem dX8_isOpen_73 : decode cX8_isOpen 73 = .ok (.aload 6, 2) := by decide +kernel
theorem dX8_isOpen_75 : decode cX8_isOpen 75 = .ok (.iconst 1, 1) := by decide +kernel
theorem dX8_isOpen_76 : decode cX8_isOpen 76 = .ok (.iaload, 1) := by decide +kernel
theorem dX8_isOpen_77 : decode cX8_isOpen 77 = .ok (.irem, 1) := by decide +kernel
theorem dX8_isOpen_78 : decode cX8_isOpen 78 = .ok (.aload 6, 2) := by decide +kernel
theorem dX8_isOpen_80 : decode cX8_isOpen 80 = .ok (.iconst 2, 1) := by decide +kernel
theorem dX8_isOpen_81 : decode cX8_isOpen 81 = .ok (.iaload, 1) := by decide +kernel
theorem dX8_isOpen_82 : decode cX8_isOpen 82 = .ok (.if_icmp .ge 5, 3) := by decide +kernel
theorem dX8_isOpen_85 : decode cX8_isOpen 85 = .ok (.iconst 0, 1) := by decide +kernel
theorem dX8_isOpen_86 : decode cX8_isOpen 86 = .ok (.ireturn, 1) := by decide +kernel
theorem dX8_isOpen_87 : decode cX8_isOpen 87 = .ok (.iinc 5 1, 3) := by decide +kernel
theorem dX8_isOpen_90 : decode cX8_isOpen 90 = .ok (.goto (-44), 3) := by decide +kernel
theorem dX8_isOpen_93 : decode cX8_isOpen 93 = .ok (.iconst 1, 1) := by decide +kernel
theorem dX8_isOpen_94 : decode cX8_isOpen 94 = .ok (.ireturn, 1) := by decide +kernel
theorem dX8_isOpen__0 : decode cX8_isOpen_ 0 = .ok (.iload_n 1, 1) := by decide +kernel
theorem dX8_isOpen__1 : decode cX8_isOpen_ 1 = .ok (.aload_n 0, 1) := by decide +kernel
theorem dX8_isOpen__2 : decode cX8_isOpen_ 2 = .ok (.getfield 7, 3) := by decide +kernel
theorem dX8_isOpen__5 : decode cX8_isOpen_ 5 = .ok (.if_icmp .eq 19, 3) := by decide +kernel
theorem dX8_isOpen__8 : decode cX8_isOpen_ 8 = .ok (.aload_n 0, 1) := by decide +kernel
theorem dX8_isOpen__9 : decode cX8_isOpen_ 9 = .ok (.iload_n 1, 1) := by decide +kernel
theorem dX8_isOpen__10 : decode cX8_isOpen_ 10 = .ok (.aload_n 0, 1) := by decide +kernel
theorem dX8_isOpen__11 : decode cX8_isOpen_ 11 = .ok (.getfield 35, 3) := by decide +kernel
theorem dX8_isOpen__14 : decode cX8_isOpen_ 14 = .ok (.invokevirtual 38, 3) := by decide +kernel
theorem dX8_isOpen__17 : decode cX8_isOpen_ 17 = .ok (.ifCond .eq 7, 3) := by decide +kernel
theorem dX8_isOpen__20 : decode cX8_isOpen_ 20 = .ok (.iconst 1, 1) := by decide +kernel
theorem dX8_isOpen__21 : decode cX8_isOpen_ 21 = .ok (.goto 4, 3) := by decide +kernel
theorem dX8_isOpen__24 : decode cX8_isOpen_ 24 = .ok (.iconst 0, 1) := by decide +kernel
theorem dX8_isOpen__25 : decode cX8_isOpen_ 25 = .ok (.ireturn, 1) := by decide +kernel
theorem dX8_queue_0 : decode cX8_queue 0 = .ok (.iconst 0, 1) := by decide +kernel
theorem dX8_queue_1 : decode cX8_queue 1 = .ok (.istore_n 2, 1) := by decide +kernel
theorem dX8_queue_2 : decode cX8_queue 2 = .ok (.aload_n 0, 1) := by decide +kernel
theorem dX8_queue_3 : decode cX8_queue 3 = .ok (.getfield 25, 3) := by decide +kernel
theorem dX8_queue_6 : decode cX8_queue 6 = .ok (.astore_n 3, 1) := by decide +kernel
theorem dX8_queue_7 : decode cX8_queue 7 = .ok (.aload_n 3, 1) := by decide +kernel

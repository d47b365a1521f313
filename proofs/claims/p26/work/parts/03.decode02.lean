theorem dX0_messageOver_31 : decode cX0_messageOver 31 = .ok (.iinc 2 1, 3) := by decide +kernel
theorem dX0_messageOver_34 : decode cX0_messageOver 34 = .ok (.goto (-32), 3) := by decide +kernel
theorem dX0_messageOver_37 : decode cX0_messageOver 37 = .ok (.iconst (-1), 1) := by decide +kernel
theorem dX0_messageOver_38 : decode cX0_messageOver 38 = .ok (.ireturn, 1) := by decide +kernel
theorem dX0_breaksInAll_0 : decode cX0_breaksInAll 0 = .ok (.iconst 0, 1) := by decide +kernel
theorem dX0_breaksInAll_1 : decode cX0_breaksInAll 1 = .ok (.istore_n 1, 1) := by decide +kernel
theorem dX0_breaksInAll_2 : decode cX0_breaksInAll 2 = .ok (.iconst 0, 1) := by decide +kernel
theorem dX0_breaksInAll_3 : decode cX0_breaksInAll 3 = .ok (.istore_n 2, 1) := by decide +kernel
theorem dX0_breaksInAll_4 : decode cX0_breaksInAll 4 = .ok (.iload_n 2, 1) := by decide +kernel
theorem dX0_breaksInAll_5 : decode cX0_breaksInAll 5 = .ok (.aload_n 0, 1) := by decide +kernel
theorem dX0_breaksInAll_6 : decode cX0_breaksInAll 6 = .ok (.getfield 53, 3) := by decide +kernel
theorem dX0_breaksInAll_9 : decode cX0_breaksInAll 9 = .ok (.getfield 81, 3) := by decide +kernel
theorem dX0_breaksInAll_12 : decode cX0_breaksInAll 12 = .ok (.if_icmp .ge 24, 3) := by decide +kernel
theorem dX0_breaksInAll_15 : decode cX0_breaksInAll 15 = .ok (.iload_n 2, 1) := by decide +kernel
theorem dX0_breaksInAll_16 : decode cX0_breaksInAll 16 = .ok (.bipush 8, 2) := by decide +kernel
theorem dX0_breaksInAll_18 : decode cX0_breaksInAll 18 = .ok (.if_icmp .ge 18, 3) := by decide +kernel
theorem dX0_breaksInAll_21 : decode cX0_breaksInAll 21 = .ok (.iload_n 1, 1) := by decide +kernel
theorem dX0_breaksInAll_22 : decode cX0_breaksInAll 22 = .ok (.aload_n 0, 1) := by decide +kernel
theorem dX0_breaksInAll_23 : decode cX0_breaksInAll 23 = .ok (.getfield 37, 3) := by decide +kernel
theorem dX0_breaksInAll_26 : decode cX0_breaksInAll 26 = .ok (.iload_n 2, 1) := by decide +kernel
theorem dX0_breaksInAll_27 : decode cX0_breaksInAll 27 = .ok (.iaload, 1) := by decide +kernel
theorem dX0_breaksInAll_28 : decode cX0_breaksInAll 28 = .ok (.iadd, 1) := by decide +kernel
theorem dX0_breaksInAll_29 : decode cX0_breaksInAll 29 = .ok (.istore_n 1, 1) := by decide +kernel
theorem dX0_breaksInAll_30 : decode cX0_breaksInAll 30 = .ok (.iinc 2 1, 3) := by decide +kernel
theorem dX0_breaksInAll_33 : decode cX0_breaksInAll 33 = .ok (.goto (-29), 3) := by decide +kernel
theorem dX0_breaksInAll_36 : decode cX0_breaksInAll 36 = .ok (.iload_n 1, 1) := by decide +kernel
theorem dX0_breaksInAll_37 : decode cX0_breaksInAll 37 = .ok (.ireturn, 1) := by decide +kernel
theorem dX0_sunnyPeaks_0 : decode cX0_sunnyPeaks 0 = .ok (.iconst 0, 1) := by decide +kernel
theorem dX0_sunnyPeaks_1 : decode cX0_sunnyPeaks 1 = .ok (.istore_n 1, 1) := by decide +kernel
theorem dX0_sunnyPeaks_2 : decode cX0_sunnyPeaks 2 = .ok (.iconst 0, 1) := by decide +kernel
theorem dX0_sunnyPeaks_3 : decode cX0_sunnyPeaks 3 = .ok (.istore_n 2, 1) := by decide +kernel
theorem dX0_sunnyPeaks_4 : decode cX0_sunnyPeaks 4 = .ok (.iload_n 2, 1) := by decide +kernel
theorem dX0_sunnyPeaks_5 : decode cX0_sunnyPeaks 5 = .ok (.aload_n 0, 1) := by decide +kernel
theorem dX0_sunnyPeaks_6 : decode cX0_sunnyPeaks 6 = .ok (.getfield 53, 3) := by decide +kernel
theorem dX0_sunnyPeaks_9 : decode cX0_sunnyPeaks 9 = .ok (.getfield 176, 3) := by decide +kernel
theorem dX0_sunnyPeaks_12 : decode cX0_sunnyPeaks 12 = .ok (.if_icmp .ge 27, 3) := by decide +kernel
theorem dX0_sunnyPeaks_15 : decode cX0_sunnyPeaks 15 = .ok (.aload_n 0, 1) := by decide +kernel
theorem dX0_sunnyPeaks_16 : decode cX0_sunnyPeaks 16 = .ok (.getfield 53, 3) := by decide +kernel
theorem dX0_sunnyPeaks_19 : decode cX0_sunnyPeaks 19 = .ok (.iload_n 2, 1) := by decide +kernel
theorem dX0_sunnyPeaks_20 : decode cX0_sunnyPeaks 20 = .ok (.aload_n 0, 1) := by decide +kernel
theorem dX0_sunnyPeaks_21 : decode cX0_sunnyPeaks 21 = .ok (.getfield 71, 3) := by decide +kernel
theorem dX0_sunnyPeaks_24 : decode cX0_sunnyPeaks 24 = .ok (.invokevirtual 167, 3) := by decide +kernel
theorem dX0_sunnyPeaks_27 : decode cX0_sunnyPeaks 27 = .ok (.ifCond .eq 6, 3) := by decide +kernel
theorem dX0_sunnyPeaks_30 : decode cX0_sunnyPeaks 30 = .ok (.iinc 1 1, 3) := by decide +kernel
theorem dX0_sunnyPeaks_33 : decode cX0_sunnyPeaks 33 = .ok (.iinc 2 1, 3) := by decide +kernel
theorem dX0_sunnyPeaks_36 : decode cX0_sunnyPeaks 36 = .ok (.goto (-32), 3) := by decide +kernel
theorem dX0_sunnyPeaks_39 : decode cX0_sunnyPeaks 39 = .ok (.iload_n 1, 1) := by decide +kernel
theorem dX0_sunnyPeaks_40 : decode cX0_sunnyPeaks 40 = .ok (.ireturn, 1) := by decide +kernel
theorem dX0_openPasses_0 : decode cX0_openPasses 0 = .ok (.iconst 0, 1) := by decide +kernel
theorem dX0_openPasses_1 : decode cX0_openPasses 1 = .ok (.istore_n 1, 1) := by decide +kernel
theorem dX0_openPasses_2 : decode cX0_openPasses 2 = .ok (.iconst 0, 1) := by decide +kernel
theorem dX0_openPasses_3 : decode cX0_openPasses 3 = .ok (.istore_n 2, 1) := by decide +kernel
theorem dX0_openPasses_4 : decode cX0_openPasses 4 = .ok (.iload_n 2, 1) := by decide +kernel
theorem dX0_openPasses_5 : decode cX0_openPasses 5 = .ok (.aload_n 0, 1) := by decide +kernel
theorem dX0_openPasses_6 : decode cX0_openPasses 6 = .ok (.getfield 53, 3) := by decide +kernel
theorem dX0_openPasses_9 : decode cX0_openPasses 9 = .ok (.getfield 148, 3) := by decide +kernel
theorem dX0_openPasses_12 : decode cX0_openPasses 12 = .ok (.if_icmp .ge 24, 3) := by decide +kernel
theorem dX0_openPasses_15 : decode cX0_openPasses 15 = .ok (.aload_n 0, 1) := by decide +kernel
theorem dX0_openPasses_16 : decode cX0_openPasses 16 = .ok (.iload_n 2, 1) := by decide +kernel
theorem dX0_openPasses_17 : decode cX0_openPasses 17 = .ok (.aload_n 0, 1) := by decide +kernel
theorem dX0_openPasses_18 : decode cX0_openPasses 18 = .ok (.getfield 71, 3) := by decide +kernel
theorem dX0_openPasses_21 : decode cX0_openPasses 21 = .ok (.invokevirtual 90, 3) := by decide +kernel
theorem dX0_openPasses_24 : decode cX0_openPasses 24 = .ok (.ifCond .eq 6, 3) := by decide +kernel
theorem dX0_openPasses_27 : decode cX0_openPasses 27 = .ok (.iinc 1 1, 3) := by decide +kernel
theorem dX0_openPasses_30 : decode cX0_openPasses 30 = .ok (.iinc 2 1, 3) := by decide +kernel
theorem dX0_openPasses_33 : decode cX0_openPasses 33 = .ok (.goto (-29), 3) := by decide +kernel
theorem dX0_openPasses_36 : decode cX0_openPasses 36 = .ok (.iload_n 1, 1) := by decide +kernel
theorem dX0_openPasses_37 : decode cX0_openPasses 37 = .ok (.ireturn, 1) := by decide +kernel
theorem dX0_passesOf_0 : decode cX0_passesOf 0 = .ok (.iconst 0, 1) := by decide +kernel
theorem dX0_passesOf_1 : decode cX0_passesOf 1 = .ok (.istore_n 2, 1) := by decide +kernel
theorem dX0_passesOf_2 : decode cX0_passesOf 2 = .ok (.iconst 0, 1) := by decide +kernel
theorem dX0_passesOf_3 : decode cX0_passesOf 3 = .ok (.istore_n 3, 1) := by decide +kernel
theorem dX0_passesOf_4 : decode cX0_passesOf 4 = .ok (.iload_n 3, 1) := by decide +kernel
theorem dX0_passesOf_5 : decode cX0_passesOf 5 = .ok (.aload_n 0, 1) := by decide +kernel
theorem dX0_passesOf_6 : decode cX0_passesOf 6 = .ok (.getfield 53, 3) := by decide +kernel
theorem dX0_passesOf_9 : decode cX0_passesOf 9 = .ok (.getfield 148, 3) := by decide +kernel
theorem dX0_passesOf_12 : decode cX0_passesOf 12 = .ok (.if_icmp .ge 24, 3) := by decide +kernel
theorem dX0_passesOf_15 : decode cX0_passesOf 15 = .ok (.aload_n 0, 1) := by decide +kernel
theorem dX0_passesOf_16 : decode cX0_passesOf 16 = .ok (.getfield 53, 3) := by decide +kernel
theorem dX0_passesOf_19 : decode cX0_passesOf 19 = .ok (.iload_n 3, 1) := by decide +kernel
theorem dX0_passesOf_20 : decode cX0_passesOf 20 = .ok (.iload_n 1, 1) := by decide +kernel
theorem dX0_passesOf_21 : decode cX0_passesOf 21 = .ok (.invokevirtual 151, 3) := by decide +kernel
theorem dX0_passesOf_24 : decode cX0_passesOf 24 = .ok (.ifCond .eq 6, 3) := by decide +kernel
theorem dX0_passesOf_27 : decode cX0_passesOf 27 = .ok (.iinc 2 1, 3) := by decide +kernel
theorem dX0_passesOf_30 : decode cX0_passesOf 30 = .ok (.iinc 3 1, 3) := by decide +kernel
theorem dX0_passesOf_33 : decode cX0_passesOf 33 = .ok (.goto (-29), 3) := by decide +kernel
theorem dX0_passesOf_36 : decode cX0_passesOf 36 = .ok (.iload_n 2, 1) := by decide +kernel
theorem dX0_passesOf_37 : decode cX0_passesOf 37 = .ok (.ireturn, 1) := by decide +kernel
theorem dX0_openPassesOf_0 : decode cX0_openPassesOf 0 = .ok (.iconst 0, 1) := by decide +kernel
theorem dX0_openPassesOf_1 : decode cX0_openPassesOf 1 = .ok (.istore_n 2, 1) := by decide +kernel
theorem dX0_openPassesOf_2 : decode cX0_openPassesOf 2 = .ok (.iconst 0, 1) := by decide +kernel
theorem dX0_openPassesOf_3 : decode cX0_openPassesOf 3 = .ok (.istore_n 3, 1) := by decide +kernel
theorem dX0_openPassesOf_4 : decode cX0_openPassesOf 4 = .ok (.iload_n 3, 1) := by decide +kernel
theorem dX0_openPassesOf_5 : decode cX0_openPassesOf 5 = .ok (.aload_n 0, 1) := by decide +kernel
theorem dX0_openPassesOf_6 : decode cX0_openPassesOf 6 = .ok (.getfield 53, 3) := by decide +kernel
theorem dX0_openPassesOf_9 : decode cX0_openPassesOf 9 = .ok (.getfield 148, 3) := by decide +kernel
theorem dX0_openPassesOf_12 : decode cX0_openPassesOf 12 = .ok (.if_icmp .ge 36, 3) := by decide +kernel
theorem dX0_openPassesOf_15 : decode cX0_openPassesOf 15 = .ok (.aload_n 0, 1) := by decide +kernel
theorem dX0_openPassesOf_16 : decode cX0_openPassesOf 16 = .ok (.getfield 53, 3) := by decide +kernel
theorem dX0_openPassesOf_19 : decode cX0_openPassesOf 19 = .ok (.iload_n 3, 1) := by decide +kernel
theorem dX0_openPassesOf_20 : decode cX0_openPassesOf 20 = .ok (.iload_n 1, 1) := by decide +kernel
theorem dX0_openPassesOf_21 : decode cX0_openPassesOf 21 = .ok (.invokevirtual 151, 3) := by decide +kernel
theorem dX0_openPassesOf_24 : decode cX0_openPassesOf 24 = .ok (.ifCond .eq 18, 3) := by decide +kernel
theorem dX0_openPassesOf_27 : decode cX0_openPassesOf 27 = .ok (.aload_n 0, 1) := by decide +kernel
theorem dX0_openPassesOf_28 : decode cX0_openPassesOf 28 = .ok (.iload_n 3, 1) := by decide +kernel
theorem dX0_openPassesOf_29 : decode cX0_openPassesOf 29 = .ok (.aload_n 0, 1) := by decide +kernel
theorem dX0_openPassesOf_30 : decode cX0_openPassesOf 30 = .ok (.getfield 71, 3) := by decide +kernel
theorem dX0_openPassesOf_33 : decode cX0_openPassesOf 33 = .ok (.invokevirtual 90, 3) := by decide +kernel
theorem dX0_openPassesOf_36 : decode cX0_openPassesOf 36 = .ok (.ifCond .eq 6, 3) := by decide +kernel
theorem dX0_openPassesOf_39 : decode cX0_openPassesOf 39 = .ok (.iinc 2 1, 3) := by decide +kernel
theorem dX0_openPassesOf_42 : decode cX0_openPassesOf 42 = .ok (.iinc 3 1, 3) := by decide +kernel
theorem dX0_openPassesOf_45 : decode cX0_openPassesOf 45 = .ok (.goto (-41), 3) := by decide +kernel
theorem dX0_openPassesOf_48 : decode cX0_openPassesOf 48 = .ok (.iload_n 2, 1) := by decide +kernel
theorem dX0_openPassesOf_49 : decode cX0_openPassesOf 49 = .ok (.ireturn, 1) := by decide +kernel
theorem dX0_tally_0 : decode cX0_tally 0 = .ok (.iload_n 1, 1) := by decide +kernel
theorem dX0_tally_1 : decode cX0_tally 1 = .ok (.tableswitch 54 8 11 #[31, 37, 43, 49], 31) := by decide +kernel
theorem dX0_tally_32 : decode cX0_tally 32 = .ok (.aload_n 0, 1) := by decide +kernel
theorem dX0_tally_33 : decode cX0_tally 33 = .ok (.iconst 0, 1) := by decide +kernel
theorem dX0_tally_34 : decode cX0_tally 34 = .ok (.invokevirtual 179, 3) := by decide +kernel
theorem dX0_tally_37 : decode cX0_tally 37 = .ok (.ireturn, 1) := by decide +kernel
theorem dX0_tally_38 : decode cX0_tally 38 = .ok (.aload_n 0, 1) := by decide +kernel
theorem dX0_tally_39 : decode cX0_tally 39 = .ok (.iconst 1, 1) := by decide +kernel
theorem dX0_tally_40 : decode cX0_tally 40 = .ok (.invokevirtual 179, 3) := by decide +kernel
theorem dX0_tally_43 : decode cX0_tally 43 = .ok (.ireturn, 1) := by decide +kernel
theorem dX0_tally_44 : decode cX0_tally 44 = .ok (.aload_n 0, 1) := by decide +kernel
theorem dX0_tally_45 : decode cX0_tally 45 = .ok (.iconst 2, 1) := by decide +kernel
theorem dX0_tally_46 : decode cX0_tally 46 = .ok (.invokevirtual 179, 3) := by decide +kernel
theorem dX0_tally_49 : decode cX0_tally 49 = .ok (.ireturn, 1) := by decide +kernel
theorem dX0_tally_50 : decode cX0_tally 50 = .ok (.aload_n 0, 1) := by decide +kernel
theorem dX0_tally_51 : decode cX0_tally 51 = .ok (.invokevirtual 182, 3) := by decide +kernel
theorem dX0_tally_54 : decode cX0_tally 54 = .ok (.ireturn, 1) := by decide +kernel
theorem dX0_tally_55 : decode cX0_tally 55 = .ok (.aload_n 0, 1) := by decide +kernel
theorem dX0_tally_56 : decode cX0_tally 56 = .ok (.getfield 57, 3) := by decide +kernel
theorem dX0_tally_59 : decode cX0_tally 59 = .ok (.ireturn, 1) := by decide +kernel
theorem dX0_peakTold_0 : decode cX0_peakTold 0 = .ok (.aload_n 0, 1) := by decide +kernel
theorem dX0_peakTold_1 : decode cX0_peakTold 1 = .ok (.getfield 53, 3) := by decide +kernel
theorem dX0_peakTold_4 : decode cX0_peakTold 4 = .ok (.iload_n 1, 1) := by decide +kernel
theorem dX0_peakTold_5 : decode cX0_peakTold 5 = .ok (.invokevirtual 144, 3) := by decide +kernel
theorem dX0_peakTold_8 : decode cX0_peakTold 8 = .ok (.ifCond .ne 5, 3) := by decide +kernel
theorem dX0_peakTold_11 : decode cX0_peakTold 11 = .ok (.iconst 0, 1) := by decide +kernel
theorem dX0_peakTold_12 : decode cX0_peakTold 12 = .ok (.ireturn, 1) := by decide +kernel
theorem dX0_peakTold_13 : decode cX0_peakTold 13 = .ok (.iload_n 2, 1) := by decide +kernel
theorem dX0_peakTold_14 : decode cX0_peakTold 14 = .ok (.tableswitch 84 0 5 #[38, 48, 58, 65, 71, 78], 38) := by decide +kernel
theorem dX0_peakTold_52 : decode cX0_peakTold 52 = .ok (.aload_n 0, 1) := by decide +kernel
theorem dX0_peakTold_53 : decode cX0_peakTold 53 = .ok (.getfield 53, 3) := by decide +kernel
theorem dX0_peakTold_56 : decode cX0_peakTold 56 = .ok (.getfield 186, 3) := by decide +kernel
theorem dX0_peakTold_59 : decode cX0_peakTold 59 = .ok (.iload_n 1, 1) := by decide +kernel
theorem dX0_peakTold_60 : decode cX0_peakTold 60 = .ok (.iaload, 1) := by decide +kernel
theorem dX0_peakTold_61 : decode cX0_peakTold 61 = .ok (.ireturn, 1) := by decide +kernel
theorem dX0_peakTold_62 : decode cX0_peakTold 62 = .ok (.aload_n 0, 1) := by decide +kernel
theorem dX0_peakTold_63 : decode cX0_peakTold 63 = .ok (.getfield 53, 3) := by decide +kernel
theorem dX0_peakTold_66 : decode cX0_peakTold 66 = .ok (.getfield 189, 3) := by decide +kernel
theorem dX0_peakTold_69 : decode cX0_peakTold 69 = .ok (.iload_n 1, 1) := by decide +kernel
theorem dX0_peakTold_70 : decode cX0_peakTold 70 = .ok (.iaload, 1) := by decide +kernel
theorem dX0_peakTold_71 : decode cX0_peakTold 71 = .ok (.ireturn, 1) := by decide +kernel
theorem dX0_peakTold_72 : decode cX0_peakTold 72 = .ok (.aload_n 0, 1) := by decide +kernel
theorem dX0_peakTold_73 : decode cX0_peakTold 73 = .ok (.getfield 15, 3) := by decide +kernel
theorem dX0_peakTold_76 : decode cX0_peakTold 76 = .ok (.iload_n 1, 1) := by decide +kernel
theorem dX0_peakTold_77 : decode cX0_peakTold 77 = .ok (.iaload, 1) := by decide +kernel
theorem dX0_peakTold_78 : decode cX0_peakTold 78 = .ok (.ireturn, 1) := by decide +kernel
theorem dX0_peakTold_79 : decode cX0_peakTold 79 = .ok (.aload_n 0, 1) := by decide +kernel
theorem dX0_peakTold_80 : decode cX0_peakTold 80 = .ok (.iload_n 1, 1) := by decide +kernel
theorem dX0_peakTold_81 : decode cX0_peakTold 81 = .ok (.invokevirtual 121, 3) := by decide +kernel
theorem dX0_peakTold_84 : decode cX0_peakTold 84 = .ok (.ireturn, 1) := by decide +kernel
theorem dX0_peakTold_85 : decode cX0_peakTold 85 = .ok (.aload_n 0, 1) := by decide +kernel
theorem dX0_peakTold_86 : decode cX0_peakTold 86 = .ok (.iload_n 1, 1) := by decide +kernel
theorem dX0_peakTold_87 : decode cX0_peakTold 87 = .ok (.iconst 0, 1) := by decide +kernel
theorem dX0_peakTold_88 : decode cX0_peakTold 88 = .ok (.invokevirtual 173, 3) := by decide +kernel
theorem dX0_peakTold_91 : decode cX0_peakTold 91 = .ok (.ireturn, 1) := by decide +kernel
theorem dX0_peakTold_92 : decode cX0_peakTold 92 = .ok (.aload_n 0, 1) := by decide +kernel
theorem dX0_peakTold_93 : decode cX0_peakTold 93 = .ok (.iload_n 1, 1) := by decide +kernel
theorem dX0_peakTold_94 : decode cX0_peakTold 94 = .ok (.invokevirtual 192, 3) := by decide +kernel
theorem dX0_peakTold_97 : decode cX0_peakTold 97 = .ok (.ireturn, 1) := by decide +kernel
theorem dX0_peakTold_98 : decode cX0_peakTold 98 = .ok (.aload_n 0, 1) := by decide +kernel
theorem dX0_peakTold_99 : decode cX0_peakTold 99 = .ok (.iload_n 1, 1) := by decide +kernel
theorem dX0_peakTold_100 : decode cX0_peakTold 100 = .ok (.invokevirtual 195, 3) := by decide +kernel
theorem dX0_peakTold_103 : decode cX0_peakTold 103 = .ok (.ireturn, 1) := by decide +kernel
theorem dX0_passTold_0 : decode cX0_passTold 0 = .ok (.aload_n 0, 1) := by decide +kernel
theorem dX0_passTold_1 : decode cX0_passTold 1 = .ok (.getfield 53, 3) := by decide +kernel
theorem dX0_passTold_4 : decode cX0_passTold 4 = .ok (.iload_n 1, 1) := by decide +kernel
theorem dX0_passTold_5 : decode cX0_passTold 5 = .ok (.invokevirtual 164, 3) := by decide +kernel
theorem dX0_passTold_8 : decode cX0_passTold 8 = .ok (.ifCond .ne 5, 3) := by decide +kernel
theorem dX0_passTold_11 : decode cX0_passTold 11 = .ok (.iconst 0, 1) := by decide +kernel
theorem dX0_passTold_12 : decode cX0_passTold 12 = .ok (.ireturn, 1) := by decide +kernel
theorem dX0_passTold_13 : decode cX0_passTold 13 = .ok (.iload_n 2, 1) := by decide +kernel
theorem dX0_passTold_14 : decode cX0_passTold 14 = .ok (.tableswitch 79 0 4 #[34, 44, 54, 64, 73], 34) := by decide +kernel
theorem dX0_passTold_48 : decode cX0_passTold 48 = .ok (.aload_n 0, 1) := by decide +kernel
theorem dX0_passTold_49 : decode cX0_passTold 49 = .ok (.getfield 53, 3) := by decide +kernel
theorem dX0_passTold_52 : decode cX0_passTold 52 = .ok (.getfield 154, 3) := by decide +kernel
theorem dX0_passTold_55 : decode cX0_passTold 55 = .ok (.iload_n 1, 1) := by decide +kernel
theorem dX0_passTold_56 : decode cX0_passTold 56 = .ok (.iaload, 1) := by decide +kernel
theorem dX0_passTold_57 : decode cX0_passTold 57 = .ok (.ireturn, 1) := by decide +kernel
theorem dX0_passTold_58 : decode cX0_passTold 58 = .ok (.aload_n 0, 1) := by decide +kernel
theorem dX0_passTold_59 : decode cX0_passTold 59 = .ok (.getfield 53, 3) := by decide +kernel
theorem dX0_passTold_62 : decode cX0_passTold 62 = .ok (.getfield 157, 3) := by decide +kernel
theorem dX0_passTold_65 : decode cX0_passTold 65 = .ok (.iload_n 1, 1) := by decide +kernel
theorem dX0_passTold_66 : decode cX0_passTold 66 = .ok (.iaload, 1) := by decide +kernel
theorem dX0_passTold_67 : decode cX0_passTold 67 = .ok (.ireturn, 1) := by decide +kernel
theorem dX0_passTold_68 : decode cX0_passTold 68 = .ok (.aload_n 0, 1) := by decide +kernel
theorem dX0_passTold_69 : decode cX0_passTold 69 = .ok (.getfield 53, 3) := by decide +kernel
theorem dX0_passTold_72 : decode cX0_passTold 72 = .ok (.getfield 104, 3) := by decide +kernel
theorem dX0_passTold_75 : decode cX0_passTold 75 = .ok (.iload_n 1, 1) := by decide +kernel
theorem dX0_passTold_76 : decode cX0_passTold 76 = .ok (.iaload, 1) := by decide +kernel
theorem dX0_passTold_77 : decode cX0_passTold 77 = .ok (.ireturn, 1) := by decide +kernel
theorem dX0_passTold_78 : decode cX0_passTold 78 = .ok (.aload_n 0, 1) := by decide +kernel
theorem dX0_passTold_79 : decode cX0_passTold 79 = .ok (.getfield 53, 3) := by decide +kernel
theorem dX0_passTold_82 : decode cX0_passTold 82 = .ok (.iload_n 1, 1) := by decide +kernel
theorem dX0_passTold_83 : decode cX0_passTold 83 = .ok (.invokevirtual 198, 3) := by decide +kernel
theorem dX0_passTold_86 : decode cX0_passTold 86 = .ok (.ireturn, 1) := by decide +kernel
theorem dX0_passTold_87 : decode cX0_passTold 87 = .ok (.aload_n 0, 1) := by decide +kernel
theorem dX0_passTold_88 : decode cX0_passTold 88 = .ok (.iload_n 1, 1) := by decide +kernel
theorem dX0_passTold_89 : decode cX0_passTold 89 = .ok (.invokevirtual 138, 3) := by decide +kernel
theorem dX0_passTold_92 : decode cX0_passTold 92 = .ok (.ireturn, 1) := by decide +kernel
theorem dX0_passTold_93 : decode cX0_passTold 93 = .ok (.aload_n 0, 1) := by decide +kernel
theorem dX0_passTold_94 : decode cX0_passTold 94 = .ok (.getfield 43, 3) := by decide +kernel
theorem dX0_passTold_97 : decode cX0_passTold 97 = .ok (.iload_n 1, 1) := by decide +kernel
theorem dX0_passTold_98 : decode cX0_passTold 98 = .ok (.iaload, 1) := by decide +kernel
theorem dX0_passTold_99 : decode cX0_passTold 99 = .ok (.ireturn, 1) := by decide +kernel
theorem dX0_messageTold_0 : decode cX0_messageTold 0 = .ok (.aload_n 0, 1) := by decide +kernel
theorem dX0_messageTold_1 : decode cX0_messageTold 1 = .ok (.getfield 53, 3) := by decide +kernel
theorem dX0_messageTold_4 : decode cX0_messageTold 4 = .ok (.iload_n 1, 1) := by decide +kernel
theorem dX0_messageTold_5 : decode cX0_messageTold 5 = .ok (.invokevirtual 94, 3) := by decide +kernel
theorem dX0_messageTold_8 : decode cX0_messageTold 8 = .ok (.ifCond .ne 5, 3) := by decide +kernel
theorem dX0_messageTold_11 : decode cX0_messageTold 11 = .ok (.iconst 0, 1) := by decide +kernel
theorem dX0_messageTold_12 : decode cX0_messageTold 12 = .ok (.ireturn, 1) := by decide +kernel
theorem dX0_messageTold_13 : decode cX0_messageTold 13 = .ok (.iload_n 2, 1) := by decide +kernel
theorem dX0_messageTold_14 : decode cX0_messageTold 14 = .ok (.tableswitch 105 0 7 #[46, 56, 63, 70, 77, 84, 91, 98], 46) := by decide +kernel
theorem dX0_messageTold_60 : decode cX0_messageTold 60 = .ok (.aload_n 0, 1) := by decide +kernel
theorem dX0_messageTold_61 : decode cX0_messageTold 61 = .ok (.getfield 53, 3) := by decide +kernel
theorem dX0_messageTold_64 : decode cX0_messageTold 64 = .ok (.getfield 115, 3) := by decide +kernel
theorem dX0_messageTold_67 : decode cX0_messageTold 67 = .ok (.iload_n 1, 1) := by decide +kernel
theorem dX0_messageTold_68 : decode cX0_messageTold 68 = .ok (.iaload, 1) := by decide +kernel
theorem dX0_messageTold_69 : decode cX0_messageTold 69 = .ok (.ireturn, 1) := by decide +kernel
theorem dX0_messageTold_70 : decode cX0_messageTold 70 = .ok (.aload_n 0, 1) := by decide +kernel
theorem dX0_messageTold_71 : decode cX0_messageTold 71 = .ok (.getfield 19, 3) := by decide +kernel
theorem dX0_messageTold_74 : decode cX0_messageTold 74 = .ok (.iload_n 1, 1) := by decide +kernel
theorem dX0_messageTold_75 : decode cX0_messageTold 75 = .ok (.iaload, 1) := by decide +kernel
theorem dX0_messageTold_76 : decode cX0_messageTold 76 = .ok (.ireturn, 1) := by decide +kernel
theorem dX0_messageTold_77 : decode cX0_messageTold 77 = .ok (.aload_n 0, 1) := by decide +kernel
theorem dX0_messageTold_78 : decode cX0_messageTold 78 = .ok (.getfield 22, 3) := by decide +kernel
theorem dX0_messageTold_81 : decode cX0_messageTold 81 = .ok (.iload_n 1, 1) := by decide +kernel
theorem dX0_messageTold_82 : decode cX0_messageTold 82 = .ok (.iaload, 1) := by decide +kernel
theorem dX0_messageTold_83 : decode cX0_messageTold 83 = .ok (.ireturn, 1) := by decide +kernel
theorem dX0_messageTold_84 : decode cX0_messageTold 84 = .ok (.aload_n 0, 1) := by decide +kernel
theorem dX0_messageTold_85 : decode cX0_messageTold 85 = .ok (.getfield 25, 3) := by decide +kernel
theorem dX0_messageTold_88 : decode cX0_messageTold 88 = .ok (.iload_n 1, 1) := by decide +kernel
theorem dX0_messageTold_89 : decode cX0_messageTold 89 = .ok (.iaload, 1) := by decide +kernel
theorem dX0_messageTold_90 : decode cX0_messageTold 90 = .ok (.ireturn, 1) := by decide +kernel
theorem dX0_messageTold_91 : decode cX0_messageTold 91 = .ok (.aload_n 0, 1) := by decide +kernel
theorem dX0_messageTold_92 : decode cX0_messageTold 92 = .ok (.getfield 34, 3) := by decide +kernel
theorem dX0_messageTold_95 : decode cX0_messageTold 95 = .ok (.iload_n 1, 1) := by decide +kernel
theorem dX0_messageTold_96 : decode cX0_messageTold 96 = .ok (.iaload, 1) := by decide +kernel
theorem dX0_messageTold_97 : decode cX0_messageTold 97 = .ok (.ireturn, 1) := by decide +kernel
theorem dX0_messageTold_98 : decode cX0_messageTold 98 = .ok (.aload_n 0, 1) := by decide +kernel
theorem dX0_messageTold_99 : decode cX0_messageTold 99 = .ok (.getfield 28, 3) := by decide +kernel
theorem dX0_messageTold_102 : decode cX0_messageTold 102 = .ok (.iload_n 1, 1) := by decide +kernel
theorem dX0_messageTold_103 : decode cX0_messageTold 103 = .ok (.iaload, 1) := by decide +kernel
theorem dX0_messageTold_104 : decode cX0_messageTold 104 = .ok (.ireturn, 1) := by decide +kernel
theorem dX0_messageTold_105 : decode cX0_messageTold 105 = .ok (.aload_n 0, 1) := by decide +kernel
theorem dX0_messageTold_106 : decode cX0_messageTold 106 = .ok (.getfield 37, 3) := by decide +kernel
theorem dX0_messageTold_109 : decode cX0_messageTold 109 = .ok (.iload_n 1, 1) := by decide +kernel
theorem dX0_messageTold_110 : decode cX0_messageTold 110 = .ok (.iaload, 1) := by decide +kernel
theorem dX0_messageTold_111 : decode cX0_messageTold 111 = .ok (.ireturn, 1) := by decide +kernel
theorem dX0_messageTold_112 : decode cX0_messageTold 112 = .ok (.aload_n 0, 1) := by decide +kernel
theorem dX0_messageTold_113 : decode cX0_messageTold 113 = .ok (.getfield 31, 3) := by decide +kernel
theorem dX0_messageTold_116 : decode cX0_messageTold 116 = .ok (.iload_n 1, 1) := by decide +kernel
theorem dX0_messageTold_117 : decode cX0_messageTold 117 = .ok (.iaload, 1) := by decide +kernel
theorem dX0_messageTold_118 : decode cX0_messageTold 118 = .ok (.ireturn, 1) := by decide +kernel
theorem dX0_messageTold_119 : decode cX0_messageTold 119 = .ok (.aload_n 0, 1) := by decide +kernel
theorem dX0_messageTold_120 : decode cX0_messageTold 120 = .ok (.getfield 40, 3) := by decide +kernel
theorem dX0_messageTold_123 : decode cX0_messageTold 123 = .ok (.iload_n 1, 1) := by decide +kernel
theorem dX0_messageTold_124 : decode cX0_messageTold 124 = .ok (.iaload, 1) := by decide +kernel
theorem dX0_messageTold_125 : decode cX0_messageTold 125 = .ok (.ireturn, 1) := by decide +kernel
theorem dX2_init_0 : decode cX2_init 0 = .ok (.aload_n 0, 1) := by decide +kernel
theorem dX2_init_1 : decode cX2_init 1 = .ok (.invokespecial 3, 3) := by decide +kernel
theorem dX2_init_4 : decode cX2_init 4 = .ok (.aload_n 0, 1) := by decide +kernel
theorem dX2_init_5 : decode cX2_init 5 = .ok (.bipush 12, 2) := by decide +kernel
theorem dX2_init_7 : decode cX2_init 7 = .ok (.newarray .int, 2) := by decide +kernel
theorem dX2_init_9 : decode cX2_init 9 = .ok (.putfield 9, 3) := by decide +kernel
theorem dX2_init_12 : decode cX2_init 12 = .ok (.aload_n 0, 1) := by decide +kernel
theorem dX2_init_13 : decode cX2_init 13 = .ok (.bipush 12, 2) := by decide +kernel
theorem dX2_init_15 : decode cX2_init 15 = .ok (.newarray .int, 2) := by decide +kernel
theorem dX2_init_17 : decode cX2_init 17 = .ok (.putfield 15, 3) := by decide +kernel
theorem dX2_init_20 : decode cX2_init 20 = .ok (.aload_n 0, 1) := by decide +kernel
theorem dX2_init_21 : decode cX2_init 21 = .ok (.sipush 400, 3) := by decide +kernel
theorem dX2_init_24 : decode cX2_init 24 = .ok (.newarray .int, 2) := by decide +kernel
theorem dX2_init_26 : decode cX2_init 26 = .ok (.putfield 18, 3) := by decide +kernel
theorem dX2_init_29 : decode cX2_init 29 = .ok (.aload_n 0, 1) := by decide +kernel
theorem dX2_init_30 : decode cX2_init 30 = .ok (.sipush 400, 3) := by decide +kernel
theorem dX2_init_33 : decode cX2_init 33 = .ok (.newarray .int, 2) := by decide +kernel
theorem dX2_init_35 : decode cX2_init 35 = .ok (.putfield 21, 3) := by decide +kernel
theorem dX2_init_38 : decode cX2_init 38 = .ok (.aload_n 0, 1) := by decide +kernel
theorem dX2_init_39 : decode cX2_init 39 = .ok (.sipush 400, 3) := by decide +kernel
theorem dX2_init_42 : decode cX2_init 42 = .ok (.newarray .int, 2) := by decide +kernel
theorem dX2_init_44 : decode cX2_init 44 = .ok (.putfield 24, 3) := by decide +kernel
theorem dX2_init_47 : decode cX2_init 47 = .ok (.return_, 1) := by decide +kernel
theorem dX2_clear_0 : decode cX2_clear 0 = .ok (.aload_n 0, 1) := by decide +kernel
theorem dX2_clear_1 : decode cX2_clear 1 = .ok (.iconst 0, 1) := by decide +kernel
theorem dX2_clear_2 : decode cX2_clear 2 = .ok (.putfield 27, 3) := by decide +kernel
theorem dX2_clear_5 : decode cX2_clear 5 = .ok (.aload_n 0, 1) := by decide +kernel
theorem dX2_clear_6 : decode cX2_clear 6 = .ok (.iconst 0, 1) := by decide +kernel
theorem dX2_clear_7 : decode cX2_clear 7 = .ok (.putfield 31, 3) := by decide +kernel
theorem dX2_clear_10 : decode cX2_clear 10 = .ok (.return_, 1) := by decide +kernel
theorem dX2_append_0 : decode cX2_append 0 = .ok (.aload_n 0, 1) := by decide +kernel
theorem dX2_append_1 : decode cX2_append 1 = .ok (.getfield 31, 3) := by decide +kernel
theorem dX2_append_4 : decode cX2_append 4 = .ok (.aload_n 0, 1) := by decide +kernel
theorem dX2_append_5 : decode cX2_append 5 = .ok (.getfield 18, 3) := by decide +kernel
theorem dX2_append_8 : decode cX2_append 8 = .ok (.arraylength, 1) := by decide +kernel
theorem dX2_append_9 : decode cX2_append 9 = .ok (.if_icmp .ge 33, 3) := by decide +kernel
theorem dX2_append_12 : decode cX2_append 12 = .ok (.aload_n 0, 1) := by decide +kernel
theorem dX2_append_13 : decode cX2_append 13 = .ok (.getfield 18, 3) := by decide +kernel
theorem dX2_append_16 : decode cX2_append 16 = .ok (.aload_n 0, 1) := by decide +kernel
theorem dX2_append_17 : decode cX2_append 17 = .ok (.getfield 31, 3) := by decide +kernel
theorem dX2_append_20 : decode cX2_append 20 = .ok (.iload_n 1, 1) := by decide +kernel
theorem dX2_append_21 : decode cX2_append 21 = .ok (.iastore, 1) := by decide +kernel
theorem dX2_append_22 : decode cX2_append 22 = .ok (.aload_n 0, 1) := by decide +kernel
theorem dX2_append_23 : decode cX2_append 23 = .ok (.getfield 21, 3) := by decide +kernel
theorem dX2_append_26 : decode cX2_append 26 = .ok (.aload_n 0, 1) := by decide +kernel
theorem dX2_append_27 : decode cX2_append 27 = .ok (.getfield 31, 3) := by decide +kernel
theorem dX2_append_30 : decode cX2_append 30 = .ok (.iload_n 2, 1) := by decide +kernel
theorem dX2_append_31 : decode cX2_append 31 = .ok (.iastore, 1) := by decide +kernel
theorem dX2_append_32 : decode cX2_append 32 = .ok (.aload_n 0, 1) := by decide +kernel
theorem dX2_append_33 : decode cX2_append 33 = .ok (.dup, 1) := by decide +kernel
theorem dX2_append_34 : decode cX2_append 34 = .ok (.getfield 31, 3) := by decide +kernel
theorem dX2_append_37 : decode cX2_append 37 = .ok (.iconst 1, 1) := by decide +kernel
theorem dX2_append_38 : decode cX2_append 38 = .ok (.iadd, 1) := by decide +kernel
theorem dX2_append_39 : decode cX2_append 39 = .ok (.putfield 31, 3) := by decide +kernel
theorem dX2_append_42 : decode cX2_append 42 = .ok (.return_, 1) := by decide +kernel
theorem dX2_close_0 : decode cX2_close 0 = .ok (.aload_n 0, 1) := by decide +kernel
theorem dX2_close_1 : decode cX2_close 1 = .ok (.getfield 27, 3) := by decide +kernel
theorem dX2_close_4 : decode cX2_close 4 = .ok (.aload_n 0, 1) := by decide +kernel
theorem dX2_close_5 : decode cX2_close 5 = .ok (.getfield 9, 3) := by decide +kernel
theorem dX2_close_8 : decode cX2_close 8 = .ok (.arraylength, 1) := by decide +kernel
theorem dX2_close_9 : decode cX2_close 9 = .ok (.if_icmp .ge 36, 3) := by decide +kernel
theorem dX2_close_12 : decode cX2_close 12 = .ok (.aload_n 0, 1) := by decide +kernel
theorem dX2_close_13 : decode cX2_close 13 = .ok (.getfield 9, 3) := by decide +kernel
theorem dX2_close_16 : decode cX2_close 16 = .ok (.aload_n 0, 1) := by decide +kernel
theorem dX2_close_17 : decode cX2_close 17 = .ok (.getfield 27, 3) := by decide +kernel
theorem dX2_close_20 : decode cX2_close 20 = .ok (.iload_n 1, 1) := by decide +kernel
theorem dX2_close_21 : decode cX2_close 21 = .ok (.iastore, 1) := by decide +kernel
theorem dX2_close_22 : decode cX2_close 22 = .ok (.aload_n 0, 1) := by decide +kernel
theorem dX2_close_23 : decode cX2_close 23 = .ok (.getfield 15, 3) := by decide +kernel
theorem dX2_close_26 : decode cX2_close 26 = .ok (.aload_n 0, 1) := by decide +kernel
theorem dX2_close_27 : decode cX2_close 27 = .ok (.getfield 27, 3) := by decide +kernel
theorem dX2_close_30 : decode cX2_close 30 = .ok (.aload_n 0, 1) := by decide +kernel
theorem dX2_close_31 : decode cX2_close 31 = .ok (.getfield 31, 3) := by decide +kernel
theorem dX2_close_34 : decode cX2_close 34 = .ok (.iastore, 1) := by decide +kernel
theorem dX2_close_35 : decode cX2_close 35 = .ok (.aload_n 0, 1) := by decide +kernel
theorem dX2_close_36 : decode cX2_close 36 = .ok (.dup, 1) := by decide +kernel
theorem dX2_close_37 : decode cX2_close 37 = .ok (.getfield 27, 3) := by decide +kernel
theorem dX2_close_40 : decode cX2_close 40 = .ok (.iconst 1, 1) := by decide +kernel
theorem dX2_close_41 : decode cX2_close 41 = .ok (.iadd, 1) := by decide +kernel
theorem dX2_close_42 : decode cX2_close 42 = .ok (.putfield 27, 3) := by decide +kernel
theorem dX2_close_45 : decode cX2_close 45 = .ok (.return_, 1) := by decide +kernel
theorem dX2_isHeld_0 : decode cX2_isHeld 0 = .ok (.iconst 0, 1) := by decide +kernel
theorem dX2_isHeld_1 : decode cX2_isHeld 1 = .ok (.istore_n 3, 1) := by decide +kernel
theorem dX2_isHeld_2 : decode cX2_isHeld 2 = .ok (.iconst 0, 1) := by decide +kernel
theorem dX2_isHeld_3 : decode cX2_isHeld 3 = .ok (.istore 4, 2) := by decide +kernel
theorem dX2_isHeld_5 : decode cX2_isHeld 5 = .ok (.iload 4, 2) := by decide +kernel
theorem dX2_isHeld_7 : decode cX2_isHeld 7 = .ok (.aload_n 0, 1) := by decide +kernel
theorem dX2_isHeld_8 : decode cX2_isHeld 8 = .ok (.getfield 27, 3) := by decide +kernel
theorem dX2_isHeld_11 : decode cX2_isHeld 11 = .ok (.if_icmp .ge 56, 3) := by decide +kernel
theorem dX2_isHeld_14 : decode cX2_isHeld 14 = .ok (.iload 4, 2) := by decide +kernel
theorem dX2_isHeld_16 : decode cX2_isHeld 16 = .ok (.aload_n 0, 1) := by decide +kernel
theorem dX2_isHeld_17 : decode cX2_isHeld 17 = .ok (.getfield 9, 3) := by decide +kernel
theorem dX2_isHeld_20 : decode cX2_isHeld 20 = .ok (.arraylength, 1) := by decide +kernel
theorem dX2_isHeld_21 : decode cX2_isHeld 21 = .ok (.if_icmp .ge 46, 3) := by decide +kernel
theorem dX2_isHeld_24 : decode cX2_isHeld 24 = .ok (.aload_n 0, 1) := by decide +kernel
theorem dX2_isHeld_25 : decode cX2_isHeld 25 = .ok (.getfield 9, 3) := by decide +kernel
theorem dX2_isHeld_28 : decode cX2_isHeld 28 = .ok (.iload 4, 2) := by decide +kernel
theorem dX2_isHeld_30 : decode cX2_isHeld 30 = .ok (.iaload, 1) := by decide +kernel
theorem dX2_isHeld_31 : decode cX2_isHeld 31 = .ok (.iload_n 1, 1) := by decide +kernel
theorem dX2_isHeld_32 : decode cX2_isHeld 32 = .ok (.if_icmp .ne 21, 3) := by decide +kernel
theorem dX2_isHeld_35 : decode cX2_isHeld 35 = .ok (.aload_n 0, 1) := by decide +kernel
theorem dX2_isHeld_36 : decode cX2_isHeld 36 = .ok (.iload_n 3, 1) := by decide +kernel
theorem dX2_isHeld_37 : decode cX2_isHeld 37 = .ok (.aload_n 0, 1) := by decide +kernel
theorem dX2_isHeld_38 : decode cX2_isHeld 38 = .ok (.getfield 15, 3) := by decide +kernel
theorem dX2_isHeld_41 : decode cX2_isHeld 41 = .ok (.iload 4, 2) := by decide +kernel
theorem dX2_isHeld_43 : decode cX2_isHeld 43 = .ok (.iaload, 1) := by decide +kernel
theorem dX2_isHeld_44 : decode cX2_isHeld 44 = .ok (.aload_n 2, 1) := by decide +kernel
theorem dX2_isHeld_45 : decode cX2_isHeld 45 = .ok (.invokevirtual 34, 3) := by decide +kernel
theorem dX2_isHeld_48 : decode cX2_isHeld 48 = .ok (.ifCond .eq 5, 3) := by decide +kernel
theorem dX2_isHeld_51 : decode cX2_isHeld 51 = .ok (.iconst 1, 1) := by decide +kernel
theorem dX2_isHeld_52 : decode cX2_isHeld 52 = .ok (.ireturn, 1) := by decide +kernel
theorem dX2_isHeld_53 : decode cX2_isHeld 53 = .ok (.aload_n 0, 1) := by decide +kernel
theorem dX2_isHeld_54 : decode cX2_isHeld 54 = .ok (.getfield 15, 3) := by decide +kernel
theorem dX2_isHeld_57 : decode cX2_isHeld 57 = .ok (.iload 4, 2) := by decide +kernel
theorem dX2_isHeld_59 : decode cX2_isHeld 59 = .ok (.iaload, 1) := by decide +kernel
theorem dX2_isHeld_60 : decode cX2_isHeld 60 = .ok (.istore_n 3, 1) := by decide +kernel
theorem dX2_isHeld_61 : decode cX2_isHeld 61 = .ok (.iinc 4 1, 3) := by decide +kernel
theorem dX2_isHeld_64 : decode cX2_isHeld 64 = .ok (.goto (-59), 3) := by decide +kernel
theorem dX2_isHeld_67 : decode cX2_isHeld 67 = .ok (.iconst 0, 1) := by decide +kernel
theorem dX2_isHeld_68 : decode cX2_isHeld 68 = .ok (.ireturn, 1) := by decide +kernel
theorem dX2_isTrue_0 : decode cX2_isTrue 0 = .ok (.aload_n 0, 1) := by decide +kernel
theorem dX2_isTrue_1 : decode cX2_isTrue 1 = .ok (.iconst 0, 1) := by decide +kernel
theorem dX2_isTrue_2 : decode cX2_isTrue 2 = .ok (.putfield 38, 3) := by decide +kernel
theorem dX2_isTrue_5 : decode cX2_isTrue 5 = .ok (.iload_n 1, 1) := by decide +kernel
theorem dX2_isTrue_6 : decode cX2_isTrue 6 = .ok (.istore 4, 2) := by decide +kernel
theorem dX2_isTrue_8 : decode cX2_isTrue 8 = .ok (.iload 4, 2) := by decide +kernel
theorem dX2_isTrue_10 : decode cX2_isTrue 10 = .ok (.ifCond .lt 44, 3) := by decide +kernel
theorem dX2_isTrue_13 : decode cX2_isTrue 13 = .ok (.iload 4, 2) := by decide +kernel
theorem dX2_isTrue_15 : decode cX2_isTrue 15 = .ok (.iload_n 2, 1) := by decide +kernel
theorem dX2_isTrue_16 : decode cX2_isTrue 16 = .ok (.if_icmp .ge 38, 3) := by decide +kernel
theorem dX2_isTrue_19 : decode cX2_isTrue 19 = .ok (.iload 4, 2) := by decide +kernel
theorem dX2_isTrue_21 : decode cX2_isTrue 21 = .ok (.aload_n 0, 1) := by decide +kernel
theorem dX2_isTrue_22 : decode cX2_isTrue 22 = .ok (.getfield 18, 3) := by decide +kernel
theorem dX2_isTrue_25 : decode cX2_isTrue 25 = .ok (.arraylength, 1) := by decide +kernel
theorem dX2_isTrue_26 : decode cX2_isTrue 26 = .ok (.if_icmp .ge 28, 3) := by decide +kernel
theorem dX2_isTrue_29 : decode cX2_isTrue 29 = .ok (.aload_n 0, 1) := by decide +kernel
theorem dX2_isTrue_30 : decode cX2_isTrue 30 = .ok (.aload_n 0, 1) := by decide +kernel
theorem dX2_isTrue_31 : decode cX2_isTrue 31 = .ok (.getfield 18, 3) := by decide +kernel
theorem dX2_isTrue_34 : decode cX2_isTrue 34 = .ok (.iload 4, 2) := by decide +kernel
theorem dX2_isTrue_36 : decode cX2_isTrue 36 = .ok (.iaload, 1) := by decide +kernel
theorem dX2_isTrue_37 : decode cX2_isTrue 37 = .ok (.aload_n 0, 1) := by decide +kernel
theorem dX2_isTrue_38 : decode cX2_isTrue 38 = .ok (.getfield 21, 3) := by decide +kernel
theorem dX2_isTrue_41 : decode cX2_isTrue 41 = .ok (.iload 4, 2) := by decide +kernel
theorem dX2_isTrue_43 : decode cX2_isTrue 43 = .ok (.iaload, 1) := by decide +kernel
theorem dX2_isTrue_44 : decode cX2_isTrue 44 = .ok (.aload_n 3, 1) := by decide +kernel
theorem dX2_isTrue_45 : decode cX2_isTrue 45 = .ok (.invokevirtual 41, 3) := by decide +kernel
theorem dX2_isTrue_48 : decode cX2_isTrue 48 = .ok (.iinc 4 1, 3) := by decide +kernel
theorem dX2_isTrue_51 : decode cX2_isTrue 51 = .ok (.goto (-43), 3) := by decide +kernel
theorem dX2_isTrue_54 : decode cX2_isTrue 54 = .ok (.aload_n 0, 1) := by decide +kernel
theorem dX2_isTrue_55 : decode cX2_isTrue 55 = .ok (.invokevirtual 45, 3) := by decide +kernel
theorem dX2_isTrue_58 : decode cX2_isTrue 58 = .ok (.ifCond .eq 7, 3) := by decide +kernel
theorem dX2_isTrue_61 : decode cX2_isTrue 61 = .ok (.iconst 1, 1) := by decide +kernel
theorem dX2_isTrue_62 : decode cX2_isTrue 62 = .ok (.goto 4, 3) := by decide +kernel
theorem dX2_isTrue_65 : decode cX2_isTrue 65 = .ok (.iconst 0, 1) := by decide +kernel
theorem dX2_isTrue_66 : decode cX2_isTrue 66 = .ok (.ireturn, 1) := by decide +kernel
theorem dX2_apply_0 : decode cX2_apply 0 = .ok (.iload_n 1, 1) := by decide +kernel
theorem dX2_apply_1 : decode cX2_apply 1 = .ok (.tableswitch 175 0 8 #[51, 59, 73, 86, 98, 110, 130, 150, 162], 51) := by decide +kernel
theorem dX2_apply_52 : decode cX2_apply 52 = .ok (.aload_n 0, 1) := by decide +kernel
theorem dX2_apply_53 : decode cX2_apply 53 = .ok (.iload_n 2, 1) := by decide +kernel
theorem dX2_apply_54 : decode cX2_apply 54 = .ok (.invokevirtual 49, 3) := by decide +kernel
theorem dX2_apply_57 : decode cX2_apply 57 = .ok (.goto 139, 3) := by decide +kernel
theorem dX2_apply_60 : decode cX2_apply 60 = .ok (.aload_n 0, 1) := by decide +kernel
theorem dX2_apply_61 : decode cX2_apply 61 = .ok (.aload_n 3, 1) := by decide +kernel
theorem dX2_apply_62 : decode cX2_apply 62 = .ok (.getfield 53, 3) := by decide +kernel
theorem dX2_apply_65 : decode cX2_apply 65 = .ok (.bipush 120, 2) := by decide +kernel
theorem dX2_apply_67 : decode cX2_apply 67 = .ok (.irem, 1) := by decide +kernel
theorem dX2_apply_68 : decode cX2_apply 68 = .ok (.invokevirtual 49, 3) := by decide +kernel
theorem dX2_apply_71 : decode cX2_apply 71 = .ok (.goto 125, 3) := by decide +kernel
theorem dX2_apply_74 : decode cX2_apply 74 = .ok (.aload_n 0, 1) := by decide +kernel
theorem dX2_apply_75 : decode cX2_apply 75 = .ok (.aload_n 3, 1) := by decide +kernel
theorem dX2_apply_76 : decode cX2_apply 76 = .ok (.iload_n 2, 1) := by decide +kernel
theorem dX2_apply_77 : decode cX2_apply 77 = .ok (.iconst 0, 1) := by decide +kernel
theorem dX2_apply_78 : decode cX2_apply 78 = .ok (.invokevirtual 58, 3) := by decide +kernel
theorem dX2_apply_81 : decode cX2_apply 81 = .ok (.invokevirtual 49, 3) := by decide +kernel
theorem dX2_apply_84 : decode cX2_apply 84 = .ok (.goto 112, 3) := by decide +kernel
theorem dX2_apply_87 : decode cX2_apply 87 = .ok (.aload_n 0, 1) := by decide +kernel
theorem dX2_apply_88 : decode cX2_apply 88 = .ok (.aload_n 3, 1) := by decide +kernel
theorem dX2_apply_89 : decode cX2_apply 89 = .ok (.iload_n 2, 1) := by decide +kernel
theorem dX2_apply_90 : decode cX2_apply 90 = .ok (.invokevirtual 62, 3) := by decide +kernel
theorem dX2_apply_93 : decode cX2_apply 93 = .ok (.invokevirtual 49, 3) := by decide +kernel
theorem dX2_apply_96 : decode cX2_apply 96 = .ok (.goto 100, 3) := by decide +kernel
theorem dX2_apply_99 : decode cX2_apply 99 = .ok (.aload_n 0, 1) := by decide +kernel
theorem dX2_apply_100 : decode cX2_apply 100 = .ok (.aload_n 3, 1) := by decide +kernel
theorem dX2_apply_101 : decode cX2_apply 101 = .ok (.iload_n 2, 1) := by decide +kernel
theorem dX2_apply_102 : decode cX2_apply 102 = .ok (.invokevirtual 66, 3) := by decide +kernel
theorem dX2_apply_105 : decode cX2_apply 105 = .ok (.invokevirtual 49, 3) := by decide +kernel
theorem dX2_apply_108 : decode cX2_apply 108 = .ok (.goto 88, 3) := by decide +kernel
theorem dX2_apply_111 : decode cX2_apply 111 = .ok (.aload_n 0, 1) := by decide +kernel
theorem dX2_apply_112 : decode cX2_apply 112 = .ok (.aload_n 3, 1) := by decide +kernel
theorem dX2_apply_113 : decode cX2_apply 113 = .ok (.iload_n 2, 1) := by decide +kernel
theorem dX2_apply_114 : decode cX2_apply 114 = .ok (.invokevirtual 69, 3) := by decide +kernel
theorem dX2_apply_117 : decode cX2_apply 117 = .ok (.ifCond .eq 7, 3) := by decide +kernel
theorem dX2_apply_120 : decode cX2_apply 120 = .ok (.iconst 1, 1) := by decide +kernel
theorem dX2_apply_121 : decode cX2_apply 121 = .ok (.goto 4, 3) := by decide +kernel
theorem dX2_apply_124 : decode cX2_apply 124 = .ok (.iconst 0, 1) := by decide +kernel
theorem dX2_apply_125 : decode cX2_apply 125 = .ok (.invokevirtual 49, 3) := by decide +kernel
theorem dX2_apply_128 : decode cX2_apply 128 = .ok (.goto 68, 3) := by decide +kernel
theorem dX2_apply_131 : decode cX2_apply 131 = .ok (.aload_n 0, 1) := by decide +kernel
theorem dX2_apply_132 : decode cX2_apply 132 = .ok (.aload_n 3, 1) := by decide +kernel
theorem dX2_apply_133 : decode cX2_apply 133 = .ok (.iload_n 2, 1) := by decide +kernel
theorem dX2_apply_134 : decode cX2_apply 134 = .ok (.invokevirtual 73, 3) := by decide +kernel
theorem dX2_apply_137 : decode cX2_apply 137 = .ok (.ifCond .eq 7, 3) := by decide +kernel
theorem dX2_apply_140 : decode cX2_apply 140 = .ok (.iconst 1, 1) := by decide +kernel
theorem dX2_apply_141 : decode cX2_apply 141 = .ok (.goto 4, 3) := by decide +kernel
theorem dX2_apply_144 : decode cX2_apply 144 = .ok (.iconst 0, 1) := by decide +kernel
theorem dX2_apply_145 : decode cX2_apply 145 = .ok (.invokevirtual 49, 3) := by decide +kernel
theorem dX2_apply_148 : decode cX2_apply 148 = .ok (.goto 48, 3) := by decide +kernel
theorem dX2_apply_151 : decode cX2_apply 151 = .ok (.aload_n 0, 1) := by decide +kernel
theorem dX2_apply_152 : decode cX2_apply 152 = .ok (.aload_n 0, 1) := by decide +kernel
theorem dX2_apply_153 : decode cX2_apply 153 = .ok (.invokevirtual 45, 3) := by decide +kernel
theorem dX2_apply_156 : decode cX2_apply 156 = .ok (.ineg, 1) := by decide +kernel
theorem dX2_apply_157 : decode cX2_apply 157 = .ok (.invokevirtual 49, 3) := by decide +kernel
theorem dX2_apply_160 : decode cX2_apply 160 = .ok (.goto 36, 3) := by decide +kernel
theorem dX2_apply_163 : decode cX2_apply 163 = .ok (.aload_n 0, 1) := by decide +kernel
theorem dX2_apply_164 : decode cX2_apply 164 = .ok (.iconst 1, 1) := by decide +kernel
theorem dX2_apply_165 : decode cX2_apply 165 = .ok (.aload_n 0, 1) := by decide +kernel
theorem dX2_apply_166 : decode cX2_apply 166 = .ok (.invokevirtual 45, 3) := by decide +kernel
theorem dX2_apply_169 : decode cX2_apply 169 = .ok (.isub, 1) := by decide +kernel
theorem dX2_apply_170 : decode cX2_apply 170 = .ok (.invokevirtual 49, 3) := by decide +kernel
theorem dX2_apply_173 : decode cX2_apply 173 = .ok (.goto 23, 3) := by decide +kernel
theorem dX2_apply_176 : decode cX2_apply 176 = .ok (.aload_n 0, 1) := by decide +kernel
theorem dX2_apply_177 : decode cX2_apply 177 = .ok (.invokevirtual 45, 3) := by decide +kernel
theorem dX2_apply_180 : decode cX2_apply 180 = .ok (.istore 4, 2) := by decide +kernel
theorem dX2_apply_182 : decode cX2_apply 182 = .ok (.aload_n 0, 1) := by decide +kernel
theorem dX2_apply_183 : decode cX2_apply 183 = .ok (.iload_n 1, 1) := by decide +kernel
theorem dX2_apply_184 : decode cX2_apply 184 = .ok (.aload_n 0, 1) := by decide +kernel
theorem dX2_apply_185 : decode cX2_apply 185 = .ok (.invokevirtual 45, 3) := by decide +kernel
theorem dX2_apply_188 : decode cX2_apply 188 = .ok (.iload 4, 2) := by decide +kernel
theorem dX2_apply_190 : decode cX2_apply 190 = .ok (.invokestatic 76, 3) := by decide +kernel
theorem dX2_apply_193 : decode cX2_apply 193 = .ok (.invokevirtual 49, 3) := by decide +kernel
theorem dX2_apply_196 : decode cX2_apply 196 = .ok (.return_, 1) := by decide +kernel
theorem dX2_joined_0 : decode cX2_joined 0 = .ok (.iload_n 0, 1) := by decide +kernel
theorem dX2_joined_1 : decode cX2_joined 1 = .ok (.tableswitch 161 9 20 #[63, 67, 71, 82, 93, 104, 115, 126, 130, 134, 138, 150], 63) := by decide +kernel
theorem dX2_joined_64 : decode cX2_joined 64 = .ok (.iload_n 1, 1) := by decide +kernel
theorem dX2_joined_65 : decode cX2_joined 65 = .ok (.iload_n 2, 1) := by decide +kernel
theorem dX2_joined_66 : decode cX2_joined 66 = .ok (.iand, 1) := by decide +kernel
theorem dX2_joined_67 : decode cX2_joined 67 = .ok (.ireturn, 1) := by decide +kernel
theorem dX2_joined_68 : decode cX2_joined 68 = .ok (.iload_n 1, 1) := by decide +kernel
theorem dX2_joined_69 : decode cX2_joined 69 = .ok (.iload_n 2, 1) := by decide +kernel
theorem dX2_joined_70 : decode cX2_joined 70 = .ok (.ior, 1) := by decide +kernel
theorem dX2_joined_71 : decode cX2_joined 71 = .ok (.ireturn, 1) := by decide +kernel
theorem dX2_joined_72 : decode cX2_joined 72 = .ok (.iload_n 1, 1) := by decide +kernel
theorem dX2_joined_73 : decode cX2_joined 73 = .ok (.iload_n 2, 1) := by decide +kernel
theorem dX2_joined_74 : decode cX2_joined 74 = .ok (.if_icmp .ge 7, 3) := by decide +kernel
theorem dX2_joined_77 : decode cX2_joined 77 = .ok (.iconst 1, 1) := by decide +kernel
theorem dX2_joined_78 : decode cX2_joined 78 = .ok (.goto 4, 3) := by decide +kernel
theorem dX2_joined_81 : decode cX2_joined 81 = .ok (.iconst 0, 1) := by decide +kernel
theorem dX2_joined_82 : decode cX2_joined 82 = .ok (.ireturn, 1) := by decide +kernel
theorem dX2_joined_83 : decode cX2_joined 83 = .ok (.iload_n 1, 1) := by decide +kernel
theorem dX2_joined_84 : decode cX2_joined 84 = .ok (.iload_n 2, 1) := by decide +kernel
theorem dX2_joined_85 : decode cX2_joined 85 = .ok (.if_icmp .le 7, 3) := by decide +kernel
theorem dX2_joined_88 : decode cX2_joined 88 = .ok (.iconst 1, 1) := by decide +kernel
theorem dX2_joined_89 : decode cX2_joined 89 = .ok (.goto 4, 3) := by decide +kernel
theorem dX2_joined_92 : decode cX2_joined 92 = .ok (.iconst 0, 1) := by decide +kernel
theorem dX2_joined_93 : decode cX2_joined 93 = .ok (.ireturn, 1) := by decide +kernel
theorem dX2_joined_94 : decode cX2_joined 94 = .ok (.iload_n 1, 1) := by decide +kernel
theorem dX2_joined_95 : decode cX2_joined 95 = .ok (.iload_n 2, 1) := by decide +kernel
theorem dX2_joined_96 : decode cX2_joined 96 = .ok (.if_icmp .ne 7, 3) := by decide +kernel
theorem dX2_joined_99 : decode cX2_joined 99 = .ok (.iconst 1, 1) := by decide +kernel
theorem dX2_joined_100 : decode cX2_joined 100 = .ok (.goto 4, 3) := by decide +kernel
theorem dX2_joined_103 : decode cX2_joined 103 = .ok (.iconst 0, 1) := by decide +kernel
theorem dX2_joined_104 : decode cX2_joined 104 = .ok (.ireturn, 1) := by decide +kernel
theorem dX2_joined_105 : decode cX2_joined 105 = .ok (.iload_n 1, 1) := by decide +kernel
theorem dX2_joined_106 : decode cX2_joined 106 = .ok (.iload_n 2, 1) := by decide +kernel
theorem dX2_joined_107 : decode cX2_joined 107 = .ok (.if_icmp .gt 7, 3) := by decide +kernel
theorem dX2_joined_110 : decode cX2_joined 110 = .ok (.iconst 1, 1) := by decide +kernel
theorem dX2_joined_111 : decode cX2_joined 111 = .ok (.goto 4, 3) := by decide +kernel
theorem dX2_joined_114 : decode cX2_joined 114 = .ok (.iconst 0, 1) := by decide +kernel
theorem dX2_joined_115 : decode cX2_joined 115 = .ok (.ireturn, 1) := by decide +kernel
theorem dX2_joined_116 : decode cX2_joined 116 = .ok (.iload_n 1, 1) := by decide +kernel
theorem dX2_joined_117 : decode cX2_joined 117 = .ok (.iload_n 2, 1) := by decide +kernel
theorem dX2_joined_118 : decode cX2_joined 118 = .ok (.if_icmp .lt 7, 3) := by decide +kernel
theorem dX2_joined_121 : decode cX2_joined 121 = .ok (.iconst 1, 1) := by decide +kernel
theorem dX2_joined_122 : decode cX2_joined 122 = .ok (.goto 4, 3) := by decide +kernel
theorem dX2_joined_125 : decode cX2_joined 125 = .ok (.iconst 0, 1) := by decide +kernel
theorem dX2_joined_126 : decode cX2_joined 126 = .ok (.ireturn, 1) := by decide +kernel
theorem dX2_joined_127 : decode cX2_joined 127 = .ok (.iload_n 1, 1) := by decide +kernel
theorem dX2_joined_128 : decode cX2_joined 128 = .ok (.iload_n 2, 1) := by decide +kernel
theorem dX2_joined_129 : decode cX2_joined 129 = .ok (.iadd, 1) := by decide +kernel
theorem dX2_joined_130 : decode cX2_joined 130 = .ok (.ireturn, 1) := by decide +kernel
theorem dX2_joined_131 : decode cX2_joined 131 = .ok (.iload_n 1, 1) := by decide +kernel
theorem dX2_joined_132 : decode cX2_joined 132 = .ok (.iload_n 2, 1) := by decide +kernel
theorem dX2_joined_133 : decode cX2_joined 133 = .ok (.isub, 1) := by decide +kernel
theorem dX2_joined_134 : decode cX2_joined 134 = .ok (.ireturn, 1) := by decide +kernel
theorem dX2_joined_135 : decode cX2_joined 135 = .ok (.iload_n 1, 1) := by decide +kernel
theorem dX2_joined_136 : decode cX2_joined 136 = .ok (.iload_n 2, 1) := by decide +kernel
theorem dX2_joined_137 : decode cX2_joined 137 = .ok (.imul, 1) := by decide +kernel
theorem dX2_joined_138 : decode cX2_joined 138 = .ok (.ireturn, 1) := by decide +kernel
theorem dX2_joined_139 : decode cX2_joined 139 = .ok (.iload_n 2, 1) := by decide +kernel
theorem dX2_joined_140 : decode cX2_joined 140 = .ok (.ifCond .ne 7, 3) := by decide +kernel
theorem dX2_joined_143 : decode cX2_joined 143 = .ok (.iconst 0, 1) := by decide +kernel
theorem dX2_joined_144 : decode cX2_joined 144 = .ok (.goto 6, 3) := by decide +kernel
theorem dX2_joined_147 : decode cX2_joined 147 = .ok (.iload_n 1, 1) := by decide +kernel
theorem dX2_joined_148 : decode cX2_joined 148 = .ok (.iload_n 2, 1) := by decide +kernel
theorem dX2_joined_149 : decode cX2_joined 149 = .ok (.idiv, 1) := by decide +kernel
theorem dX2_joined_150 : decode cX2_joined 150 = .ok (.ireturn, 1) := by decide +kernel
theorem dX2_joined_151 : decode cX2_joined 151 = .ok (.iload_n 1, 1) := by decide +kernel
theorem dX2_joined_152 : decode cX2_joined 152 = .ok (.iload_n 2, 1) := by decide +kernel
theorem dX2_joined_153 : decode cX2_joined 153 = .ok (.if_icmp .ge 7, 3) := by decide +kernel
theorem dX2_joined_156 : decode cX2_joined 156 = .ok (.iload_n 1, 1) := by decide +kernel
theorem dX2_joined_157 : decode cX2_joined 157 = .ok (.goto 4, 3) := by decide +kernel
theorem dX2_joined_160 : decode cX2_joined 160 = .ok (.iload_n 2, 1) := by decide +kernel
theorem dX2_joined_161 : decode cX2_joined 161 = .ok (.ireturn, 1) := by decide +kernel
theorem dX2_joined_162 : decode cX2_joined 162 = .ok (.iload_n 1, 1) := by decide +kernel
theorem dX2_joined_163 : decode cX2_joined 163 = .ok (.iload_n 2, 1) := by decide +kernel
theorem dX2_joined_164 : decode cX2_joined 164 = .ok (.if_icmp .le 7, 3) := by decide +kernel
theorem dX2_joined_167 : decode cX2_joined 167 = .ok (.iload_n 1, 1) := by decide +kernel
theorem dX2_joined_168 : decode cX2_joined 168 = .ok (.goto 4, 3) := by decide +kernel
theorem dX2_joined_171 : decode cX2_joined 171 = .ok (.iload_n 2, 1) := by decide +kernel
theorem dX2_joined_172 : decode cX2_joined 172 = .ok (.ireturn, 1) := by decide +kernel
theorem dX2_push_0 : decode cX2_push 0 = .ok (.aload_n 0, 1) := by decide +kernel
theorem dX2_push_1 : decode cX2_push 1 = .ok (.getfield 38, 3) := by decide +kernel
theorem dX2_push_4 : decode cX2_push 4 = .ok (.aload_n 0, 1) := by decide +kernel
theorem dX2_push_5 : decode cX2_push 5 = .ok (.getfield 24, 3) := by decide +kernel
theorem dX2_push_8 : decode cX2_push 8 = .ok (.arraylength, 1) := by decide +kernel
theorem dX2_push_9 : decode cX2_push 9 = .ok (.if_icmp .ge 23, 3) := by decide +kernel
theorem dX2_push_12 : decode cX2_push 12 = .ok (.aload_n 0, 1) := by decide +kernel
theorem dX2_push_13 : decode cX2_push 13 = .ok (.getfield 24, 3) := by decide +kernel
theorem dX2_push_16 : decode cX2_push 16 = .ok (.aload_n 0, 1) := by decide +kernel
theorem dX2_push_17 : decode cX2_push 17 = .ok (.getfield 38, 3) := by decide +kernel
theorem dX2_push_20 : decode cX2_push 20 = .ok (.iload_n 1, 1) := by decide +kernel
theorem dX2_push_21 : decode cX2_push 21 = .ok (.iastore, 1) := by decide +kernel
theorem dX2_push_22 : decode cX2_push 22 = .ok (.aload_n 0, 1) := by decide +kernel
theorem dX2_push_23 : decode cX2_push 23 = .ok (.dup, 1) := by decide +kernel
theorem dX2_push_24 : decode cX2_push 24 = .ok (.getfield 38, 3) := by decide +kernel
theorem dX2_push_27 : decode cX2_push 27 = .ok (.iconst 1, 1) := by decide +kernel
theorem dX2_push_28 : decode cX2_push 28 = .ok (.iadd, 1) := by decide +kernel
theorem dX2_push_29 : decode cX2_push 29 = .ok (.putfield 38, 3) := by decide +kernel
theorem dX2_push_32 : decode cX2_push 32 = .ok (.return_, 1) := by decide +kernel
theorem dX2_pop_0 : decode cX2_pop 0 = .ok (.aload_n 0, 1) := by decide +kernel
theorem dX2_pop_1 : decode cX2_pop 1 = .ok (.getfield 38, 3) := by decide +kernel
theorem dX2_pop_4 : decode cX2_pop 4 = .ok (.ifCond .le 15, 3) := by decide +kernel
theorem dX2_pop_7 : decode cX2_pop 7 = .ok (.aload_n 0, 1) := by decide +kernel
theorem dX2_pop_8 : decode cX2_pop 8 = .ok (.getfield 38, 3) := by decide +kernel
theorem dX2_pop_11 : decode cX2_pop 11 = .ok (.aload_n 0, 1) := by decide +kernel
theorem dX2_pop_12 : decode cX2_pop 12 = .ok (.getfield 24, 3) := by decide +kernel
theorem dX2_pop_15 : decode cX2_pop 15 = .ok (.arraylength, 1) := by decide +kernel
theorem dX2_pop_16 : decode cX2_pop 16 = .ok (.if_icmp .le 5, 3) := by decide +kernel
theorem dX2_pop_19 : decode cX2_pop 19 = .ok (.iconst 0, 1) := by decide +kernel
theorem dX2_pop_20 : decode cX2_pop 20 = .ok (.ireturn, 1) := by decide +kernel
theorem dX2_pop_21 : decode cX2_pop 21 = .ok (.aload_n 0, 1) := by decide +kernel
theorem dX2_pop_22 : decode cX2_pop 22 = .ok (.dup, 1) := by decide +kernel
theorem dX2_pop_23 : decode cX2_pop 23 = .ok (.getfield 38, 3) := by decide +kernel
theorem dX2_pop_26 : decode cX2_pop 26 = .ok (.iconst 1, 1) := by decide +kernel
theorem dX2_pop_27 : decode cX2_pop 27 = .ok (.isub, 1) := by decide +kernel
theorem dX2_pop_28 : decode cX2_pop 28 = .ok (.putfield 38, 3) := by decide +kernel
theorem dX2_pop_31 : decode cX2_pop 31 = .ok (.aload_n 0, 1) := by decide +kernel
theorem dX2_pop_32 : decode cX2_pop 32 = .ok (.getfield 24, 3) := by decide +kernel
theorem dX2_pop_35 : decode cX2_pop 35 = .ok (.aload_n 0, 1) := by decide +kernel
theorem dX2_pop_36 : decode cX2_pop 36 = .ok (.getfield 38, 3) := by decide +kernel
theorem dX2_pop_39 : decode cX2_pop 39 = .ok (.iaload, 1) := by decide +kernel
theorem dX2_pop_40 : decode cX2_pop 40 = .ok (.ireturn, 1) := by decide +kernel
theorem dX3_init_0 : decode cX3_init 0 = .ok (.aload_n 0, 1) := by decide +kernel
theorem dX3_init_1 : decode cX3_init 1 = .ok (.invokespecial 3, 3) := by decide +kernel
theorem dX3_init_4 : decode cX3_init 4 = .ok (.aload_n 0, 1) := by decide +kernel
theorem dX3_init_5 : decode cX3_init 5 = .ok (.bipush 8, 2) := by decide +kernel
theorem dX3_init_7 : decode cX3_init 7 = .ok (.newarray .int, 2) := by decide +kernel
theorem dX3_init_9 : decode cX3_init 9 = .ok (.putfield 9, 3) := by decide +kernel
theorem dX3_init_12 : decode cX3_init 12 = .ok (.aload_n 0, 1) := by decide +kernel
theorem dX3_init_13 : decode cX3_init 13 = .ok (.bipush 8, 2) := by decide +kernel
theorem dX3_init_15 : decode cX3_init 15 = .ok (.newarray .int, 2) := by decide +kernel
theorem dX3_init_17 : decode cX3_init 17 = .ok (.putfield 15, 3) := by decide +kernel
theorem dX3_init_20 : decode cX3_init 20 = .ok (.aload_n 0, 1) := by decide +kernel
theorem dX3_init_21 : decode cX3_init 21 = .ok (.bipush 8, 2) := by decide +kernel
theorem dX3_init_23 : decode cX3_init 23 = .ok (.newarray .int, 2) := by decide +kernel
theorem dX3_init_25 : decode cX3_init 25 = .ok (.putfield 18, 3) := by decide +kernel
theorem dX3_init_28 : decode cX3_init 28 = .ok (.aload_n 0, 1) := by decide +kernel
theorem dX3_init_29 : decode cX3_init 29 = .ok (.bipush 12, 2) := by decide +kernel
theorem dX3_init_31 : decode cX3_init 31 = .ok (.newarray .int, 2) := by decide +kernel
theorem dX3_init_33 : decode cX3_init 33 = .ok (.putfield 21, 3) := by decide +kernel
theorem dX3_init_36 : decode cX3_init 36 = .ok (.aload_n 0, 1) := by decide +kernel
theorem dX3_init_37 : decode cX3_init 37 = .ok (.bipush 12, 2) := by decide +kernel
theorem dX3_init_39 : decode cX3_init 39 = .ok (.newarray .int, 2) := by decide +kernel
theorem dX3_init_41 : decode cX3_init 41 = .ok (.putfield 24, 3) := by decide +kernel
theorem dX3_init_44 : decode cX3_init 44 = .ok (.aload_n 0, 1) := by decide +kernel
theorem dX3_init_45 : decode cX3_init 45 = .ok (.bipush 12, 2) := by decide +kernel
theorem dX3_init_47 : decode cX3_init 47 = .ok (.newarray .int, 2) := by decide +kernel
theorem dX3_init_49 : decode cX3_init 49 = .ok (.putfield 27, 3) := by decide +kernel
theorem dX3_init_52 : decode cX3_init 52 = .ok (.aload_n 0, 1) := by decide +kernel
theorem dX3_init_53 : decode cX3_init 53 = .ok (.bipush 8, 2) := by decide +kernel
theorem dX3_init_55 : decode cX3_init 55 = .ok (.newarray .int, 2) := by decide +kernel
theorem dX3_init_57 : decode cX3_init 57 = .ok (.putfield 30, 3) := by decide +kernel
theorem dX3_init_60 : decode cX3_init 60 = .ok (.aload_n 0, 1) := by decide +kernel
theorem dX3_init_61 : decode cX3_init 61 = .ok (.bipush 8, 2) := by decide +kernel
theorem dX3_init_63 : decode cX3_init 63 = .ok (.newarray .int, 2) := by decide +kernel
theorem dX3_init_65 : decode cX3_init 65 = .ok (.putfield 33, 3) := by decide +kernel
theorem dX3_init_68 : decode cX3_init 68 = .ok (.aload_n 0, 1) := by decide +kernel
theorem dX3_init_69 : decode cX3_init 69 = .ok (.bipush 8, 2) := by decide +kernel
theorem dX3_init_71 : decode cX3_init 71 = .ok (.newarray .int, 2) := by decide +kernel
theorem dX3_init_73 : decode cX3_init 73 = .ok (.putfield 36, 3) := by decide +kernel
theorem dX3_init_76 : decode cX3_init 76 = .ok (.aload_n 0, 1) := by decide +kernel
theorem dX3_init_77 : decode cX3_init 77 = .ok (.bipush 8, 2) := by decide +kernel
theorem dX3_init_79 : decode cX3_init 79 = .ok (.newarray .int, 2) := by decide +kernel
theorem dX3_init_81 : decode cX3_init 81 = .ok (.putfield 39, 3) := by decide +kernel
theorem dX3_init_84 : decode cX3_init 84 = .ok (.aload_n 0, 1) := by decide +kernel
theorem dX3_init_85 : decode cX3_init 85 = .ok (.new 42, 3) := by decide +kernel
theorem dX3_init_88 : decode cX3_init 88 = .ok (.dup, 1) := by decide +kernel
theorem dX3_init_89 : decode cX3_init 89 = .ok (.invokespecial 44, 3) := by decide +kernel
theorem dX3_init_92 : decode cX3_init 92 = .ok (.putfield 45, 3) := by decide +kernel
theorem dX3_init_95 : decode cX3_init 95 = .ok (.aload_n 0, 1) := by decide +kernel
theorem dX3_init_96 : decode cX3_init 96 = .ok (.bipush 8, 2) := by decide +kernel
theorem dX3_init_98 : decode cX3_init 98 = .ok (.newarray .int, 2) := by decide +kernel
theorem dX3_init_100 : decode cX3_init 100 = .ok (.putfield 49, 3) := by decide +kernel
theorem dX3_init_103 : decode cX3_init 103 = .ok (.aload_n 0, 1) := by decide +kernel
theorem dX3_init_104 : decode cX3_init 104 = .ok (.bipush 8, 2) := by decide +kernel
theorem dX3_init_106 : decode cX3_init 106 = .ok (.newarray .int, 2) := by decide +kernel
theorem dX3_init_108 : decode cX3_init 108 = .ok (.putfield 52, 3) := by decide +kernel
theorem dX3_init_111 : decode cX3_init 111 = .ok (.aload_n 0, 1) := by decide +kernel
theorem dX3_init_112 : decode cX3_init 112 = .ok (.bipush 8, 2) := by decide +kernel
theorem dX3_init_114 : decode cX3_init 114 = .ok (.newarray .int, 2) := by decide +kernel
theorem dX3_init_116 : decode cX3_init 116 = .ok (.putfield 55, 3) := by decide +kernel
theorem dX3_init_119 : decode cX3_init 119 = .ok (.aload_n 0, 1) := by decide +kernel
theorem dX3_init_120 : decode cX3_init 120 = .ok (.bipush 8, 2) := by decide +kernel
theorem dX3_init_122 : decode cX3_init 122 = .ok (.newarray .int, 2) := by decide +kernel
theorem dX3_init_124 : decode cX3_init 124 = .ok (.putfield 58, 3) := by decide +kernel
theorem dX3_init_127 : decode cX3_init 127 = .ok (.return_, 1) := by decide +kernel
theorem dX3_clear_0 : decode cX3_clear 0 = .ok (.aload_n 0, 1) := by decide +kernel
theorem dX3_clear_1 : decode cX3_clear 1 = .ok (.iconst 0, 1) := by decide +kernel
theorem dX3_clear_2 : decode cX3_clear 2 = .ok (.putfield 61, 3) := by decide +kernel
theorem dX3_clear_5 : decode cX3_clear 5 = .ok (.aload_n 0, 1) := by decide +kernel
theorem dX3_clear_6 : decode cX3_clear 6 = .ok (.iconst 0, 1) := by decide +kernel
theorem dX3_clear_7 : decode cX3_clear 7 = .ok (.putfield 65, 3) := by decide +kernel
theorem dX3_clear_10 : decode cX3_clear 10 = .ok (.aload_n 0, 1) := by decide +kernel
theorem dX3_clear_11 : decode cX3_clear 11 = .ok (.iconst 0, 1) := by decide +kernel
theorem dX3_clear_12 : decode cX3_clear 12 = .ok (.putfield 68, 3) := by decide +kernel
theorem dX3_clear_15 : decode cX3_clear 15 = .ok (.aload_n 0, 1) := by decide +kernel
theorem dX3_clear_16 : decode cX3_clear 16 = .ok (.iconst 0, 1) := by decide +kernel
theorem dX3_clear_17 : decode cX3_clear 17 = .ok (.putfield 71, 3) := by decide +kernel
theorem dX3_clear_20 : decode cX3_clear 20 = .ok (.aload_n 0, 1) := by decide +kernel
theorem dX3_clear_21 : decode cX3_clear 21 = .ok (.getfield 45, 3) := by decide +kernel
theorem dX3_clear_24 : decode cX3_clear 24 = .ok (.invokevirtual 74, 3) := by decide +kernel
theorem dX3_clear_27 : decode cX3_clear 27 = .ok (.return_, 1) := by decide +kernel
theorem dX3_addPeak_0 : decode cX3_addPeak 0 = .ok (.aload_n 0, 1) := by decide +kernel
theorem dX3_addPeak_1 : decode cX3_addPeak 1 = .ok (.getfield 61, 3) := by decide +kernel
theorem dX3_addPeak_4 : decode cX3_addPeak 4 = .ok (.bipush 8, 2) := by decide +kernel
theorem dX3_addPeak_6 : decode cX3_addPeak 6 = .ok (.if_icmp .ge 43, 3) := by decide +kernel
theorem dX3_addPeak_9 : decode cX3_addPeak 9 = .ok (.aload_n 0, 1) := by decide +kernel
theorem dX3_addPeak_10 : decode cX3_addPeak 10 = .ok (.getfield 9, 3) := by decide +kernel
theorem dX3_addPeak_13 : decode cX3_addPeak 13 = .ok (.aload_n 0, 1) := by decide +kernel
theorem dX3_addPeak_14 : decode cX3_addPeak 14 = .ok (.getfield 61, 3) := by decide +kernel
theorem dX3_addPeak_17 : decode cX3_addPeak 17 = .ok (.iload_n 1, 1) := by decide +kernel
theorem dX3_addPeak_18 : decode cX3_addPeak 18 = .ok (.iastore, 1) := by decide +kernel
theorem dX3_addPeak_19 : decode cX3_addPeak 19 = .ok (.aload_n 0, 1) := by decide +kernel
theorem dX3_addPeak_20 : decode cX3_addPeak 20 = .ok (.getfield 15, 3) := by decide +kernel
theorem dX3_addPeak_23 : decode cX3_addPeak 23 = .ok (.aload_n 0, 1) := by decide +kernel
theorem dX3_addPeak_24 : decode cX3_addPeak 24 = .ok (.getfield 61, 3) := by decide +kernel
theorem dX3_addPeak_27 : decode cX3_addPeak 27 = .ok (.iload_n 2, 1) := by decide +kernel
theorem dX3_addPeak_28 : decode cX3_addPeak 28 = .ok (.iastore, 1) := by decide +kernel
theorem dX3_addPeak_29 : decode cX3_addPeak 29 = .ok (.aload_n 0, 1) := by decide +kernel
theorem dX3_addPeak_30 : decode cX3_addPeak 30 = .ok (.getfield 18, 3) := by decide +kernel
theorem dX3_addPeak_33 : decode cX3_addPeak 33 = .ok (.aload_n 0, 1) := by decide +kernel
theorem dX3_addPeak_34 : decode cX3_addPeak 34 = .ok (.getfield 61, 3) := by decide +kernel
theorem dX3_addPeak_37 : decode cX3_addPeak 37 = .ok (.iload_n 3, 1) := by decide +kernel
theorem dX3_addPeak_38 : decode cX3_addPeak 38 = .ok (.iastore, 1) := by decide +kernel
theorem dX3_addPeak_39 : decode cX3_addPeak 39 = .ok (.aload_n 0, 1) := by decide +kernel
theorem dX3_addPeak_40 : decode cX3_addPeak 40 = .ok (.dup, 1) := by decide +kernel
theorem dX3_addPeak_41 : decode cX3_addPeak 41 = .ok (.getfield 61, 3) := by decide +kernel
theorem dX3_addPeak_44 : decode cX3_addPeak 44 = .ok (.iconst 1, 1) := by decide +kernel
theorem dX3_addPeak_45 : decode cX3_addPeak 45 = .ok (.iadd, 1) := by decide +kernel
theorem dX3_addPeak_46 : decode cX3_addPeak 46 = .ok (.putfield 61, 3) := by decide +kernel
theorem dX3_addPeak_49 : decode cX3_addPeak 49 = .ok (.return_, 1) := by decide +kernel
theorem dX3_addPass_0 : decode cX3_addPass 0 = .ok (.aload_n 0, 1) := by decide +kernel
theorem dX3_addPass_1 : decode cX3_addPass 1 = .ok (.getfield 65, 3) := by decide +kernel
theorem dX3_addPass_4 : decode cX3_addPass 4 = .ok (.bipush 12, 2) := by decide +kernel
theorem dX3_addPass_6 : decode cX3_addPass 6 = .ok (.if_icmp .ge 59, 3) := by decide +kernel
theorem dX3_addPass_9 : decode cX3_addPass 9 = .ok (.aload_n 0, 1) := by decide +kernel
theorem dX3_addPass_10 : decode cX3_addPass 10 = .ok (.iload_n 1, 1) := by decide +kernel
theorem dX3_addPass_11 : decode cX3_addPass 11 = .ok (.invokevirtual 77, 3) := by decide +kernel
theorem dX3_addPass_14 : decode cX3_addPass 14 = .ok (.ifCond .eq 51, 3) := by decide +kernel
theorem dX3_addPass_17 : decode cX3_addPass 17 = .ok (.aload_n 0, 1) := by decide +kernel
theorem dX3_addPass_18 : decode cX3_addPass 18 = .ok (.iload_n 2, 1) := by decide +kernel
theorem dX3_addPass_19 : decode cX3_addPass 19 = .ok (.invokevirtual 77, 3) := by decide +kernel
theorem dX3_addPass_22 : decode cX3_addPass 22 = .ok (.ifCond .eq 43, 3) := by decide +kernel
theorem dX3_addPass_25 : decode cX3_addPass 25 = .ok (.aload_n 0, 1) := by decide +kernel
theorem dX3_addPass_26 : decode cX3_addPass 26 = .ok (.getfield 21, 3) := by decide +kernel
theorem dX3_addPass_29 : decode cX3_addPass 29 = .ok (.aload_n 0, 1) := by decide +kernel
theorem dX3_addPass_30 : decode cX3_addPass 30 = .ok (.getfield 65, 3) := by decide +kernel
theorem dX3_addPass_33 : decode cX3_addPass 33 = .ok (.iload_n 1, 1) := by decide +kernel
theorem dX3_addPass_34 : decode cX3_addPass 34 = .ok (.iastore, 1) := by decide +kernel
theorem dX3_addPass_35 : decode cX3_addPass 35 = .ok (.aload_n 0, 1) := by decide +kernel
theorem dX3_addPass_36 : decode cX3_addPass 36 = .ok (.getfield 24, 3) := by decide +kernel
theorem dX3_addPass_39 : decode cX3_addPass 39 = .ok (.aload_n 0, 1) := by decide +kernel
theorem dX3_addPass_40 : decode cX3_addPass 40 = .ok (.getfield 65, 3) := by decide +kernel
theorem dX3_addPass_43 : decode cX3_addPass 43 = .ok (.iload_n 2, 1) := by decide +kernel
theorem dX3_addPass_44 : decode cX3_addPass 44 = .ok (.iastore, 1) := by decide +kernel
theorem dX3_addPass_45 : decode cX3_addPass 45 = .ok (.aload_n 0, 1) := by decide +kernel
theorem dX3_addPass_46 : decode cX3_addPass 46 = .ok (.getfield 27, 3) := by decide +kernel
theorem dX3_addPass_49 : decode cX3_addPass 49 = .ok (.aload_n 0, 1) := by decide +kernel
theorem dX3_addPass_50 : decode cX3_addPass 50 = .ok (.getfield 65, 3) := by decide +kernel
theorem dX3_addPass_53 : decode cX3_addPass 53 = .ok (.iload_n 3, 1) := by decide +kernel
theorem dX3_addPass_54 : decode cX3_addPass 54 = .ok (.iastore, 1) := by decide +kernel
theorem dX3_addPass_55 : decode cX3_addPass 55 = .ok (.aload_n 0, 1) := by decide +kernel
theorem dX3_addPass_56 : decode cX3_addPass 56 = .ok (.dup, 1) := by decide +kernel
theorem dX3_addPass_57 : decode cX3_addPass 57 = .ok (.getfield 65, 3) := by decide +kernel
theorem dX3_addPass_60 : decode cX3_addPass 60 = .ok (.iconst 1, 1) := by decide +kernel
theorem dX3_addPass_61 : decode cX3_addPass 61 = .ok (.iadd, 1) := by decide +kernel
theorem dX3_addPass_62 : decode cX3_addPass 62 = .ok (.putfield 65, 3) := by decide +kernel
theorem dX3_addPass_65 : decode cX3_addPass 65 = .ok (.return_, 1) := by decide +kernel
theorem dX3_addCloud_0 : decode cX3_addCloud 0 = .ok (.aload_n 0, 1) := by decide +kernel
theorem dX3_addCloud_1 : decode cX3_addCloud 1 = .ok (.getfield 68, 3) := by decide +kernel
theorem dX3_addCloud_4 : decode cX3_addCloud 4 = .ok (.bipush 8, 2) := by decide +kernel
theorem dX3_addCloud_6 : decode cX3_addCloud 6 = .ok (.if_icmp .ge 58, 3) := by decide +kernel
theorem dX3_addCloud_9 : decode cX3_addCloud 9 = .ok (.iload_n 2, 1) := by decide +kernel
theorem dX3_addCloud_10 : decode cX3_addCloud 10 = .ok (.ifCond .le 54, 3) := by decide +kernel
theorem dX3_addCloud_13 : decode cX3_addCloud 13 = .ok (.aload_n 0, 1) := by decide +kernel
theorem dX3_addCloud_14 : decode cX3_addCloud 14 = .ok (.getfield 49, 3) := by decide +kernel
theorem dX3_addCloud_17 : decode cX3_addCloud 17 = .ok (.aload_n 0, 1) := by decide +kernel
theorem dX3_addCloud_18 : decode cX3_addCloud 18 = .ok (.getfield 68, 3) := by decide +kernel
theorem dX3_addCloud_21 : decode cX3_addCloud 21 = .ok (.iload_n 1, 1) := by decide +kernel
theorem dX3_addCloud_22 : decode cX3_addCloud 22 = .ok (.iastore, 1) := by decide +kernel
theorem dX3_addCloud_23 : decode cX3_addCloud 23 = .ok (.aload_n 0, 1) := by decide +kernel
theorem dX3_addCloud_24 : decode cX3_addCloud 24 = .ok (.getfield 52, 3) := by decide +kernel
theorem dX3_addCloud_27 : decode cX3_addCloud 27 = .ok (.aload_n 0, 1) := by decide +kernel
theorem dX3_addCloud_28 : decode cX3_addCloud 28 = .ok (.getfield 68, 3) := by decide +kernel
theorem dX3_addCloud_31 : decode cX3_addCloud 31 = .ok (.iload_n 2, 1) := by decide +kernel
theorem dX3_addCloud_32 : decode cX3_addCloud 32 = .ok (.iastore, 1) := by decide +kernel
theorem dX3_addCloud_33 : decode cX3_addCloud 33 = .ok (.aload_n 0, 1) := by decide +kernel
theorem dX3_addCloud_34 : decode cX3_addCloud 34 = .ok (.getfield 55, 3) := by decide +kernel
theorem dX3_addCloud_37 : decode cX3_addCloud 37 = .ok (.aload_n 0, 1) := by decide +kernel
theorem dX3_addCloud_38 : decode cX3_addCloud 38 = .ok (.getfield 68, 3) := by decide +kernel
theorem dX3_addCloud_41 : decode cX3_addCloud 41 = .ok (.iload_n 3, 1) := by decide +kernel
theorem dX3_addCloud_42 : decode cX3_addCloud 42 = .ok (.iastore, 1) := by decide +kernel
theorem dX3_addCloud_43 : decode cX3_addCloud 43 = .ok (.aload_n 0, 1) := by decide +kernel
theorem dX3_addCloud_44 : decode cX3_addCloud 44 = .ok (.getfield 58, 3) := by decide +kernel
theorem dX3_addCloud_47 : decode cX3_addCloud 47 = .ok (.aload_n 0, 1) := by decide +kernel
theorem dX3_addCloud_48 : decode cX3_addCloud 48 = .ok (.getfield 68, 3) := by decide +kernel
theorem dX3_addCloud_51 : decode cX3_addCloud 51 = .ok (.iload 4, 2) := by decide +kernel
theorem dX3_addCloud_53 : decode cX3_addCloud 53 = .ok (.iastore, 1) := by decide +kernel
theorem dX3_addCloud_54 : decode cX3_addCloud 54 = .ok (.aload_n 0, 1) := by decide +kernel
theorem dX3_addCloud_55 : decode cX3_addCloud 55 = .ok (.dup, 1) := by decide +kernel
theorem dX3_addCloud_56 : decode cX3_addCloud 56 = .ok (.getfield 68, 3) := by decide +kernel
theorem dX3_addCloud_59 : decode cX3_addCloud 59 = .ok (.iconst 1, 1) := by decide +kernel
theorem dX3_addCloud_60 : decode cX3_addCloud 60 = .ok (.iadd, 1) := by decide +kernel
theorem dX3_addCloud_61 : decode cX3_addCloud 61 = .ok (.putfield 68, 3) := by decide +kernel
theorem dX3_addCloud_64 : decode cX3_addCloud 64 = .ok (.return_, 1) := by decide +kernel
theorem dX3_addMessage_0 : decode cX3_addMessage 0 = .ok (.aload_n 0, 1) := by decide +kernel
theorem dX3_addMessage_1 : decode cX3_addMessage 1 = .ok (.getfield 71, 3) := by decide +kernel
theorem dX3_addMessage_4 : decode cX3_addMessage 4 = .ok (.bipush 8, 2) := by decide +kernel
theorem dX3_addMessage_6 : decode cX3_addMessage 6 = .ok (.if_icmp .ge 70, 3) := by decide +kernel
theorem dX3_addMessage_9 : decode cX3_addMessage 9 = .ok (.aload_n 0, 1) := by decide +kernel
theorem dX3_addMessage_10 : decode cX3_addMessage 10 = .ok (.iload_n 2, 1) := by decide +kernel
theorem dX3_addMessage_11 : decode cX3_addMessage 11 = .ok (.invokevirtual 77, 3) := by decide +kernel
theorem dX3_addMessage_14 : decode cX3_addMessage 14 = .ok (.ifCond .eq 62, 3) := by decide +kernel
theorem dX3_addMessage_17 : decode cX3_addMessage 17 = .ok (.aload_n 0, 1) := by decide +kernel
theorem dX3_addMessage_18 : decode cX3_addMessage 18 = .ok (.iload_n 3, 1) := by decide +kernel
theorem dX3_addMessage_19 : decode cX3_addMessage 19 = .ok (.invokevirtual 77, 3) := by decide +kernel
theorem dX3_addMessage_22 : decode cX3_addMessage 22 = .ok (.ifCond .eq 54, 3) := by decide +kernel
theorem dX3_addMessage_25 : decode cX3_addMessage 25 = .ok (.aload_n 0, 1) := by decide +kernel
theorem dX3_addMessage_26 : decode cX3_addMessage 26 = .ok (.getfield 30, 3) := by decide +kernel
theorem dX3_addMessage_29 : decode cX3_addMessage 29 = .ok (.aload_n 0, 1) := by decide +kernel
theorem dX3_addMessage_30 : decode cX3_addMessage 30 = .ok (.getfield 71, 3) := by decide +kernel
theorem dX3_addMessage_33 : decode cX3_addMessage 33 = .ok (.iload_n 1, 1) := by decide +kernel
theorem dX3_addMessage_34 : decode cX3_addMessage 34 = .ok (.iastore, 1) := by decide +kernel
theorem dX3_addMessage_35 : decode cX3_addMessage 35 = .ok (.aload_n 0, 1) := by decide +kernel
theorem dX3_addMessage_36 : decode cX3_addMessage 36 = .ok (.getfield 33, 3) := by decide +kernel
theorem dX3_addMessage_39 : decode cX3_addMessage 39 = .ok (.aload_n 0, 1) := by decide +kernel
theorem dX3_addMessage_40 : decode cX3_addMessage 40 = .ok (.getfield 71, 3) := by decide +kernel
theorem dX3_addMessage_43 : decode cX3_addMessage 43 = .ok (.iload_n 2, 1) := by decide +kernel
theorem dX3_addMessage_44 : decode cX3_addMessage 44 = .ok (.iastore, 1) := by decide +kernel
theorem dX3_addMessage_45 : decode cX3_addMessage 45 = .ok (.aload_n 0, 1) := by decide +kernel
theorem dX3_addMessage_46 : decode cX3_addMessage 46 = .ok (.getfield 36, 3) := by decide +kernel
theorem dX3_addMessage_49 : decode cX3_addMessage 49 = .ok (.aload_n 0, 1) := by decide +kernel
theorem dX3_addMessage_50 : decode cX3_addMessage 50 = .ok (.getfield 71, 3) := by decide +kernel
theorem dX3_addMessage_53 : decode cX3_addMessage 53 = .ok (.iload_n 3, 1) := by decide +kernel
theorem dX3_addMessage_54 : decode cX3_addMessage 54 = .ok (.iastore, 1) := by decide +kernel
theorem dX3_addMessage_55 : decode cX3_addMessage 55 = .ok (.aload_n 0, 1) := by decide +kernel
theorem dX3_addMessage_56 : decode cX3_addMessage 56 = .ok (.getfield 39, 3) := by decide +kernel
theorem dX3_addMessage_59 : decode cX3_addMessage 59 = .ok (.aload_n 0, 1) := by decide +kernel
theorem dX3_addMessage_60 : decode cX3_addMessage 60 = .ok (.getfield 71, 3) := by decide +kernel
theorem dX3_addMessage_63 : decode cX3_addMessage 63 = .ok (.iload 4, 2) := by decide +kernel
theorem dX3_addMessage_65 : decode cX3_addMessage 65 = .ok (.iastore, 1) := by decide +kernel
theorem dX3_addMessage_66 : decode cX3_addMessage 66 = .ok (.aload_n 0, 1) := by decide +kernel
theorem dX3_addMessage_67 : decode cX3_addMessage 67 = .ok (.dup, 1) := by decide +kernel
theorem dX3_addMessage_68 : decode cX3_addMessage 68 = .ok (.getfield 71, 3) := by decide +kernel
theorem dX3_addMessage_71 : decode cX3_addMessage 71 = .ok (.iconst 1, 1) := by decide +kernel
theorem dX3_addMessage_72 : decode cX3_addMessage 72 = .ok (.iadd, 1) := by decide +kernel
theorem dX3_addMessage_73 : decode cX3_addMessage 73 = .ok (.putfield 71, 3) := by decide +kernel
theorem dX3_addMessage_76 : decode cX3_addMessage 76 = .ok (.return_, 1) := by decide +kernel
theorem dX3_hasPeak_0 : decode cX3_hasPeak 0 = .ok (.iload_n 1, 1) := by decide +kernel
theorem dX3_hasPeak_1 : decode cX3_hasPeak 1 = .ok (.ifCond .lt 21, 3) := by decide +kernel
theorem dX3_hasPeak_4 : decode cX3_hasPeak 4 = .ok (.iload_n 1, 1) := by decide +kernel
theorem dX3_hasPeak_5 : decode cX3_hasPeak 5 = .ok (.aload_n 0, 1) := by decide +kernel
theorem dX3_hasPeak_6 : decode cX3_hasPeak 6 = .ok (.getfield 61, 3) := by decide +kernel
theorem dX3_hasPeak_9 : decode cX3_hasPeak 9 = .ok (.if_icmp .ge 13, 3) := by decide +kernel
theorem dX3_hasPeak_12 : decode cX3_hasPeak 12 = .ok (.iload_n 1, 1) := by decide +kernel
theorem dX3_hasPeak_13 : decode cX3_hasPeak 13 = .ok (.bipush 8, 2) := by decide +kernel
theorem dX3_hasPeak_15 : decode cX3_hasPeak 15 = .ok (.if_icmp .ge 7, 3) := by decide +kernel
theorem dX3_hasPeak_18 : decode cX3_hasPeak 18 = .ok (.iconst 1, 1) := by decide +kernel
theorem dX3_hasPeak_19 : decode cX3_hasPeak 19 = .ok (.goto 4, 3) := by decide +kernel
theorem dX3_hasPeak_22 : decode cX3_hasPeak 22 = .ok (.iconst 0, 1) := by decide +kernel
theorem dX3_hasPeak_23 : decode cX3_hasPeak 23 = .ok (.ireturn, 1) := by decide +kernel
theorem dX3_hasPass_0 : decode cX3_hasPass 0 = .ok (.iload_n 1, 1) := by decide +kernel
theorem dX3_hasPass_1 : decode cX3_hasPass 1 = .ok (.ifCond .lt 21, 3) := by decide +kernel
theorem dX3_hasPass_4 : decode cX3_hasPass 4 = .ok (.iload_n 1, 1) := by decide +kernel
theorem dX3_hasPass_5 : decode cX3_hasPass 5 = .ok (.aload_n 0, 1) := by decide +kernel
theorem dX3_hasPass_6 : decode cX3_hasPass 6 = .ok (.getfield 65, 3) := by decide +kernel
theorem dX3_hasPass_9 : decode cX3_hasPass 9 = .ok (.if_icmp .ge 13, 3) := by decide +kernel
theorem dX3_hasPass_12 : decode cX3_hasPass 12 = .ok (.iload_n 1, 1) := by decide +kernel
theorem dX3_hasPass_13 : decode cX3_hasPass 13 = .ok (.bipush 12, 2) := by decide +kernel
theorem dX3_hasPass_15 : decode cX3_hasPass 15 = .ok (.if_icmp .ge 7, 3) := by decide +kernel
theorem dX3_hasPass_18 : decode cX3_hasPass 18 = .ok (.iconst 1, 1) := by decide +kernel
theorem dX3_hasPass_19 : decode cX3_hasPass 19 = .ok (.goto 4, 3) := by decide +kernel
theorem dX3_hasPass_22 : decode cX3_hasPass 22 = .ok (.iconst 0, 1) := by decide +kernel
theorem dX3_hasPass_23 : decode cX3_hasPass 23 = .ok (.ireturn, 1) := by decide +kernel
theorem dX3_hasMessage_0 : decode cX3_hasMessage 0 = .ok (.iload_n 1, 1) := by decide +kernel
theorem dX3_hasMessage_1 : decode cX3_hasMessage 1 = .ok (.ifCond .lt 21, 3) := by decide +kernel
theorem dX3_hasMessage_4 : decode cX3_hasMessage 4 = .ok (.iload_n 1, 1) := by decide +kernel
theorem dX3_hasMessage_5 : decode cX3_hasMessage 5 = .ok (.aload_n 0, 1) := by decide +kernel
theorem dX3_hasMessage_6 : decode cX3_hasMessage 6 = .ok (.getfield 71, 3) := by decide +kernel
theorem dX3_hasMessage_9 : decode cX3_hasMessage 9 = .ok (.if_icmp .ge 13, 3) := by decide +kernel
theorem dX3_hasMessage_12 : decode cX3_hasMessage 12 = .ok (.iload_n 1, 1) := by decide +kernel
theorem dX3_hasMessage_13 : decode cX3_hasMessage 13 = .ok (.bipush 8, 2) := by decide +kernel
theorem dX3_hasMessage_15 : decode cX3_hasMessage 15 = .ok (.if_icmp .ge 7, 3) := by decide +kernel
theorem dX3_hasMessage_18 : decode cX3_hasMessage 18 = .ok (.iconst 1, 1) := by decide +kernel
theorem dX3_hasMessage_19 : decode cX3_hasMessage 19 = .ok (.goto 4, 3) := by decide +kernel
theorem dX3_hasMessage_22 : decode cX3_hasMessage 22 = .ok (.iconst 0, 1) := by decide +kernel
theorem dX3_hasMessage_23 : decode cX3_hasMessage 23 = .ok (.ireturn, 1) := by decide +kernel
theorem dX3_isSunny_0 : decode cX3_isSunny 0 = .ok (.aload_n 0, 1) := by decide +kernel
theorem dX3_isSunny_1 : decode cX3_isSunny 1 = .ok (.iload_n 1, 1) := by decide +kernel
theorem dX3_isSunny_2 : decode cX3_isSunny 2 = .ok (.invokevirtual 77, 3) := by decide +kernel
theorem dX3_isSunny_5 : decode cX3_isSunny 5 = .ok (.ifCond .ne 5, 3) := by decide +kernel
theorem dX3_isSunny_8 : decode cX3_isSunny 8 = .ok (.iconst 0, 1) := by decide +kernel
theorem dX3_isSunny_9 : decode cX3_isSunny 9 = .ok (.ireturn, 1) := by decide +kernel
theorem dX3_isSunny_10 : decode cX3_isSunny 10 = .ok (.iload_n 2, 1) := by decide +kernel
theorem dX3_isSunny_11 : decode cX3_isSunny 11 = .ok (.bipush 120, 2) := by decide +kernel
theorem dX3_isSunny_13 : decode cX3_isSunny 13 = .ok (.irem, 1) := by decide +kernel
theorem dX3_isSunny_14 : decode cX3_isSunny 14 = .ok (.istore_n 3, 1) := by decide +kernel

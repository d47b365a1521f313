theorem dX3_isSunny_15 : decode cX3_isSunny 15 = .ok (.iload_n 3, 1) := by decide +kernel
theorem dX3_isSunny_16 : decode cX3_isSunny 16 = .ok (.aload_n 0, 1) := by decide +kernel
theorem dX3_isSunny_17 : decode cX3_isSunny 17 = .ok (.getfield 9, 3) := by decide +kernel
theorem dX3_isSunny_20 : decode cX3_isSunny 20 = .ok (.iload_n 1, 1) := by decide +kernel
theorem dX3_isSunny_21 : decode cX3_isSunny 21 = .ok (.iaload, 1) := by decide +kernel
theorem dX3_isSunny_22 : decode cX3_isSunny 22 = .ok (.if_icmp .lt 17, 3) := by decide +kernel
theorem dX3_isSunny_25 : decode cX3_isSunny 25 = .ok (.iload_n 3, 1) := by decide +kernel
theorem dX3_isSunny_26 : decode cX3_isSunny 26 = .ok (.aload_n 0, 1) := by decide +kernel
theorem dX3_isSunny_27 : decode cX3_isSunny 27 = .ok (.getfield 15, 3) := by decide +kernel
theorem dX3_isSunny_30 : decode cX3_isSunny 30 = .ok (.iload_n 1, 1) := by decide +kernel
theorem dX3_isSunny_31 : decode cX3_isSunny 31 = .ok (.iaload, 1) := by decide +kernel
theorem dX3_isSunny_32 : decode cX3_isSunny 32 = .ok (.if_icmp .ge 7, 3) := by decide +kernel
theorem dX3_isSunny_35 : decode cX3_isSunny 35 = .ok (.iconst 1, 1) := by decide +kernel
theorem dX3_isSunny_36 : decode cX3_isSunny 36 = .ok (.goto 4, 3) := by decide +kernel
theorem dX3_isSunny_39 : decode cX3_isSunny 39 = .ok (.iconst 0, 1) := by decide +kernel
theorem dX3_isSunny_40 : decode cX3_isSunny 40 = .ok (.ireturn, 1) := by decide +kernel
theorem dX3_isCloudy_0 : decode cX3_isCloudy 0 = .ok (.iconst 0, 1) := by decide +kernel
theorem dX3_isCloudy_1 : decode cX3_isCloudy 1 = .ok (.istore_n 3, 1) := by decide +kernel
theorem dX3_isCloudy_2 : decode cX3_isCloudy 2 = .ok (.iload_n 3, 1) := by decide +kernel
theorem dX3_isCloudy_3 : decode cX3_isCloudy 3 = .ok (.aload_n 0, 1) := by decide +kernel
theorem dX3_isCloudy_4 : decode cX3_isCloudy 4 = .ok (.getfield 68, 3) := by decide +kernel
theorem dX3_isCloudy_7 : decode cX3_isCloudy 7 = .ok (.if_icmp .ge 60, 3) := by decide +kernel
theorem dX3_isCloudy_10 : decode cX3_isCloudy 10 = .ok (.iload_n 3, 1) := by decide +kernel
theorem dX3_isCloudy_11 : decode cX3_isCloudy 11 = .ok (.bipush 8, 2) := by decide +kernel
theorem dX3_isCloudy_13 : decode cX3_isCloudy 13 = .ok (.if_icmp .ge 54, 3) := by decide +kernel
theorem dX3_isCloudy_16 : decode cX3_isCloudy 16 = .ok (.aload_n 0, 1) := by decide +kernel
theorem dX3_isCloudy_17 : decode cX3_isCloudy 17 = .ok (.getfield 52, 3) := by decide +kernel
theorem dX3_isCloudy_20 : decode cX3_isCloudy 20 = .ok (.iload_n 3, 1) := by decide +kernel
theorem dX3_isCloudy_21 : decode cX3_isCloudy 21 = .ok (.iaload, 1) := by decide +kernel
theorem dX3_isCloudy_22 : decode cX3_isCloudy 22 = .ok (.istore 4, 2) := by decide +kernel
theorem dX3_isCloudy_24 : decode cX3_isCloudy 24 = .ok (.aload_n 0, 1) := by decide +kernel
theorem dX3_isCloudy_25 : decode cX3_isCloudy 25 = .ok (.getfield 49, 3) := by decide +kernel
theorem dX3_isCloudy_28 : decode cX3_isCloudy 28 = .ok (.iload_n 3, 1) := by decide +kernel
theorem dX3_isCloudy_29 : decode cX3_isCloudy 29 = .ok (.iaload, 1) := by decide +kernel
theorem dX3_isCloudy_30 : decode cX3_isCloudy 30 = .ok (.iload_n 1, 1) := by decide +kernel
theorem dX3_isCloudy_31 : decode cX3_isCloudy 31 = .ok (.if_icmp .ne 30, 3) := by decide +kernel
theorem dX3_isCloudy_34 : decode cX3_isCloudy 34 = .ok (.iload 4, 2) := by decide +kernel
theorem dX3_isCloudy_36 : decode cX3_isCloudy 36 = .ok (.ifCond .le 25, 3) := by decide +kernel
theorem dX3_isCloudy_39 : decode cX3_isCloudy 39 = .ok (.iload_n 2, 1) := by decide +kernel
theorem dX3_isCloudy_40 : decode cX3_isCloudy 40 = .ok (.aload_n 0, 1) := by decide +kernel
theorem dX3_isCloudy_41 : decode cX3_isCloudy 41 = .ok (.getfield 58, 3) := by decide +kernel
theorem dX3_isCloudy_44 : decode cX3_isCloudy 44 = .ok (.iload_n 3, 1) := by decide +kernel
theorem dX3_isCloudy_45 : decode cX3_isCloudy 45 = .ok (.iaload, 1) := by decide +kernel
theorem dX3_isCloudy_46 : decode cX3_isCloudy 46 = .ok (.iadd, 1) := by decide +kernel
theorem dX3_isCloudy_47 : decode cX3_isCloudy 47 = .ok (.iload 4, 2) := by decide +kernel
theorem dX3_isCloudy_49 : decode cX3_isCloudy 49 = .ok (.irem, 1) := by decide +kernel
theorem dX3_isCloudy_50 : decode cX3_isCloudy 50 = .ok (.aload_n 0, 1) := by decide +kernel
theorem dX3_isCloudy_51 : decode cX3_isCloudy 51 = .ok (.getfield 55, 3) := by decide +kernel
theorem dX3_isCloudy_54 : decode cX3_isCloudy 54 = .ok (.iload_n 3, 1) := by decide +kernel
theorem dX3_isCloudy_55 : decode cX3_isCloudy 55 = .ok (.iaload, 1) := by decide +kernel
theorem dX3_isCloudy_56 : decode cX3_isCloudy 56 = .ok (.if_icmp .ge 5, 3) := by decide +kernel
theorem dX3_isCloudy_59 : decode cX3_isCloudy 59 = .ok (.iconst 1, 1) := by decide +kernel
theorem dX3_isCloudy_60 : decode cX3_isCloudy 60 = .ok (.ireturn, 1) := by decide +kernel
theorem dX3_isCloudy_61 : decode cX3_isCloudy 61 = .ok (.iinc 3 1, 3) := by decide +kernel
theorem dX3_isCloudy_64 : decode cX3_isCloudy 64 = .ok (.goto (-62), 3) := by decide +kernel
theorem dX3_isCloudy_67 : decode cX3_isCloudy 67 = .ok (.iconst 0, 1) := by decide +kernel
theorem dX3_isCloudy_68 : decode cX3_isCloudy 68 = .ok (.ireturn, 1) := by decide +kernel
theorem dX3_cloudsOver_0 : decode cX3_cloudsOver 0 = .ok (.iconst 0, 1) := by decide +kernel
theorem dX3_cloudsOver_1 : decode cX3_cloudsOver 1 = .ok (.istore_n 2, 1) := by decide +kernel
theorem dX3_cloudsOver_2 : decode cX3_cloudsOver 2 = .ok (.iconst 0, 1) := by decide +kernel
theorem dX3_cloudsOver_3 : decode cX3_cloudsOver 3 = .ok (.istore_n 3, 1) := by decide +kernel
theorem dX3_cloudsOver_4 : decode cX3_cloudsOver 4 = .ok (.iload_n 3, 1) := by decide +kernel
theorem dX3_cloudsOver_5 : decode cX3_cloudsOver 5 = .ok (.aload_n 0, 1) := by decide +kernel
theorem dX3_cloudsOver_6 : decode cX3_cloudsOver 6 = .ok (.getfield 68, 3) := by decide +kernel
theorem dX3_cloudsOver_9 : decode cX3_cloudsOver 9 = .ok (.if_icmp .ge 28, 3) := by decide +kernel
theorem dX3_cloudsOver_12 : decode cX3_cloudsOver 12 = .ok (.iload_n 3, 1) := by decide +kernel
theorem dX3_cloudsOver_13 : decode cX3_cloudsOver 13 = .ok (.bipush 8, 2) := by decide +kernel
theorem dX3_cloudsOver_15 : decode cX3_cloudsOver 15 = .ok (.if_icmp .ge 22, 3) := by decide +kernel
theorem dX3_cloudsOver_18 : decode cX3_cloudsOver 18 = .ok (.aload_n 0, 1) := by decide +kernel
theorem dX3_cloudsOver_19 : decode cX3_cloudsOver 19 = .ok (.getfield 49, 3) := by decide +kernel
theorem dX3_cloudsOver_22 : decode cX3_cloudsOver 22 = .ok (.iload_n 3, 1) := by decide +kernel
theorem dX3_cloudsOver_23 : decode cX3_cloudsOver 23 = .ok (.iaload, 1) := by decide +kernel
theorem dX3_cloudsOver_24 : decode cX3_cloudsOver 24 = .ok (.iload_n 1, 1) := by decide +kernel
theorem dX3_cloudsOver_25 : decode cX3_cloudsOver 25 = .ok (.if_icmp .ne 6, 3) := by decide +kernel
theorem dX3_cloudsOver_28 : decode cX3_cloudsOver 28 = .ok (.iinc 2 1, 3) := by decide +kernel
theorem dX3_cloudsOver_31 : decode cX3_cloudsOver 31 = .ok (.iinc 3 1, 3) := by decide +kernel
theorem dX3_cloudsOver_34 : decode cX3_cloudsOver 34 = .ok (.goto (-30), 3) := by decide +kernel
theorem dX3_cloudsOver_37 : decode cX3_cloudsOver 37 = .ok (.iload_n 2, 1) := by decide +kernel
theorem dX3_cloudsOver_38 : decode cX3_cloudsOver 38 = .ok (.ireturn, 1) := by decide +kernel
theorem dX3_isEnd_0 : decode cX3_isEnd 0 = .ok (.aload_n 0, 1) := by decide +kernel
theorem dX3_isEnd_1 : decode cX3_isEnd 1 = .ok (.iload_n 1, 1) := by decide +kernel
theorem dX3_isEnd_2 : decode cX3_isEnd 2 = .ok (.invokevirtual 81, 3) := by decide +kernel
theorem dX3_isEnd_5 : decode cX3_isEnd 5 = .ok (.ifCond .eq 27, 3) := by decide +kernel
theorem dX3_isEnd_8 : decode cX3_isEnd 8 = .ok (.aload_n 0, 1) := by decide +kernel
theorem dX3_isEnd_9 : decode cX3_isEnd 9 = .ok (.getfield 21, 3) := by decide +kernel
theorem dX3_isEnd_12 : decode cX3_isEnd 12 = .ok (.iload_n 1, 1) := by decide +kernel
theorem dX3_isEnd_13 : decode cX3_isEnd 13 = .ok (.iaload, 1) := by decide +kernel
theorem dX3_isEnd_14 : decode cX3_isEnd 14 = .ok (.iload_n 2, 1) := by decide +kernel
theorem dX3_isEnd_15 : decode cX3_isEnd 15 = .ok (.if_icmp .eq 13, 3) := by decide +kernel
theorem dX3_isEnd_18 : decode cX3_isEnd 18 = .ok (.aload_n 0, 1) := by decide +kernel
theorem dX3_isEnd_19 : decode cX3_isEnd 19 = .ok (.getfield 24, 3) := by decide +kernel
theorem dX3_isEnd_22 : decode cX3_isEnd 22 = .ok (.iload_n 1, 1) := by decide +kernel
theorem dX3_isEnd_23 : decode cX3_isEnd 23 = .ok (.iaload, 1) := by decide +kernel
theorem dX3_isEnd_24 : decode cX3_isEnd 24 = .ok (.iload_n 2, 1) := by decide +kernel
theorem dX3_isEnd_25 : decode cX3_isEnd 25 = .ok (.if_icmp .ne 7, 3) := by decide +kernel
theorem dX3_isEnd_28 : decode cX3_isEnd 28 = .ok (.iconst 1, 1) := by decide +kernel
theorem dX3_isEnd_29 : decode cX3_isEnd 29 = .ok (.goto 4, 3) := by decide +kernel
theorem dX3_isEnd_32 : decode cX3_isEnd 32 = .ok (.iconst 0, 1) := by decide +kernel
theorem dX3_isEnd_33 : decode cX3_isEnd 33 = .ok (.ireturn, 1) := by decide +kernel
theorem dX3_across_0 : decode cX3_across 0 = .ok (.aload_n 0, 1) := by decide +kernel
theorem dX3_across_1 : decode cX3_across 1 = .ok (.iload_n 1, 1) := by decide +kernel
theorem dX3_across_2 : decode cX3_across 2 = .ok (.invokevirtual 81, 3) := by decide +kernel
theorem dX3_across_5 : decode cX3_across 5 = .ok (.ifCond .ne 5, 3) := by decide +kernel
theorem dX3_across_8 : decode cX3_across 8 = .ok (.iload_n 2, 1) := by decide +kernel
theorem dX3_across_9 : decode cX3_across 9 = .ok (.ireturn, 1) := by decide +kernel
theorem dX3_across_10 : decode cX3_across 10 = .ok (.aload_n 0, 1) := by decide +kernel
theorem dX3_across_11 : decode cX3_across 11 = .ok (.getfield 21, 3) := by decide +kernel
theorem dX3_across_14 : decode cX3_across 14 = .ok (.iload_n 1, 1) := by decide +kernel
theorem dX3_across_15 : decode cX3_across 15 = .ok (.iaload, 1) := by decide +kernel
theorem dX3_across_16 : decode cX3_across 16 = .ok (.iload_n 2, 1) := by decide +kernel
theorem dX3_across_17 : decode cX3_across 17 = .ok (.if_icmp .ne 12, 3) := by decide +kernel
theorem dX3_across_20 : decode cX3_across 20 = .ok (.aload_n 0, 1) := by decide +kernel
theorem dX3_across_21 : decode cX3_across 21 = .ok (.getfield 24, 3) := by decide +kernel
theorem dX3_across_24 : decode cX3_across 24 = .ok (.iload_n 1, 1) := by decide +kernel
theorem dX3_across_25 : decode cX3_across 25 = .ok (.iaload, 1) := by decide +kernel
theorem dX3_across_26 : decode cX3_across 26 = .ok (.goto 9, 3) := by decide +kernel
theorem dX3_across_29 : decode cX3_across 29 = .ok (.aload_n 0, 1) := by decide +kernel
theorem dX3_across_30 : decode cX3_across 30 = .ok (.getfield 21, 3) := by decide +kernel
theorem dX3_across_33 : decode cX3_across 33 = .ok (.iload_n 1, 1) := by decide +kernel
theorem dX3_across_34 : decode cX3_across 34 = .ok (.iaload, 1) := by decide +kernel
theorem dX3_across_35 : decode cX3_across 35 = .ok (.ireturn, 1) := by decide +kernel
theorem dX4_init_0 : decode cX4_init 0 = .ok (.aload_n 0, 1) := by decide +kernel
theorem dX4_init_1 : decode cX4_init 1 = .ok (.invokespecial 3, 3) := by decide +kernel
theorem dX4_init_4 : decode cX4_init 4 = .ok (.aload_n 0, 1) := by decide +kernel
theorem dX4_init_5 : decode cX4_init 5 = .ok (.bipush 8, 2) := by decide +kernel
theorem dX4_init_7 : decode cX4_init 7 = .ok (.newarray .long, 2) := by decide +kernel
theorem dX4_init_9 : decode cX4_init 9 = .ok (.putfield 9, 3) := by decide +kernel
theorem dX4_init_12 : decode cX4_init 12 = .ok (.aload_n 0, 1) := by decide +kernel
theorem dX4_init_13 : decode cX4_init 13 = .ok (.bipush 12, 2) := by decide +kernel
theorem dX4_init_15 : decode cX4_init 15 = .ok (.newarray .long, 2) := by decide +kernel
theorem dX4_init_17 : decode cX4_init 17 = .ok (.putfield 15, 3) := by decide +kernel
theorem dX4_init_20 : decode cX4_init 20 = .ok (.aload_n 0, 1) := by decide +kernel
theorem dX4_init_21 : decode cX4_init 21 = .ok (.bipush 8, 2) := by decide +kernel
theorem dX4_init_23 : decode cX4_init 23 = .ok (.newarray .long, 2) := by decide +kernel
theorem dX4_init_25 : decode cX4_init 25 = .ok (.putfield 18, 3) := by decide +kernel
theorem dX4_init_28 : decode cX4_init 28 = .ok (.aload_n 0, 1) := by decide +kernel
theorem dX4_init_29 : decode cX4_init 29 = .ok (.aload_n 1, 1) := by decide +kernel
theorem dX4_init_30 : decode cX4_init 30 = .ok (.putfield 21, 3) := by decide +kernel
theorem dX4_init_33 : decode cX4_init 33 = .ok (.aload_n 0, 1) := by decide +kernel
theorem dX4_init_34 : decode cX4_init 34 = .ok (.aload_n 2, 1) := by decide +kernel
theorem dX4_init_35 : decode cX4_init 35 = .ok (.putfield 25, 3) := by decide +kernel
theorem dX4_init_38 : decode cX4_init 38 = .ok (.return_, 1) := by decide +kernel
theorem dX4_read_0 : decode cX4_read 0 = .ok (.aload_n 0, 1) := by decide +kernel
theorem dX4_read_1 : decode cX4_read 1 = .ok (.aload_n 1, 1) := by decide +kernel
theorem dX4_read_2 : decode cX4_read 2 = .ok (.putfield 25, 3) := by decide +kernel
theorem dX4_read_5 : decode cX4_read 5 = .ok (.aload_n 0, 1) := by decide +kernel
theorem dX4_read_6 : decode cX4_read 6 = .ok (.getfield 25, 3) := by decide +kernel
theorem dX4_read_9 : decode cX4_read 9 = .ok (.invokevirtual 29, 3) := by decide +kernel
theorem dX4_read_12 : decode cX4_read 12 = .ok (.aload_n 0, 1) := by decide +kernel
theorem dX4_read_13 : decode cX4_read 13 = .ok (.iconst 0, 1) := by decide +kernel
theorem dX4_read_14 : decode cX4_read 14 = .ok (.putfield 34, 3) := by decide +kernel
theorem dX4_read_17 : decode cX4_read 17 = .ok (.aload_n 0, 1) := by decide +kernel
theorem dX4_read_18 : decode cX4_read 18 = .ok (.iconst (-1), 1) := by decide +kernel
theorem dX4_read_19 : decode cX4_read 19 = .ok (.putfield 38, 3) := by decide +kernel
theorem dX4_read_22 : decode cX4_read 22 = .ok (.iconst 0, 1) := by decide +kernel
theorem dX4_read_23 : decode cX4_read 23 = .ok (.istore_n 2, 1) := by decide +kernel
theorem dX4_read_24 : decode cX4_read 24 = .ok (.iload_n 2, 1) := by decide +kernel
theorem dX4_read_25 : decode cX4_read 25 = .ok (.sipush 400, 3) := by decide +kernel
theorem dX4_read_28 : decode cX4_read 28 = .ok (.if_icmp .ge 132, 3) := by decide +kernel
theorem dX4_read_31 : decode cX4_read 31 = .ok (.aload_n 0, 1) := by decide +kernel
theorem dX4_read_32 : decode cX4_read 32 = .ok (.getfield 34, 3) := by decide +kernel
theorem dX4_read_35 : decode cX4_read 35 = .ok (.iconst 1, 1) := by decide +kernel
theorem dX4_read_36 : decode cX4_read 36 = .ok (.if_icmp .eq 124, 3) := by decide +kernel
theorem dX4_read_39 : decode cX4_read 39 = .ok (.aload_n 0, 1) := by decide +kernel
theorem dX4_read_40 : decode cX4_read 40 = .ok (.getfield 21, 3) := by decide +kernel
theorem dX4_read_43 : decode cX4_read 43 = .ok (.invokevirtual 41, 3) := by decide +kernel
theorem dX4_read_46 : decode cX4_read 46 = .ok (.getstatic 47, 3) := by decide +kernel
theorem dX4_read_49 : decode cX4_read 49 = .ok (.if_acmp .eq 111, 3) := by decide +kernel
theorem dX4_read_52 : decode cX4_read 52 = .ok (.aload_n 0, 1) := by decide +kernel
theorem dX4_read_53 : decode cX4_read 53 = .ok (.getstatic 53, 3) := by decide +kernel
theorem dX4_read_56 : decode cX4_read 56 = .ok (.invokevirtual 56, 3) := by decide +kernel
theorem dX4_read_59 : decode cX4_read 59 = .ok (.ifCond .eq 10, 3) := by decide +kernel
theorem dX4_read_62 : decode cX4_read 62 = .ok (.aload_n 0, 1) := by decide +kernel
theorem dX4_read_63 : decode cX4_read 63 = .ok (.invokevirtual 60, 3) := by decide +kernel
theorem dX4_read_66 : decode cX4_read 66 = .ok (.goto 81, 3) := by decide +kernel
theorem dX4_read_69 : decode cX4_read 69 = .ok (.aload_n 0, 1) := by decide +kernel
theorem dX4_read_70 : decode cX4_read 70 = .ok (.getstatic 63, 3) := by decide +kernel
theorem dX4_read_73 : decode cX4_read 73 = .ok (.invokevirtual 56, 3) := by decide +kernel
theorem dX4_read_76 : decode cX4_read 76 = .ok (.ifCond .eq 10, 3) := by decide +kernel
theorem dX4_read_79 : decode cX4_read 79 = .ok (.aload_n 0, 1) := by decide +kernel
theorem dX4_read_80 : decode cX4_read 80 = .ok (.invokevirtual 66, 3) := by decide +kernel
theorem dX4_read_83 : decode cX4_read 83 = .ok (.goto 64, 3) := by decide +kernel
theorem dX4_read_86 : decode cX4_read 86 = .ok (.aload_n 0, 1) := by decide +kernel
theorem dX4_read_87 : decode cX4_read 87 = .ok (.getfield 21, 3) := by decide +kernel
theorem dX4_read_90 : decode cX4_read 90 = .ok (.invokevirtual 41, 3) := by decide +kernel
theorem dX4_read_93 : decode cX4_read 93 = .ok (.getstatic 69, 3) := by decide +kernel
theorem dX4_read_96 : decode cX4_read 96 = .ok (.if_acmp .ne 10, 3) := by decide +kernel
theorem dX4_read_99 : decode cX4_read 99 = .ok (.aload_n 0, 1) := by decide +kernel
theorem dX4_read_100 : decode cX4_read 100 = .ok (.invokevirtual 72, 3) := by decide +kernel
theorem dX4_read_103 : decode cX4_read 103 = .ok (.goto 44, 3) := by decide +kernel
theorem dX4_read_106 : decode cX4_read 106 = .ok (.aload_n 0, 1) := by decide +kernel
theorem dX4_read_107 : decode cX4_read 107 = .ok (.getstatic 75, 3) := by decide +kernel
theorem dX4_read_110 : decode cX4_read 110 = .ok (.invokevirtual 56, 3) := by decide +kernel
theorem dX4_read_113 : decode cX4_read 113 = .ok (.ifCond .eq 10, 3) := by decide +kernel
theorem dX4_read_116 : decode cX4_read 116 = .ok (.aload_n 0, 1) := by decide +kernel
theorem dX4_read_117 : decode cX4_read 117 = .ok (.invokevirtual 78, 3) := by decide +kernel
theorem dX4_read_120 : decode cX4_read 120 = .ok (.goto 27, 3) := by decide +kernel
theorem dX4_read_123 : decode cX4_read 123 = .ok (.aload_n 0, 1) := by decide +kernel
theorem dX4_read_124 : decode cX4_read 124 = .ok (.getfield 21, 3) := by decide +kernel
theorem dX4_read_127 : decode cX4_read 127 = .ok (.invokevirtual 41, 3) := by decide +kernel
theorem dX4_read_130 : decode cX4_read 130 = .ok (.getstatic 81, 3) := by decide +kernel
theorem dX4_read_133 : decode cX4_read 133 = .ok (.if_acmp .ne 10, 3) := by decide +kernel
theorem dX4_read_136 : decode cX4_read 136 = .ok (.aload_n 0, 1) := by decide +kernel
theorem dX4_read_137 : decode cX4_read 137 = .ok (.invokevirtual 84, 3) := by decide +kernel
theorem dX4_read_140 : decode cX4_read 140 = .ok (.goto 7, 3) := by decide +kernel
theorem dX4_read_143 : decode cX4_read 143 = .ok (.aload_n 0, 1) := by decide +kernel
theorem dX4_read_144 : decode cX4_read 144 = .ok (.invokevirtual 87, 3) := by decide +kernel
theorem dX4_read_147 : decode cX4_read 147 = .ok (.aload_n 0, 1) := by decide +kernel
theorem dX4_read_148 : decode cX4_read 148 = .ok (.getstatic 90, 3) := by decide +kernel
theorem dX4_read_151 : decode cX4_read 151 = .ok (.invokevirtual 93, 3) := by decide +kernel
theorem dX4_read_154 : decode cX4_read 154 = .ok (.iinc 2 1, 3) := by decide +kernel
theorem dX4_read_157 : decode cX4_read 157 = .ok (.goto (-133), 3) := by decide +kernel
theorem dX4_read_160 : decode cX4_read 160 = .ok (.aload_n 0, 1) := by decide +kernel
theorem dX4_read_161 : decode cX4_read 161 = .ok (.getfield 34, 3) := by decide +kernel
theorem dX4_read_164 : decode cX4_read 164 = .ok (.ireturn, 1) := by decide +kernel
theorem dX4_readPeak_0 : decode cX4_readPeak 0 = .ok (.aload_n 0, 1) := by decide +kernel
theorem dX4_readPeak_1 : decode cX4_readPeak 1 = .ok (.aload_n 0, 1) := by decide +kernel
theorem dX4_readPeak_2 : decode cX4_readPeak 2 = .ok (.getfield 9, 3) := by decide +kernel
theorem dX4_readPeak_5 : decode cX4_readPeak 5 = .ok (.aload_n 0, 1) := by decide +kernel
theorem dX4_readPeak_6 : decode cX4_readPeak 6 = .ok (.getfield 25, 3) := by decide +kernel
theorem dX4_readPeak_9 : decode cX4_readPeak 9 = .ok (.getfield 97, 3) := by decide +kernel
theorem dX4_readPeak_12 : decode cX4_readPeak 12 = .ok (.invokevirtual 100, 3) := by decide +kernel
theorem dX4_readPeak_15 : decode cX4_readPeak 15 = .ok (.lstore_n 1, 1) := by decide +kernel
theorem dX4_readPeak_16 : decode cX4_readPeak 16 = .ok (.aload_n 0, 1) := by decide +kernel
theorem dX4_readPeak_17 : decode cX4_readPeak 17 = .ok (.getstatic 104, 3) := by decide +kernel
theorem dX4_readPeak_20 : decode cX4_readPeak 20 = .ok (.invokevirtual 93, 3) := by decide +kernel
theorem dX4_readPeak_23 : decode cX4_readPeak 23 = .ok (.aload_n 0, 1) := by decide +kernel
theorem dX4_readPeak_24 : decode cX4_readPeak 24 = .ok (.getstatic 107, 3) := by decide +kernel
theorem dX4_readPeak_27 : decode cX4_readPeak 27 = .ok (.invokevirtual 93, 3) := by decide +kernel
theorem dX4_readPeak_30 : decode cX4_readPeak 30 = .ok (.aload_n 0, 1) := by decide +kernel
theorem dX4_readPeak_31 : decode cX4_readPeak 31 = .ok (.iconst 0, 1) := by decide +kernel
theorem dX4_readPeak_32 : decode cX4_readPeak 32 = .ok (.bipush 120, 2) := by decide +kernel
theorem dX4_readPeak_34 : decode cX4_readPeak 34 = .ok (.invokevirtual 110, 3) := by decide +kernel
theorem dX4_readPeak_37 : decode cX4_readPeak 37 = .ok (.istore_n 3, 1) := by decide +kernel
theorem dX4_readPeak_38 : decode cX4_readPeak 38 = .ok (.aload_n 0, 1) := by decide +kernel
theorem dX4_readPeak_39 : decode cX4_readPeak 39 = .ok (.getstatic 114, 3) := by decide +kernel
theorem dX4_readPeak_42 : decode cX4_readPeak 42 = .ok (.invokevirtual 93, 3) := by decide +kernel
theorem dX4_readPeak_45 : decode cX4_readPeak 45 = .ok (.aload_n 0, 1) := by decide +kernel
theorem dX4_readPeak_46 : decode cX4_readPeak 46 = .ok (.iconst 0, 1) := by decide +kernel
theorem dX4_readPeak_47 : decode cX4_readPeak 47 = .ok (.bipush 120, 2) := by decide +kernel
theorem dX4_readPeak_49 : decode cX4_readPeak 49 = .ok (.invokevirtual 110, 3) := by decide +kernel
theorem dX4_readPeak_52 : decode cX4_readPeak 52 = .ok (.istore 4, 2) := by decide +kernel
theorem dX4_readPeak_54 : decode cX4_readPeak 54 = .ok (.aload_n 0, 1) := by decide +kernel
theorem dX4_readPeak_55 : decode cX4_readPeak 55 = .ok (.getstatic 117, 3) := by decide +kernel
theorem dX4_readPeak_58 : decode cX4_readPeak 58 = .ok (.invokevirtual 93, 3) := by decide +kernel
theorem dX4_readPeak_61 : decode cX4_readPeak 61 = .ok (.aload_n 0, 1) := by decide +kernel
theorem dX4_readPeak_62 : decode cX4_readPeak 62 = .ok (.iconst 0, 1) := by decide +kernel
theorem dX4_readPeak_63 : decode cX4_readPeak 63 = .ok (.iconst 4, 1) := by decide +kernel
theorem dX4_readPeak_64 : decode cX4_readPeak 64 = .ok (.invokevirtual 110, 3) := by decide +kernel
theorem dX4_readPeak_67 : decode cX4_readPeak 67 = .ok (.istore 5, 2) := by decide +kernel
theorem dX4_readPeak_69 : decode cX4_readPeak 69 = .ok (.aload_n 0, 1) := by decide +kernel
theorem dX4_readPeak_70 : decode cX4_readPeak 70 = .ok (.getfield 34, 3) := by decide +kernel
theorem dX4_readPeak_73 : decode cX4_readPeak 73 = .ok (.ifCond .ne 43, 3) := by decide +kernel
theorem dX4_readPeak_76 : decode cX4_readPeak 76 = .ok (.aload_n 0, 1) := by decide +kernel
theorem dX4_readPeak_77 : decode cX4_readPeak 77 = .ok (.getfield 25, 3) := by decide +kernel
theorem dX4_readPeak_80 : decode cX4_readPeak 80 = .ok (.getfield 97, 3) := by decide +kernel
theorem dX4_readPeak_83 : decode cX4_readPeak 83 = .ok (.aload_n 0, 1) := by decide +kernel
theorem dX4_readPeak_84 : decode cX4_readPeak 84 = .ok (.getfield 9, 3) := by decide +kernel
theorem dX4_readPeak_87 : decode cX4_readPeak 87 = .ok (.arraylength, 1) := by decide +kernel
theorem dX4_readPeak_88 : decode cX4_readPeak 88 = .ok (.if_icmp .ge 28, 3) := by decide +kernel
theorem dX4_readPeak_91 : decode cX4_readPeak 91 = .ok (.aload_n 0, 1) := by decide +kernel
theorem dX4_readPeak_92 : decode cX4_readPeak 92 = .ok (.getfield 9, 3) := by decide +kernel
theorem dX4_readPeak_95 : decode cX4_readPeak 95 = .ok (.aload_n 0, 1) := by decide +kernel
theorem dX4_readPeak_96 : decode cX4_readPeak 96 = .ok (.getfield 25, 3) := by decide +kernel
theorem dX4_readPeak_99 : decode cX4_readPeak 99 = .ok (.getfield 97, 3) := by decide +kernel
theorem dX4_readPeak_102 : decode cX4_readPeak 102 = .ok (.lload_n 1, 1) := by decide +kernel
theorem dX4_readPeak_103 : decode cX4_readPeak 103 = .ok (.lastore, 1) := by decide +kernel
theorem dX4_readPeak_104 : decode cX4_readPeak 104 = .ok (.aload_n 0, 1) := by decide +kernel
theorem dX4_readPeak_105 : decode cX4_readPeak 105 = .ok (.getfield 25, 3) := by decide +kernel
theorem dX4_readPeak_108 : decode cX4_readPeak 108 = .ok (.iload_n 3, 1) := by decide +kernel
theorem dX4_readPeak_109 : decode cX4_readPeak 109 = .ok (.iload 4, 2) := by decide +kernel
theorem dX4_readPeak_111 : decode cX4_readPeak 111 = .ok (.iload 5, 2) := by decide +kernel
theorem dX4_readPeak_113 : decode cX4_readPeak 113 = .ok (.invokevirtual 120, 3) := by decide +kernel
theorem dX4_readPeak_116 : decode cX4_readPeak 116 = .ok (.return_, 1) := by decide +kernel
theorem dX4_readPass_0 : decode cX4_readPass 0 = .ok (.aload_n 0, 1) := by decide +kernel
theorem dX4_readPass_1 : decode cX4_readPass 1 = .ok (.aload_n 0, 1) := by decide +kernel
theorem dX4_readPass_2 : decode cX4_readPass 2 = .ok (.getfield 15, 3) := by decide +kernel
theorem dX4_readPass_5 : decode cX4_readPass 5 = .ok (.aload_n 0, 1) := by decide +kernel
theorem dX4_readPass_6 : decode cX4_readPass 6 = .ok (.getfield 25, 3) := by decide +kernel
theorem dX4_readPass_9 : decode cX4_readPass 9 = .ok (.getfield 124, 3) := by decide +kernel
theorem dX4_readPass_12 : decode cX4_readPass 12 = .ok (.invokevirtual 100, 3) := by decide +kernel
theorem dX4_readPass_15 : decode cX4_readPass 15 = .ok (.lstore_n 1, 1) := by decide +kernel
theorem dX4_readPass_16 : decode cX4_readPass 16 = .ok (.aload_n 0, 1) := by decide +kernel
theorem dX4_readPass_17 : decode cX4_readPass 17 = .ok (.getstatic 127, 3) := by decide +kernel
theorem dX4_readPass_20 : decode cX4_readPass 20 = .ok (.invokevirtual 93, 3) := by decide +kernel
theorem dX4_readPass_23 : decode cX4_readPass 23 = .ok (.aload_n 0, 1) := by decide +kernel
theorem dX4_readPass_24 : decode cX4_readPass 24 = .ok (.aload_n 0, 1) := by decide +kernel
theorem dX4_readPass_25 : decode cX4_readPass 25 = .ok (.getfield 9, 3) := by decide +kernel
theorem dX4_readPass_28 : decode cX4_readPass 28 = .ok (.aload_n 0, 1) := by decide +kernel
theorem dX4_readPass_29 : decode cX4_readPass 29 = .ok (.getfield 25, 3) := by decide +kernel
theorem dX4_readPass_32 : decode cX4_readPass 32 = .ok (.getfield 97, 3) := by decide +kernel
theorem dX4_readPass_35 : decode cX4_readPass 35 = .ok (.invokevirtual 130, 3) := by decide +kernel
theorem dX4_readPass_38 : decode cX4_readPass 38 = .ok (.istore_n 3, 1) := by decide +kernel
theorem dX4_readPass_39 : decode cX4_readPass 39 = .ok (.aload_n 0, 1) := by decide +kernel
theorem dX4_readPass_40 : decode cX4_readPass 40 = .ok (.getstatic 134, 3) := by decide +kernel
theorem dX4_readPass_43 : decode cX4_readPass 43 = .ok (.invokevirtual 93, 3) := by decide +kernel
theorem dX4_readPass_46 : decode cX4_readPass 46 = .ok (.aload_n 0, 1) := by decide +kernel
theorem dX4_readPass_47 : decode cX4_readPass 47 = .ok (.iload_n 3, 1) := by decide +kernel
theorem dX4_readPass_48 : decode cX4_readPass 48 = .ok (.invokevirtual 137, 3) := by decide +kernel
theorem dX4_readPass_51 : decode cX4_readPass 51 = .ok (.istore 4, 2) := by decide +kernel
theorem dX4_readPass_53 : decode cX4_readPass 53 = .ok (.aload_n 0, 1) := by decide +kernel
theorem dX4_readPass_54 : decode cX4_readPass 54 = .ok (.getstatic 141, 3) := by decide +kernel
theorem dX4_readPass_57 : decode cX4_readPass 57 = .ok (.invokevirtual 93, 3) := by decide +kernel
theorem dX4_readPass_60 : decode cX4_readPass 60 = .ok (.aload_n 0, 1) := by decide +kernel
theorem dX4_readPass_61 : decode cX4_readPass 61 = .ok (.iconst 1, 1) := by decide +kernel
theorem dX4_readPass_62 : decode cX4_readPass 62 = .ok (.bipush 20, 2) := by decide +kernel
theorem dX4_readPass_64 : decode cX4_readPass 64 = .ok (.invokevirtual 110, 3) := by decide +kernel
theorem dX4_readPass_67 : decode cX4_readPass 67 = .ok (.istore 5, 2) := by decide +kernel
theorem dX4_readPass_69 : decode cX4_readPass 69 = .ok (.aload_n 0, 1) := by decide +kernel
theorem dX4_readPass_70 : decode cX4_readPass 70 = .ok (.getfield 34, 3) := by decide +kernel
theorem dX4_readPass_73 : decode cX4_readPass 73 = .ok (.ifCond .ne 43, 3) := by decide +kernel
theorem dX4_readPass_76 : decode cX4_readPass 76 = .ok (.aload_n 0, 1) := by decide +kernel
theorem dX4_readPass_77 : decode cX4_readPass 77 = .ok (.getfield 25, 3) := by decide +kernel
theorem dX4_readPass_80 : decode cX4_readPass 80 = .ok (.getfield 124, 3) := by decide +kernel
theorem dX4_readPass_83 : decode cX4_readPass 83 = .ok (.aload_n 0, 1) := by decide +kernel
theorem dX4_readPass_84 : decode cX4_readPass 84 = .ok (.getfield 15, 3) := by decide +kernel
theorem dX4_readPass_87 : decode cX4_readPass 87 = .ok (.arraylength, 1) := by decide +kernel
theorem dX4_readPass_88 : decode cX4_readPass 88 = .ok (.if_icmp .ge 28, 3) := by decide +kernel
theorem dX4_readPass_91 : decode cX4_readPass 91 = .ok (.aload_n 0, 1) := by decide +kernel
theorem dX4_readPass_92 : decode cX4_readPass 92 = .ok (.getfield 15, 3) := by decide +kernel
theorem dX4_readPass_95 : decode cX4_readPass 95 = .ok (.aload_n 0, 1) := by decide +kernel
theorem dX4_readPass_96 : decode cX4_readPass 96 = .ok (.getfield 25, 3) := by decide +kernel
theorem dX4_readPass_99 : decode cX4_readPass 99 = .ok (.getfield 124, 3) := by decide +kernel
theorem dX4_readPass_102 : decode cX4_readPass 102 = .ok (.lload_n 1, 1) := by decide +kernel
theorem dX4_readPass_103 : decode cX4_readPass 103 = .ok (.lastore, 1) := by decide +kernel
theorem dX4_readPass_104 : decode cX4_readPass 104 = .ok (.aload_n 0, 1) := by decide +kernel
theorem dX4_readPass_105 : decode cX4_readPass 105 = .ok (.getfield 25, 3) := by decide +kernel
theorem dX4_readPass_108 : decode cX4_readPass 108 = .ok (.iload_n 3, 1) := by decide +kernel
theorem dX4_readPass_109 : decode cX4_readPass 109 = .ok (.iload 4, 2) := by decide +kernel
theorem dX4_readPass_111 : decode cX4_readPass 111 = .ok (.iload 5, 2) := by decide +kernel
theorem dX4_readPass_113 : decode cX4_readPass 113 = .ok (.invokevirtual 144, 3) := by decide +kernel
theorem dX4_readPass_116 : decode cX4_readPass 116 = .ok (.return_, 1) := by decide +kernel
theorem dX4_readCloud_0 : decode cX4_readCloud 0 = .ok (.aload_n 0, 1) := by decide +kernel
theorem dX4_readCloud_1 : decode cX4_readCloud 1 = .ok (.getfield 25, 3) := by decide +kernel
theorem dX4_readCloud_4 : decode cX4_readCloud 4 = .ok (.getfield 147, 3) := by decide +kernel
theorem dX4_readCloud_7 : decode cX4_readCloud 7 = .ok (.bipush 8, 2) := by decide +kernel
theorem dX4_readCloud_9 : decode cX4_readCloud 9 = .ok (.if_icmp .lt 8, 3) := by decide +kernel
theorem dX4_readCloud_12 : decode cX4_readCloud 12 = .ok (.aload_n 0, 1) := by decide +kernel
theorem dX4_readCloud_13 : decode cX4_readCloud 13 = .ok (.iconst 4, 1) := by decide +kernel
theorem dX4_readCloud_14 : decode cX4_readCloud 14 = .ok (.invokevirtual 150, 3) := by decide +kernel
theorem dX4_readCloud_17 : decode cX4_readCloud 17 = .ok (.aload_n 0, 1) := by decide +kernel
theorem dX4_readCloud_18 : decode cX4_readCloud 18 = .ok (.getstatic 69, 3) := by decide +kernel
theorem dX4_readCloud_21 : decode cX4_readCloud 21 = .ok (.invokevirtual 93, 3) := by decide +kernel
theorem dX4_readCloud_24 : decode cX4_readCloud 24 = .ok (.aload_n 0, 1) := by decide +kernel
theorem dX4_readCloud_25 : decode cX4_readCloud 25 = .ok (.getstatic 154, 3) := by decide +kernel
theorem dX4_readCloud_28 : decode cX4_readCloud 28 = .ok (.invokevirtual 93, 3) := by decide +kernel
theorem dX4_readCloud_31 : decode cX4_readCloud 31 = .ok (.aload_n 0, 1) := by decide +kernel
theorem dX4_readCloud_32 : decode cX4_readCloud 32 = .ok (.aload_n 0, 1) := by decide +kernel
theorem dX4_readCloud_33 : decode cX4_readCloud 33 = .ok (.getfield 15, 3) := by decide +kernel
theorem dX4_readCloud_36 : decode cX4_readCloud 36 = .ok (.aload_n 0, 1) := by decide +kernel
theorem dX4_readCloud_37 : decode cX4_readCloud 37 = .ok (.getfield 25, 3) := by decide +kernel
theorem dX4_readCloud_40 : decode cX4_readCloud 40 = .ok (.getfield 124, 3) := by decide +kernel
theorem dX4_readCloud_43 : decode cX4_readCloud 43 = .ok (.invokevirtual 130, 3) := by decide +kernel
theorem dX4_readCloud_46 : decode cX4_readCloud 46 = .ok (.istore_n 1, 1) := by decide +kernel
theorem dX4_readCloud_47 : decode cX4_readCloud 47 = .ok (.aload_n 0, 1) := by decide +kernel
theorem dX4_readCloud_48 : decode cX4_readCloud 48 = .ok (.getstatic 157, 3) := by decide +kernel
theorem dX4_readCloud_51 : decode cX4_readCloud 51 = .ok (.invokevirtual 93, 3) := by decide +kernel
theorem dX4_readCloud_54 : decode cX4_readCloud 54 = .ok (.aload_n 0, 1) := by decide +kernel
theorem dX4_readCloud_55 : decode cX4_readCloud 55 = .ok (.iconst 2, 1) := by decide +kernel
theorem dX4_readCloud_56 : decode cX4_readCloud 56 = .ok (.bipush 60, 2) := by decide +kernel
theorem dX4_readCloud_58 : decode cX4_readCloud 58 = .ok (.invokevirtual 110, 3) := by decide +kernel
theorem dX4_readCloud_61 : decode cX4_readCloud 61 = .ok (.istore_n 2, 1) := by decide +kernel
theorem dX4_readCloud_62 : decode cX4_readCloud 62 = .ok (.aload_n 0, 1) := by decide +kernel
theorem dX4_readCloud_63 : decode cX4_readCloud 63 = .ok (.getstatic 160, 3) := by decide +kernel
theorem dX4_readCloud_66 : decode cX4_readCloud 66 = .ok (.invokevirtual 93, 3) := by decide +kernel
theorem dX4_readCloud_69 : decode cX4_readCloud 69 = .ok (.aload_n 0, 1) := by decide +kernel
theorem dX4_readCloud_70 : decode cX4_readCloud 70 = .ok (.iconst 1, 1) := by decide +kernel
theorem dX4_readCloud_71 : decode cX4_readCloud 71 = .ok (.iload_n 2, 1) := by decide +kernel
theorem dX4_readCloud_72 : decode cX4_readCloud 72 = .ok (.iconst 1, 1) := by decide +kernel
theorem dX4_readCloud_73 : decode cX4_readCloud 73 = .ok (.isub, 1) := by decide +kernel
theorem dX4_readCloud_74 : decode cX4_readCloud 74 = .ok (.invokevirtual 110, 3) := by decide +kernel
theorem dX4_readCloud_77 : decode cX4_readCloud 77 = .ok (.istore_n 3, 1) := by decide +kernel
theorem dX4_readCloud_78 : decode cX4_readCloud 78 = .ok (.aload_n 0, 1) := by decide +kernel
theorem dX4_readCloud_79 : decode cX4_readCloud 79 = .ok (.getstatic 107, 3) := by decide +kernel
theorem dX4_readCloud_82 : decode cX4_readCloud 82 = .ok (.invokevirtual 93, 3) := by decide +kernel
theorem dX4_readCloud_85 : decode cX4_readCloud 85 = .ok (.aload_n 0, 1) := by decide +kernel
theorem dX4_readCloud_86 : decode cX4_readCloud 86 = .ok (.iconst 0, 1) := by decide +kernel
theorem dX4_readCloud_87 : decode cX4_readCloud 87 = .ok (.bipush 59, 2) := by decide +kernel
theorem dX4_readCloud_89 : decode cX4_readCloud 89 = .ok (.invokevirtual 110, 3) := by decide +kernel
theorem dX4_readCloud_92 : decode cX4_readCloud 92 = .ok (.istore 4, 2) := by decide +kernel
theorem dX4_readCloud_94 : decode cX4_readCloud 94 = .ok (.aload_n 0, 1) := by decide +kernel
theorem dX4_readCloud_95 : decode cX4_readCloud 95 = .ok (.getfield 34, 3) := by decide +kernel
theorem dX4_readCloud_98 : decode cX4_readCloud 98 = .ok (.ifCond .ne 15, 3) := by decide +kernel
theorem dX4_readCloud_101 : decode cX4_readCloud 101 = .ok (.aload_n 0, 1) := by decide +kernel
theorem dX4_readCloud_102 : decode cX4_readCloud 102 = .ok (.getfield 25, 3) := by decide +kernel
theorem dX4_readCloud_105 : decode cX4_readCloud 105 = .ok (.iload_n 1, 1) := by decide +kernel
theorem dX4_readCloud_106 : decode cX4_readCloud 106 = .ok (.iload_n 2, 1) := by decide +kernel
theorem dX4_readCloud_107 : decode cX4_readCloud 107 = .ok (.iload_n 3, 1) := by decide +kernel
theorem dX4_readCloud_108 : decode cX4_readCloud 108 = .ok (.iload 4, 2) := by decide +kernel
theorem dX4_readCloud_110 : decode cX4_readCloud 110 = .ok (.invokevirtual 163, 3) := by decide +kernel
theorem dX4_readCloud_113 : decode cX4_readCloud 113 = .ok (.return_, 1) := by decide +kernel
theorem dX4_readMessage_0 : decode cX4_readMessage 0 = .ok (.aload_n 0, 1) := by decide +kernel
theorem dX4_readMessage_1 : decode cX4_readMessage 1 = .ok (.aload_n 0, 1) := by decide +kernel
theorem dX4_readMessage_2 : decode cX4_readMessage 2 = .ok (.getfield 18, 3) := by decide +kernel
theorem dX4_readMessage_5 : decode cX4_readMessage 5 = .ok (.aload_n 0, 1) := by decide +kernel
theorem dX4_readMessage_6 : decode cX4_readMessage 6 = .ok (.getfield 25, 3) := by decide +kernel
theorem dX4_readMessage_9 : decode cX4_readMessage 9 = .ok (.getfield 167, 3) := by decide +kernel
theorem dX4_readMessage_12 : decode cX4_readMessage 12 = .ok (.invokevirtual 100, 3) := by decide +kernel
theorem dX4_readMessage_15 : decode cX4_readMessage 15 = .ok (.lstore_n 1, 1) := by decide +kernel
theorem dX4_readMessage_16 : decode cX4_readMessage 16 = .ok (.aload_n 0, 1) := by decide +kernel
theorem dX4_readMessage_17 : decode cX4_readMessage 17 = .ok (.getstatic 170, 3) := by decide +kernel
theorem dX4_readMessage_20 : decode cX4_readMessage 20 = .ok (.invokevirtual 93, 3) := by decide +kernel
theorem dX4_readMessage_23 : decode cX4_readMessage 23 = .ok (.aload_n 0, 1) := by decide +kernel
theorem dX4_readMessage_24 : decode cX4_readMessage 24 = .ok (.iconst 1, 1) := by decide +kernel
theorem dX4_readMessage_25 : decode cX4_readMessage 25 = .ok (.bipush 40, 2) := by decide +kernel
theorem dX4_readMessage_27 : decode cX4_readMessage 27 = .ok (.invokevirtual 110, 3) := by decide +kernel
theorem dX4_readMessage_30 : decode cX4_readMessage 30 = .ok (.istore_n 3, 1) := by decide +kernel
theorem dX4_readMessage_31 : decode cX4_readMessage 31 = .ok (.aload_n 0, 1) := by decide +kernel
theorem dX4_readMessage_32 : decode cX4_readMessage 32 = .ok (.getstatic 173, 3) := by decide +kernel
theorem dX4_readMessage_35 : decode cX4_readMessage 35 = .ok (.invokevirtual 93, 3) := by decide +kernel
theorem dX4_readMessage_38 : decode cX4_readMessage 38 = .ok (.aload_n 0, 1) := by decide +kernel
theorem dX4_readMessage_39 : decode cX4_readMessage 39 = .ok (.aload_n 0, 1) := by decide +kernel
theorem dX4_readMessage_40 : decode cX4_readMessage 40 = .ok (.getfield 9, 3) := by decide +kernel
theorem dX4_readMessage_43 : decode cX4_readMessage 43 = .ok (.aload_n 0, 1) := by decide +kernel
theorem dX4_readMessage_44 : decode cX4_readMessage 44 = .ok (.getfield 25, 3) := by decide +kernel
theorem dX4_readMessage_47 : decode cX4_readMessage 47 = .ok (.getfield 97, 3) := by decide +kernel
theorem dX4_readMessage_50 : decode cX4_readMessage 50 = .ok (.invokevirtual 130, 3) := by decide +kernel
theorem dX4_readMessage_53 : decode cX4_readMessage 53 = .ok (.istore 4, 2) := by decide +kernel
theorem dX4_readMessage_55 : decode cX4_readMessage 55 = .ok (.aload_n 0, 1) := by decide +kernel
theorem dX4_readMessage_56 : decode cX4_readMessage 56 = .ok (.getstatic 114, 3) := by decide +kernel
theorem dX4_readMessage_59 : decode cX4_readMessage 59 = .ok (.invokevirtual 93, 3) := by decide +kernel
theorem dX4_readMessage_62 : decode cX4_readMessage 62 = .ok (.aload_n 0, 1) := by decide +kernel
theorem dX4_readMessage_63 : decode cX4_readMessage 63 = .ok (.iload 4, 2) := by decide +kernel
theorem dX4_readMessage_65 : decode cX4_readMessage 65 = .ok (.invokevirtual 137, 3) := by decide +kernel
theorem dX4_readMessage_68 : decode cX4_readMessage 68 = .ok (.istore 5, 2) := by decide +kernel
theorem dX4_readMessage_70 : decode cX4_readMessage 70 = .ok (.aload_n 0, 1) := by decide +kernel
theorem dX4_readMessage_71 : decode cX4_readMessage 71 = .ok (.getstatic 176, 3) := by decide +kernel
theorem dX4_readMessage_74 : decode cX4_readMessage 74 = .ok (.invokevirtual 93, 3) := by decide +kernel
theorem dX4_readMessage_77 : decode cX4_readMessage 77 = .ok (.aload_n 0, 1) := by decide +kernel
theorem dX4_readMessage_78 : decode cX4_readMessage 78 = .ok (.iconst 0, 1) := by decide +kernel
theorem dX4_readMessage_79 : decode cX4_readMessage 79 = .ok (.sipush 999, 3) := by decide +kernel
theorem dX4_readMessage_82 : decode cX4_readMessage 82 = .ok (.invokevirtual 110, 3) := by decide +kernel
theorem dX4_readMessage_85 : decode cX4_readMessage 85 = .ok (.istore 6, 2) := by decide +kernel
theorem dX4_readMessage_87 : decode cX4_readMessage 87 = .ok (.aload_n 0, 1) := by decide +kernel
theorem dX4_readMessage_88 : decode cX4_readMessage 88 = .ok (.getfield 34, 3) := by decide +kernel
theorem dX4_readMessage_91 : decode cX4_readMessage 91 = .ok (.ifCond .ne 45, 3) := by decide +kernel
theorem dX4_readMessage_94 : decode cX4_readMessage 94 = .ok (.aload_n 0, 1) := by decide +kernel
theorem dX4_readMessage_95 : decode cX4_readMessage 95 = .ok (.getfield 25, 3) := by decide +kernel
theorem dX4_readMessage_98 : decode cX4_readMessage 98 = .ok (.getfield 167, 3) := by decide +kernel
theorem dX4_readMessage_101 : decode cX4_readMessage 101 = .ok (.aload_n 0, 1) := by decide +kernel
theorem dX4_readMessage_102 : decode cX4_readMessage 102 = .ok (.getfield 18, 3) := by decide +kernel
theorem dX4_readMessage_105 : decode cX4_readMessage 105 = .ok (.arraylength, 1) := by decide +kernel
theorem dX4_readMessage_106 : decode cX4_readMessage 106 = .ok (.if_icmp .ge 30, 3) := by decide +kernel
theorem dX4_readMessage_109 : decode cX4_readMessage 109 = .ok (.aload_n 0, 1) := by decide +kernel
theorem dX4_readMessage_110 : decode cX4_readMessage 110 = .ok (.getfield 18, 3) := by decide +kernel
theorem dX4_readMessage_113 : decode cX4_readMessage 113 = .ok (.aload_n 0, 1) := by decide +kernel
theorem dX4_readMessage_114 : decode cX4_readMessage 114 = .ok (.getfield 25, 3) := by decide +kernel
theorem dX4_readMessage_117 : decode cX4_readMessage 117 = .ok (.getfield 167, 3) := by decide +kernel
theorem dX4_readMessage_120 : decode cX4_readMessage 120 = .ok (.lload_n 1, 1) := by decide +kernel
theorem dX4_readMessage_121 : decode cX4_readMessage 121 = .ok (.lastore, 1) := by decide +kernel
theorem dX4_readMessage_122 : decode cX4_readMessage 122 = .ok (.aload_n 0, 1) := by decide +kernel
theorem dX4_readMessage_123 : decode cX4_readMessage 123 = .ok (.getfield 25, 3) := by decide +kernel
theorem dX4_readMessage_126 : decode cX4_readMessage 126 = .ok (.iload_n 3, 1) := by decide +kernel
theorem dX4_readMessage_127 : decode cX4_readMessage 127 = .ok (.iload 4, 2) := by decide +kernel
theorem dX4_readMessage_129 : decode cX4_readMessage 129 = .ok (.iload 5, 2) := by decide +kernel
theorem dX4_readMessage_131 : decode cX4_readMessage 131 = .ok (.iload 6, 2) := by decide +kernel
theorem dX4_readMessage_133 : decode cX4_readMessage 133 = .ok (.invokevirtual 179, 3) := by decide +kernel
theorem dX4_readMessage_136 : decode cX4_readMessage 136 = .ok (.return_, 1) := by decide +kernel
theorem dX4_readHold_0 : decode cX4_readHold 0 = .ok (.aload_n 0, 1) := by decide +kernel
theorem dX4_readHold_1 : decode cX4_readHold 1 = .ok (.getfield 25, 3) := by decide +kernel
theorem dX4_readHold_4 : decode cX4_readHold 4 = .ok (.getfield 182, 3) := by decide +kernel
theorem dX4_readHold_7 : decode cX4_readHold 7 = .ok (.getfield 186, 3) := by decide +kernel
theorem dX4_readHold_10 : decode cX4_readHold 10 = .ok (.bipush 12, 2) := by decide +kernel
theorem dX4_readHold_12 : decode cX4_readHold 12 = .ok (.if_icmp .lt 8, 3) := by decide +kernel
theorem dX4_readHold_15 : decode cX4_readHold 15 = .ok (.aload_n 0, 1) := by decide +kernel
theorem dX4_readHold_16 : decode cX4_readHold 16 = .ok (.iconst 4, 1) := by decide +kernel
theorem dX4_readHold_17 : decode cX4_readHold 17 = .ok (.invokevirtual 150, 3) := by decide +kernel
theorem dX4_readHold_20 : decode cX4_readHold 20 = .ok (.aload_n 0, 1) := by decide +kernel
theorem dX4_readHold_21 : decode cX4_readHold 21 = .ok (.getstatic 81, 3) := by decide +kernel
theorem dX4_readHold_24 : decode cX4_readHold 24 = .ok (.invokevirtual 93, 3) := by decide +kernel
theorem dX4_readHold_27 : decode cX4_readHold 27 = .ok (.aload_n 0, 1) := by decide +kernel
theorem dX4_readHold_28 : decode cX4_readHold 28 = .ok (.aload_n 0, 1) := by decide +kernel
theorem dX4_readHold_29 : decode cX4_readHold 29 = .ok (.getfield 18, 3) := by decide +kernel
theorem dX4_readHold_32 : decode cX4_readHold 32 = .ok (.aload_n 0, 1) := by decide +kernel
theorem dX4_readHold_33 : decode cX4_readHold 33 = .ok (.getfield 25, 3) := by decide +kernel
theorem dX4_readHold_36 : decode cX4_readHold 36 = .ok (.getfield 167, 3) := by decide +kernel
theorem dX4_readHold_39 : decode cX4_readHold 39 = .ok (.invokevirtual 130, 3) := by decide +kernel
theorem dX4_readHold_42 : decode cX4_readHold 42 = .ok (.istore_n 1, 1) := by decide +kernel
theorem dX4_readHold_43 : decode cX4_readHold 43 = .ok (.aload_n 0, 1) := by decide +kernel
theorem dX4_readHold_44 : decode cX4_readHold 44 = .ok (.getstatic 191, 3) := by decide +kernel
theorem dX4_readHold_47 : decode cX4_readHold 47 = .ok (.invokevirtual 93, 3) := by decide +kernel
theorem dX4_readHold_50 : decode cX4_readHold 50 = .ok (.aload_n 0, 1) := by decide +kernel
theorem dX4_readHold_51 : decode cX4_readHold 51 = .ok (.iconst 0, 1) := by decide +kernel
theorem dX4_readHold_52 : decode cX4_readHold 52 = .ok (.invokevirtual 194, 3) := by decide +kernel
theorem dX4_readHold_55 : decode cX4_readHold 55 = .ok (.aload_n 0, 1) := by decide +kernel
theorem dX4_readHold_56 : decode cX4_readHold 56 = .ok (.getfield 34, 3) := by decide +kernel
theorem dX4_readHold_59 : decode cX4_readHold 59 = .ok (.ifCond .ne 14, 3) := by decide +kernel
theorem dX4_readHold_62 : decode cX4_readHold 62 = .ok (.aload_n 0, 1) := by decide +kernel
theorem dX4_readHold_63 : decode cX4_readHold 63 = .ok (.getfield 25, 3) := by decide +kernel
theorem dX4_readHold_66 : decode cX4_readHold 66 = .ok (.getfield 182, 3) := by decide +kernel
theorem dX4_readHold_69 : decode cX4_readHold 69 = .ok (.iload_n 1, 1) := by decide +kernel
theorem dX4_readHold_70 : decode cX4_readHold 70 = .ok (.invokevirtual 197, 3) := by decide +kernel
theorem dX4_readHold_73 : decode cX4_readHold 73 = .ok (.return_, 1) := by decide +kernel
theorem dX4_readTest_0 : decode cX4_readTest 0 = .ok (.aload_n 0, 1) := by decide +kernel
theorem dX4_readTest_1 : decode cX4_readTest 1 = .ok (.iload_n 1, 1) := by decide +kernel
theorem dX4_readTest_2 : decode cX4_readTest 2 = .ok (.invokevirtual 200, 3) := by decide +kernel
theorem dX4_readTest_5 : decode cX4_readTest 5 = .ok (.iconst 0, 1) := by decide +kernel
theorem dX4_readTest_6 : decode cX4_readTest 6 = .ok (.istore_n 2, 1) := by decide +kernel
theorem dX4_readTest_7 : decode cX4_readTest 7 = .ok (.iload_n 2, 1) := by decide +kernel
theorem dX4_readTest_8 : decode cX4_readTest 8 = .ok (.sipush 400, 3) := by decide +kernel
theorem dX4_readTest_11 : decode cX4_readTest 11 = .ok (.if_icmp .ge 31, 3) := by decide +kernel
theorem dX4_readTest_14 : decode cX4_readTest 14 = .ok (.aload_n 0, 1) := by decide +kernel
theorem dX4_readTest_15 : decode cX4_readTest 15 = .ok (.getstatic 203, 3) := by decide +kernel
theorem dX4_readTest_18 : decode cX4_readTest 18 = .ok (.invokevirtual 56, 3) := by decide +kernel
theorem dX4_readTest_21 : decode cX4_readTest 21 = .ok (.ifCond .eq 21, 3) := by decide +kernel
theorem dX4_readTest_24 : decode cX4_readTest 24 = .ok (.aload_n 0, 1) := by decide +kernel
theorem dX4_readTest_25 : decode cX4_readTest 25 = .ok (.iload_n 1, 1) := by decide +kernel
theorem dX4_readTest_26 : decode cX4_readTest 26 = .ok (.invokevirtual 200, 3) := by decide +kernel
theorem dX4_readTest_29 : decode cX4_readTest 29 = .ok (.aload_n 0, 1) := by decide +kernel
theorem dX4_readTest_30 : decode cX4_readTest 30 = .ok (.bipush 10, 2) := by decide +kernel
theorem dX4_readTest_32 : decode cX4_readTest 32 = .ok (.iconst 0, 1) := by decide +kernel
theorem dX4_readTest_33 : decode cX4_readTest 33 = .ok (.invokevirtual 206, 3) := by decide +kernel
theorem dX4_readTest_36 : decode cX4_readTest 36 = .ok (.iinc 2 1, 3) := by decide +kernel
theorem dX4_readTest_39 : decode cX4_readTest 39 = .ok (.goto (-32), 3) := by decide +kernel
theorem dX4_readTest_42 : decode cX4_readTest 42 = .ok (.return_, 1) := by decide +kernel
theorem dX4_readBoth_0 : decode cX4_readBoth 0 = .ok (.aload_n 0, 1) := by decide +kernel
theorem dX4_readBoth_1 : decode cX4_readBoth 1 = .ok (.iload_n 1, 1) := by decide +kernel
theorem dX4_readBoth_2 : decode cX4_readBoth 2 = .ok (.invokevirtual 210, 3) := by decide +kernel
theorem dX4_readBoth_5 : decode cX4_readBoth 5 = .ok (.iconst 0, 1) := by decide +kernel
theorem dX4_readBoth_6 : decode cX4_readBoth 6 = .ok (.istore_n 2, 1) := by decide +kernel
theorem dX4_readBoth_7 : decode cX4_readBoth 7 = .ok (.iload_n 2, 1) := by decide +kernel
theorem dX4_readBoth_8 : decode cX4_readBoth 8 = .ok (.sipush 400, 3) := by decide +kernel
theorem dX4_readBoth_11 : decode cX4_readBoth 11 = .ok (.if_icmp .ge 31, 3) := by decide +kernel
theorem dX4_readBoth_14 : decode cX4_readBoth 14 = .ok (.aload_n 0, 1) := by decide +kernel
theorem dX4_readBoth_15 : decode cX4_readBoth 15 = .ok (.getstatic 134, 3) := by decide +kernel
theorem dX4_readBoth_18 : decode cX4_readBoth 18 = .ok (.invokevirtual 56, 3) := by decide +kernel
theorem dX4_readBoth_21 : decode cX4_readBoth 21 = .ok (.ifCond .eq 21, 3) := by decide +kernel
theorem dX4_readBoth_24 : decode cX4_readBoth 24 = .ok (.aload_n 0, 1) := by decide +kernel
theorem dX4_readBoth_25 : decode cX4_readBoth 25 = .ok (.iload_n 1, 1) := by decide +kernel
theorem dX4_readBoth_26 : decode cX4_readBoth 26 = .ok (.invokevirtual 210, 3) := by decide +kernel
theorem dX4_readBoth_29 : decode cX4_readBoth 29 = .ok (.aload_n 0, 1) := by decide +kernel
theorem dX4_readBoth_30 : decode cX4_readBoth 30 = .ok (.bipush 9, 2) := by decide +kernel
theorem dX4_readBoth_32 : decode cX4_readBoth 32 = .ok (.iconst 0, 1) := by decide +kernel
theorem dX4_readBoth_33 : decode cX4_readBoth 33 = .ok (.invokevirtual 206, 3) := by decide +kernel
theorem dX4_readBoth_36 : decode cX4_readBoth 36 = .ok (.iinc 2 1, 3) := by decide +kernel
theorem dX4_readBoth_39 : decode cX4_readBoth 39 = .ok (.goto (-32), 3) := by decide +kernel
theorem dX4_readBoth_42 : decode cX4_readBoth 42 = .ok (.return_, 1) := by decide +kernel
theorem dX4_readSingle_0 : decode cX4_readSingle 0 = .ok (.aload_n 0, 1) := by decide +kernel
theorem dX4_readSingle_1 : decode cX4_readSingle 1 = .ok (.getfield 21, 3) := by decide +kernel
theorem dX4_readSingle_4 : decode cX4_readSingle 4 = .ok (.invokevirtual 41, 3) := by decide +kernel
theorem dX4_readSingle_7 : decode cX4_readSingle 7 = .ok (.getstatic 213, 3) := by decide +kernel
theorem dX4_readSingle_10 : decode cX4_readSingle 10 = .ok (.if_acmp .ne 31, 3) := by decide +kernel
theorem dX4_readSingle_13 : decode cX4_readSingle 13 = .ok (.aload_n 0, 1) := by decide +kernel
theorem dX4_readSingle_14 : decode cX4_readSingle 14 = .ok (.getstatic 213, 3) := by decide +kernel
theorem dX4_readSingle_17 : decode cX4_readSingle 17 = .ok (.iload_n 1, 1) := by decide +kernel
theorem dX4_readSingle_18 : decode cX4_readSingle 18 = .ok (.invokevirtual 216, 3) := by decide +kernel
theorem dX4_readSingle_21 : decode cX4_readSingle 21 = .ok (.ifCond .eq 174, 3) := by decide +kernel
theorem dX4_readSingle_24 : decode cX4_readSingle 24 = .ok (.aload_n 0, 1) := by decide +kernel
theorem dX4_readSingle_25 : decode cX4_readSingle 25 = .ok (.iload_n 1, 1) := by decide +kernel
theorem dX4_readSingle_26 : decode cX4_readSingle 26 = .ok (.iconst 1, 1) := by decide +kernel
theorem dX4_readSingle_27 : decode cX4_readSingle 27 = .ok (.iadd, 1) := by decide +kernel
theorem dX4_readSingle_28 : decode cX4_readSingle 28 = .ok (.invokevirtual 210, 3) := by decide +kernel
theorem dX4_readSingle_31 : decode cX4_readSingle 31 = .ok (.aload_n 0, 1) := by decide +kernel
theorem dX4_readSingle_32 : decode cX4_readSingle 32 = .ok (.bipush 8, 2) := by decide +kernel
theorem dX4_readSingle_34 : decode cX4_readSingle 34 = .ok (.iconst 0, 1) := by decide +kernel
theorem dX4_readSingle_35 : decode cX4_readSingle 35 = .ok (.invokevirtual 206, 3) := by decide +kernel
theorem dX4_readSingle_38 : decode cX4_readSingle 38 = .ok (.goto 157, 3) := by decide +kernel
theorem dX4_readSingle_41 : decode cX4_readSingle 41 = .ok (.aload_n 0, 1) := by decide +kernel
theorem dX4_readSingle_42 : decode cX4_readSingle 42 = .ok (.getfield 21, 3) := by decide +kernel
theorem dX4_readSingle_45 : decode cX4_readSingle 45 = .ok (.invokevirtual 41, 3) := by decide +kernel
theorem dX4_readSingle_48 : decode cX4_readSingle 48 = .ok (.getstatic 220, 3) := by decide +kernel
theorem dX4_readSingle_51 : decode cX4_readSingle 51 = .ok (.if_acmp .ne 31, 3) := by decide +kernel
theorem dX4_readSingle_54 : decode cX4_readSingle 54 = .ok (.aload_n 0, 1) := by decide +kernel
theorem dX4_readSingle_55 : decode cX4_readSingle 55 = .ok (.getstatic 220, 3) := by decide +kernel
theorem dX4_readSingle_58 : decode cX4_readSingle 58 = .ok (.iload_n 1, 1) := by decide +kernel
theorem dX4_readSingle_59 : decode cX4_readSingle 59 = .ok (.invokevirtual 216, 3) := by decide +kernel
theorem dX4_readSingle_62 : decode cX4_readSingle 62 = .ok (.ifCond .eq 133, 3) := by decide +kernel
theorem dX4_readSingle_65 : decode cX4_readSingle 65 = .ok (.aload_n 0, 1) := by decide +kernel
theorem dX4_readSingle_66 : decode cX4_readSingle 66 = .ok (.iload_n 1, 1) := by decide +kernel
theorem dX4_readSingle_67 : decode cX4_readSingle 67 = .ok (.iconst 1, 1) := by decide +kernel
theorem dX4_readSingle_68 : decode cX4_readSingle 68 = .ok (.iadd, 1) := by decide +kernel
theorem dX4_readSingle_69 : decode cX4_readSingle 69 = .ok (.invokevirtual 194, 3) := by decide +kernel
theorem dX4_readSingle_72 : decode cX4_readSingle 72 = .ok (.aload_n 0, 1) := by decide +kernel
theorem dX4_readSingle_73 : decode cX4_readSingle 73 = .ok (.getstatic 223, 3) := by decide +kernel
theorem dX4_readSingle_76 : decode cX4_readSingle 76 = .ok (.invokevirtual 93, 3) := by decide +kernel
theorem dX4_readSingle_79 : decode cX4_readSingle 79 = .ok (.goto 116, 3) := by decide +kernel
theorem dX4_readSingle_82 : decode cX4_readSingle 82 = .ok (.aload_n 0, 1) := by decide +kernel
theorem dX4_readSingle_83 : decode cX4_readSingle 83 = .ok (.getstatic 226, 3) := by decide +kernel
theorem dX4_readSingle_86 : decode cX4_readSingle 86 = .ok (.invokevirtual 56, 3) := by decide +kernel
theorem dX4_readSingle_89 : decode cX4_readSingle 89 = .ok (.ifCond .eq 26, 3) := by decide +kernel
theorem dX4_readSingle_92 : decode cX4_readSingle 92 = .ok (.aload_n 0, 1) := by decide +kernel
theorem dX4_readSingle_93 : decode cX4_readSingle 93 = .ok (.iconst 5, 1) := by decide +kernel
theorem dX4_readSingle_94 : decode cX4_readSingle 94 = .ok (.aload_n 0, 1) := by decide +kernel
theorem dX4_readSingle_95 : decode cX4_readSingle 95 = .ok (.aload_n 0, 1) := by decide +kernel
theorem dX4_readSingle_96 : decode cX4_readSingle 96 = .ok (.getfield 15, 3) := by decide +kernel
theorem dX4_readSingle_99 : decode cX4_readSingle 99 = .ok (.aload_n 0, 1) := by decide +kernel
theorem dX4_readSingle_100 : decode cX4_readSingle 100 = .ok (.getfield 25, 3) := by decide +kernel
theorem dX4_readSingle_103 : decode cX4_readSingle 103 = .ok (.getfield 124, 3) := by decide +kernel
theorem dX4_readSingle_106 : decode cX4_readSingle 106 = .ok (.invokevirtual 130, 3) := by decide +kernel
theorem dX4_readSingle_109 : decode cX4_readSingle 109 = .ok (.invokevirtual 206, 3) := by decide +kernel
theorem dX4_readSingle_112 : decode cX4_readSingle 112 = .ok (.goto 83, 3) := by decide +kernel
theorem dX4_readSingle_115 : decode cX4_readSingle 115 = .ok (.aload_n 0, 1) := by decide +kernel
theorem dX4_readSingle_116 : decode cX4_readSingle 116 = .ok (.getstatic 229, 3) := by decide +kernel
theorem dX4_readSingle_119 : decode cX4_readSingle 119 = .ok (.invokevirtual 56, 3) := by decide +kernel
theorem dX4_readSingle_122 : decode cX4_readSingle 122 = .ok (.ifCond .eq 27, 3) := by decide +kernel
theorem dX4_readSingle_125 : decode cX4_readSingle 125 = .ok (.aload_n 0, 1) := by decide +kernel
theorem dX4_readSingle_126 : decode cX4_readSingle 126 = .ok (.bipush 6, 2) := by decide +kernel
theorem dX4_readSingle_128 : decode cX4_readSingle 128 = .ok (.aload_n 0, 1) := by decide +kernel
theorem dX4_readSingle_129 : decode cX4_readSingle 129 = .ok (.aload_n 0, 1) := by decide +kernel
theorem dX4_readSingle_130 : decode cX4_readSingle 130 = .ok (.getfield 18, 3) := by decide +kernel
theorem dX4_readSingle_133 : decode cX4_readSingle 133 = .ok (.aload_n 0, 1) := by decide +kernel
theorem dX4_readSingle_134 : decode cX4_readSingle 134 = .ok (.getfield 25, 3) := by decide +kernel
theorem dX4_readSingle_137 : decode cX4_readSingle 137 = .ok (.getfield 167, 3) := by decide +kernel
theorem dX4_readSingle_140 : decode cX4_readSingle 140 = .ok (.invokevirtual 130, 3) := by decide +kernel
theorem dX4_readSingle_143 : decode cX4_readSingle 143 = .ok (.invokevirtual 206, 3) := by decide +kernel
theorem dX4_readSingle_146 : decode cX4_readSingle 146 = .ok (.goto 49, 3) := by decide +kernel
theorem dX4_readSingle_149 : decode cX4_readSingle 149 = .ok (.aload_n 0, 1) := by decide +kernel
theorem dX4_readSingle_150 : decode cX4_readSingle 150 = .ok (.iload_n 1, 1) := by decide +kernel
theorem dX4_readSingle_151 : decode cX4_readSingle 151 = .ok (.invokevirtual 232, 3) := by decide +kernel
theorem dX4_readSingle_154 : decode cX4_readSingle 154 = .ok (.aload_n 0, 1) := by decide +kernel
theorem dX4_readSingle_155 : decode cX4_readSingle 155 = .ok (.getfield 21, 3) := by decide +kernel
theorem dX4_readSingle_158 : decode cX4_readSingle 158 = .ok (.invokevirtual 41, 3) := by decide +kernel
theorem dX4_readSingle_161 : decode cX4_readSingle 161 = .ok (.invokestatic 235, 3) := by decide +kernel
theorem dX4_readSingle_164 : decode cX4_readSingle 164 = .ok (.istore_n 2, 1) := by decide +kernel
theorem dX4_readSingle_165 : decode cX4_readSingle 165 = .ok (.iload_n 2, 1) := by decide +kernel
theorem dX4_readSingle_166 : decode cX4_readSingle 166 = .ok (.iconst (-1), 1) := by decide +kernel
theorem dX4_readSingle_167 : decode cX4_readSingle 167 = .ok (.if_icmp .ne 10, 3) := by decide +kernel
theorem dX4_readSingle_170 : decode cX4_readSingle 170 = .ok (.aload_n 0, 1) := by decide +kernel
theorem dX4_readSingle_171 : decode cX4_readSingle 171 = .ok (.invokevirtual 87, 3) := by decide +kernel
theorem dX4_readSingle_174 : decode cX4_readSingle 174 = .ok (.goto 21, 3) := by decide +kernel
theorem dX4_readSingle_177 : decode cX4_readSingle 177 = .ok (.aload_n 0, 1) := by decide +kernel
theorem dX4_readSingle_178 : decode cX4_readSingle 178 = .ok (.getfield 21, 3) := by decide +kernel
theorem dX4_readSingle_181 : decode cX4_readSingle 181 = .ok (.invokevirtual 239, 3) := by decide +kernel
theorem dX4_readSingle_184 : decode cX4_readSingle 184 = .ok (.aload_n 0, 1) := by decide +kernel
theorem dX4_readSingle_185 : decode cX4_readSingle 185 = .ok (.iload_n 1, 1) := by decide +kernel
theorem dX4_readSingle_186 : decode cX4_readSingle 186 = .ok (.invokevirtual 232, 3) := by decide +kernel
theorem dX4_readSingle_189 : decode cX4_readSingle 189 = .ok (.aload_n 0, 1) := by decide +kernel
theorem dX4_readSingle_190 : decode cX4_readSingle 190 = .ok (.iload_n 2, 1) := by decide +kernel
theorem dX4_readSingle_191 : decode cX4_readSingle 191 = .ok (.iconst 0, 1) := by decide +kernel
theorem dX4_readSingle_192 : decode cX4_readSingle 192 = .ok (.invokevirtual 206, 3) := by decide +kernel
theorem dX4_readSingle_195 : decode cX4_readSingle 195 = .ok (.return_, 1) := by decide +kernel
theorem dX4_comparisonOf_0 : decode cX4_comparisonOf 0 = .ok (.aload_n 0, 1) := by decide +kernel
theorem dX4_comparisonOf_1 : decode cX4_comparisonOf 1 = .ok (.getstatic 242, 3) := by decide +kernel
theorem dX4_comparisonOf_4 : decode cX4_comparisonOf 4 = .ok (.if_acmp .ne 6, 3) := by decide +kernel
theorem dX4_comparisonOf_7 : decode cX4_comparisonOf 7 = .ok (.bipush 11, 2) := by decide +kernel
theorem dX4_comparisonOf_9 : decode cX4_comparisonOf 9 = .ok (.ireturn, 1) := by decide +kernel
theorem dX4_comparisonOf_10 : decode cX4_comparisonOf 10 = .ok (.aload_n 0, 1) := by decide +kernel
theorem dX4_comparisonOf_11 : decode cX4_comparisonOf 11 = .ok (.getstatic 245, 3) := by decide +kernel
theorem dX4_comparisonOf_14 : decode cX4_comparisonOf 14 = .ok (.if_acmp .ne 6, 3) := by decide +kernel
theorem dX4_comparisonOf_17 : decode cX4_comparisonOf 17 = .ok (.bipush 12, 2) := by decide +kernel
theorem dX4_comparisonOf_19 : decode cX4_comparisonOf 19 = .ok (.ireturn, 1) := by decide +kernel
theorem dX4_comparisonOf_20 : decode cX4_comparisonOf 20 = .ok (.aload_n 0, 1) := by decide +kernel
theorem dX4_comparisonOf_21 : decode cX4_comparisonOf 21 = .ok (.getstatic 248, 3) := by decide +kernel
theorem dX4_comparisonOf_24 : decode cX4_comparisonOf 24 = .ok (.if_acmp .ne 6, 3) := by decide +kernel
theorem dX4_comparisonOf_27 : decode cX4_comparisonOf 27 = .ok (.bipush 13, 2) := by decide +kernel
theorem dX4_comparisonOf_29 : decode cX4_comparisonOf 29 = .ok (.ireturn, 1) := by decide +kernel
theorem dX4_comparisonOf_30 : decode cX4_comparisonOf 30 = .ok (.aload_n 0, 1) := by decide +kernel
theorem dX4_comparisonOf_31 : decode cX4_comparisonOf 31 = .ok (.getstatic 251, 3) := by decide +kernel
theorem dX4_comparisonOf_34 : decode cX4_comparisonOf 34 = .ok (.if_acmp .ne 6, 3) := by decide +kernel
theorem dX4_comparisonOf_37 : decode cX4_comparisonOf 37 = .ok (.bipush 14, 2) := by decide +kernel
theorem dX4_comparisonOf_39 : decode cX4_comparisonOf 39 = .ok (.ireturn, 1) := by decide +kernel
theorem dX4_comparisonOf_40 : decode cX4_comparisonOf 40 = .ok (.aload_n 0, 1) := by decide +kernel
theorem dX4_comparisonOf_41 : decode cX4_comparisonOf 41 = .ok (.getstatic 254, 3) := by decide +kernel
theorem dX4_comparisonOf_44 : decode cX4_comparisonOf 44 = .ok (.if_acmp .ne 8, 3) := by decide +kernel
theorem dX4_comparisonOf_47 : decode cX4_comparisonOf 47 = .ok (.bipush 15, 2) := by decide +kernel
theorem dX4_comparisonOf_49 : decode cX4_comparisonOf 49 = .ok (.goto 4, 3) := by decide +kernel
theorem dX4_comparisonOf_52 : decode cX4_comparisonOf 52 = .ok (.iconst (-1), 1) := by decide +kernel
theorem dX4_comparisonOf_53 : decode cX4_comparisonOf 53 = .ok (.ireturn, 1) := by decide +kernel
theorem dX4_readSum_0 : decode cX4_readSum 0 = .ok (.aload_n 0, 1) := by decide +kernel
theorem dX4_readSum_1 : decode cX4_readSum 1 = .ok (.iload_n 1, 1) := by decide +kernel
theorem dX4_readSum_2 : decode cX4_readSum 2 = .ok (.invokevirtual 257, 3) := by decide +kernel
theorem dX4_readSum_5 : decode cX4_readSum 5 = .ok (.iconst 0, 1) := by decide +kernel
theorem dX4_readSum_6 : decode cX4_readSum 6 = .ok (.istore_n 2, 1) := by decide +kernel
theorem dX4_readSum_7 : decode cX4_readSum 7 = .ok (.iload_n 2, 1) := by decide +kernel
theorem dX4_readSum_8 : decode cX4_readSum 8 = .ok (.sipush 400, 3) := by decide +kernel
theorem dX4_readSum_11 : decode cX4_readSum 11 = .ok (.if_icmp .ge 71, 3) := by decide +kernel
theorem dX4_readSum_14 : decode cX4_readSum 14 = .ok (.aload_n 0, 1) := by decide +kernel
theorem dX4_readSum_15 : decode cX4_readSum 15 = .ok (.getfield 21, 3) := by decide +kernel
theorem dX4_readSum_18 : decode cX4_readSum 18 = .ok (.invokevirtual 41, 3) := by decide +kernel
theorem dX4_readSum_21 : decode cX4_readSum 21 = .ok (.getstatic 260, 3) := by decide +kernel
theorem dX4_readSum_24 : decode cX4_readSum 24 = .ok (.if_acmp .ne 8, 3) := by decide +kernel
theorem dX4_readSum_27 : decode cX4_readSum 27 = .ok (.bipush 16, 2) := by decide +kernel
theorem dX4_readSum_29 : decode cX4_readSum 29 = .ok (.goto 22, 3) := by decide +kernel
theorem dX4_readSum_32 : decode cX4_readSum 32 = .ok (.aload_n 0, 1) := by decide +kernel
theorem dX4_readSum_33 : decode cX4_readSum 33 = .ok (.getfield 21, 3) := by decide +kernel
theorem dX4_readSum_36 : decode cX4_readSum 36 = .ok (.invokevirtual 41, 3) := by decide +kernel
theorem dX4_readSum_39 : decode cX4_readSum 39 = .ok (.getstatic 263, 3) := by decide +kernel
theorem dX4_readSum_42 : decode cX4_readSum 42 = .ok (.if_acmp .ne 8, 3) := by decide +kernel
theorem dX4_readSum_45 : decode cX4_readSum 45 = .ok (.bipush 17, 2) := by decide +kernel
theorem dX4_readSum_47 : decode cX4_readSum 47 = .ok (.goto 4, 3) := by decide +kernel
theorem dX4_readSum_50 : decode cX4_readSum 50 = .ok (.iconst (-1), 1) := by decide +kernel
theorem dX4_readSum_51 : decode cX4_readSum 51 = .ok (.istore_n 3, 1) := by decide +kernel
theorem dX4_readSum_52 : decode cX4_readSum 52 = .ok (.iload_n 3, 1) := by decide +kernel
theorem dX4_readSum_53 : decode cX4_readSum 53 = .ok (.iconst (-1), 1) := by decide +kernel
theorem dX4_readSum_54 : decode cX4_readSum 54 = .ok (.if_icmp .ne 4, 3) := by decide +kernel
theorem dX4_readSum_57 : decode cX4_readSum 57 = .ok (.return_, 1) := by decide +kernel
theorem dX4_readSum_58 : decode cX4_readSum 58 = .ok (.aload_n 0, 1) := by decide +kernel
theorem dX4_readSum_59 : decode cX4_readSum 59 = .ok (.getfield 21, 3) := by decide +kernel
theorem dX4_readSum_62 : decode cX4_readSum 62 = .ok (.invokevirtual 239, 3) := by decide +kernel
theorem dX4_readSum_65 : decode cX4_readSum 65 = .ok (.aload_n 0, 1) := by decide +kernel
theorem dX4_readSum_66 : decode cX4_readSum 66 = .ok (.iload_n 1, 1) := by decide +kernel
theorem dX4_readSum_67 : decode cX4_readSum 67 = .ok (.invokevirtual 257, 3) := by decide +kernel
theorem dX4_readSum_70 : decode cX4_readSum 70 = .ok (.aload_n 0, 1) := by decide +kernel
theorem dX4_readSum_71 : decode cX4_readSum 71 = .ok (.iload_n 3, 1) := by decide +kernel
theorem dX4_readSum_72 : decode cX4_readSum 72 = .ok (.iconst 0, 1) := by decide +kernel
theorem dX4_readSum_73 : decode cX4_readSum 73 = .ok (.invokevirtual 206, 3) := by decide +kernel
theorem dX4_readSum_76 : decode cX4_readSum 76 = .ok (.iinc 2 1, 3) := by decide +kernel
theorem dX4_readSum_79 : decode cX4_readSum 79 = .ok (.goto (-72), 3) := by decide +kernel
theorem dX4_readSum_82 : decode cX4_readSum 82 = .ok (.return_, 1) := by decide +kernel
theorem dX4_readProduct_0 : decode cX4_readProduct 0 = .ok (.aload_n 0, 1) := by decide +kernel
theorem dX4_readProduct_1 : decode cX4_readProduct 1 = .ok (.iload_n 1, 1) := by decide +kernel
theorem dX4_readProduct_2 : decode cX4_readProduct 2 = .ok (.invokevirtual 266, 3) := by decide +kernel
theorem dX4_readProduct_5 : decode cX4_readProduct 5 = .ok (.iconst 0, 1) := by decide +kernel
theorem dX4_readProduct_6 : decode cX4_readProduct 6 = .ok (.istore_n 2, 1) := by decide +kernel
theorem dX4_readProduct_7 : decode cX4_readProduct 7 = .ok (.iload_n 2, 1) := by decide +kernel
theorem dX4_readProduct_8 : decode cX4_readProduct 8 = .ok (.sipush 400, 3) := by decide +kernel
theorem dX4_readProduct_11 : decode cX4_readProduct 11 = .ok (.if_icmp .ge 71, 3) := by decide +kernel
theorem dX4_readProduct_14 : decode cX4_readProduct 14 = .ok (.aload_n 0, 1) := by decide +kernel
theorem dX4_readProduct_15 : decode cX4_readProduct 15 = .ok (.getfield 21, 3) := by decide +kernel
theorem dX4_readProduct_18 : decode cX4_readProduct 18 = .ok (.invokevirtual 41, 3) := by decide +kernel
theorem dX4_readProduct_21 : decode cX4_readProduct 21 = .ok (.getstatic 269, 3) := by decide +kernel
theorem dX4_readProduct_24 : decode cX4_readProduct 24 = .ok (.if_acmp .ne 8, 3) := by decide +kernel
theorem dX4_readProduct_27 : decode cX4_readProduct 27 = .ok (.bipush 18, 2) := by decide +kernel
theorem dX4_readProduct_29 : decode cX4_readProduct 29 = .ok (.goto 22, 3) := by decide +kernel
theorem dX4_readProduct_32 : decode cX4_readProduct 32 = .ok (.aload_n 0, 1) := by decide +kernel
theorem dX4_readProduct_33 : decode cX4_readProduct 33 = .ok (.getfield 21, 3) := by decide +kernel
theorem dX4_readProduct_36 : decode cX4_readProduct 36 = .ok (.invokevirtual 41, 3) := by decide +kernel
theorem dX4_readProduct_39 : decode cX4_readProduct 39 = .ok (.getstatic 272, 3) := by decide +kernel
theorem dX4_readProduct_42 : decode cX4_readProduct 42 = .ok (.if_acmp .ne 8, 3) := by decide +kernel
theorem dX4_readProduct_45 : decode cX4_readProduct 45 = .ok (.bipush 19, 2) := by decide +kernel
theorem dX4_readProduct_47 : decode cX4_readProduct 47 = .ok (.goto 4, 3) := by decide +kernel
theorem dX4_readProduct_50 : decode cX4_readProduct 50 = .ok (.iconst (-1), 1) := by decide +kernel
theorem dX4_readProduct_51 : decode cX4_readProduct 51 = .ok (.istore_n 3, 1) := by decide +kernel
theorem dX4_readProduct_52 : decode cX4_readProduct 52 = .ok (.iload_n 3, 1) := by decide +kernel
theorem dX4_readProduct_53 : decode cX4_readProduct 53 = .ok (.iconst (-1), 1) := by decide +kernel
theorem dX4_readProduct_54 : decode cX4_readProduct 54 = .ok (.if_icmp .ne 4, 3) := by decide +kernel
theorem dX4_readProduct_57 : decode cX4_readProduct 57 = .ok (.return_, 1) := by decide +kernel
theorem dX4_readProduct_58 : decode cX4_readProduct 58 = .ok (.aload_n 0, 1) := by decide +kernel
theorem dX4_readProduct_59 : decode cX4_readProduct 59 = .ok (.getfield 21, 3) := by decide +kernel
theorem dX4_readProduct_62 : decode cX4_readProduct 62 = .ok (.invokevirtual 239, 3) := by decide +kernel
theorem dX4_readProduct_65 : decode cX4_readProduct 65 = .ok (.aload_n 0, 1) := by decide +kernel
theorem dX4_readProduct_66 : decode cX4_readProduct 66 = .ok (.iload_n 1, 1) := by decide +kernel
theorem dX4_readProduct_67 : decode cX4_readProduct 67 = .ok (.invokevirtual 266, 3) := by decide +kernel
theorem dX4_readProduct_70 : decode cX4_readProduct 70 = .ok (.aload_n 0, 1) := by decide +kernel
theorem dX4_readProduct_71 : decode cX4_readProduct 71 = .ok (.iload_n 3, 1) := by decide +kernel
theorem dX4_readProduct_72 : decode cX4_readProduct 72 = .ok (.iconst 0, 1) := by decide +kernel
theorem dX4_readProduct_73 : decode cX4_readProduct 73 = .ok (.invokevirtual 206, 3) := by decide +kernel
theorem dX4_readProduct_76 : decode cX4_readProduct 76 = .ok (.iinc 2 1, 3) := by decide +kernel
theorem dX4_readProduct_79 : decode cX4_readProduct 79 = .ok (.goto (-72), 3) := by decide +kernel
theorem dX4_readProduct_82 : decode cX4_readProduct 82 = .ok (.return_, 1) := by decide +kernel
theorem dX4_readValue_0 : decode cX4_readValue 0 = .ok (.aload_n 0, 1) := by decide +kernel
theorem dX4_readValue_1 : decode cX4_readValue 1 = .ok (.getfield 21, 3) := by decide +kernel
theorem dX4_readValue_4 : decode cX4_readValue 4 = .ok (.invokevirtual 41, 3) := by decide +kernel
theorem dX4_readValue_7 : decode cX4_readValue 7 = .ok (.getstatic 275, 3) := by decide +kernel
theorem dX4_readValue_10 : decode cX4_readValue 10 = .ok (.if_acmp .ne 26, 3) := by decide +kernel
theorem dX4_readValue_13 : decode cX4_readValue 13 = .ok (.aload_n 0, 1) := by decide +kernel
theorem dX4_readValue_14 : decode cX4_readValue 14 = .ok (.iconst 0, 1) := by decide +kernel
theorem dX4_readValue_15 : decode cX4_readValue 15 = .ok (.aload_n 0, 1) := by decide +kernel
theorem dX4_readValue_16 : decode cX4_readValue 16 = .ok (.getfield 21, 3) := by decide +kernel
theorem dX4_readValue_19 : decode cX4_readValue 19 = .ok (.invokevirtual 278, 3) := by decide +kernel
theorem dX4_readValue_22 : decode cX4_readValue 22 = .ok (.l2i, 1) := by decide +kernel
theorem dX4_readValue_23 : decode cX4_readValue 23 = .ok (.invokevirtual 206, 3) := by decide +kernel
theorem dX4_readValue_26 : decode cX4_readValue 26 = .ok (.aload_n 0, 1) := by decide +kernel
theorem dX4_readValue_27 : decode cX4_readValue 27 = .ok (.getfield 21, 3) := by decide +kernel
theorem dX4_readValue_30 : decode cX4_readValue 30 = .ok (.invokevirtual 239, 3) := by decide +kernel
theorem dX4_readValue_33 : decode cX4_readValue 33 = .ok (.goto 247, 3) := by decide +kernel
theorem dX4_readValue_36 : decode cX4_readValue 36 = .ok (.aload_n 0, 1) := by decide +kernel
theorem dX4_readValue_37 : decode cX4_readValue 37 = .ok (.getstatic 282, 3) := by decide +kernel
theorem dX4_readValue_40 : decode cX4_readValue 40 = .ok (.invokevirtual 56, 3) := by decide +kernel
theorem dX4_readValue_43 : decode cX4_readValue 43 = .ok (.ifCond .eq 12, 3) := by decide +kernel
theorem dX4_readValue_46 : decode cX4_readValue 46 = .ok (.aload_n 0, 1) := by decide +kernel
theorem dX4_readValue_47 : decode cX4_readValue 47 = .ok (.iconst 1, 1) := by decide +kernel
theorem dX4_readValue_48 : decode cX4_readValue 48 = .ok (.iconst 0, 1) := by decide +kernel
theorem dX4_readValue_49 : decode cX4_readValue 49 = .ok (.invokevirtual 206, 3) := by decide +kernel
theorem dX4_readValue_52 : decode cX4_readValue 52 = .ok (.goto 228, 3) := by decide +kernel
theorem dX4_readValue_55 : decode cX4_readValue 55 = .ok (.aload_n 0, 1) := by decide +kernel
theorem dX4_readValue_56 : decode cX4_readValue 56 = .ok (.getstatic 285, 3) := by decide +kernel
theorem dX4_readValue_59 : decode cX4_readValue 59 = .ok (.invokevirtual 56, 3) := by decide +kernel
theorem dX4_readValue_62 : decode cX4_readValue 62 = .ok (.ifCond .eq 26, 3) := by decide +kernel
theorem dX4_readValue_65 : decode cX4_readValue 65 = .ok (.aload_n 0, 1) := by decide +kernel
theorem dX4_readValue_66 : decode cX4_readValue 66 = .ok (.iconst 2, 1) := by decide +kernel
theorem dX4_readValue_67 : decode cX4_readValue 67 = .ok (.aload_n 0, 1) := by decide +kernel
theorem dX4_readValue_68 : decode cX4_readValue 68 = .ok (.aload_n 0, 1) := by decide +kernel
theorem dX4_readValue_69 : decode cX4_readValue 69 = .ok (.getfield 9, 3) := by decide +kernel
theorem dX4_readValue_72 : decode cX4_readValue 72 = .ok (.aload_n 0, 1) := by decide +kernel
theorem dX4_readValue_73 : decode cX4_readValue 73 = .ok (.getfield 25, 3) := by decide +kernel
theorem dX4_readValue_76 : decode cX4_readValue 76 = .ok (.getfield 97, 3) := by decide +kernel
theorem dX4_readValue_79 : decode cX4_readValue 79 = .ok (.invokevirtual 130, 3) := by decide +kernel
theorem dX4_readValue_82 : decode cX4_readValue 82 = .ok (.invokevirtual 206, 3) := by decide +kernel
theorem dX4_readValue_85 : decode cX4_readValue 85 = .ok (.goto 195, 3) := by decide +kernel
theorem dX4_readValue_88 : decode cX4_readValue 88 = .ok (.aload_n 0, 1) := by decide +kernel
theorem dX4_readValue_89 : decode cX4_readValue 89 = .ok (.getstatic 288, 3) := by decide +kernel
theorem dX4_readValue_92 : decode cX4_readValue 92 = .ok (.invokevirtual 56, 3) := by decide +kernel
theorem dX4_readValue_95 : decode cX4_readValue 95 = .ok (.ifCond .eq 26, 3) := by decide +kernel
theorem dX4_readValue_98 : decode cX4_readValue 98 = .ok (.aload_n 0, 1) := by decide +kernel
theorem dX4_readValue_99 : decode cX4_readValue 99 = .ok (.iconst 3, 1) := by decide +kernel
theorem dX4_readValue_100 : decode cX4_readValue 100 = .ok (.aload_n 0, 1) := by decide +kernel
theorem dX4_readValue_101 : decode cX4_readValue 101 = .ok (.aload_n 0, 1) := by decide +kernel
theorem dX4_readValue_102 : decode cX4_readValue 102 = .ok (.getfield 18, 3) := by decide +kernel
theorem dX4_readValue_105 : decode cX4_readValue 105 = .ok (.aload_n 0, 1) := by decide +kernel
theorem dX4_readValue_106 : decode cX4_readValue 106 = .ok (.getfield 25, 3) := by decide +kernel
theorem dX4_readValue_109 : decode cX4_readValue 109 = .ok (.getfield 167, 3) := by decide +kernel
theorem dX4_readValue_112 : decode cX4_readValue 112 = .ok (.invokevirtual 130, 3) := by decide +kernel
theorem dX4_readValue_115 : decode cX4_readValue 115 = .ok (.invokevirtual 206, 3) := by decide +kernel
theorem dX4_readValue_118 : decode cX4_readValue 118 = .ok (.goto 162, 3) := by decide +kernel
theorem dX4_readValue_121 : decode cX4_readValue 121 = .ok (.aload_n 0, 1) := by decide +kernel
theorem dX4_readValue_122 : decode cX4_readValue 122 = .ok (.getstatic 291, 3) := by decide +kernel
theorem dX4_readValue_125 : decode cX4_readValue 125 = .ok (.invokevirtual 56, 3) := by decide +kernel
theorem dX4_readValue_128 : decode cX4_readValue 128 = .ok (.ifCond .eq 26, 3) := by decide +kernel
theorem dX4_readValue_131 : decode cX4_readValue 131 = .ok (.aload_n 0, 1) := by decide +kernel
theorem dX4_readValue_132 : decode cX4_readValue 132 = .ok (.iconst 4, 1) := by decide +kernel
theorem dX4_readValue_133 : decode cX4_readValue 133 = .ok (.aload_n 0, 1) := by decide +kernel
theorem dX4_readValue_134 : decode cX4_readValue 134 = .ok (.aload_n 0, 1) := by decide +kernel
theorem dX4_readValue_135 : decode cX4_readValue 135 = .ok (.getfield 18, 3) := by decide +kernel
theorem dX4_readValue_138 : decode cX4_readValue 138 = .ok (.aload_n 0, 1) := by decide +kernel
theorem dX4_readValue_139 : decode cX4_readValue 139 = .ok (.getfield 25, 3) := by decide +kernel
theorem dX4_readValue_142 : decode cX4_readValue 142 = .ok (.getfield 167, 3) := by decide +kernel
theorem dX4_readValue_145 : decode cX4_readValue 145 = .ok (.invokevirtual 130, 3) := by decide +kernel
theorem dX4_readValue_148 : decode cX4_readValue 148 = .ok (.invokevirtual 206, 3) := by decide +kernel
theorem dX4_readValue_151 : decode cX4_readValue 151 = .ok (.goto 129, 3) := by decide +kernel
theorem dX4_readValue_154 : decode cX4_readValue 154 = .ok (.aload_n 0, 1) := by decide +kernel
theorem dX4_readValue_155 : decode cX4_readValue 155 = .ok (.getfield 21, 3) := by decide +kernel
theorem dX4_readValue_158 : decode cX4_readValue 158 = .ok (.invokevirtual 41, 3) := by decide +kernel
theorem dX4_readValue_161 : decode cX4_readValue 161 = .ok (.getstatic 263, 3) := by decide +kernel
theorem dX4_readValue_164 : decode cX4_readValue 164 = .ok (.if_acmp .ne 31, 3) := by decide +kernel
theorem dX4_readValue_167 : decode cX4_readValue 167 = .ok (.aload_n 0, 1) := by decide +kernel
theorem dX4_readValue_168 : decode cX4_readValue 168 = .ok (.getstatic 263, 3) := by decide +kernel
theorem dX4_readValue_171 : decode cX4_readValue 171 = .ok (.iload_n 1, 1) := by decide +kernel
theorem dX4_readValue_172 : decode cX4_readValue 172 = .ok (.invokevirtual 216, 3) := by decide +kernel
theorem dX4_readValue_175 : decode cX4_readValue 175 = .ok (.ifCond .eq 105, 3) := by decide +kernel
theorem dX4_readValue_178 : decode cX4_readValue 178 = .ok (.aload_n 0, 1) := by decide +kernel
theorem dX4_readValue_179 : decode cX4_readValue 179 = .ok (.iload_n 1, 1) := by decide +kernel
theorem dX4_readValue_180 : decode cX4_readValue 180 = .ok (.iconst 1, 1) := by decide +kernel
theorem dX4_readValue_181 : decode cX4_readValue 181 = .ok (.iadd, 1) := by decide +kernel
theorem dX4_readValue_182 : decode cX4_readValue 182 = .ok (.invokevirtual 266, 3) := by decide +kernel
theorem dX4_readValue_185 : decode cX4_readValue 185 = .ok (.aload_n 0, 1) := by decide +kernel
theorem dX4_readValue_186 : decode cX4_readValue 186 = .ok (.bipush 7, 2) := by decide +kernel
theorem dX4_readValue_188 : decode cX4_readValue 188 = .ok (.iconst 0, 1) := by decide +kernel
theorem dX4_readValue_189 : decode cX4_readValue 189 = .ok (.invokevirtual 206, 3) := by decide +kernel
theorem dX4_readValue_192 : decode cX4_readValue 192 = .ok (.goto 88, 3) := by decide +kernel
theorem dX4_readValue_195 : decode cX4_readValue 195 = .ok (.aload_n 0, 1) := by decide +kernel
theorem dX4_readValue_196 : decode cX4_readValue 196 = .ok (.getfield 21, 3) := by decide +kernel
theorem dX4_readValue_199 : decode cX4_readValue 199 = .ok (.invokevirtual 41, 3) := by decide +kernel
theorem dX4_readValue_202 : decode cX4_readValue 202 = .ok (.getstatic 294, 3) := by decide +kernel
theorem dX4_readValue_205 : decode cX4_readValue 205 = .ok (.if_acmp .ne 31, 3) := by decide +kernel
theorem dX4_readValue_208 : decode cX4_readValue 208 = .ok (.aload_n 0, 1) := by decide +kernel
theorem dX4_readValue_209 : decode cX4_readValue 209 = .ok (.getstatic 294, 3) := by decide +kernel
theorem dX4_readValue_212 : decode cX4_readValue 212 = .ok (.iload_n 1, 1) := by decide +kernel
theorem dX4_readValue_213 : decode cX4_readValue 213 = .ok (.invokevirtual 216, 3) := by decide +kernel
theorem dX4_readValue_216 : decode cX4_readValue 216 = .ok (.ifCond .eq 64, 3) := by decide +kernel
theorem dX4_readValue_219 : decode cX4_readValue 219 = .ok (.aload_n 0, 1) := by decide +kernel
theorem dX4_readValue_220 : decode cX4_readValue 220 = .ok (.iload_n 1, 1) := by decide +kernel
theorem dX4_readValue_221 : decode cX4_readValue 221 = .ok (.iconst 1, 1) := by decide +kernel
theorem dX4_readValue_222 : decode cX4_readValue 222 = .ok (.iadd, 1) := by decide +kernel
theorem dX4_readValue_223 : decode cX4_readValue 223 = .ok (.invokevirtual 232, 3) := by decide +kernel
theorem dX4_readValue_226 : decode cX4_readValue 226 = .ok (.aload_n 0, 1) := by decide +kernel
theorem dX4_readValue_227 : decode cX4_readValue 227 = .ok (.getstatic 297, 3) := by decide +kernel
theorem dX4_readValue_230 : decode cX4_readValue 230 = .ok (.invokevirtual 93, 3) := by decide +kernel
theorem dX4_readValue_233 : decode cX4_readValue 233 = .ok (.goto 47, 3) := by decide +kernel
theorem dX4_readValue_236 : decode cX4_readValue 236 = .ok (.aload_n 0, 1) := by decide +kernel
theorem dX4_readValue_237 : decode cX4_readValue 237 = .ok (.getstatic 300, 3) := by decide +kernel
theorem dX4_readValue_240 : decode cX4_readValue 240 = .ok (.invokevirtual 56, 3) := by decide +kernel
theorem dX4_readValue_243 : decode cX4_readValue 243 = .ok (.ifCond .eq 13, 3) := by decide +kernel
theorem dX4_readValue_246 : decode cX4_readValue 246 = .ok (.aload_n 0, 1) := by decide +kernel
theorem dX4_readValue_247 : decode cX4_readValue 247 = .ok (.bipush 20, 2) := by decide +kernel
theorem dX4_readValue_249 : decode cX4_readValue 249 = .ok (.iload_n 1, 1) := by decide +kernel
theorem dX4_readValue_250 : decode cX4_readValue 250 = .ok (.invokevirtual 303, 3) := by decide +kernel
theorem dX4_readValue_253 : decode cX4_readValue 253 = .ok (.goto 27, 3) := by decide +kernel
theorem dX4_readValue_256 : decode cX4_readValue 256 = .ok (.aload_n 0, 1) := by decide +kernel
theorem dX4_readValue_257 : decode cX4_readValue 257 = .ok (.getstatic 306, 3) := by decide +kernel
theorem dX4_readValue_260 : decode cX4_readValue 260 = .ok (.invokevirtual 56, 3) := by decide +kernel
theorem dX4_readValue_263 : decode cX4_readValue 263 = .ok (.ifCond .eq 13, 3) := by decide +kernel
theorem dX4_readValue_266 : decode cX4_readValue 266 = .ok (.aload_n 0, 1) := by decide +kernel
theorem dX4_readValue_267 : decode cX4_readValue 267 = .ok (.bipush 21, 2) := by decide +kernel
theorem dX4_readValue_269 : decode cX4_readValue 269 = .ok (.iload_n 1, 1) := by decide +kernel
theorem dX4_readValue_270 : decode cX4_readValue 270 = .ok (.invokevirtual 303, 3) := by decide +kernel
theorem dX4_readValue_273 : decode cX4_readValue 273 = .ok (.goto 7, 3) := by decide +kernel
theorem dX4_readValue_276 : decode cX4_readValue 276 = .ok (.aload_n 0, 1) := by decide +kernel
theorem dX4_readValue_277 : decode cX4_readValue 277 = .ok (.invokevirtual 87, 3) := by decide +kernel
theorem dX4_readValue_280 : decode cX4_readValue 280 = .ok (.return_, 1) := by decide +kernel
theorem dX4_readTwoSums_0 : decode cX4_readTwoSums 0 = .ok (.aload_n 0, 1) := by decide +kernel
theorem dX4_readTwoSums_1 : decode cX4_readTwoSums 1 = .ok (.getstatic 294, 3) := by decide +kernel
theorem dX4_readTwoSums_4 : decode cX4_readTwoSums 4 = .ok (.iload_n 2, 1) := by decide +kernel
theorem dX4_readTwoSums_5 : decode cX4_readTwoSums 5 = .ok (.invokevirtual 216, 3) := by decide +kernel
theorem dX4_readTwoSums_8 : decode cX4_readTwoSums 8 = .ok (.ifCond .eq 37, 3) := by decide +kernel
theorem dX4_readTwoSums_11 : decode cX4_readTwoSums 11 = .ok (.aload_n 0, 1) := by decide +kernel
theorem dX4_readTwoSums_12 : decode cX4_readTwoSums 12 = .ok (.iload_n 2, 1) := by decide +kernel
theorem dX4_readTwoSums_13 : decode cX4_readTwoSums 13 = .ok (.iconst 1, 1) := by decide +kernel
theorem dX4_readTwoSums_14 : decode cX4_readTwoSums 14 = .ok (.iadd, 1) := by decide +kernel
theorem dX4_readTwoSums_15 : decode cX4_readTwoSums 15 = .ok (.invokevirtual 232, 3) := by decide +kernel
theorem dX4_readTwoSums_18 : decode cX4_readTwoSums 18 = .ok (.aload_n 0, 1) := by decide +kernel
theorem dX4_readTwoSums_19 : decode cX4_readTwoSums 19 = .ok (.getstatic 309, 3) := by decide +kernel
theorem dX4_readTwoSums_22 : decode cX4_readTwoSums 22 = .ok (.invokevirtual 93, 3) := by decide +kernel
theorem dX4_readTwoSums_25 : decode cX4_readTwoSums 25 = .ok (.aload_n 0, 1) := by decide +kernel
theorem dX4_readTwoSums_26 : decode cX4_readTwoSums 26 = .ok (.iload_n 2, 1) := by decide +kernel
theorem dX4_readTwoSums_27 : decode cX4_readTwoSums 27 = .ok (.iconst 1, 1) := by decide +kernel
theorem dX4_readTwoSums_28 : decode cX4_readTwoSums 28 = .ok (.iadd, 1) := by decide +kernel
theorem dX4_readTwoSums_29 : decode cX4_readTwoSums 29 = .ok (.invokevirtual 232, 3) := by decide +kernel
theorem dX4_readTwoSums_32 : decode cX4_readTwoSums 32 = .ok (.aload_n 0, 1) := by decide +kernel
theorem dX4_readTwoSums_33 : decode cX4_readTwoSums 33 = .ok (.getstatic 297, 3) := by decide +kernel
theorem dX4_readTwoSums_36 : decode cX4_readTwoSums 36 = .ok (.invokevirtual 93, 3) := by decide +kernel
theorem dX4_readTwoSums_39 : decode cX4_readTwoSums 39 = .ok (.aload_n 0, 1) := by decide +kernel
theorem dX4_readTwoSums_40 : decode cX4_readTwoSums 40 = .ok (.iload_n 1, 1) := by decide +kernel
theorem dX4_readTwoSums_41 : decode cX4_readTwoSums 41 = .ok (.iconst 0, 1) := by decide +kernel
theorem dX4_readTwoSums_42 : decode cX4_readTwoSums 42 = .ok (.invokevirtual 206, 3) := by decide +kernel
theorem dX4_readTwoSums_45 : decode cX4_readTwoSums 45 = .ok (.return_, 1) := by decide +kernel
theorem dX4_goDeeper_0 : decode cX4_goDeeper 0 = .ok (.iload_n 2, 1) := by decide +kernel
theorem dX4_goDeeper_1 : decode cX4_goDeeper 1 = .ok (.bipush 8, 2) := by decide +kernel
theorem dX4_goDeeper_3 : decode cX4_goDeeper 3 = .ok (.if_icmp .ge 13, 3) := by decide +kernel
theorem dX4_goDeeper_6 : decode cX4_goDeeper 6 = .ok (.aload_n 0, 1) := by decide +kernel

theorem dX0_init_0 : decode cX0_init 0 = .ok (.aload_n 0, 1) := by decide +kernel
theorem dX0_init_1 : decode cX0_init 1 = .ok (.invokespecial 3, 3) := by decide +kernel
theorem dX0_init_4 : decode cX0_init 4 = .ok (.aload_n 0, 1) := by decide +kernel
theorem dX0_init_5 : decode cX0_init 5 = .ok (.iconst (-1), 1) := by decide +kernel
theorem dX0_init_6 : decode cX0_init 6 = .ok (.putfield 9, 3) := by decide +kernel
theorem dX0_init_9 : decode cX0_init 9 = .ok (.aload_n 0, 1) := by decide +kernel
theorem dX0_init_10 : decode cX0_init 10 = .ok (.bipush 8, 2) := by decide +kernel
theorem dX0_init_12 : decode cX0_init 12 = .ok (.newarray .int, 2) := by decide +kernel
theorem dX0_init_14 : decode cX0_init 14 = .ok (.putfield 15, 3) := by decide +kernel
theorem dX0_init_17 : decode cX0_init 17 = .ok (.aload_n 0, 1) := by decide +kernel
theorem dX0_init_18 : decode cX0_init 18 = .ok (.bipush 8, 2) := by decide +kernel
theorem dX0_init_20 : decode cX0_init 20 = .ok (.newarray .int, 2) := by decide +kernel
theorem dX0_init_22 : decode cX0_init 22 = .ok (.putfield 19, 3) := by decide +kernel
theorem dX0_init_25 : decode cX0_init 25 = .ok (.aload_n 0, 1) := by decide +kernel
theorem dX0_init_26 : decode cX0_init 26 = .ok (.bipush 8, 2) := by decide +kernel
theorem dX0_init_28 : decode cX0_init 28 = .ok (.newarray .int, 2) := by decide +kernel
theorem dX0_init_30 : decode cX0_init 30 = .ok (.putfield 22, 3) := by decide +kernel
theorem dX0_init_33 : decode cX0_init 33 = .ok (.aload_n 0, 1) := by decide +kernel
theorem dX0_init_34 : decode cX0_init 34 = .ok (.bipush 8, 2) := by decide +kernel
theorem dX0_init_36 : decode cX0_init 36 = .ok (.newarray .int, 2) := by decide +kernel
theorem dX0_init_38 : decode cX0_init 38 = .ok (.putfield 25, 3) := by decide +kernel
theorem dX0_init_41 : decode cX0_init 41 = .ok (.aload_n 0, 1) := by decide +kernel
theorem dX0_init_42 : decode cX0_init 42 = .ok (.bipush 8, 2) := by decide +kernel
theorem dX0_init_44 : decode cX0_init 44 = .ok (.newarray .int, 2) := by decide +kernel
theorem dX0_init_46 : decode cX0_init 46 = .ok (.putfield 28, 3) := by decide +kernel
theorem dX0_init_49 : decode cX0_init 49 = .ok (.aload_n 0, 1) := by decide +kernel
theorem dX0_init_50 : decode cX0_init 50 = .ok (.bipush 8, 2) := by decide +kernel
theorem dX0_init_52 : decode cX0_init 52 = .ok (.newarray .int, 2) := by decide +kernel
theorem dX0_init_54 : decode cX0_init 54 = .ok (.putfield 31, 3) := by decide +kernel
theorem dX0_init_57 : decode cX0_init 57 = .ok (.aload_n 0, 1) := by decide +kernel
theorem dX0_init_58 : decode cX0_init 58 = .ok (.bipush 8, 2) := by decide +kernel
theorem dX0_init_60 : decode cX0_init 60 = .ok (.newarray .int, 2) := by decide +kernel
theorem dX0_init_62 : decode cX0_init 62 = .ok (.putfield 34, 3) := by decide +kernel
theorem dX0_init_65 : decode cX0_init 65 = .ok (.aload_n 0, 1) := by decide +kernel
theorem dX0_init_66 : decode cX0_init 66 = .ok (.bipush 8, 2) := by decide +kernel
theorem dX0_init_68 : decode cX0_init 68 = .ok (.newarray .int, 2) := by decide +kernel
theorem dX0_init_70 : decode cX0_init 70 = .ok (.putfield 37, 3) := by decide +kernel
theorem dX0_init_73 : decode cX0_init 73 = .ok (.aload_n 0, 1) := by decide +kernel
theorem dX0_init_74 : decode cX0_init 74 = .ok (.bipush 8, 2) := by decide +kernel
theorem dX0_init_76 : decode cX0_init 76 = .ok (.newarray .int, 2) := by decide +kernel
theorem dX0_init_78 : decode cX0_init 78 = .ok (.putfield 40, 3) := by decide +kernel
theorem dX0_init_81 : decode cX0_init 81 = .ok (.aload_n 0, 1) := by decide +kernel
theorem dX0_init_82 : decode cX0_init 82 = .ok (.bipush 12, 2) := by decide +kernel
theorem dX0_init_84 : decode cX0_init 84 = .ok (.newarray .int, 2) := by decide +kernel
theorem dX0_init_86 : decode cX0_init 86 = .ok (.putfield 43, 3) := by decide +kernel
theorem dX0_init_89 : decode cX0_init 89 = .ok (.aload_n 0, 1) := by decide +kernel
theorem dX0_init_90 : decode cX0_init 90 = .ok (.bipush 12, 2) := by decide +kernel
theorem dX0_init_92 : decode cX0_init 92 = .ok (.newarray .boolean, 2) := by decide +kernel
theorem dX0_init_94 : decode cX0_init 94 = .ok (.putfield 46, 3) := by decide +kernel
theorem dX0_init_97 : decode cX0_init 97 = .ok (.aload_n 0, 1) := by decide +kernel
theorem dX0_init_98 : decode cX0_init 98 = .ok (.bipush 8, 2) := by decide +kernel
theorem dX0_init_100 : decode cX0_init 100 = .ok (.newarray .int, 2) := by decide +kernel
theorem dX0_init_102 : decode cX0_init 102 = .ok (.putfield 50, 3) := by decide +kernel
theorem dX0_init_105 : decode cX0_init 105 = .ok (.aload_n 0, 1) := by decide +kernel
theorem dX0_init_106 : decode cX0_init 106 = .ok (.aload_n 1, 1) := by decide +kernel
theorem dX0_init_107 : decode cX0_init 107 = .ok (.putfield 53, 3) := by decide +kernel
theorem dX0_init_110 : decode cX0_init 110 = .ok (.return_, 1) := by decide +kernel
theorem dX0_begin_0 : decode cX0_begin 0 = .ok (.aload_n 0, 1) := by decide +kernel
theorem dX0_begin_1 : decode cX0_begin 1 = .ok (.aload_n 1, 1) := by decide +kernel
theorem dX0_begin_2 : decode cX0_begin 2 = .ok (.putfield 53, 3) := by decide +kernel
theorem dX0_begin_5 : decode cX0_begin 5 = .ok (.aload_n 0, 1) := by decide +kernel
theorem dX0_begin_6 : decode cX0_begin 6 = .ok (.iconst (-1), 1) := by decide +kernel
theorem dX0_begin_7 : decode cX0_begin 7 = .ok (.putfield 9, 3) := by decide +kernel
theorem dX0_begin_10 : decode cX0_begin 10 = .ok (.aload_n 0, 1) := by decide +kernel
theorem dX0_begin_11 : decode cX0_begin 11 = .ok (.iconst 0, 1) := by decide +kernel
theorem dX0_begin_12 : decode cX0_begin 12 = .ok (.putfield 57, 3) := by decide +kernel
theorem dX0_begin_15 : decode cX0_begin 15 = .ok (.iconst 0, 1) := by decide +kernel
theorem dX0_begin_16 : decode cX0_begin 16 = .ok (.istore_n 2, 1) := by decide +kernel
theorem dX0_begin_17 : decode cX0_begin 17 = .ok (.iload_n 2, 1) := by decide +kernel
theorem dX0_begin_18 : decode cX0_begin 18 = .ok (.bipush 8, 2) := by decide +kernel
theorem dX0_begin_20 : decode cX0_begin 20 = .ok (.if_icmp .ge 21, 3) := by decide +kernel
theorem dX0_begin_23 : decode cX0_begin 23 = .ok (.aload_n 0, 1) := by decide +kernel
theorem dX0_begin_24 : decode cX0_begin 24 = .ok (.getfield 15, 3) := by decide +kernel
theorem dX0_begin_27 : decode cX0_begin 27 = .ok (.iload_n 2, 1) := by decide +kernel
theorem dX0_begin_28 : decode cX0_begin 28 = .ok (.aload_n 1, 1) := by decide +kernel
theorem dX0_begin_29 : decode cX0_begin 29 = .ok (.getfield 60, 3) := by decide +kernel
theorem dX0_begin_32 : decode cX0_begin 32 = .ok (.iload_n 2, 1) := by decide +kernel
theorem dX0_begin_33 : decode cX0_begin 33 = .ok (.iaload, 1) := by decide +kernel
theorem dX0_begin_34 : decode cX0_begin 34 = .ok (.iastore, 1) := by decide +kernel
theorem dX0_begin_35 : decode cX0_begin 35 = .ok (.iinc 2 1, 3) := by decide +kernel
theorem dX0_begin_38 : decode cX0_begin 38 = .ok (.goto (-21), 3) := by decide +kernel
theorem dX0_begin_41 : decode cX0_begin 41 = .ok (.iconst 0, 1) := by decide +kernel
theorem dX0_begin_42 : decode cX0_begin 42 = .ok (.istore_n 2, 1) := by decide +kernel
theorem dX0_begin_43 : decode cX0_begin 43 = .ok (.iload_n 2, 1) := by decide +kernel
theorem dX0_begin_44 : decode cX0_begin 44 = .ok (.bipush 12, 2) := by decide +kernel
theorem dX0_begin_46 : decode cX0_begin 46 = .ok (.if_icmp .ge 16, 3) := by decide +kernel
theorem dX0_begin_49 : decode cX0_begin 49 = .ok (.aload_n 0, 1) := by decide +kernel
theorem dX0_begin_50 : decode cX0_begin 50 = .ok (.getfield 43, 3) := by decide +kernel
theorem dX0_begin_53 : decode cX0_begin 53 = .ok (.iload_n 2, 1) := by decide +kernel
theorem dX0_begin_54 : decode cX0_begin 54 = .ok (.iconst 0, 1) := by decide +kernel
theorem dX0_begin_55 : decode cX0_begin 55 = .ok (.iastore, 1) := by decide +kernel
theorem dX0_begin_56 : decode cX0_begin 56 = .ok (.iinc 2 1, 3) := by decide +kernel
theorem dX0_begin_59 : decode cX0_begin 59 = .ok (.goto (-16), 3) := by decide +kernel
theorem dX0_begin_62 : decode cX0_begin 62 = .ok (.iconst 0, 1) := by decide +kernel
theorem dX0_begin_63 : decode cX0_begin 63 = .ok (.istore_n 2, 1) := by decide +kernel
theorem dX0_begin_64 : decode cX0_begin 64 = .ok (.iload_n 2, 1) := by decide +kernel
theorem dX0_begin_65 : decode cX0_begin 65 = .ok (.bipush 8, 2) := by decide +kernel
theorem dX0_begin_67 : decode cX0_begin 67 = .ok (.if_icmp .ge 59, 3) := by decide +kernel
theorem dX0_begin_70 : decode cX0_begin 70 = .ok (.aload_n 0, 1) := by decide +kernel
theorem dX0_begin_71 : decode cX0_begin 71 = .ok (.getfield 19, 3) := by decide +kernel
theorem dX0_begin_74 : decode cX0_begin 74 = .ok (.iload_n 2, 1) := by decide +kernel
theorem dX0_begin_75 : decode cX0_begin 75 = .ok (.aload_n 1, 1) := by decide +kernel
theorem dX0_begin_76 : decode cX0_begin 76 = .ok (.getfield 63, 3) := by decide +kernel
theorem dX0_begin_79 : decode cX0_begin 79 = .ok (.iload_n 2, 1) := by decide +kernel
theorem dX0_begin_80 : decode cX0_begin 80 = .ok (.iaload, 1) := by decide +kernel
theorem dX0_begin_81 : decode cX0_begin 81 = .ok (.iastore, 1) := by decide +kernel
theorem dX0_begin_82 : decode cX0_begin 82 = .ok (.aload_n 0, 1) := by decide +kernel
theorem dX0_begin_83 : decode cX0_begin 83 = .ok (.getfield 22, 3) := by decide +kernel
theorem dX0_begin_86 : decode cX0_begin 86 = .ok (.iload_n 2, 1) := by decide +kernel
theorem dX0_begin_87 : decode cX0_begin 87 = .ok (.aload_n 1, 1) := by decide +kernel
theorem dX0_begin_88 : decode cX0_begin 88 = .ok (.getfield 66, 3) := by decide +kernel
theorem dX0_begin_91 : decode cX0_begin 91 = .ok (.iload_n 2, 1) := by decide +kernel
theorem dX0_begin_92 : decode cX0_begin 92 = .ok (.iaload, 1) := by decide +kernel
theorem dX0_begin_93 : decode cX0_begin 93 = .ok (.iastore, 1) := by decide +kernel
theorem dX0_begin_94 : decode cX0_begin 94 = .ok (.aload_n 0, 1) := by decide +kernel
theorem dX0_begin_95 : decode cX0_begin 95 = .ok (.getfield 31, 3) := by decide +kernel
theorem dX0_begin_98 : decode cX0_begin 98 = .ok (.iload_n 2, 1) := by decide +kernel
theorem dX0_begin_99 : decode cX0_begin 99 = .ok (.iconst (-1), 1) := by decide +kernel
theorem dX0_begin_100 : decode cX0_begin 100 = .ok (.iastore, 1) := by decide +kernel
theorem dX0_begin_101 : decode cX0_begin 101 = .ok (.aload_n 0, 1) := by decide +kernel
theorem dX0_begin_102 : decode cX0_begin 102 = .ok (.getfield 37, 3) := by decide +kernel
theorem dX0_begin_105 : decode cX0_begin 105 = .ok (.iload_n 2, 1) := by decide +kernel
theorem dX0_begin_106 : decode cX0_begin 106 = .ok (.iconst 0, 1) := by decide +kernel
theorem dX0_begin_107 : decode cX0_begin 107 = .ok (.iastore, 1) := by decide +kernel
theorem dX0_begin_108 : decode cX0_begin 108 = .ok (.aload_n 0, 1) := by decide +kernel
theorem dX0_begin_109 : decode cX0_begin 109 = .ok (.getfield 40, 3) := by decide +kernel
theorem dX0_begin_112 : decode cX0_begin 112 = .ok (.iload_n 2, 1) := by decide +kernel
theorem dX0_begin_113 : decode cX0_begin 113 = .ok (.iconst 0, 1) := by decide +kernel
theorem dX0_begin_114 : decode cX0_begin 114 = .ok (.iastore, 1) := by decide +kernel
theorem dX0_begin_115 : decode cX0_begin 115 = .ok (.aload_n 0, 1) := by decide +kernel
theorem dX0_begin_116 : decode cX0_begin 116 = .ok (.iload_n 2, 1) := by decide +kernel
theorem dX0_begin_117 : decode cX0_begin 117 = .ok (.invokevirtual 67, 3) := by decide +kernel
theorem dX0_begin_120 : decode cX0_begin 120 = .ok (.iinc 2 1, 3) := by decide +kernel
theorem dX0_begin_123 : decode cX0_begin 123 = .ok (.goto (-59), 3) := by decide +kernel
theorem dX0_begin_126 : decode cX0_begin 126 = .ok (.return_, 1) := by decide +kernel
theorem dX0_copy_0 : decode cX0_copy 0 = .ok (.aload_n 0, 1) := by decide +kernel
theorem dX0_copy_1 : decode cX0_copy 1 = .ok (.aload_n 1, 1) := by decide +kernel
theorem dX0_copy_2 : decode cX0_copy 2 = .ok (.getfield 53, 3) := by decide +kernel
theorem dX0_copy_5 : decode cX0_copy 5 = .ok (.putfield 53, 3) := by decide +kernel
theorem dX0_copy_8 : decode cX0_copy 8 = .ok (.aload_n 0, 1) := by decide +kernel
theorem dX0_copy_9 : decode cX0_copy 9 = .ok (.aload_n 1, 1) := by decide +kernel
theorem dX0_copy_10 : decode cX0_copy 10 = .ok (.getfield 71, 3) := by decide +kernel
theorem dX0_copy_13 : decode cX0_copy 13 = .ok (.putfield 71, 3) := by decide +kernel
theorem dX0_copy_16 : decode cX0_copy 16 = .ok (.aload_n 0, 1) := by decide +kernel
theorem dX0_copy_17 : decode cX0_copy 17 = .ok (.aload_n 1, 1) := by decide +kernel
theorem dX0_copy_18 : decode cX0_copy 18 = .ok (.getfield 9, 3) := by decide +kernel
theorem dX0_copy_21 : decode cX0_copy 21 = .ok (.putfield 9, 3) := by decide +kernel
theorem dX0_copy_24 : decode cX0_copy 24 = .ok (.aload_n 0, 1) := by decide +kernel
theorem dX0_copy_25 : decode cX0_copy 25 = .ok (.aload_n 1, 1) := by decide +kernel
theorem dX0_copy_26 : decode cX0_copy 26 = .ok (.getfield 57, 3) := by decide +kernel
theorem dX0_copy_29 : decode cX0_copy 29 = .ok (.putfield 57, 3) := by decide +kernel
theorem dX0_copy_32 : decode cX0_copy 32 = .ok (.aload_n 1, 1) := by decide +kernel
theorem dX0_copy_33 : decode cX0_copy 33 = .ok (.getfield 15, 3) := by decide +kernel
theorem dX0_copy_36 : decode cX0_copy 36 = .ok (.aload_n 0, 1) := by decide +kernel
theorem dX0_copy_37 : decode cX0_copy 37 = .ok (.getfield 15, 3) := by decide +kernel
theorem dX0_copy_40 : decode cX0_copy 40 = .ok (.invokestatic 74, 3) := by decide +kernel
theorem dX0_copy_43 : decode cX0_copy 43 = .ok (.aload_n 1, 1) := by decide +kernel
theorem dX0_copy_44 : decode cX0_copy 44 = .ok (.getfield 19, 3) := by decide +kernel
theorem dX0_copy_47 : decode cX0_copy 47 = .ok (.aload_n 0, 1) := by decide +kernel
theorem dX0_copy_48 : decode cX0_copy 48 = .ok (.getfield 19, 3) := by decide +kernel
theorem dX0_copy_51 : decode cX0_copy 51 = .ok (.invokestatic 74, 3) := by decide +kernel
theorem dX0_copy_54 : decode cX0_copy 54 = .ok (.aload_n 1, 1) := by decide +kernel
theorem dX0_copy_55 : decode cX0_copy 55 = .ok (.getfield 22, 3) := by decide +kernel
theorem dX0_copy_58 : decode cX0_copy 58 = .ok (.aload_n 0, 1) := by decide +kernel
theorem dX0_copy_59 : decode cX0_copy 59 = .ok (.getfield 22, 3) := by decide +kernel
theorem dX0_copy_62 : decode cX0_copy 62 = .ok (.invokestatic 74, 3) := by decide +kernel
theorem dX0_copy_65 : decode cX0_copy 65 = .ok (.aload_n 1, 1) := by decide +kernel
theorem dX0_copy_66 : decode cX0_copy 66 = .ok (.getfield 25, 3) := by decide +kernel
theorem dX0_copy_69 : decode cX0_copy 69 = .ok (.aload_n 0, 1) := by decide +kernel
theorem dX0_copy_70 : decode cX0_copy 70 = .ok (.getfield 25, 3) := by decide +kernel
theorem dX0_copy_73 : decode cX0_copy 73 = .ok (.invokestatic 74, 3) := by decide +kernel
theorem dX0_copy_76 : decode cX0_copy 76 = .ok (.aload_n 1, 1) := by decide +kernel
theorem dX0_copy_77 : decode cX0_copy 77 = .ok (.getfield 28, 3) := by decide +kernel
theorem dX0_copy_80 : decode cX0_copy 80 = .ok (.aload_n 0, 1) := by decide +kernel
theorem dX0_copy_81 : decode cX0_copy 81 = .ok (.getfield 28, 3) := by decide +kernel
theorem dX0_copy_84 : decode cX0_copy 84 = .ok (.invokestatic 74, 3) := by decide +kernel
theorem dX0_copy_87 : decode cX0_copy 87 = .ok (.aload_n 1, 1) := by decide +kernel
theorem dX0_copy_88 : decode cX0_copy 88 = .ok (.getfield 31, 3) := by decide +kernel
theorem dX0_copy_91 : decode cX0_copy 91 = .ok (.aload_n 0, 1) := by decide +kernel
theorem dX0_copy_92 : decode cX0_copy 92 = .ok (.getfield 31, 3) := by decide +kernel
theorem dX0_copy_95 : decode cX0_copy 95 = .ok (.invokestatic 74, 3) := by decide +kernel
theorem dX0_copy_98 : decode cX0_copy 98 = .ok (.aload_n 1, 1) := by decide +kernel
theorem dX0_copy_99 : decode cX0_copy 99 = .ok (.getfield 34, 3) := by decide +kernel
theorem dX0_copy_102 : decode cX0_copy 102 = .ok (.aload_n 0, 1) := by decide +kernel
theorem dX0_copy_103 : decode cX0_copy 103 = .ok (.getfield 34, 3) := by decide +kernel
theorem dX0_copy_106 : decode cX0_copy 106 = .ok (.invokestatic 74, 3) := by decide +kernel
theorem dX0_copy_109 : decode cX0_copy 109 = .ok (.aload_n 1, 1) := by decide +kernel
theorem dX0_copy_110 : decode cX0_copy 110 = .ok (.getfield 37, 3) := by decide +kernel
theorem dX0_copy_113 : decode cX0_copy 113 = .ok (.aload_n 0, 1) := by decide +kernel
theorem dX0_copy_114 : decode cX0_copy 114 = .ok (.getfield 37, 3) := by decide +kernel
theorem dX0_copy_117 : decode cX0_copy 117 = .ok (.invokestatic 74, 3) := by decide +kernel
theorem dX0_copy_120 : decode cX0_copy 120 = .ok (.aload_n 1, 1) := by decide +kernel
theorem dX0_copy_121 : decode cX0_copy 121 = .ok (.getfield 40, 3) := by decide +kernel
theorem dX0_copy_124 : decode cX0_copy 124 = .ok (.aload_n 0, 1) := by decide +kernel
theorem dX0_copy_125 : decode cX0_copy 125 = .ok (.getfield 40, 3) := by decide +kernel
theorem dX0_copy_128 : decode cX0_copy 128 = .ok (.invokestatic 74, 3) := by decide +kernel
theorem dX0_copy_131 : decode cX0_copy 131 = .ok (.aload_n 1, 1) := by decide +kernel
theorem dX0_copy_132 : decode cX0_copy 132 = .ok (.getfield 43, 3) := by decide +kernel
theorem dX0_copy_135 : decode cX0_copy 135 = .ok (.aload_n 0, 1) := by decide +kernel
theorem dX0_copy_136 : decode cX0_copy 136 = .ok (.getfield 43, 3) := by decide +kernel
theorem dX0_copy_139 : decode cX0_copy 139 = .ok (.invokestatic 74, 3) := by decide +kernel
theorem dX0_copy_142 : decode cX0_copy 142 = .ok (.return_, 1) := by decide +kernel
theorem dX0_copyRow_0 : decode cX0_copyRow 0 = .ok (.iconst 0, 1) := by decide +kernel
theorem dX0_copyRow_1 : decode cX0_copyRow 1 = .ok (.istore_n 2, 1) := by decide +kernel
theorem dX0_copyRow_2 : decode cX0_copyRow 2 = .ok (.iload_n 2, 1) := by decide +kernel
theorem dX0_copyRow_3 : decode cX0_copyRow 3 = .ok (.aload_n 0, 1) := by decide +kernel
theorem dX0_copyRow_4 : decode cX0_copyRow 4 = .ok (.arraylength, 1) := by decide +kernel
theorem dX0_copyRow_5 : decode cX0_copyRow 5 = .ok (.if_icmp .ge 21, 3) := by decide +kernel
theorem dX0_copyRow_8 : decode cX0_copyRow 8 = .ok (.iload_n 2, 1) := by decide +kernel
theorem dX0_copyRow_9 : decode cX0_copyRow 9 = .ok (.aload_n 1, 1) := by decide +kernel
theorem dX0_copyRow_10 : decode cX0_copyRow 10 = .ok (.arraylength, 1) := by decide +kernel
theorem dX0_copyRow_11 : decode cX0_copyRow 11 = .ok (.if_icmp .ge 15, 3) := by decide +kernel
theorem dX0_copyRow_14 : decode cX0_copyRow 14 = .ok (.aload_n 1, 1) := by decide +kernel
theorem dX0_copyRow_15 : decode cX0_copyRow 15 = .ok (.iload_n 2, 1) := by decide +kernel
theorem dX0_copyRow_16 : decode cX0_copyRow 16 = .ok (.aload_n 0, 1) := by decide +kernel
theorem dX0_copyRow_17 : decode cX0_copyRow 17 = .ok (.iload_n 2, 1) := by decide +kernel
theorem dX0_copyRow_18 : decode cX0_copyRow 18 = .ok (.iaload, 1) := by decide +kernel
theorem dX0_copyRow_19 : decode cX0_copyRow 19 = .ok (.iastore, 1) := by decide +kernel
theorem dX0_copyRow_20 : decode cX0_copyRow 20 = .ok (.iinc 2 1, 3) := by decide +kernel
theorem dX0_copyRow_23 : decode cX0_copyRow 23 = .ok (.goto (-21), 3) := by decide +kernel
theorem dX0_copyRow_26 : decode cX0_copyRow 26 = .ok (.return_, 1) := by decide +kernel
theorem dX0_run_0 : decode cX0_run 0 = .ok (.iconst 0, 1) := by decide +kernel
theorem dX0_run_1 : decode cX0_run 1 = .ok (.istore_n 2, 1) := by decide +kernel
theorem dX0_run_2 : decode cX0_run 2 = .ok (.iload_n 2, 1) := by decide +kernel
theorem dX0_run_3 : decode cX0_run 3 = .ok (.iload_n 1, 1) := by decide +kernel
theorem dX0_run_4 : decode cX0_run 4 = .ok (.if_icmp .ge 71, 3) := by decide +kernel
theorem dX0_run_7 : decode cX0_run 7 = .ok (.aload_n 0, 1) := by decide +kernel
theorem dX0_run_8 : decode cX0_run 8 = .ok (.invokevirtual 78, 3) := by decide +kernel
theorem dX0_run_11 : decode cX0_run 11 = .ok (.iconst 0, 1) := by decide +kernel
theorem dX0_run_12 : decode cX0_run 12 = .ok (.istore_n 3, 1) := by decide +kernel
theorem dX0_run_13 : decode cX0_run 13 = .ok (.iload_n 3, 1) := by decide +kernel
theorem dX0_run_14 : decode cX0_run 14 = .ok (.aload_n 0, 1) := by decide +kernel
theorem dX0_run_15 : decode cX0_run 15 = .ok (.getfield 53, 3) := by decide +kernel
theorem dX0_run_18 : decode cX0_run 18 = .ok (.getfield 81, 3) := by decide +kernel
theorem dX0_run_21 : decode cX0_run 21 = .ok (.if_icmp .ge 14, 3) := by decide +kernel
theorem dX0_run_24 : decode cX0_run 24 = .ok (.aload_n 0, 1) := by decide +kernel
theorem dX0_run_25 : decode cX0_run 25 = .ok (.iload_n 3, 1) := by decide +kernel
theorem dX0_run_26 : decode cX0_run 26 = .ok (.invokevirtual 84, 3) := by decide +kernel
theorem dX0_run_29 : decode cX0_run 29 = .ok (.iinc 3 1, 3) := by decide +kernel
theorem dX0_run_32 : decode cX0_run 32 = .ok (.goto (-19), 3) := by decide +kernel
theorem dX0_run_35 : decode cX0_run 35 = .ok (.iconst 0, 1) := by decide +kernel
theorem dX0_run_36 : decode cX0_run 36 = .ok (.istore_n 3, 1) := by decide +kernel
theorem dX0_run_37 : decode cX0_run 37 = .ok (.iload_n 3, 1) := by decide +kernel
theorem dX0_run_38 : decode cX0_run 38 = .ok (.aload_n 0, 1) := by decide +kernel
theorem dX0_run_39 : decode cX0_run 39 = .ok (.getfield 53, 3) := by decide +kernel
theorem dX0_run_42 : decode cX0_run 42 = .ok (.getfield 81, 3) := by decide +kernel
theorem dX0_run_45 : decode cX0_run 45 = .ok (.if_icmp .ge 14, 3) := by decide +kernel
theorem dX0_run_48 : decode cX0_run 48 = .ok (.aload_n 0, 1) := by decide +kernel
theorem dX0_run_49 : decode cX0_run 49 = .ok (.iload_n 3, 1) := by decide +kernel
theorem dX0_run_50 : decode cX0_run 50 = .ok (.invokevirtual 87, 3) := by decide +kernel
theorem dX0_run_53 : decode cX0_run 53 = .ok (.iinc 3 1, 3) := by decide +kernel
theorem dX0_run_56 : decode cX0_run 56 = .ok (.goto (-19), 3) := by decide +kernel
theorem dX0_run_59 : decode cX0_run 59 = .ok (.aload_n 0, 1) := by decide +kernel
theorem dX0_run_60 : decode cX0_run 60 = .ok (.dup, 1) := by decide +kernel
theorem dX0_run_61 : decode cX0_run 61 = .ok (.getfield 71, 3) := by decide +kernel
theorem dX0_run_64 : decode cX0_run 64 = .ok (.iconst 1, 1) := by decide +kernel
theorem dX0_run_65 : decode cX0_run 65 = .ok (.iadd, 1) := by decide +kernel
theorem dX0_run_66 : decode cX0_run 66 = .ok (.putfield 71, 3) := by decide +kernel
theorem dX0_run_69 : decode cX0_run 69 = .ok (.iinc 2 1, 3) := by decide +kernel
theorem dX0_run_72 : decode cX0_run 72 = .ok (.goto (-70), 3) := by decide +kernel
theorem dX0_run_75 : decode cX0_run 75 = .ok (.return_, 1) := by decide +kernel
theorem dX0_look_0 : decode cX0_look 0 = .ok (.iconst 0, 1) := by decide +kernel
theorem dX0_look_1 : decode cX0_look 1 = .ok (.istore_n 1, 1) := by decide +kernel
theorem dX0_look_2 : decode cX0_look 2 = .ok (.iload_n 1, 1) := by decide +kernel
theorem dX0_look_3 : decode cX0_look 3 = .ok (.aload_n 0, 1) := by decide +kernel
theorem dX0_look_4 : decode cX0_look 4 = .ok (.getfield 46, 3) := by decide +kernel
theorem dX0_look_7 : decode cX0_look 7 = .ok (.arraylength, 1) := by decide +kernel
theorem dX0_look_8 : decode cX0_look 8 = .ok (.if_icmp .ge 24, 3) := by decide +kernel
theorem dX0_look_11 : decode cX0_look 11 = .ok (.aload_n 0, 1) := by decide +kernel
theorem dX0_look_12 : decode cX0_look 12 = .ok (.getfield 46, 3) := by decide +kernel
theorem dX0_look_15 : decode cX0_look 15 = .ok (.iload_n 1, 1) := by decide +kernel
theorem dX0_look_16 : decode cX0_look 16 = .ok (.aload_n 0, 1) := by decide +kernel
theorem dX0_look_17 : decode cX0_look 17 = .ok (.iload_n 1, 1) := by decide +kernel
theorem dX0_look_18 : decode cX0_look 18 = .ok (.aload_n 0, 1) := by decide +kernel
theorem dX0_look_19 : decode cX0_look 19 = .ok (.getfield 71, 3) := by decide +kernel
theorem dX0_look_22 : decode cX0_look 22 = .ok (.invokevirtual 90, 3) := by decide +kernel
theorem dX0_look_25 : decode cX0_look 25 = .ok (.bastore, 1) := by decide +kernel
theorem dX0_look_26 : decode cX0_look 26 = .ok (.iinc 1 1, 3) := by decide +kernel
theorem dX0_look_29 : decode cX0_look 29 = .ok (.goto (-27), 3) := by decide +kernel
theorem dX0_look_32 : decode cX0_look 32 = .ok (.return_, 1) := by decide +kernel
theorem dX0_flashWord_0 : decode cX0_flashWord 0 = .ok (.aload_n 0, 1) := by decide +kernel
theorem dX0_flashWord_1 : decode cX0_flashWord 1 = .ok (.getfield 53, 3) := by decide +kernel
theorem dX0_flashWord_4 : decode cX0_flashWord 4 = .ok (.iload_n 1, 1) := by decide +kernel
theorem dX0_flashWord_5 : decode cX0_flashWord 5 = .ok (.invokevirtual 94, 3) := by decide +kernel
theorem dX0_flashWord_8 : decode cX0_flashWord 8 = .ok (.ifCond .eq 13, 3) := by decide +kernel
theorem dX0_flashWord_11 : decode cX0_flashWord 11 = .ok (.aload_n 0, 1) := by decide +kernel
theorem dX0_flashWord_12 : decode cX0_flashWord 12 = .ok (.getfield 25, 3) := by decide +kernel
theorem dX0_flashWord_15 : decode cX0_flashWord 15 = .ok (.iload_n 1, 1) := by decide +kernel
theorem dX0_flashWord_16 : decode cX0_flashWord 16 = .ok (.iaload, 1) := by decide +kernel
theorem dX0_flashWord_17 : decode cX0_flashWord 17 = .ok (.iconst 1, 1) := by decide +kernel
theorem dX0_flashWord_18 : decode cX0_flashWord 18 = .ok (.if_icmp .eq 4, 3) := by decide +kernel
theorem dX0_flashWord_21 : decode cX0_flashWord 21 = .ok (.return_, 1) := by decide +kernel
theorem dX0_flashWord_22 : decode cX0_flashWord 22 = .ok (.aload_n 0, 1) := by decide +kernel
theorem dX0_flashWord_23 : decode cX0_flashWord 23 = .ok (.getfield 34, 3) := by decide +kernel
theorem dX0_flashWord_26 : decode cX0_flashWord 26 = .ok (.iload_n 1, 1) := by decide +kernel
theorem dX0_flashWord_27 : decode cX0_flashWord 27 = .ok (.iaload, 1) := by decide +kernel
theorem dX0_flashWord_28 : decode cX0_flashWord 28 = .ok (.istore_n 2, 1) := by decide +kernel
theorem dX0_flashWord_29 : decode cX0_flashWord 29 = .ok (.aload_n 0, 1) := by decide +kernel
theorem dX0_flashWord_30 : decode cX0_flashWord 30 = .ok (.iload_n 2, 1) := by decide +kernel
theorem dX0_flashWord_31 : decode cX0_flashWord 31 = .ok (.invokevirtual 98, 3) := by decide +kernel
theorem dX0_flashWord_34 : decode cX0_flashWord 34 = .ok (.ifCond .ne 9, 3) := by decide +kernel
theorem dX0_flashWord_37 : decode cX0_flashWord 37 = .ok (.aload_n 0, 1) := by decide +kernel
theorem dX0_flashWord_38 : decode cX0_flashWord 38 = .ok (.iload_n 1, 1) := by decide +kernel
theorem dX0_flashWord_39 : decode cX0_flashWord 39 = .ok (.invokevirtual 101, 3) := by decide +kernel
theorem dX0_flashWord_42 : decode cX0_flashWord 42 = .ok (.return_, 1) := by decide +kernel
theorem dX0_flashWord_43 : decode cX0_flashWord 43 = .ok (.aload_n 0, 1) := by decide +kernel
theorem dX0_flashWord_44 : decode cX0_flashWord 44 = .ok (.getfield 43, 3) := by decide +kernel
theorem dX0_flashWord_47 : decode cX0_flashWord 47 = .ok (.iload_n 2, 1) := by decide +kernel
theorem dX0_flashWord_48 : decode cX0_flashWord 48 = .ok (.dup2, 1) := by decide +kernel
theorem dX0_flashWord_49 : decode cX0_flashWord 49 = .ok (.iaload, 1) := by decide +kernel
theorem dX0_flashWord_50 : decode cX0_flashWord 50 = .ok (.iconst 1, 1) := by decide +kernel
theorem dX0_flashWord_51 : decode cX0_flashWord 51 = .ok (.iadd, 1) := by decide +kernel
theorem dX0_flashWord_52 : decode cX0_flashWord 52 = .ok (.iastore, 1) := by decide +kernel
theorem dX0_flashWord_53 : decode cX0_flashWord 53 = .ok (.aload_n 0, 1) := by decide +kernel
theorem dX0_flashWord_54 : decode cX0_flashWord 54 = .ok (.getfield 53, 3) := by decide +kernel
theorem dX0_flashWord_57 : decode cX0_flashWord 57 = .ok (.getfield 104, 3) := by decide +kernel
theorem dX0_flashWord_60 : decode cX0_flashWord 60 = .ok (.iload_n 2, 1) := by decide +kernel
theorem dX0_flashWord_61 : decode cX0_flashWord 61 = .ok (.iaload, 1) := by decide +kernel
theorem dX0_flashWord_62 : decode cX0_flashWord 62 = .ok (.bipush 7, 2) := by decide +kernel
theorem dX0_flashWord_64 : decode cX0_flashWord 64 = .ok (.if_icmp .lt 32, 3) := by decide +kernel
theorem dX0_flashWord_67 : decode cX0_flashWord 67 = .ok (.aload_n 0, 1) := by decide +kernel
theorem dX0_flashWord_68 : decode cX0_flashWord 68 = .ok (.getfield 71, 3) := by decide +kernel
theorem dX0_flashWord_71 : decode cX0_flashWord 71 = .ok (.aload_n 0, 1) := by decide +kernel
theorem dX0_flashWord_72 : decode cX0_flashWord 72 = .ok (.getfield 28, 3) := by decide +kernel
theorem dX0_flashWord_75 : decode cX0_flashWord 75 = .ok (.iload_n 1, 1) := by decide +kernel
theorem dX0_flashWord_76 : decode cX0_flashWord 76 = .ok (.iaload, 1) := by decide +kernel
theorem dX0_flashWord_77 : decode cX0_flashWord 77 = .ok (.iadd, 1) := by decide +kernel
theorem dX0_flashWord_78 : decode cX0_flashWord 78 = .ok (.iconst 5, 1) := by decide +kernel
theorem dX0_flashWord_79 : decode cX0_flashWord 79 = .ok (.irem, 1) := by decide +kernel
theorem dX0_flashWord_80 : decode cX0_flashWord 80 = .ok (.ifCond .ne 16, 3) := by decide +kernel
theorem dX0_flashWord_83 : decode cX0_flashWord 83 = .ok (.aload_n 0, 1) := by decide +kernel
theorem dX0_flashWord_84 : decode cX0_flashWord 84 = .ok (.dup, 1) := by decide +kernel
theorem dX0_flashWord_85 : decode cX0_flashWord 85 = .ok (.getfield 57, 3) := by decide +kernel
theorem dX0_flashWord_88 : decode cX0_flashWord 88 = .ok (.iconst 1, 1) := by decide +kernel
theorem dX0_flashWord_89 : decode cX0_flashWord 89 = .ok (.iadd, 1) := by decide +kernel
theorem dX0_flashWord_90 : decode cX0_flashWord 90 = .ok (.putfield 57, 3) := by decide +kernel
theorem dX0_flashWord_93 : decode cX0_flashWord 93 = .ok (.goto 13, 3) := by decide +kernel
theorem dX0_flashWord_96 : decode cX0_flashWord 96 = .ok (.aload_n 0, 1) := by decide +kernel
theorem dX0_flashWord_97 : decode cX0_flashWord 97 = .ok (.getfield 28, 3) := by decide +kernel
theorem dX0_flashWord_100 : decode cX0_flashWord 100 = .ok (.iload_n 1, 1) := by decide +kernel
theorem dX0_flashWord_101 : decode cX0_flashWord 101 = .ok (.dup2, 1) := by decide +kernel
theorem dX0_flashWord_102 : decode cX0_flashWord 102 = .ok (.iaload, 1) := by decide +kernel
theorem dX0_flashWord_103 : decode cX0_flashWord 103 = .ok (.iconst 1, 1) := by decide +kernel
theorem dX0_flashWord_104 : decode cX0_flashWord 104 = .ok (.isub, 1) := by decide +kernel
theorem dX0_flashWord_105 : decode cX0_flashWord 105 = .ok (.iastore, 1) := by decide +kernel
theorem dX0_flashWord_106 : decode cX0_flashWord 106 = .ok (.aload_n 0, 1) := by decide +kernel
theorem dX0_flashWord_107 : decode cX0_flashWord 107 = .ok (.getfield 28, 3) := by decide +kernel
theorem dX0_flashWord_110 : decode cX0_flashWord 110 = .ok (.iload_n 1, 1) := by decide +kernel
theorem dX0_flashWord_111 : decode cX0_flashWord 111 = .ok (.iaload, 1) := by decide +kernel
theorem dX0_flashWord_112 : decode cX0_flashWord 112 = .ok (.ifCond .ne 22, 3) := by decide +kernel
theorem dX0_flashWord_115 : decode cX0_flashWord 115 = .ok (.aload_n 0, 1) := by decide +kernel
theorem dX0_flashWord_116 : decode cX0_flashWord 116 = .ok (.iload_n 1, 1) := by decide +kernel
theorem dX0_flashWord_117 : decode cX0_flashWord 117 = .ok (.aload_n 0, 1) := by decide +kernel
theorem dX0_flashWord_118 : decode cX0_flashWord 118 = .ok (.getfield 53, 3) := by decide +kernel
theorem dX0_flashWord_121 : decode cX0_flashWord 121 = .ok (.iload_n 2, 1) := by decide +kernel
theorem dX0_flashWord_122 : decode cX0_flashWord 122 = .ok (.aload_n 0, 1) := by decide +kernel
theorem dX0_flashWord_123 : decode cX0_flashWord 123 = .ok (.getfield 19, 3) := by decide +kernel
theorem dX0_flashWord_126 : decode cX0_flashWord 126 = .ok (.iload_n 1, 1) := by decide +kernel
theorem dX0_flashWord_127 : decode cX0_flashWord 127 = .ok (.iaload, 1) := by decide +kernel
theorem dX0_flashWord_128 : decode cX0_flashWord 128 = .ok (.invokevirtual 107, 3) := by decide +kernel
theorem dX0_flashWord_131 : decode cX0_flashWord 131 = .ok (.invokevirtual 111, 3) := by decide +kernel
theorem dX0_flashWord_134 : decode cX0_flashWord 134 = .ok (.return_, 1) := by decide +kernel
theorem dX0_arrive_0 : decode cX0_arrive 0 = .ok (.aload_n 0, 1) := by decide +kernel
theorem dX0_arrive_1 : decode cX0_arrive 1 = .ok (.getfield 19, 3) := by decide +kernel
theorem dX0_arrive_4 : decode cX0_arrive 4 = .ok (.iload_n 1, 1) := by decide +kernel
theorem dX0_arrive_5 : decode cX0_arrive 5 = .ok (.iload_n 2, 1) := by decide +kernel
theorem dX0_arrive_6 : decode cX0_arrive 6 = .ok (.iastore, 1) := by decide +kernel
theorem dX0_arrive_7 : decode cX0_arrive 7 = .ok (.aload_n 0, 1) := by decide +kernel
theorem dX0_arrive_8 : decode cX0_arrive 8 = .ok (.getfield 40, 3) := by decide +kernel
theorem dX0_arrive_11 : decode cX0_arrive 11 = .ok (.iload_n 1, 1) := by decide +kernel
theorem dX0_arrive_12 : decode cX0_arrive 12 = .ok (.dup2, 1) := by decide +kernel
theorem dX0_arrive_13 : decode cX0_arrive 13 = .ok (.iaload, 1) := by decide +kernel
theorem dX0_arrive_14 : decode cX0_arrive 14 = .ok (.iconst 1, 1) := by decide +kernel
theorem dX0_arrive_15 : decode cX0_arrive 15 = .ok (.iadd, 1) := by decide +kernel
theorem dX0_arrive_16 : decode cX0_arrive 16 = .ok (.iastore, 1) := by decide +kernel
theorem dX0_arrive_17 : decode cX0_arrive 17 = .ok (.aload_n 0, 1) := by decide +kernel
theorem dX0_arrive_18 : decode cX0_arrive 18 = .ok (.iload_n 1, 1) := by decide +kernel
theorem dX0_arrive_19 : decode cX0_arrive 19 = .ok (.invokevirtual 67, 3) := by decide +kernel
theorem dX0_arrive_22 : decode cX0_arrive 22 = .ok (.iload_n 2, 1) := by decide +kernel
theorem dX0_arrive_23 : decode cX0_arrive 23 = .ok (.aload_n 0, 1) := by decide +kernel
theorem dX0_arrive_24 : decode cX0_arrive 24 = .ok (.getfield 22, 3) := by decide +kernel
theorem dX0_arrive_27 : decode cX0_arrive 27 = .ok (.iload_n 1, 1) := by decide +kernel
theorem dX0_arrive_28 : decode cX0_arrive 28 = .ok (.iaload, 1) := by decide +kernel
theorem dX0_arrive_29 : decode cX0_arrive 29 = .ok (.if_icmp .ne 27, 3) := by decide +kernel
theorem dX0_arrive_32 : decode cX0_arrive 32 = .ok (.aload_n 0, 1) := by decide +kernel
theorem dX0_arrive_33 : decode cX0_arrive 33 = .ok (.getfield 25, 3) := by decide +kernel
theorem dX0_arrive_36 : decode cX0_arrive 36 = .ok (.iload_n 1, 1) := by decide +kernel
theorem dX0_arrive_37 : decode cX0_arrive 37 = .ok (.iconst 2, 1) := by decide +kernel
theorem dX0_arrive_38 : decode cX0_arrive 38 = .ok (.iastore, 1) := by decide +kernel
theorem dX0_arrive_39 : decode cX0_arrive 39 = .ok (.aload_n 0, 1) := by decide +kernel
theorem dX0_arrive_40 : decode cX0_arrive 40 = .ok (.getfield 28, 3) := by decide +kernel
theorem dX0_arrive_43 : decode cX0_arrive 43 = .ok (.iload_n 1, 1) := by decide +kernel
theorem dX0_arrive_44 : decode cX0_arrive 44 = .ok (.iconst 0, 1) := by decide +kernel
theorem dX0_arrive_45 : decode cX0_arrive 45 = .ok (.iastore, 1) := by decide +kernel
theorem dX0_arrive_46 : decode cX0_arrive 46 = .ok (.aload_n 0, 1) := by decide +kernel
theorem dX0_arrive_47 : decode cX0_arrive 47 = .ok (.getfield 31, 3) := by decide +kernel
theorem dX0_arrive_50 : decode cX0_arrive 50 = .ok (.iload_n 1, 1) := by decide +kernel
theorem dX0_arrive_51 : decode cX0_arrive 51 = .ok (.aload_n 0, 1) := by decide +kernel
theorem dX0_arrive_52 : decode cX0_arrive 52 = .ok (.getfield 71, 3) := by decide +kernel
theorem dX0_arrive_55 : decode cX0_arrive 55 = .ok (.iastore, 1) := by decide +kernel
theorem dX0_arrive_56 : decode cX0_arrive 56 = .ok (.return_, 1) := by decide +kernel
theorem dX0_letWait_0 : decode cX0_letWait 0 = .ok (.aload_n 0, 1) := by decide +kernel
theorem dX0_letWait_1 : decode cX0_letWait 1 = .ok (.getfield 25, 3) := by decide +kernel
theorem dX0_letWait_4 : decode cX0_letWait 4 = .ok (.iload_n 1, 1) := by decide +kernel
theorem dX0_letWait_5 : decode cX0_letWait 5 = .ok (.iconst 0, 1) := by decide +kernel
theorem dX0_letWait_6 : decode cX0_letWait 6 = .ok (.iastore, 1) := by decide +kernel
theorem dX0_letWait_7 : decode cX0_letWait 7 = .ok (.aload_n 0, 1) := by decide +kernel
theorem dX0_letWait_8 : decode cX0_letWait 8 = .ok (.getfield 34, 3) := by decide +kernel
theorem dX0_letWait_11 : decode cX0_letWait 11 = .ok (.iload_n 1, 1) := by decide +kernel
theorem dX0_letWait_12 : decode cX0_letWait 12 = .ok (.iconst (-1), 1) := by decide +kernel
theorem dX0_letWait_13 : decode cX0_letWait 13 = .ok (.iastore, 1) := by decide +kernel
theorem dX0_letWait_14 : decode cX0_letWait 14 = .ok (.aload_n 0, 1) := by decide +kernel
theorem dX0_letWait_15 : decode cX0_letWait 15 = .ok (.getfield 28, 3) := by decide +kernel
theorem dX0_letWait_18 : decode cX0_letWait 18 = .ok (.iload_n 1, 1) := by decide +kernel
theorem dX0_letWait_19 : decode cX0_letWait 19 = .ok (.aload_n 0, 1) := by decide +kernel
theorem dX0_letWait_20 : decode cX0_letWait 20 = .ok (.getfield 53, 3) := by decide +kernel
theorem dX0_letWait_23 : decode cX0_letWait 23 = .ok (.getfield 115, 3) := by decide +kernel
theorem dX0_letWait_26 : decode cX0_letWait 26 = .ok (.iload_n 1, 1) := by decide +kernel
theorem dX0_letWait_27 : decode cX0_letWait 27 = .ok (.iaload, 1) := by decide +kernel
theorem dX0_letWait_28 : decode cX0_letWait 28 = .ok (.iastore, 1) := by decide +kernel
theorem dX0_letWait_29 : decode cX0_letWait 29 = .ok (.return_, 1) := by decide +kernel
theorem dX0_breakOff_0 : decode cX0_breakOff 0 = .ok (.aload_n 0, 1) := by decide +kernel
theorem dX0_breakOff_1 : decode cX0_breakOff 1 = .ok (.getfield 37, 3) := by decide +kernel
theorem dX0_breakOff_4 : decode cX0_breakOff 4 = .ok (.iload_n 1, 1) := by decide +kernel
theorem dX0_breakOff_5 : decode cX0_breakOff 5 = .ok (.dup2, 1) := by decide +kernel
theorem dX0_breakOff_6 : decode cX0_breakOff 6 = .ok (.iaload, 1) := by decide +kernel
theorem dX0_breakOff_7 : decode cX0_breakOff 7 = .ok (.iconst 1, 1) := by decide +kernel
theorem dX0_breakOff_8 : decode cX0_breakOff 8 = .ok (.iadd, 1) := by decide +kernel
theorem dX0_breakOff_9 : decode cX0_breakOff 9 = .ok (.iastore, 1) := by decide +kernel
theorem dX0_breakOff_10 : decode cX0_breakOff 10 = .ok (.aload_n 0, 1) := by decide +kernel
theorem dX0_breakOff_11 : decode cX0_breakOff 11 = .ok (.iload_n 1, 1) := by decide +kernel
theorem dX0_breakOff_12 : decode cX0_breakOff 12 = .ok (.invokevirtual 67, 3) := by decide +kernel
theorem dX0_breakOff_15 : decode cX0_breakOff 15 = .ok (.return_, 1) := by decide +kernel
theorem dX0_sendOff_0 : decode cX0_sendOff 0 = .ok (.aload_n 0, 1) := by decide +kernel
theorem dX0_sendOff_1 : decode cX0_sendOff 1 = .ok (.getfield 53, 3) := by decide +kernel
theorem dX0_sendOff_4 : decode cX0_sendOff 4 = .ok (.iload_n 1, 1) := by decide +kernel
theorem dX0_sendOff_5 : decode cX0_sendOff 5 = .ok (.invokevirtual 94, 3) := by decide +kernel
theorem dX0_sendOff_8 : decode cX0_sendOff 8 = .ok (.ifCond .eq 56, 3) := by decide +kernel
theorem dX0_sendOff_11 : decode cX0_sendOff 11 = .ok (.aload_n 0, 1) := by decide +kernel
theorem dX0_sendOff_12 : decode cX0_sendOff 12 = .ok (.getfield 25, 3) := by decide +kernel
theorem dX0_sendOff_15 : decode cX0_sendOff 15 = .ok (.iload_n 1, 1) := by decide +kernel
theorem dX0_sendOff_16 : decode cX0_sendOff 16 = .ok (.iaload, 1) := by decide +kernel
theorem dX0_sendOff_17 : decode cX0_sendOff 17 = .ok (.ifCond .ne 47, 3) := by decide +kernel
theorem dX0_sendOff_20 : decode cX0_sendOff 20 = .ok (.aload_n 0, 1) := by decide +kernel
theorem dX0_sendOff_21 : decode cX0_sendOff 21 = .ok (.getfield 53, 3) := by decide +kernel
theorem dX0_sendOff_24 : decode cX0_sendOff 24 = .ok (.getfield 118, 3) := by decide +kernel
theorem dX0_sendOff_27 : decode cX0_sendOff 27 = .ok (.iload_n 1, 1) := by decide +kernel
theorem dX0_sendOff_28 : decode cX0_sendOff 28 = .ok (.iaload, 1) := by decide +kernel
theorem dX0_sendOff_29 : decode cX0_sendOff 29 = .ok (.aload_n 0, 1) := by decide +kernel
theorem dX0_sendOff_30 : decode cX0_sendOff 30 = .ok (.getfield 71, 3) := by decide +kernel
theorem dX0_sendOff_33 : decode cX0_sendOff 33 = .ok (.if_icmp .gt 31, 3) := by decide +kernel
theorem dX0_sendOff_36 : decode cX0_sendOff 36 = .ok (.aload_n 0, 1) := by decide +kernel
theorem dX0_sendOff_37 : decode cX0_sendOff 37 = .ok (.aload_n 0, 1) := by decide +kernel
theorem dX0_sendOff_38 : decode cX0_sendOff 38 = .ok (.getfield 19, 3) := by decide +kernel
theorem dX0_sendOff_41 : decode cX0_sendOff 41 = .ok (.iload_n 1, 1) := by decide +kernel
theorem dX0_sendOff_42 : decode cX0_sendOff 42 = .ok (.iaload, 1) := by decide +kernel
theorem dX0_sendOff_43 : decode cX0_sendOff 43 = .ok (.invokevirtual 121, 3) := by decide +kernel
theorem dX0_sendOff_46 : decode cX0_sendOff 46 = .ok (.ifCond .le 18, 3) := by decide +kernel
theorem dX0_sendOff_49 : decode cX0_sendOff 49 = .ok (.aload_n 0, 1) := by decide +kernel
theorem dX0_sendOff_50 : decode cX0_sendOff 50 = .ok (.getfield 53, 3) := by decide +kernel
theorem dX0_sendOff_53 : decode cX0_sendOff 53 = .ok (.getfield 125, 3) := by decide +kernel
theorem dX0_sendOff_56 : decode cX0_sendOff 56 = .ok (.iload_n 1, 1) := by decide +kernel
theorem dX0_sendOff_57 : decode cX0_sendOff 57 = .ok (.aload_n 0, 1) := by decide +kernel
theorem dX0_sendOff_58 : decode cX0_sendOff 58 = .ok (.invokevirtual 129, 3) := by decide +kernel
theorem dX0_sendOff_61 : decode cX0_sendOff 61 = .ok (.ifCond .eq 4, 3) := by decide +kernel
theorem dX0_sendOff_64 : decode cX0_sendOff 64 = .ok (.return_, 1) := by decide +kernel
theorem dX0_sendOff_65 : decode cX0_sendOff 65 = .ok (.aload_n 0, 1) := by decide +kernel
theorem dX0_sendOff_66 : decode cX0_sendOff 66 = .ok (.aload_n 0, 1) := by decide +kernel
theorem dX0_sendOff_67 : decode cX0_sendOff 67 = .ok (.getfield 19, 3) := by decide +kernel
theorem dX0_sendOff_70 : decode cX0_sendOff 70 = .ok (.iload_n 1, 1) := by decide +kernel
theorem dX0_sendOff_71 : decode cX0_sendOff 71 = .ok (.iaload, 1) := by decide +kernel
theorem dX0_sendOff_72 : decode cX0_sendOff 72 = .ok (.aload_n 0, 1) := by decide +kernel
theorem dX0_sendOff_73 : decode cX0_sendOff 73 = .ok (.getfield 22, 3) := by decide +kernel
theorem dX0_sendOff_76 : decode cX0_sendOff 76 = .ok (.iload_n 1, 1) := by decide +kernel
theorem dX0_sendOff_77 : decode cX0_sendOff 77 = .ok (.iaload, 1) := by decide +kernel
theorem dX0_sendOff_78 : decode cX0_sendOff 78 = .ok (.invokevirtual 135, 3) := by decide +kernel
theorem dX0_sendOff_81 : decode cX0_sendOff 81 = .ok (.istore_n 2, 1) := by decide +kernel
theorem dX0_sendOff_82 : decode cX0_sendOff 82 = .ok (.iload_n 2, 1) := by decide +kernel
theorem dX0_sendOff_83 : decode cX0_sendOff 83 = .ok (.ifCond .lt 40, 3) := by decide +kernel
theorem dX0_sendOff_86 : decode cX0_sendOff 86 = .ok (.aload_n 0, 1) := by decide +kernel
theorem dX0_sendOff_87 : decode cX0_sendOff 87 = .ok (.iload_n 2, 1) := by decide +kernel
theorem dX0_sendOff_88 : decode cX0_sendOff 88 = .ok (.invokevirtual 138, 3) := by decide +kernel
theorem dX0_sendOff_91 : decode cX0_sendOff 91 = .ok (.ifCond .ge 32, 3) := by decide +kernel
theorem dX0_sendOff_94 : decode cX0_sendOff 94 = .ok (.aload_n 0, 1) := by decide +kernel
theorem dX0_sendOff_95 : decode cX0_sendOff 95 = .ok (.getfield 25, 3) := by decide +kernel
theorem dX0_sendOff_98 : decode cX0_sendOff 98 = .ok (.iload_n 1, 1) := by decide +kernel
theorem dX0_sendOff_99 : decode cX0_sendOff 99 = .ok (.iconst 1, 1) := by decide +kernel
theorem dX0_sendOff_100 : decode cX0_sendOff 100 = .ok (.iastore, 1) := by decide +kernel
theorem dX0_sendOff_101 : decode cX0_sendOff 101 = .ok (.aload_n 0, 1) := by decide +kernel
theorem dX0_sendOff_102 : decode cX0_sendOff 102 = .ok (.getfield 34, 3) := by decide +kernel
theorem dX0_sendOff_105 : decode cX0_sendOff 105 = .ok (.iload_n 1, 1) := by decide +kernel
theorem dX0_sendOff_106 : decode cX0_sendOff 106 = .ok (.iload_n 2, 1) := by decide +kernel
theorem dX0_sendOff_107 : decode cX0_sendOff 107 = .ok (.iastore, 1) := by decide +kernel
theorem dX0_sendOff_108 : decode cX0_sendOff 108 = .ok (.aload_n 0, 1) := by decide +kernel
theorem dX0_sendOff_109 : decode cX0_sendOff 109 = .ok (.getfield 28, 3) := by decide +kernel
theorem dX0_sendOff_112 : decode cX0_sendOff 112 = .ok (.iload_n 1, 1) := by decide +kernel
theorem dX0_sendOff_113 : decode cX0_sendOff 113 = .ok (.aload_n 0, 1) := by decide +kernel
theorem dX0_sendOff_114 : decode cX0_sendOff 114 = .ok (.getfield 53, 3) := by decide +kernel
theorem dX0_sendOff_117 : decode cX0_sendOff 117 = .ok (.getfield 115, 3) := by decide +kernel
theorem dX0_sendOff_120 : decode cX0_sendOff 120 = .ok (.iload_n 1, 1) := by decide +kernel
theorem dX0_sendOff_121 : decode cX0_sendOff 121 = .ok (.iaload, 1) := by decide +kernel
theorem dX0_sendOff_122 : decode cX0_sendOff 122 = .ok (.iastore, 1) := by decide +kernel
theorem dX0_sendOff_123 : decode cX0_sendOff 123 = .ok (.return_, 1) := by decide +kernel
theorem dX0_farOfWay_0 : decode cX0_farOfWay 0 = .ok (.aload_n 0, 1) := by decide +kernel
theorem dX0_farOfWay_1 : decode cX0_farOfWay 1 = .ok (.iload_n 2, 1) := by decide +kernel
theorem dX0_farOfWay_2 : decode cX0_farOfWay 2 = .ok (.invokevirtual 141, 3) := by decide +kernel
theorem dX0_farOfWay_5 : decode cX0_farOfWay 5 = .ok (.aload_n 0, 1) := by decide +kernel
theorem dX0_farOfWay_6 : decode cX0_farOfWay 6 = .ok (.getfield 53, 3) := by decide +kernel
theorem dX0_farOfWay_9 : decode cX0_farOfWay 9 = .ok (.iload_n 1, 1) := by decide +kernel
theorem dX0_farOfWay_10 : decode cX0_farOfWay 10 = .ok (.invokevirtual 144, 3) := by decide +kernel
theorem dX0_farOfWay_13 : decode cX0_farOfWay 13 = .ok (.ifCond .eq 23, 3) := by decide +kernel
theorem dX0_farOfWay_16 : decode cX0_farOfWay 16 = .ok (.aload_n 0, 1) := by decide +kernel
theorem dX0_farOfWay_17 : decode cX0_farOfWay 17 = .ok (.getfield 50, 3) := by decide +kernel
theorem dX0_farOfWay_20 : decode cX0_farOfWay 20 = .ok (.iload_n 1, 1) := by decide +kernel
theorem dX0_farOfWay_21 : decode cX0_farOfWay 21 = .ok (.iaload, 1) := by decide +kernel
theorem dX0_farOfWay_22 : decode cX0_farOfWay 22 = .ok (.ldc 147, 2) := by decide +kernel
theorem dX0_farOfWay_24 : decode cX0_farOfWay 24 = .ok (.if_icmp .ge 12, 3) := by decide +kernel
theorem dX0_farOfWay_27 : decode cX0_farOfWay 27 = .ok (.aload_n 0, 1) := by decide +kernel
theorem dX0_farOfWay_28 : decode cX0_farOfWay 28 = .ok (.getfield 50, 3) := by decide +kernel
theorem dX0_farOfWay_31 : decode cX0_farOfWay 31 = .ok (.iload_n 1, 1) := by decide +kernel
theorem dX0_farOfWay_32 : decode cX0_farOfWay 32 = .ok (.iaload, 1) := by decide +kernel
theorem dX0_farOfWay_33 : decode cX0_farOfWay 33 = .ok (.goto 4, 3) := by decide +kernel
theorem dX0_farOfWay_36 : decode cX0_farOfWay 36 = .ok (.iconst (-1), 1) := by decide +kernel
theorem dX0_farOfWay_37 : decode cX0_farOfWay 37 = .ok (.ireturn, 1) := by decide +kernel
theorem dX0_firstPassOfWay_0 : decode cX0_firstPassOfWay 0 = .ok (.aload_n 0, 1) := by decide +kernel
theorem dX0_firstPassOfWay_1 : decode cX0_firstPassOfWay 1 = .ok (.iload_n 2, 1) := by decide +kernel
theorem dX0_firstPassOfWay_2 : decode cX0_firstPassOfWay 2 = .ok (.invokevirtual 141, 3) := by decide +kernel
theorem dX0_firstPassOfWay_5 : decode cX0_firstPassOfWay 5 = .ok (.iload_n 1, 1) := by decide +kernel
theorem dX0_firstPassOfWay_6 : decode cX0_firstPassOfWay 6 = .ok (.iload_n 2, 1) := by decide +kernel
theorem dX0_firstPassOfWay_7 : decode cX0_firstPassOfWay 7 = .ok (.if_icmp .eq 25, 3) := by decide +kernel
theorem dX0_firstPassOfWay_10 : decode cX0_firstPassOfWay 10 = .ok (.aload_n 0, 1) := by decide +kernel
theorem dX0_firstPassOfWay_11 : decode cX0_firstPassOfWay 11 = .ok (.getfield 53, 3) := by decide +kernel
theorem dX0_firstPassOfWay_14 : decode cX0_firstPassOfWay 14 = .ok (.iload_n 1, 1) := by decide +kernel
theorem dX0_firstPassOfWay_15 : decode cX0_firstPassOfWay 15 = .ok (.invokevirtual 144, 3) := by decide +kernel
theorem dX0_firstPassOfWay_18 : decode cX0_firstPassOfWay 18 = .ok (.ifCond .eq 14, 3) := by decide +kernel
theorem dX0_firstPassOfWay_21 : decode cX0_firstPassOfWay 21 = .ok (.aload_n 0, 1) := by decide +kernel
theorem dX0_firstPassOfWay_22 : decode cX0_firstPassOfWay 22 = .ok (.getfield 50, 3) := by decide +kernel
theorem dX0_firstPassOfWay_25 : decode cX0_firstPassOfWay 25 = .ok (.iload_n 1, 1) := by decide +kernel
theorem dX0_firstPassOfWay_26 : decode cX0_firstPassOfWay 26 = .ok (.iaload, 1) := by decide +kernel
theorem dX0_firstPassOfWay_27 : decode cX0_firstPassOfWay 27 = .ok (.ldc 147, 2) := by decide +kernel
theorem dX0_firstPassOfWay_29 : decode cX0_firstPassOfWay 29 = .ok (.if_icmp .lt 5, 3) := by decide +kernel
theorem dX0_firstPassOfWay_32 : decode cX0_firstPassOfWay 32 = .ok (.iconst (-1), 1) := by decide +kernel
theorem dX0_firstPassOfWay_33 : decode cX0_firstPassOfWay 33 = .ok (.ireturn, 1) := by decide +kernel
theorem dX0_firstPassOfWay_34 : decode cX0_firstPassOfWay 34 = .ok (.iconst 0, 1) := by decide +kernel
theorem dX0_firstPassOfWay_35 : decode cX0_firstPassOfWay 35 = .ok (.istore_n 3, 1) := by decide +kernel
theorem dX0_firstPassOfWay_36 : decode cX0_firstPassOfWay 36 = .ok (.iload_n 3, 1) := by decide +kernel
theorem dX0_firstPassOfWay_37 : decode cX0_firstPassOfWay 37 = .ok (.aload_n 0, 1) := by decide +kernel
theorem dX0_firstPassOfWay_38 : decode cX0_firstPassOfWay 38 = .ok (.getfield 53, 3) := by decide +kernel
theorem dX0_firstPassOfWay_41 : decode cX0_firstPassOfWay 41 = .ok (.getfield 148, 3) := by decide +kernel
theorem dX0_firstPassOfWay_44 : decode cX0_firstPassOfWay 44 = .ok (.if_icmp .ge 80, 3) := by decide +kernel
theorem dX0_firstPassOfWay_47 : decode cX0_firstPassOfWay 47 = .ok (.aload_n 0, 1) := by decide +kernel
theorem dX0_firstPassOfWay_48 : decode cX0_firstPassOfWay 48 = .ok (.iload_n 3, 1) := by decide +kernel
theorem dX0_firstPassOfWay_49 : decode cX0_firstPassOfWay 49 = .ok (.invokevirtual 98, 3) := by decide +kernel
theorem dX0_firstPassOfWay_52 : decode cX0_firstPassOfWay 52 = .ok (.ifCond .eq 66, 3) := by decide +kernel
theorem dX0_firstPassOfWay_55 : decode cX0_firstPassOfWay 55 = .ok (.aload_n 0, 1) := by decide +kernel
theorem dX0_firstPassOfWay_56 : decode cX0_firstPassOfWay 56 = .ok (.getfield 53, 3) := by decide +kernel
theorem dX0_firstPassOfWay_59 : decode cX0_firstPassOfWay 59 = .ok (.iload_n 3, 1) := by decide +kernel
theorem dX0_firstPassOfWay_60 : decode cX0_firstPassOfWay 60 = .ok (.iload_n 1, 1) := by decide +kernel
theorem dX0_firstPassOfWay_61 : decode cX0_firstPassOfWay 61 = .ok (.invokevirtual 151, 3) := by decide +kernel
theorem dX0_firstPassOfWay_64 : decode cX0_firstPassOfWay 64 = .ok (.ifCond .eq 54, 3) := by decide +kernel
theorem dX0_firstPassOfWay_67 : decode cX0_firstPassOfWay 67 = .ok (.aload_n 0, 1) := by decide +kernel
theorem dX0_firstPassOfWay_68 : decode cX0_firstPassOfWay 68 = .ok (.getfield 53, 3) := by decide +kernel
theorem dX0_firstPassOfWay_71 : decode cX0_firstPassOfWay 71 = .ok (.iload_n 3, 1) := by decide +kernel
theorem dX0_firstPassOfWay_72 : decode cX0_firstPassOfWay 72 = .ok (.iload_n 1, 1) := by decide +kernel
theorem dX0_firstPassOfWay_73 : decode cX0_firstPassOfWay 73 = .ok (.invokevirtual 107, 3) := by decide +kernel
theorem dX0_firstPassOfWay_76 : decode cX0_firstPassOfWay 76 = .ok (.istore 4, 2) := by decide +kernel
theorem dX0_firstPassOfWay_78 : decode cX0_firstPassOfWay 78 = .ok (.aload_n 0, 1) := by decide +kernel
theorem dX0_firstPassOfWay_79 : decode cX0_firstPassOfWay 79 = .ok (.getfield 53, 3) := by decide +kernel
theorem dX0_firstPassOfWay_82 : decode cX0_firstPassOfWay 82 = .ok (.iload 4, 2) := by decide +kernel
theorem dX0_firstPassOfWay_84 : decode cX0_firstPassOfWay 84 = .ok (.invokevirtual 144, 3) := by decide +kernel
theorem dX0_firstPassOfWay_87 : decode cX0_firstPassOfWay 87 = .ok (.ifCond .eq 31, 3) := by decide +kernel
theorem dX0_firstPassOfWay_90 : decode cX0_firstPassOfWay 90 = .ok (.aload_n 0, 1) := by decide +kernel
theorem dX0_firstPassOfWay_91 : decode cX0_firstPassOfWay 91 = .ok (.getfield 53, 3) := by decide +kernel
theorem dX0_firstPassOfWay_94 : decode cX0_firstPassOfWay 94 = .ok (.getfield 104, 3) := by decide +kernel
theorem dX0_firstPassOfWay_97 : decode cX0_firstPassOfWay 97 = .ok (.iload_n 3, 1) := by decide +kernel
theorem dX0_firstPassOfWay_98 : decode cX0_firstPassOfWay 98 = .ok (.iaload, 1) := by decide +kernel
theorem dX0_firstPassOfWay_99 : decode cX0_firstPassOfWay 99 = .ok (.aload_n 0, 1) := by decide +kernel
theorem dX0_firstPassOfWay_100 : decode cX0_firstPassOfWay 100 = .ok (.getfield 50, 3) := by decide +kernel
theorem dX0_firstPassOfWay_103 : decode cX0_firstPassOfWay 103 = .ok (.iload 4, 2) := by decide +kernel
theorem dX0_firstPassOfWay_105 : decode cX0_firstPassOfWay 105 = .ok (.iaload, 1) := by decide +kernel
theorem dX0_firstPassOfWay_106 : decode cX0_firstPassOfWay 106 = .ok (.iadd, 1) := by decide +kernel
theorem dX0_firstPassOfWay_107 : decode cX0_firstPassOfWay 107 = .ok (.aload_n 0, 1) := by decide +kernel
theorem dX0_firstPassOfWay_108 : decode cX0_firstPassOfWay 108 = .ok (.getfield 50, 3) := by decide +kernel
theorem dX0_firstPassOfWay_111 : decode cX0_firstPassOfWay 111 = .ok (.iload_n 1, 1) := by decide +kernel
theorem dX0_firstPassOfWay_112 : decode cX0_firstPassOfWay 112 = .ok (.iaload, 1) := by decide +kernel
theorem dX0_firstPassOfWay_113 : decode cX0_firstPassOfWay 113 = .ok (.if_icmp .ne 5, 3) := by decide +kernel
theorem dX0_firstPassOfWay_116 : decode cX0_firstPassOfWay 116 = .ok (.iload_n 3, 1) := by decide +kernel
theorem dX0_firstPassOfWay_117 : decode cX0_firstPassOfWay 117 = .ok (.ireturn, 1) := by decide +kernel
theorem dX0_firstPassOfWay_118 : decode cX0_firstPassOfWay 118 = .ok (.iinc 3 1, 3) := by decide +kernel
theorem dX0_firstPassOfWay_121 : decode cX0_firstPassOfWay 121 = .ok (.goto (-85), 3) := by decide +kernel
theorem dX0_firstPassOfWay_124 : decode cX0_firstPassOfWay 124 = .ok (.iconst (-1), 1) := by decide +kernel
theorem dX0_firstPassOfWay_125 : decode cX0_firstPassOfWay 125 = .ok (.ireturn, 1) := by decide +kernel
theorem dX0_measure_0 : decode cX0_measure 0 = .ok (.iconst 0, 1) := by decide +kernel
theorem dX0_measure_1 : decode cX0_measure 1 = .ok (.istore_n 2, 1) := by decide +kernel
theorem dX0_measure_2 : decode cX0_measure 2 = .ok (.iload_n 2, 1) := by decide +kernel
theorem dX0_measure_3 : decode cX0_measure 3 = .ok (.aload_n 0, 1) := by decide +kernel
theorem dX0_measure_4 : decode cX0_measure 4 = .ok (.getfield 50, 3) := by decide +kernel
theorem dX0_measure_7 : decode cX0_measure 7 = .ok (.arraylength, 1) := by decide +kernel
theorem dX0_measure_8 : decode cX0_measure 8 = .ok (.if_icmp .ge 26, 3) := by decide +kernel
theorem dX0_measure_11 : decode cX0_measure 11 = .ok (.aload_n 0, 1) := by decide +kernel
theorem dX0_measure_12 : decode cX0_measure 12 = .ok (.getfield 50, 3) := by decide +kernel
theorem dX0_measure_15 : decode cX0_measure 15 = .ok (.iload_n 2, 1) := by decide +kernel
theorem dX0_measure_16 : decode cX0_measure 16 = .ok (.iload_n 2, 1) := by decide +kernel
theorem dX0_measure_17 : decode cX0_measure 17 = .ok (.iload_n 1, 1) := by decide +kernel
theorem dX0_measure_18 : decode cX0_measure 18 = .ok (.if_icmp .ne 7, 3) := by decide +kernel
theorem dX0_measure_21 : decode cX0_measure 21 = .ok (.iconst 0, 1) := by decide +kernel
theorem dX0_measure_22 : decode cX0_measure 22 = .ok (.goto 5, 3) := by decide +kernel
theorem dX0_measure_25 : decode cX0_measure 25 = .ok (.ldc 147, 2) := by decide +kernel
theorem dX0_measure_27 : decode cX0_measure 27 = .ok (.iastore, 1) := by decide +kernel
theorem dX0_measure_28 : decode cX0_measure 28 = .ok (.iinc 2 1, 3) := by decide +kernel
theorem dX0_measure_31 : decode cX0_measure 31 = .ok (.goto (-29), 3) := by decide +kernel
theorem dX0_measure_34 : decode cX0_measure 34 = .ok (.iconst 1, 1) := by decide +kernel
theorem dX0_measure_35 : decode cX0_measure 35 = .ok (.istore_n 2, 1) := by decide +kernel
theorem dX0_measure_36 : decode cX0_measure 36 = .ok (.iconst 0, 1) := by decide +kernel
theorem dX0_measure_37 : decode cX0_measure 37 = .ok (.istore_n 3, 1) := by decide +kernel
theorem dX0_measure_38 : decode cX0_measure 38 = .ok (.iload_n 3, 1) := by decide +kernel
theorem dX0_measure_39 : decode cX0_measure 39 = .ok (.bipush 8, 2) := by decide +kernel
theorem dX0_measure_41 : decode cX0_measure 41 = .ok (.if_icmp .ge 137, 3) := by decide +kernel
theorem dX0_measure_44 : decode cX0_measure 44 = .ok (.iload_n 2, 1) := by decide +kernel
theorem dX0_measure_45 : decode cX0_measure 45 = .ok (.ifCond .eq 133, 3) := by decide +kernel
theorem dX0_measure_48 : decode cX0_measure 48 = .ok (.iconst 0, 1) := by decide +kernel
theorem dX0_measure_49 : decode cX0_measure 49 = .ok (.istore_n 2, 1) := by decide +kernel
theorem dX0_measure_50 : decode cX0_measure 50 = .ok (.iconst 0, 1) := by decide +kernel
theorem dX0_measure_51 : decode cX0_measure 51 = .ok (.istore 4, 2) := by decide +kernel
theorem dX0_measure_53 : decode cX0_measure 53 = .ok (.iload 4, 2) := by decide +kernel
theorem dX0_measure_55 : decode cX0_measure 55 = .ok (.aload_n 0, 1) := by decide +kernel
theorem dX0_measure_56 : decode cX0_measure 56 = .ok (.getfield 53, 3) := by decide +kernel
theorem dX0_measure_59 : decode cX0_measure 59 = .ok (.getfield 148, 3) := by decide +kernel
theorem dX0_measure_62 : decode cX0_measure 62 = .ok (.if_icmp .ge 110, 3) := by decide +kernel
theorem dX0_measure_65 : decode cX0_measure 65 = .ok (.aload_n 0, 1) := by decide +kernel
theorem dX0_measure_66 : decode cX0_measure 66 = .ok (.iload 4, 2) := by decide +kernel
theorem dX0_measure_68 : decode cX0_measure 68 = .ok (.invokevirtual 98, 3) := by decide +kernel
theorem dX0_measure_71 : decode cX0_measure 71 = .ok (.ifCond .eq 95, 3) := by decide +kernel
theorem dX0_measure_74 : decode cX0_measure 74 = .ok (.aload_n 0, 1) := by decide +kernel
theorem dX0_measure_75 : decode cX0_measure 75 = .ok (.aload_n 0, 1) := by decide +kernel
theorem dX0_measure_76 : decode cX0_measure 76 = .ok (.getfield 53, 3) := by decide +kernel
theorem dX0_measure_79 : decode cX0_measure 79 = .ok (.getfield 154, 3) := by decide +kernel
theorem dX0_measure_82 : decode cX0_measure 82 = .ok (.iload 4, 2) := by decide +kernel
theorem dX0_measure_84 : decode cX0_measure 84 = .ok (.iaload, 1) := by decide +kernel
theorem dX0_measure_85 : decode cX0_measure 85 = .ok (.aload_n 0, 1) := by decide +kernel
theorem dX0_measure_86 : decode cX0_measure 86 = .ok (.getfield 53, 3) := by decide +kernel
theorem dX0_measure_89 : decode cX0_measure 89 = .ok (.getfield 157, 3) := by decide +kernel
theorem dX0_measure_92 : decode cX0_measure 92 = .ok (.iload 4, 2) := by decide +kernel
theorem dX0_measure_94 : decode cX0_measure 94 = .ok (.iaload, 1) := by decide +kernel
theorem dX0_measure_95 : decode cX0_measure 95 = .ok (.aload_n 0, 1) := by decide +kernel
theorem dX0_measure_96 : decode cX0_measure 96 = .ok (.getfield 53, 3) := by decide +kernel
theorem dX0_measure_99 : decode cX0_measure 99 = .ok (.getfield 104, 3) := by decide +kernel
theorem dX0_measure_102 : decode cX0_measure 102 = .ok (.iload 4, 2) := by decide +kernel
theorem dX0_measure_104 : decode cX0_measure 104 = .ok (.iaload, 1) := by decide +kernel
theorem dX0_measure_105 : decode cX0_measure 105 = .ok (.invokevirtual 160, 3) := by decide +kernel
theorem dX0_measure_108 : decode cX0_measure 108 = .ok (.istore 5, 2) := by decide +kernel
theorem dX0_measure_110 : decode cX0_measure 110 = .ok (.aload_n 0, 1) := by decide +kernel
theorem dX0_measure_111 : decode cX0_measure 111 = .ok (.aload_n 0, 1) := by decide +kernel
theorem dX0_measure_112 : decode cX0_measure 112 = .ok (.getfield 53, 3) := by decide +kernel
theorem dX0_measure_115 : decode cX0_measure 115 = .ok (.getfield 157, 3) := by decide +kernel
theorem dX0_measure_118 : decode cX0_measure 118 = .ok (.iload 4, 2) := by decide +kernel
theorem dX0_measure_120 : decode cX0_measure 120 = .ok (.iaload, 1) := by decide +kernel
theorem dX0_measure_121 : decode cX0_measure 121 = .ok (.aload_n 0, 1) := by decide +kernel
theorem dX0_measure_122 : decode cX0_measure 122 = .ok (.getfield 53, 3) := by decide +kernel
theorem dX0_measure_125 : decode cX0_measure 125 = .ok (.getfield 154, 3) := by decide +kernel
theorem dX0_measure_128 : decode cX0_measure 128 = .ok (.iload 4, 2) := by decide +kernel
theorem dX0_measure_130 : decode cX0_measure 130 = .ok (.iaload, 1) := by decide +kernel
theorem dX0_measure_131 : decode cX0_measure 131 = .ok (.aload_n 0, 1) := by decide +kernel
theorem dX0_measure_132 : decode cX0_measure 132 = .ok (.getfield 53, 3) := by decide +kernel
theorem dX0_measure_135 : decode cX0_measure 135 = .ok (.getfield 104, 3) := by decide +kernel
theorem dX0_measure_138 : decode cX0_measure 138 = .ok (.iload 4, 2) := by decide +kernel
theorem dX0_measure_140 : decode cX0_measure 140 = .ok (.iaload, 1) := by decide +kernel
theorem dX0_measure_141 : decode cX0_measure 141 = .ok (.invokevirtual 160, 3) := by decide +kernel
theorem dX0_measure_144 : decode cX0_measure 144 = .ok (.istore 6, 2) := by decide +kernel
theorem dX0_measure_146 : decode cX0_measure 146 = .ok (.iload_n 2, 1) := by decide +kernel
theorem dX0_measure_147 : decode cX0_measure 147 = .ok (.ifCond .ne 13, 3) := by decide +kernel
theorem dX0_measure_150 : decode cX0_measure 150 = .ok (.iload 5, 2) := by decide +kernel
theorem dX0_measure_152 : decode cX0_measure 152 = .ok (.ifCond .ne 8, 3) := by decide +kernel
theorem dX0_measure_155 : decode cX0_measure 155 = .ok (.iload 6, 2) := by decide +kernel
theorem dX0_measure_157 : decode cX0_measure 157 = .ok (.ifCond .eq 7, 3) := by decide +kernel
theorem dX0_measure_160 : decode cX0_measure 160 = .ok (.iconst 1, 1) := by decide +kernel
theorem dX0_measure_161 : decode cX0_measure 161 = .ok (.goto 4, 3) := by decide +kernel
theorem dX0_measure_164 : decode cX0_measure 164 = .ok (.iconst 0, 1) := by decide +kernel
theorem dX0_measure_165 : decode cX0_measure 165 = .ok (.istore_n 2, 1) := by decide +kernel
theorem dX0_measure_166 : decode cX0_measure 166 = .ok (.iinc 4 1, 3) := by decide +kernel
theorem dX0_measure_169 : decode cX0_measure 169 = .ok (.goto (-116), 3) := by decide +kernel
theorem dX0_measure_172 : decode cX0_measure 172 = .ok (.iinc 3 1, 3) := by decide +kernel
theorem dX0_measure_175 : decode cX0_measure 175 = .ok (.goto (-137), 3) := by decide +kernel
theorem dX0_measure_178 : decode cX0_measure 178 = .ok (.return_, 1) := by decide +kernel
theorem dX0_shorten_0 : decode cX0_shorten 0 = .ok (.aload_n 0, 1) := by decide +kernel
theorem dX0_shorten_1 : decode cX0_shorten 1 = .ok (.getfield 53, 3) := by decide +kernel
theorem dX0_shorten_4 : decode cX0_shorten 4 = .ok (.iload_n 1, 1) := by decide +kernel
theorem dX0_shorten_5 : decode cX0_shorten 5 = .ok (.invokevirtual 144, 3) := by decide +kernel
theorem dX0_shorten_8 : decode cX0_shorten 8 = .ok (.ifCond .eq 31, 3) := by decide +kernel
theorem dX0_shorten_11 : decode cX0_shorten 11 = .ok (.aload_n 0, 1) := by decide +kernel
theorem dX0_shorten_12 : decode cX0_shorten 12 = .ok (.getfield 53, 3) := by decide +kernel
theorem dX0_shorten_15 : decode cX0_shorten 15 = .ok (.iload_n 2, 1) := by decide +kernel
theorem dX0_shorten_16 : decode cX0_shorten 16 = .ok (.invokevirtual 144, 3) := by decide +kernel
theorem dX0_shorten_19 : decode cX0_shorten 19 = .ok (.ifCond .eq 20, 3) := by decide +kernel
theorem dX0_shorten_22 : decode cX0_shorten 22 = .ok (.aload_n 0, 1) := by decide +kernel
theorem dX0_shorten_23 : decode cX0_shorten 23 = .ok (.getfield 50, 3) := by decide +kernel
theorem dX0_shorten_26 : decode cX0_shorten 26 = .ok (.iload_n 2, 1) := by decide +kernel
theorem dX0_shorten_27 : decode cX0_shorten 27 = .ok (.iaload, 1) := by decide +kernel
theorem dX0_shorten_28 : decode cX0_shorten 28 = .ok (.iload_n 3, 1) := by decide +kernel
theorem dX0_shorten_29 : decode cX0_shorten 29 = .ok (.iadd, 1) := by decide +kernel
theorem dX0_shorten_30 : decode cX0_shorten 30 = .ok (.aload_n 0, 1) := by decide +kernel
theorem dX0_shorten_31 : decode cX0_shorten 31 = .ok (.getfield 50, 3) := by decide +kernel
theorem dX0_shorten_34 : decode cX0_shorten 34 = .ok (.iload_n 1, 1) := by decide +kernel
theorem dX0_shorten_35 : decode cX0_shorten 35 = .ok (.iaload, 1) := by decide +kernel
theorem dX0_shorten_36 : decode cX0_shorten 36 = .ok (.if_icmp .lt 5, 3) := by decide +kernel
theorem dX0_shorten_39 : decode cX0_shorten 39 = .ok (.iconst 0, 1) := by decide +kernel
theorem dX0_shorten_40 : decode cX0_shorten 40 = .ok (.ireturn, 1) := by decide +kernel
theorem dX0_shorten_41 : decode cX0_shorten 41 = .ok (.aload_n 0, 1) := by decide +kernel
theorem dX0_shorten_42 : decode cX0_shorten 42 = .ok (.getfield 50, 3) := by decide +kernel
theorem dX0_shorten_45 : decode cX0_shorten 45 = .ok (.iload_n 1, 1) := by decide +kernel
theorem dX0_shorten_46 : decode cX0_shorten 46 = .ok (.aload_n 0, 1) := by decide +kernel
theorem dX0_shorten_47 : decode cX0_shorten 47 = .ok (.getfield 50, 3) := by decide +kernel
theorem dX0_shorten_50 : decode cX0_shorten 50 = .ok (.iload_n 2, 1) := by decide +kernel
theorem dX0_shorten_51 : decode cX0_shorten 51 = .ok (.iaload, 1) := by decide +kernel
theorem dX0_shorten_52 : decode cX0_shorten 52 = .ok (.iload_n 3, 1) := by decide +kernel
theorem dX0_shorten_53 : decode cX0_shorten 53 = .ok (.iadd, 1) := by decide +kernel
theorem dX0_shorten_54 : decode cX0_shorten 54 = .ok (.iastore, 1) := by decide +kernel
theorem dX0_shorten_55 : decode cX0_shorten 55 = .ok (.iconst 1, 1) := by decide +kernel
theorem dX0_shorten_56 : decode cX0_shorten 56 = .ok (.ireturn, 1) := by decide +kernel
theorem dX0_isPassable_0 : decode cX0_isPassable 0 = .ok (.aload_n 0, 1) := by decide +kernel
theorem dX0_isPassable_1 : decode cX0_isPassable 1 = .ok (.getfield 53, 3) := by decide +kernel
theorem dX0_isPassable_4 : decode cX0_isPassable 4 = .ok (.iload_n 1, 1) := by decide +kernel
theorem dX0_isPassable_5 : decode cX0_isPassable 5 = .ok (.invokevirtual 164, 3) := by decide +kernel
theorem dX0_isPassable_8 : decode cX0_isPassable 8 = .ok (.ifCond .eq 67, 3) := by decide +kernel
theorem dX0_isPassable_11 : decode cX0_isPassable 11 = .ok (.iload_n 1, 1) := by decide +kernel
theorem dX0_isPassable_12 : decode cX0_isPassable 12 = .ok (.aload_n 0, 1) := by decide +kernel
theorem dX0_isPassable_13 : decode cX0_isPassable 13 = .ok (.getfield 9, 3) := by decide +kernel
theorem dX0_isPassable_16 : decode cX0_isPassable 16 = .ok (.if_icmp .eq 59, 3) := by decide +kernel
theorem dX0_isPassable_19 : decode cX0_isPassable 19 = .ok (.aload_n 0, 1) := by decide +kernel
theorem dX0_isPassable_20 : decode cX0_isPassable 20 = .ok (.getfield 53, 3) := by decide +kernel
theorem dX0_isPassable_23 : decode cX0_isPassable 23 = .ok (.aload_n 0, 1) := by decide +kernel
theorem dX0_isPassable_24 : decode cX0_isPassable 24 = .ok (.getfield 53, 3) := by decide +kernel
theorem dX0_isPassable_27 : decode cX0_isPassable 27 = .ok (.getfield 154, 3) := by decide +kernel
theorem dX0_isPassable_30 : decode cX0_isPassable 30 = .ok (.iload_n 1, 1) := by decide +kernel
theorem dX0_isPassable_31 : decode cX0_isPassable 31 = .ok (.iaload, 1) := by decide +kernel
theorem dX0_isPassable_32 : decode cX0_isPassable 32 = .ok (.iload_n 2, 1) := by decide +kernel
theorem dX0_isPassable_33 : decode cX0_isPassable 33 = .ok (.invokevirtual 167, 3) := by decide +kernel
theorem dX0_isPassable_36 : decode cX0_isPassable 36 = .ok (.ifCond .eq 39, 3) := by decide +kernel
theorem dX0_isPassable_39 : decode cX0_isPassable 39 = .ok (.aload_n 0, 1) := by decide +kernel
theorem dX0_isPassable_40 : decode cX0_isPassable 40 = .ok (.getfield 53, 3) := by decide +kernel
theorem dX0_isPassable_43 : decode cX0_isPassable 43 = .ok (.aload_n 0, 1) := by decide +kernel
theorem dX0_isPassable_44 : decode cX0_isPassable 44 = .ok (.getfield 53, 3) := by decide +kernel
theorem dX0_isPassable_47 : decode cX0_isPassable 47 = .ok (.getfield 157, 3) := by decide +kernel
theorem dX0_isPassable_50 : decode cX0_isPassable 50 = .ok (.iload_n 1, 1) := by decide +kernel
theorem dX0_isPassable_51 : decode cX0_isPassable 51 = .ok (.iaload, 1) := by decide +kernel
theorem dX0_isPassable_52 : decode cX0_isPassable 52 = .ok (.iload_n 2, 1) := by decide +kernel
theorem dX0_isPassable_53 : decode cX0_isPassable 53 = .ok (.invokevirtual 167, 3) := by decide +kernel
theorem dX0_isPassable_56 : decode cX0_isPassable 56 = .ok (.ifCond .eq 19, 3) := by decide +kernel
theorem dX0_isPassable_59 : decode cX0_isPassable 59 = .ok (.aload_n 0, 1) := by decide +kernel
theorem dX0_isPassable_60 : decode cX0_isPassable 60 = .ok (.getfield 53, 3) := by decide +kernel
theorem dX0_isPassable_63 : decode cX0_isPassable 63 = .ok (.iload_n 1, 1) := by decide +kernel
theorem dX0_isPassable_64 : decode cX0_isPassable 64 = .ok (.iload_n 2, 1) := by decide +kernel
theorem dX0_isPassable_65 : decode cX0_isPassable 65 = .ok (.invokevirtual 170, 3) := by decide +kernel
theorem dX0_isPassable_68 : decode cX0_isPassable 68 = .ok (.ifCond .ne 7, 3) := by decide +kernel
theorem dX0_isPassable_71 : decode cX0_isPassable 71 = .ok (.iconst 1, 1) := by decide +kernel
theorem dX0_isPassable_72 : decode cX0_isPassable 72 = .ok (.goto 4, 3) := by decide +kernel
theorem dX0_isPassable_75 : decode cX0_isPassable 75 = .ok (.iconst 0, 1) := by decide +kernel
theorem dX0_isPassable_76 : decode cX0_isPassable 76 = .ok (.ireturn, 1) := by decide +kernel
theorem dX0_isLit_0 : decode cX0_isLit 0 = .ok (.iload_n 1, 1) := by decide +kernel
theorem dX0_isLit_1 : decode cX0_isLit 1 = .ok (.ifCond .lt 25, 3) := by decide +kernel
theorem dX0_isLit_4 : decode cX0_isLit 4 = .ok (.iload_n 1, 1) := by decide +kernel
theorem dX0_isLit_5 : decode cX0_isLit 5 = .ok (.aload_n 0, 1) := by decide +kernel
theorem dX0_isLit_6 : decode cX0_isLit 6 = .ok (.getfield 46, 3) := by decide +kernel
theorem dX0_isLit_9 : decode cX0_isLit 9 = .ok (.arraylength, 1) := by decide +kernel
theorem dX0_isLit_10 : decode cX0_isLit 10 = .ok (.if_icmp .ge 16, 3) := by decide +kernel
theorem dX0_isLit_13 : decode cX0_isLit 13 = .ok (.aload_n 0, 1) := by decide +kernel
theorem dX0_isLit_14 : decode cX0_isLit 14 = .ok (.getfield 46, 3) := by decide +kernel
theorem dX0_isLit_17 : decode cX0_isLit 17 = .ok (.iload_n 1, 1) := by decide +kernel
theorem dX0_isLit_18 : decode cX0_isLit 18 = .ok (.baload, 1) := by decide +kernel
theorem dX0_isLit_19 : decode cX0_isLit 19 = .ok (.ifCond .eq 7, 3) := by decide +kernel
theorem dX0_isLit_22 : decode cX0_isLit 22 = .ok (.iconst 1, 1) := by decide +kernel
theorem dX0_isLit_23 : decode cX0_isLit 23 = .ok (.goto 4, 3) := by decide +kernel
theorem dX0_isLit_26 : decode cX0_isLit 26 = .ok (.iconst 0, 1) := by decide +kernel
theorem dX0_isLit_27 : decode cX0_isLit 27 = .ok (.ireturn, 1) := by decide +kernel
theorem dX0_isCarried_0 : decode cX0_isCarried 0 = .ok (.aload_n 0, 1) := by decide +kernel
theorem dX0_isCarried_1 : decode cX0_isCarried 1 = .ok (.getfield 53, 3) := by decide +kernel
theorem dX0_isCarried_4 : decode cX0_isCarried 4 = .ok (.iload_n 1, 1) := by decide +kernel
theorem dX0_isCarried_5 : decode cX0_isCarried 5 = .ok (.invokevirtual 94, 3) := by decide +kernel
theorem dX0_isCarried_8 : decode cX0_isCarried 8 = .ok (.ifCond .eq 17, 3) := by decide +kernel
theorem dX0_isCarried_11 : decode cX0_isCarried 11 = .ok (.aload_n 0, 1) := by decide +kernel
theorem dX0_isCarried_12 : decode cX0_isCarried 12 = .ok (.getfield 25, 3) := by decide +kernel
theorem dX0_isCarried_15 : decode cX0_isCarried 15 = .ok (.iload_n 1, 1) := by decide +kernel
theorem dX0_isCarried_16 : decode cX0_isCarried 16 = .ok (.iaload, 1) := by decide +kernel
theorem dX0_isCarried_17 : decode cX0_isCarried 17 = .ok (.iconst 1, 1) := by decide +kernel
theorem dX0_isCarried_18 : decode cX0_isCarried 18 = .ok (.if_icmp .ne 7, 3) := by decide +kernel
theorem dX0_isCarried_21 : decode cX0_isCarried 21 = .ok (.iconst 1, 1) := by decide +kernel
theorem dX0_isCarried_22 : decode cX0_isCarried 22 = .ok (.goto 4, 3) := by decide +kernel
theorem dX0_isCarried_25 : decode cX0_isCarried 25 = .ok (.iconst 0, 1) := by decide +kernel
theorem dX0_isCarried_26 : decode cX0_isCarried 26 = .ok (.ireturn, 1) := by decide +kernel
theorem dX0_leftOf_0 : decode cX0_leftOf 0 = .ok (.aload_n 0, 1) := by decide +kernel
theorem dX0_leftOf_1 : decode cX0_leftOf 1 = .ok (.getfield 53, 3) := by decide +kernel
theorem dX0_leftOf_4 : decode cX0_leftOf 4 = .ok (.iload_n 1, 1) := by decide +kernel
theorem dX0_leftOf_5 : decode cX0_leftOf 5 = .ok (.invokevirtual 94, 3) := by decide +kernel
theorem dX0_leftOf_8 : decode cX0_leftOf 8 = .ok (.ifCond .eq 12, 3) := by decide +kernel
theorem dX0_leftOf_11 : decode cX0_leftOf 11 = .ok (.aload_n 0, 1) := by decide +kernel
theorem dX0_leftOf_12 : decode cX0_leftOf 12 = .ok (.getfield 28, 3) := by decide +kernel
theorem dX0_leftOf_15 : decode cX0_leftOf 15 = .ok (.iload_n 1, 1) := by decide +kernel
theorem dX0_leftOf_16 : decode cX0_leftOf 16 = .ok (.iaload, 1) := by decide +kernel
theorem dX0_leftOf_17 : decode cX0_leftOf 17 = .ok (.goto 4, 3) := by decide +kernel
theorem dX0_leftOf_20 : decode cX0_leftOf 20 = .ok (.iconst 0, 1) := by decide +kernel
theorem dX0_leftOf_21 : decode cX0_leftOf 21 = .ok (.ireturn, 1) := by decide +kernel
theorem dX0_breaksOf_0 : decode cX0_breaksOf 0 = .ok (.aload_n 0, 1) := by decide +kernel
theorem dX0_breaksOf_1 : decode cX0_breaksOf 1 = .ok (.getfield 53, 3) := by decide +kernel
theorem dX0_breaksOf_4 : decode cX0_breaksOf 4 = .ok (.iload_n 1, 1) := by decide +kernel
theorem dX0_breaksOf_5 : decode cX0_breaksOf 5 = .ok (.invokevirtual 94, 3) := by decide +kernel
theorem dX0_breaksOf_8 : decode cX0_breaksOf 8 = .ok (.ifCond .eq 12, 3) := by decide +kernel
theorem dX0_breaksOf_11 : decode cX0_breaksOf 11 = .ok (.aload_n 0, 1) := by decide +kernel
theorem dX0_breaksOf_12 : decode cX0_breaksOf 12 = .ok (.getfield 37, 3) := by decide +kernel
theorem dX0_breaksOf_15 : decode cX0_breaksOf 15 = .ok (.iload_n 1, 1) := by decide +kernel
theorem dX0_breaksOf_16 : decode cX0_breaksOf 16 = .ok (.iaload, 1) := by decide +kernel
theorem dX0_breaksOf_17 : decode cX0_breaksOf 17 = .ok (.goto 4, 3) := by decide +kernel
theorem dX0_breaksOf_20 : decode cX0_breaksOf 20 = .ok (.iconst 0, 1) := by decide +kernel
theorem dX0_breaksOf_21 : decode cX0_breaksOf 21 = .ok (.ireturn, 1) := by decide +kernel
theorem dX0_freeMirrors_0 : decode cX0_freeMirrors 0 = .ok (.aload_n 0, 1) := by decide +kernel
theorem dX0_freeMirrors_1 : decode cX0_freeMirrors 1 = .ok (.getfield 53, 3) := by decide +kernel
theorem dX0_freeMirrors_4 : decode cX0_freeMirrors 4 = .ok (.iload_n 1, 1) := by decide +kernel
theorem dX0_freeMirrors_5 : decode cX0_freeMirrors 5 = .ok (.invokevirtual 144, 3) := by decide +kernel
theorem dX0_freeMirrors_8 : decode cX0_freeMirrors 8 = .ok (.ifCond .eq 19, 3) := by decide +kernel
theorem dX0_freeMirrors_11 : decode cX0_freeMirrors 11 = .ok (.aload_n 0, 1) := by decide +kernel
theorem dX0_freeMirrors_12 : decode cX0_freeMirrors 12 = .ok (.getfield 15, 3) := by decide +kernel
theorem dX0_freeMirrors_15 : decode cX0_freeMirrors 15 = .ok (.iload_n 1, 1) := by decide +kernel
theorem dX0_freeMirrors_16 : decode cX0_freeMirrors 16 = .ok (.iaload, 1) := by decide +kernel
theorem dX0_freeMirrors_17 : decode cX0_freeMirrors 17 = .ok (.aload_n 0, 1) := by decide +kernel
theorem dX0_freeMirrors_18 : decode cX0_freeMirrors 18 = .ok (.iload_n 1, 1) := by decide +kernel
theorem dX0_freeMirrors_19 : decode cX0_freeMirrors 19 = .ok (.iconst 1, 1) := by decide +kernel
theorem dX0_freeMirrors_20 : decode cX0_freeMirrors 20 = .ok (.invokevirtual 173, 3) := by decide +kernel
theorem dX0_freeMirrors_23 : decode cX0_freeMirrors 23 = .ok (.isub, 1) := by decide +kernel
theorem dX0_freeMirrors_24 : decode cX0_freeMirrors 24 = .ok (.goto 4, 3) := by decide +kernel
theorem dX0_freeMirrors_27 : decode cX0_freeMirrors 27 = .ok (.iconst 0, 1) := by decide +kernel
theorem dX0_freeMirrors_28 : decode cX0_freeMirrors 28 = .ok (.ireturn, 1) := by decide +kernel
theorem dX0_messagesAt_0 : decode cX0_messagesAt 0 = .ok (.iconst 0, 1) := by decide +kernel
theorem dX0_messagesAt_1 : decode cX0_messagesAt 1 = .ok (.istore_n 3, 1) := by decide +kernel
theorem dX0_messagesAt_2 : decode cX0_messagesAt 2 = .ok (.iconst 0, 1) := by decide +kernel
theorem dX0_messagesAt_3 : decode cX0_messagesAt 3 = .ok (.istore 4, 2) := by decide +kernel
theorem dX0_messagesAt_5 : decode cX0_messagesAt 5 = .ok (.iload 4, 2) := by decide +kernel
theorem dX0_messagesAt_7 : decode cX0_messagesAt 7 = .ok (.aload_n 0, 1) := by decide +kernel
theorem dX0_messagesAt_8 : decode cX0_messagesAt 8 = .ok (.getfield 53, 3) := by decide +kernel
theorem dX0_messagesAt_11 : decode cX0_messagesAt 11 = .ok (.getfield 81, 3) := by decide +kernel
theorem dX0_messagesAt_14 : decode cX0_messagesAt 14 = .ok (.if_icmp .ge 41, 3) := by decide +kernel
theorem dX0_messagesAt_17 : decode cX0_messagesAt 17 = .ok (.iload 4, 2) := by decide +kernel
theorem dX0_messagesAt_19 : decode cX0_messagesAt 19 = .ok (.bipush 8, 2) := by decide +kernel
theorem dX0_messagesAt_21 : decode cX0_messagesAt 21 = .ok (.if_icmp .ge 34, 3) := by decide +kernel
theorem dX0_messagesAt_24 : decode cX0_messagesAt 24 = .ok (.aload_n 0, 1) := by decide +kernel
theorem dX0_messagesAt_25 : decode cX0_messagesAt 25 = .ok (.getfield 19, 3) := by decide +kernel
theorem dX0_messagesAt_28 : decode cX0_messagesAt 28 = .ok (.iload 4, 2) := by decide +kernel
theorem dX0_messagesAt_30 : decode cX0_messagesAt 30 = .ok (.iaload, 1) := by decide +kernel
theorem dX0_messagesAt_31 : decode cX0_messagesAt 31 = .ok (.iload_n 1, 1) := by decide +kernel
theorem dX0_messagesAt_32 : decode cX0_messagesAt 32 = .ok (.if_icmp .ne 17, 3) := by decide +kernel
theorem dX0_messagesAt_35 : decode cX0_messagesAt 35 = .ok (.aload_n 0, 1) := by decide +kernel
theorem dX0_messagesAt_36 : decode cX0_messagesAt 36 = .ok (.getfield 25, 3) := by decide +kernel
theorem dX0_messagesAt_39 : decode cX0_messagesAt 39 = .ok (.iload 4, 2) := by decide +kernel
theorem dX0_messagesAt_41 : decode cX0_messagesAt 41 = .ok (.iaload, 1) := by decide +kernel
theorem dX0_messagesAt_42 : decode cX0_messagesAt 42 = .ok (.iload_n 2, 1) := by decide +kernel
theorem dX0_messagesAt_43 : decode cX0_messagesAt 43 = .ok (.if_icmp .ne 6, 3) := by decide +kernel
theorem dX0_messagesAt_46 : decode cX0_messagesAt 46 = .ok (.iinc 3 1, 3) := by decide +kernel
theorem dX0_messagesAt_49 : decode cX0_messagesAt 49 = .ok (.iinc 4 1, 3) := by decide +kernel
theorem dX0_messagesAt_52 : decode cX0_messagesAt 52 = .ok (.goto (-47), 3) := by decide +kernel
theorem dX0_messagesAt_55 : decode cX0_messagesAt 55 = .ok (.iload_n 3, 1) := by decide +kernel
theorem dX0_messagesAt_56 : decode cX0_messagesAt 56 = .ok (.ireturn, 1) := by decide +kernel
theorem dX0_messagesIn_0 : decode cX0_messagesIn 0 = .ok (.iconst 0, 1) := by decide +kernel
theorem dX0_messagesIn_1 : decode cX0_messagesIn 1 = .ok (.istore_n 2, 1) := by decide +kernel
theorem dX0_messagesIn_2 : decode cX0_messagesIn 2 = .ok (.iconst 0, 1) := by decide +kernel
theorem dX0_messagesIn_3 : decode cX0_messagesIn 3 = .ok (.istore_n 3, 1) := by decide +kernel
theorem dX0_messagesIn_4 : decode cX0_messagesIn 4 = .ok (.iload_n 3, 1) := by decide +kernel
theorem dX0_messagesIn_5 : decode cX0_messagesIn 5 = .ok (.aload_n 0, 1) := by decide +kernel
theorem dX0_messagesIn_6 : decode cX0_messagesIn 6 = .ok (.getfield 53, 3) := by decide +kernel
theorem dX0_messagesIn_9 : decode cX0_messagesIn 9 = .ok (.getfield 81, 3) := by decide +kernel
theorem dX0_messagesIn_12 : decode cX0_messagesIn 12 = .ok (.if_icmp .ge 28, 3) := by decide +kernel
theorem dX0_messagesIn_15 : decode cX0_messagesIn 15 = .ok (.iload_n 3, 1) := by decide +kernel
theorem dX0_messagesIn_16 : decode cX0_messagesIn 16 = .ok (.bipush 8, 2) := by decide +kernel
theorem dX0_messagesIn_18 : decode cX0_messagesIn 18 = .ok (.if_icmp .ge 22, 3) := by decide +kernel
theorem dX0_messagesIn_21 : decode cX0_messagesIn 21 = .ok (.aload_n 0, 1) := by decide +kernel
theorem dX0_messagesIn_22 : decode cX0_messagesIn 22 = .ok (.getfield 25, 3) := by decide +kernel
theorem dX0_messagesIn_25 : decode cX0_messagesIn 25 = .ok (.iload_n 3, 1) := by decide +kernel
theorem dX0_messagesIn_26 : decode cX0_messagesIn 26 = .ok (.iaload, 1) := by decide +kernel
theorem dX0_messagesIn_27 : decode cX0_messagesIn 27 = .ok (.iload_n 1, 1) := by decide +kernel
theorem dX0_messagesIn_28 : decode cX0_messagesIn 28 = .ok (.if_icmp .ne 6, 3) := by decide +kernel
theorem dX0_messagesIn_31 : decode cX0_messagesIn 31 = .ok (.iinc 2 1, 3) := by decide +kernel
theorem dX0_messagesIn_34 : decode cX0_messagesIn 34 = .ok (.iinc 3 1, 3) := by decide +kernel
theorem dX0_messagesIn_37 : decode cX0_messagesIn 37 = .ok (.goto (-33), 3) := by decide +kernel
theorem dX0_messagesIn_40 : decode cX0_messagesIn 40 = .ok (.iload_n 2, 1) := by decide +kernel
theorem dX0_messagesIn_41 : decode cX0_messagesIn 41 = .ok (.ireturn, 1) := by decide +kernel
theorem dX0_messageOver_0 : decode cX0_messageOver 0 = .ok (.iconst 0, 1) := by decide +kernel
theorem dX0_messageOver_1 : decode cX0_messageOver 1 = .ok (.istore_n 2, 1) := by decide +kernel
theorem dX0_messageOver_2 : decode cX0_messageOver 2 = .ok (.iload_n 2, 1) := by decide +kernel
theorem dX0_messageOver_3 : decode cX0_messageOver 3 = .ok (.aload_n 0, 1) := by decide +kernel
theorem dX0_messageOver_4 : decode cX0_messageOver 4 = .ok (.getfield 53, 3) := by decide +kernel
theorem dX0_messageOver_7 : decode cX0_messageOver 7 = .ok (.getfield 81, 3) := by decide +kernel
theorem dX0_messageOver_10 : decode cX0_messageOver 10 = .ok (.if_icmp .ge 27, 3) := by decide +kernel
theorem dX0_messageOver_13 : decode cX0_messageOver 13 = .ok (.iload_n 2, 1) := by decide +kernel
theorem dX0_messageOver_14 : decode cX0_messageOver 14 = .ok (.bipush 8, 2) := by decide +kernel
theorem dX0_messageOver_16 : decode cX0_messageOver 16 = .ok (.if_icmp .ge 21, 3) := by decide +kernel
theorem dX0_messageOver_19 : decode cX0_messageOver 19 = .ok (.aload_n 0, 1) := by decide +kernel
theorem dX0_messageOver_20 : decode cX0_messageOver 20 = .ok (.getfield 34, 3) := by decide +kernel
theorem dX0_messageOver_23 : decode cX0_messageOver 23 = .ok (.iload_n 2, 1) := by decide +kernel
theorem dX0_messageOver_24 : decode cX0_messageOver 24 = .ok (.iaload, 1) := by decide +kernel
theorem dX0_messageOver_25 : decode cX0_messageOver 25 = .ok (.iload_n 1, 1) := by decide +kernel
theorem dX0_messageOver_26 : decode cX0_messageOver 26 = .ok (.if_icmp .ne 5, 3) := by decide +kernel
theorem dX0_messageOver_29 : decode cX0_messageOver 29 = .ok (.iload_n 2, 1) := by decide +kernel
theorem dX0_messageOver_30 : decode cX0_messageOver 30 = .ok (.ireturn, 1) := by decide +kernel

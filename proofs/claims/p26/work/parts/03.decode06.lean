theorem dX8_queue_8 : decode cX8_queue 8 = .ok (.arraylength, 1) := by decide +kernel
theorem dX8_queue_9 : decode cX8_queue 9 = .ok (.istore 4, 2) := by decide +kernel
theorem dX8_queue_11 : decode cX8_queue 11 = .ok (.iconst 0, 1) := by decide +kernel
theorem dX8_queue_12 : decode cX8_queue 12 = .ok (.istore 5, 2) := by decide +kernel
theorem dX8_queue_14 : decode cX8_queue 14 = .ok (.iload 5, 2) := by decide +kernel
theorem dX8_queue_16 : decode cX8_queue 16 = .ok (.iload 4, 2) := by decide +kernel
theorem dX8_queue_18 : decode cX8_queue 18 = .ok (.if_icmp .ge 38, 3) := by decide +kernel
theorem dX8_queue_21 : decode cX8_queue 21 = .ok (.aload_n 3, 1) := by decide +kernel
theorem dX8_queue_22 : decode cX8_queue 22 = .ok (.iload 5, 2) := by decide +kernel
theorem dX8_queue_24 : decode cX8_queue 24 = .ok (.aaload, 1) := by decide +kernel
theorem dX8_queue_25 : decode cX8_queue 25 = .ok (.astore 6, 2) := by decide +kernel
theorem dX8_queue_27 : decode cX8_queue 27 = .ok (.iload_n 2, 1) := by decide +kernel
theorem dX8_queue_28 : decode cX8_queue 28 = .ok (.aload 6, 2) := by decide +kernel
theorem dX8_queue_30 : decode cX8_queue 30 = .ok (.iconst 4, 1) := by decide +kernel
theorem dX8_queue_31 : decode cX8_queue 31 = .ok (.iaload, 1) := by decide +kernel
theorem dX8_queue_32 : decode cX8_queue 32 = .ok (.ifCond .ne 15, 3) := by decide +kernel
theorem dX8_queue_35 : decode cX8_queue 35 = .ok (.aload 6, 2) := by decide +kernel
theorem dX8_queue_37 : decode cX8_queue 37 = .ok (.iconst 1, 1) := by decide +kernel
theorem dX8_queue_38 : decode cX8_queue 38 = .ok (.iaload, 1) := by decide +kernel
theorem dX8_queue_39 : decode cX8_queue 39 = .ok (.iload_n 1, 1) := by decide +kernel
theorem dX8_queue_40 : decode cX8_queue 40 = .ok (.if_icmp .ne 7, 3) := by decide +kernel
theorem dX8_queue_43 : decode cX8_queue 43 = .ok (.iconst 1, 1) := by decide +kernel
theorem dX8_queue_44 : decode cX8_queue 44 = .ok (.goto 4, 3) := by decide +kernel
theorem dX8_queue_47 : decode cX8_queue 47 = .ok (.iconst 0, 1) := by decide +kernel
theorem dX8_queue_48 : decode cX8_queue 48 = .ok (.iadd, 1) := by decide +kernel
theorem dX8_queue_49 : decode cX8_queue 49 = .ok (.istore_n 2, 1) := by decide +kernel
theorem dX8_queue_50 : decode cX8_queue 50 = .ok (.iinc 5 1, 3) := by decide +kernel
theorem dX8_queue_53 : decode cX8_queue 53 = .ok (.goto (-39), 3) := by decide +kernel
theorem dX8_queue_56 : decode cX8_queue 56 = .ok (.iload_n 2, 1) := by decide +kernel
theorem dX8_queue_57 : decode cX8_queue 57 = .ok (.ireturn, 1) := by decide +kernel
theorem dX8_busy_0 : decode cX8_busy 0 = .ok (.iconst 0, 1) := by decide +kernel
theorem dX8_busy_1 : decode cX8_busy 1 = .ok (.istore_n 2, 1) := by decide +kernel
theorem dX8_busy_2 : decode cX8_busy 2 = .ok (.aload_n 0, 1) := by decide +kernel
theorem dX8_busy_3 : decode cX8_busy 3 = .ok (.getfield 25, 3) := by decide +kernel
theorem dX8_busy_6 : decode cX8_busy 6 = .ok (.astore_n 3, 1) := by decide +kernel
theorem dX8_busy_7 : decode cX8_busy 7 = .ok (.aload_n 3, 1) := by decide +kernel
theorem dX8_busy_8 : decode cX8_busy 8 = .ok (.arraylength, 1) := by decide +kernel
theorem dX8_busy_9 : decode cX8_busy 9 = .ok (.istore 4, 2) := by decide +kernel
theorem dX8_busy_11 : decode cX8_busy 11 = .ok (.iconst 0, 1) := by decide +kernel
theorem dX8_busy_12 : decode cX8_busy 12 = .ok (.istore 5, 2) := by decide +kernel
theorem dX8_busy_14 : decode cX8_busy 14 = .ok (.iload 5, 2) := by decide +kernel
theorem dX8_busy_16 : decode cX8_busy 16 = .ok (.iload 4, 2) := by decide +kernel
theorem dX8_busy_18 : decode cX8_busy 18 = .ok (.if_icmp .ge 39, 3) := by decide +kernel
theorem dX8_busy_21 : decode cX8_busy 21 = .ok (.aload_n 3, 1) := by decide +kernel
theorem dX8_busy_22 : decode cX8_busy 22 = .ok (.iload 5, 2) := by decide +kernel
theorem dX8_busy_24 : decode cX8_busy 24 = .ok (.aaload, 1) := by decide +kernel
theorem dX8_busy_25 : decode cX8_busy 25 = .ok (.astore 6, 2) := by decide +kernel
theorem dX8_busy_27 : decode cX8_busy 27 = .ok (.iload_n 2, 1) := by decide +kernel
theorem dX8_busy_28 : decode cX8_busy 28 = .ok (.aload 6, 2) := by decide +kernel
theorem dX8_busy_30 : decode cX8_busy 30 = .ok (.iconst 4, 1) := by decide +kernel
theorem dX8_busy_31 : decode cX8_busy 31 = .ok (.iaload, 1) := by decide +kernel
theorem dX8_busy_32 : decode cX8_busy 32 = .ok (.iconst 1, 1) := by decide +kernel
theorem dX8_busy_33 : decode cX8_busy 33 = .ok (.if_icmp .ne 15, 3) := by decide +kernel
theorem dX8_busy_36 : decode cX8_busy 36 = .ok (.aload 6, 2) := by decide +kernel
theorem dX8_busy_38 : decode cX8_busy 38 = .ok (.iconst 1, 1) := by decide +kernel
theorem dX8_busy_39 : decode cX8_busy 39 = .ok (.iaload, 1) := by decide +kernel
theorem dX8_busy_40 : decode cX8_busy 40 = .ok (.iload_n 1, 1) := by decide +kernel
theorem dX8_busy_41 : decode cX8_busy 41 = .ok (.if_icmp .ne 7, 3) := by decide +kernel
theorem dX8_busy_44 : decode cX8_busy 44 = .ok (.iconst 1, 1) := by decide +kernel
theorem dX8_busy_45 : decode cX8_busy 45 = .ok (.goto 4, 3) := by decide +kernel
theorem dX8_busy_48 : decode cX8_busy 48 = .ok (.iconst 0, 1) := by decide +kernel
theorem dX8_busy_49 : decode cX8_busy 49 = .ok (.iadd, 1) := by decide +kernel
theorem dX8_busy_50 : decode cX8_busy 50 = .ok (.istore_n 2, 1) := by decide +kernel
theorem dX8_busy_51 : decode cX8_busy 51 = .ok (.iinc 5 1, 3) := by decide +kernel
theorem dX8_busy_54 : decode cX8_busy 54 = .ok (.goto (-40), 3) := by decide +kernel
theorem dX8_busy_57 : decode cX8_busy 57 = .ok (.iload_n 2, 1) := by decide +kernel
theorem dX8_busy_58 : decode cX8_busy 58 = .ok (.ireturn, 1) := by decide +kernel
theorem dX8_over_0 : decode cX8_over 0 = .ok (.iconst (-1), 1) := by decide +kernel
theorem dX8_over_1 : decode cX8_over 1 = .ok (.istore_n 2, 1) := by decide +kernel
theorem dX8_over_2 : decode cX8_over 2 = .ok (.iconst 0, 1) := by decide +kernel
theorem dX8_over_3 : decode cX8_over 3 = .ok (.istore_n 3, 1) := by decide +kernel
theorem dX8_over_4 : decode cX8_over 4 = .ok (.iload_n 3, 1) := by decide +kernel
theorem dX8_over_5 : decode cX8_over 5 = .ok (.aload_n 0, 1) := by decide +kernel
theorem dX8_over_6 : decode cX8_over 6 = .ok (.getfield 25, 3) := by decide +kernel
theorem dX8_over_9 : decode cX8_over 9 = .ok (.arraylength, 1) := by decide +kernel
theorem dX8_over_10 : decode cX8_over 10 = .ok (.if_icmp .ge 23, 3) := by decide +kernel
theorem dX8_over_13 : decode cX8_over 13 = .ok (.aload_n 0, 1) := by decide +kernel
theorem dX8_over_14 : decode cX8_over 14 = .ok (.getfield 25, 3) := by decide +kernel
theorem dX8_over_17 : decode cX8_over 17 = .ok (.iload_n 3, 1) := by decide +kernel
theorem dX8_over_18 : decode cX8_over 18 = .ok (.aaload, 1) := by decide +kernel
theorem dX8_over_19 : decode cX8_over 19 = .ok (.iconst 5, 1) := by decide +kernel
theorem dX8_over_20 : decode cX8_over 20 = .ok (.iaload, 1) := by decide +kernel
theorem dX8_over_21 : decode cX8_over 21 = .ok (.iload_n 1, 1) := by decide +kernel
theorem dX8_over_22 : decode cX8_over 22 = .ok (.if_icmp .ne 5, 3) := by decide +kernel
theorem dX8_over_25 : decode cX8_over 25 = .ok (.iload_n 3, 1) := by decide +kernel
theorem dX8_over_26 : decode cX8_over 26 = .ok (.istore_n 2, 1) := by decide +kernel
theorem dX8_over_27 : decode cX8_over 27 = .ok (.iinc 3 1, 3) := by decide +kernel
theorem dX8_over_30 : decode cX8_over 30 = .ok (.goto (-26), 3) := by decide +kernel
theorem dX8_over_33 : decode cX8_over 33 = .ok (.iload_n 2, 1) := by decide +kernel
theorem dX8_over_34 : decode cX8_over 34 = .ok (.ireturn, 1) := by decide +kernel
theorem dX8_ways_0 : decode cX8_ways 0 = .ok (.aload_n 0, 1) := by decide +kernel
theorem dX8_ways_1 : decode cX8_ways 1 = .ok (.getfield 15, 3) := by decide +kernel
theorem dX8_ways_4 : decode cX8_ways 4 = .ok (.arraylength, 1) := by decide +kernel
theorem dX8_ways_5 : decode cX8_ways 5 = .ok (.istore_n 1, 1) := by decide +kernel
theorem dX8_ways_6 : decode cX8_ways 6 = .ok (.iload_n 1, 1) := by decide +kernel
theorem dX8_ways_7 : decode cX8_ways 7 = .ok (.iload_n 1, 1) := by decide +kernel
theorem dX8_ways_8 : decode cX8_ways 8 = .ok (.multianewarray 41 2, 4) := by decide +kernel
theorem dX8_ways_12 : decode cX8_ways 12 = .ok (.astore_n 2, 1) := by decide +kernel
theorem dX8_ways_13 : decode cX8_ways 13 = .ok (.iconst 0, 1) := by decide +kernel
theorem dX8_ways_14 : decode cX8_ways 14 = .ok (.istore_n 3, 1) := by decide +kernel
theorem dX8_ways_15 : decode cX8_ways 15 = .ok (.iload_n 3, 1) := by decide +kernel
theorem dX8_ways_16 : decode cX8_ways 16 = .ok (.iload_n 1, 1) := by decide +kernel
theorem dX8_ways_17 : decode cX8_ways 17 = .ok (.if_icmp .ge 43, 3) := by decide +kernel
theorem dX8_ways_20 : decode cX8_ways 20 = .ok (.iconst 0, 1) := by decide +kernel
theorem dX8_ways_21 : decode cX8_ways 21 = .ok (.istore 4, 2) := by decide +kernel
theorem dX8_ways_23 : decode cX8_ways 23 = .ok (.iload 4, 2) := by decide +kernel
theorem dX8_ways_25 : decode cX8_ways 25 = .ok (.iload_n 1, 1) := by decide +kernel
theorem dX8_ways_26 : decode cX8_ways 26 = .ok (.if_icmp .ge 28, 3) := by decide +kernel
theorem dX8_ways_29 : decode cX8_ways 29 = .ok (.aload_n 2, 1) := by decide +kernel
theorem dX8_ways_30 : decode cX8_ways 30 = .ok (.iload_n 3, 1) := by decide +kernel
theorem dX8_ways_31 : decode cX8_ways 31 = .ok (.aaload, 1) := by decide +kernel
theorem dX8_ways_32 : decode cX8_ways 32 = .ok (.iload 4, 2) := by decide +kernel
theorem dX8_ways_34 : decode cX8_ways 34 = .ok (.iload_n 3, 1) := by decide +kernel
theorem dX8_ways_35 : decode cX8_ways 35 = .ok (.iload 4, 2) := by decide +kernel
theorem dX8_ways_37 : decode cX8_ways 37 = .ok (.if_icmp .ne 7, 3) := by decide +kernel
theorem dX8_ways_40 : decode cX8_ways 40 = .ok (.iconst 0, 1) := by decide +kernel
theorem dX8_ways_41 : decode cX8_ways 41 = .ok (.goto 6, 3) := by decide +kernel
theorem dX8_ways_44 : decode cX8_ways 44 = .ok (.sipush 9999, 3) := by decide +kernel
theorem dX8_ways_47 : decode cX8_ways 47 = .ok (.iastore, 1) := by decide +kernel
theorem dX8_ways_48 : decode cX8_ways 48 = .ok (.iinc 4 1, 3) := by decide +kernel
theorem dX8_ways_51 : decode cX8_ways 51 = .ok (.goto (-28), 3) := by decide +kernel
theorem dX8_ways_54 : decode cX8_ways 54 = .ok (.iinc 3 1, 3) := by decide +kernel
theorem dX8_ways_57 : decode cX8_ways 57 = .ok (.goto (-42), 3) := by decide +kernel
theorem dX8_ways_60 : decode cX8_ways 60 = .ok (.iconst 0, 1) := by decide +kernel
theorem dX8_ways_61 : decode cX8_ways 61 = .ok (.istore_n 3, 1) := by decide +kernel
theorem dX8_ways_62 : decode cX8_ways 62 = .ok (.iload_n 3, 1) := by decide +kernel
theorem dX8_ways_63 : decode cX8_ways 63 = .ok (.aload_n 0, 1) := by decide +kernel
theorem dX8_ways_64 : decode cX8_ways 64 = .ok (.getfield 19, 3) := by decide +kernel
theorem dX8_ways_67 : decode cX8_ways 67 = .ok (.arraylength, 1) := by decide +kernel
theorem dX8_ways_68 : decode cX8_ways 68 = .ok (.if_icmp .ge 79, 3) := by decide +kernel
theorem dX8_ways_71 : decode cX8_ways 71 = .ok (.aload_n 0, 1) := by decide +kernel
theorem dX8_ways_72 : decode cX8_ways 72 = .ok (.getfield 19, 3) := by decide +kernel
theorem dX8_ways_75 : decode cX8_ways 75 = .ok (.iload_n 3, 1) := by decide +kernel
theorem dX8_ways_76 : decode cX8_ways 76 = .ok (.aaload, 1) := by decide +kernel
theorem dX8_ways_77 : decode cX8_ways 77 = .ok (.astore 4, 2) := by decide +kernel
theorem dX8_ways_79 : decode cX8_ways 79 = .ok (.aload_n 0, 1) := by decide +kernel
theorem dX8_ways_80 : decode cX8_ways 80 = .ok (.iload_n 3, 1) := by decide +kernel
theorem dX8_ways_81 : decode cX8_ways 81 = .ok (.invokevirtual 42, 3) := by decide +kernel
theorem dX8_ways_84 : decode cX8_ways 84 = .ok (.ifCond .ne 6, 3) := by decide +kernel
theorem dX8_ways_87 : decode cX8_ways 87 = .ok (.goto 54, 3) := by decide +kernel
theorem dX8_ways_90 : decode cX8_ways 90 = .ok (.aload_n 2, 1) := by decide +kernel
theorem dX8_ways_91 : decode cX8_ways 91 = .ok (.aload 4, 2) := by decide +kernel
theorem dX8_ways_93 : decode cX8_ways 93 = .ok (.iconst 0, 1) := by decide +kernel
theorem dX8_ways_94 : decode cX8_ways 94 = .ok (.iaload, 1) := by decide +kernel
theorem dX8_ways_95 : decode cX8_ways 95 = .ok (.aaload, 1) := by decide +kernel
theorem dX8_ways_96 : decode cX8_ways 96 = .ok (.aload 4, 2) := by decide +kernel
theorem dX8_ways_98 : decode cX8_ways 98 = .ok (.iconst 1, 1) := by decide +kernel
theorem dX8_ways_99 : decode cX8_ways 99 = .ok (.iaload, 1) := by decide +kernel
theorem dX8_ways_100 : decode cX8_ways 100 = .ok (.aload_n 2, 1) := by decide +kernel
theorem dX8_ways_101 : decode cX8_ways 101 = .ok (.aload 4, 2) := by decide +kernel
theorem dX8_ways_103 : decode cX8_ways 103 = .ok (.iconst 0, 1) := by decide +kernel
theorem dX8_ways_104 : decode cX8_ways 104 = .ok (.iaload, 1) := by decide +kernel
theorem dX8_ways_105 : decode cX8_ways 105 = .ok (.aaload, 1) := by decide +kernel
theorem dX8_ways_106 : decode cX8_ways 106 = .ok (.aload 4, 2) := by decide +kernel
theorem dX8_ways_108 : decode cX8_ways 108 = .ok (.iconst 1, 1) := by decide +kernel
theorem dX8_ways_109 : decode cX8_ways 109 = .ok (.iaload, 1) := by decide +kernel
theorem dX8_ways_110 : decode cX8_ways 110 = .ok (.iaload, 1) := by decide +kernel
theorem dX8_ways_111 : decode cX8_ways 111 = .ok (.aload 4, 2) := by decide +kernel
theorem dX8_ways_113 : decode cX8_ways 113 = .ok (.iconst 2, 1) := by decide +kernel
theorem dX8_ways_114 : decode cX8_ways 114 = .ok (.iaload, 1) := by decide +kernel
theorem dX8_ways_115 : decode cX8_ways 115 = .ok (.invokestatic 45, 3) := by decide +kernel
theorem dX8_ways_118 : decode cX8_ways 118 = .ok (.iastore, 1) := by decide +kernel
theorem dX8_ways_119 : decode cX8_ways 119 = .ok (.aload_n 2, 1) := by decide +kernel
theorem dX8_ways_120 : decode cX8_ways 120 = .ok (.aload 4, 2) := by decide +kernel
theorem dX8_ways_122 : decode cX8_ways 122 = .ok (.iconst 1, 1) := by decide +kernel
theorem dX8_ways_123 : decode cX8_ways 123 = .ok (.iaload, 1) := by decide +kernel
theorem dX8_ways_124 : decode cX8_ways 124 = .ok (.aaload, 1) := by decide +kernel
theorem dX8_ways_125 : decode cX8_ways 125 = .ok (.aload 4, 2) := by decide +kernel
theorem dX8_ways_127 : decode cX8_ways 127 = .ok (.iconst 0, 1) := by decide +kernel
theorem dX8_ways_128 : decode cX8_ways 128 = .ok (.iaload, 1) := by decide +kernel
theorem dX8_ways_129 : decode cX8_ways 129 = .ok (.aload_n 2, 1) := by decide +kernel
theorem dX8_ways_130 : decode cX8_ways 130 = .ok (.aload 4, 2) := by decide +kernel
theorem dX8_ways_132 : decode cX8_ways 132 = .ok (.iconst 0, 1) := by decide +kernel
theorem dX8_ways_133 : decode cX8_ways 133 = .ok (.iaload, 1) := by decide +kernel
theorem dX8_ways_134 : decode cX8_ways 134 = .ok (.aaload, 1) := by decide +kernel
theorem dX8_ways_135 : decode cX8_ways 135 = .ok (.aload 4, 2) := by decide +kernel
theorem dX8_ways_137 : decode cX8_ways 137 = .ok (.iconst 1, 1) := by decide +kernel
theorem dX8_ways_138 : decode cX8_ways 138 = .ok (.iaload, 1) := by decide +kernel
theorem dX8_ways_139 : decode cX8_ways 139 = .ok (.iaload, 1) := by decide +kernel
theorem dX8_ways_140 : decode cX8_ways 140 = .ok (.iastore, 1) := by decide +kernel
theorem dX8_ways_141 : decode cX8_ways 141 = .ok (.iinc 3 1, 3) := by decide +kernel
theorem dX8_ways_144 : decode cX8_ways 144 = .ok (.goto (-82), 3) := by decide +kernel
theorem dX8_ways_147 : decode cX8_ways 147 = .ok (.iconst 0, 1) := by decide +kernel
theorem dX8_ways_148 : decode cX8_ways 148 = .ok (.istore_n 3, 1) := by decide +kernel
theorem dX8_ways_149 : decode cX8_ways 149 = .ok (.iload_n 3, 1) := by decide +kernel
theorem dX8_ways_150 : decode cX8_ways 150 = .ok (.iload_n 1, 1) := by decide +kernel
theorem dX8_ways_151 : decode cX8_ways 151 = .ok (.if_icmp .ge 69, 3) := by decide +kernel
theorem dX8_ways_154 : decode cX8_ways 154 = .ok (.iconst 0, 1) := by decide +kernel
theorem dX8_ways_155 : decode cX8_ways 155 = .ok (.istore 4, 2) := by decide +kernel
theorem dX8_ways_157 : decode cX8_ways 157 = .ok (.iload 4, 2) := by decide +kernel
theorem dX8_ways_159 : decode cX8_ways 159 = .ok (.iload_n 1, 1) := by decide +kernel
theorem dX8_ways_160 : decode cX8_ways 160 = .ok (.if_icmp .ge 54, 3) := by decide +kernel
theorem dX8_ways_163 : decode cX8_ways 163 = .ok (.iconst 0, 1) := by decide +kernel
theorem dX8_ways_164 : decode cX8_ways 164 = .ok (.istore 5, 2) := by decide +kernel
theorem dX8_ways_166 : decode cX8_ways 166 = .ok (.iload 5, 2) := by decide +kernel
theorem dX8_ways_168 : decode cX8_ways 168 = .ok (.iload_n 1, 1) := by decide +kernel
theorem dX8_ways_169 : decode cX8_ways 169 = .ok (.if_icmp .ge 39, 3) := by decide +kernel
theorem dX8_ways_172 : decode cX8_ways 172 = .ok (.aload_n 2, 1) := by decide +kernel
theorem dX8_ways_173 : decode cX8_ways 173 = .ok (.iload 4, 2) := by decide +kernel
theorem dX8_ways_175 : decode cX8_ways 175 = .ok (.aaload, 1) := by decide +kernel
theorem dX8_ways_176 : decode cX8_ways 176 = .ok (.iload 5, 2) := by decide +kernel
theorem dX8_ways_178 : decode cX8_ways 178 = .ok (.aload_n 2, 1) := by decide +kernel
theorem dX8_ways_179 : decode cX8_ways 179 = .ok (.iload 4, 2) := by decide +kernel
theorem dX8_ways_181 : decode cX8_ways 181 = .ok (.aaload, 1) := by decide +kernel
theorem dX8_ways_182 : decode cX8_ways 182 = .ok (.iload 5, 2) := by decide +kernel
theorem dX8_ways_184 : decode cX8_ways 184 = .ok (.iaload, 1) := by decide +kernel
theorem dX8_ways_185 : decode cX8_ways 185 = .ok (.aload_n 2, 1) := by decide +kernel
theorem dX8_ways_186 : decode cX8_ways 186 = .ok (.iload 4, 2) := by decide +kernel
theorem dX8_ways_188 : decode cX8_ways 188 = .ok (.aaload, 1) := by decide +kernel
theorem dX8_ways_189 : decode cX8_ways 189 = .ok (.iload_n 3, 1) := by decide +kernel
theorem dX8_ways_190 : decode cX8_ways 190 = .ok (.iaload, 1) := by decide +kernel
theorem dX8_ways_191 : decode cX8_ways 191 = .ok (.aload_n 2, 1) := by decide +kernel
theorem dX8_ways_192 : decode cX8_ways 192 = .ok (.iload_n 3, 1) := by decide +kernel
theorem dX8_ways_193 : decode cX8_ways 193 = .ok (.aaload, 1) := by decide +kernel
theorem dX8_ways_194 : decode cX8_ways 194 = .ok (.iload 5, 2) := by decide +kernel
theorem dX8_ways_196 : decode cX8_ways 196 = .ok (.iaload, 1) := by decide +kernel
theorem dX8_ways_197 : decode cX8_ways 197 = .ok (.iadd, 1) := by decide +kernel
theorem dX8_ways_198 : decode cX8_ways 198 = .ok (.invokestatic 45, 3) := by decide +kernel
theorem dX8_ways_201 : decode cX8_ways 201 = .ok (.iastore, 1) := by decide +kernel
theorem dX8_ways_202 : decode cX8_ways 202 = .ok (.iinc 5 1, 3) := by decide +kernel
theorem dX8_ways_205 : decode cX8_ways 205 = .ok (.goto (-39), 3) := by decide +kernel
theorem dX8_ways_208 : decode cX8_ways 208 = .ok (.iinc 4 1, 3) := by decide +kernel
theorem dX8_ways_211 : decode cX8_ways 211 = .ok (.goto (-54), 3) := by decide +kernel
theorem dX8_ways_214 : decode cX8_ways 214 = .ok (.iinc 3 1, 3) := by decide +kernel
theorem dX8_ways_217 : decode cX8_ways 217 = .ok (.goto (-68), 3) := by decide +kernel
theorem dX8_ways_220 : decode cX8_ways 220 = .ok (.aload_n 2, 1) := by decide +kernel
theorem dX8_ways_221 : decode cX8_ways 221 = .ok (.areturn, 1) := by decide +kernel
theorem dX8_first_0 : decode cX8_first 0 = .ok (.iload_n 2, 1) := by decide +kernel
theorem dX8_first_1 : decode cX8_first 1 = .ok (.iload_n 3, 1) := by decide +kernel
theorem dX8_first_2 : decode cX8_first 2 = .ok (.if_icmp .eq 14, 3) := by decide +kernel
theorem dX8_first_5 : decode cX8_first 5 = .ok (.aload_n 1, 1) := by decide +kernel
theorem dX8_first_6 : decode cX8_first 6 = .ok (.iload_n 2, 1) := by decide +kernel
theorem dX8_first_7 : decode cX8_first 7 = .ok (.aaload, 1) := by decide +kernel
theorem dX8_first_8 : decode cX8_first 8 = .ok (.iload_n 3, 1) := by decide +kernel
theorem dX8_first_9 : decode cX8_first 9 = .ok (.iaload, 1) := by decide +kernel
theorem dX8_first_10 : decode cX8_first 10 = .ok (.sipush 9000, 3) := by decide +kernel
theorem dX8_first_13 : decode cX8_first 13 = .ok (.if_icmp .le 5, 3) := by decide +kernel
theorem dX8_first_16 : decode cX8_first 16 = .ok (.iconst (-1), 1) := by decide +kernel
theorem dX8_first_17 : decode cX8_first 17 = .ok (.ireturn, 1) := by decide +kernel
theorem dX8_first_18 : decode cX8_first 18 = .ok (.iconst (-1), 1) := by decide +kernel
theorem dX8_first_19 : decode cX8_first 19 = .ok (.istore 4, 2) := by decide +kernel
theorem dX8_first_21 : decode cX8_first 21 = .ok (.aload_n 0, 1) := by decide +kernel
theorem dX8_first_22 : decode cX8_first 22 = .ok (.getfield 19, 3) := by decide +kernel
theorem dX8_first_25 : decode cX8_first 25 = .ok (.arraylength, 1) := by decide +kernel
theorem dX8_first_26 : decode cX8_first 26 = .ok (.iconst 1, 1) := by decide +kernel
theorem dX8_first_27 : decode cX8_first 27 = .ok (.isub, 1) := by decide +kernel
theorem dX8_first_28 : decode cX8_first 28 = .ok (.istore 5, 2) := by decide +kernel
theorem dX8_first_30 : decode cX8_first 30 = .ok (.iload 5, 2) := by decide +kernel
theorem dX8_first_32 : decode cX8_first 32 = .ok (.ifCond .lt 89, 3) := by decide +kernel
theorem dX8_first_35 : decode cX8_first 35 = .ok (.aload_n 0, 1) := by decide +kernel
theorem dX8_first_36 : decode cX8_first 36 = .ok (.getfield 19, 3) := by decide +kernel
theorem dX8_first_39 : decode cX8_first 39 = .ok (.iload 5, 2) := by decide +kernel
theorem dX8_first_41 : decode cX8_first 41 = .ok (.aaload, 1) := by decide +kernel
theorem dX8_first_42 : decode cX8_first 42 = .ok (.astore 6, 2) := by decide +kernel
theorem dX8_first_44 : decode cX8_first 44 = .ok (.aload_n 0, 1) := by decide +kernel
theorem dX8_first_45 : decode cX8_first 45 = .ok (.iload 5, 2) := by decide +kernel
theorem dX8_first_47 : decode cX8_first 47 = .ok (.invokevirtual 42, 3) := by decide +kernel
theorem dX8_first_50 : decode cX8_first 50 = .ok (.ifCond .eq 65, 3) := by decide +kernel
theorem dX8_first_53 : decode cX8_first 53 = .ok (.aload 6, 2) := by decide +kernel
theorem dX8_first_55 : decode cX8_first 55 = .ok (.iconst 0, 1) := by decide +kernel
theorem dX8_first_56 : decode cX8_first 56 = .ok (.iaload, 1) := by decide +kernel
theorem dX8_first_57 : decode cX8_first 57 = .ok (.iload_n 2, 1) := by decide +kernel
theorem dX8_first_58 : decode cX8_first 58 = .ok (.if_icmp .ne 24, 3) := by decide +kernel
theorem dX8_first_61 : decode cX8_first 61 = .ok (.aload 6, 2) := by decide +kernel
theorem dX8_first_63 : decode cX8_first 63 = .ok (.iconst 2, 1) := by decide +kernel
theorem dX8_first_64 : decode cX8_first 64 = .ok (.iaload, 1) := by decide +kernel
theorem dX8_first_65 : decode cX8_first 65 = .ok (.aload_n 1, 1) := by decide +kernel
theorem dX8_first_66 : decode cX8_first 66 = .ok (.aload 6, 2) := by decide +kernel
theorem dX8_first_68 : decode cX8_first 68 = .ok (.iconst 1, 1) := by decide +kernel
theorem dX8_first_69 : decode cX8_first 69 = .ok (.iaload, 1) := by decide +kernel
theorem dX8_first_70 : decode cX8_first 70 = .ok (.aaload, 1) := by decide +kernel
theorem dX8_first_71 : decode cX8_first 71 = .ok (.iload_n 3, 1) := by decide +kernel
theorem dX8_first_72 : decode cX8_first 72 = .ok (.iaload, 1) := by decide +kernel
theorem dX8_first_73 : decode cX8_first 73 = .ok (.iadd, 1) := by decide +kernel
theorem dX8_first_74 : decode cX8_first 74 = .ok (.aload_n 1, 1) := by decide +kernel
theorem dX8_first_75 : decode cX8_first 75 = .ok (.iload_n 2, 1) := by decide +kernel
theorem dX8_first_76 : decode cX8_first 76 = .ok (.aaload, 1) := by decide +kernel
theorem dX8_first_77 : decode cX8_first 77 = .ok (.iload_n 3, 1) := by decide +kernel
theorem dX8_first_78 : decode cX8_first 78 = .ok (.iaload, 1) := by decide +kernel
theorem dX8_first_79 : decode cX8_first 79 = .ok (.if_icmp .eq 32, 3) := by decide +kernel
theorem dX8_first_82 : decode cX8_first 82 = .ok (.aload 6, 2) := by decide +kernel
theorem dX8_first_84 : decode cX8_first 84 = .ok (.iconst 1, 1) := by decide +kernel
theorem dX8_first_85 : decode cX8_first 85 = .ok (.iaload, 1) := by decide +kernel
theorem dX8_first_86 : decode cX8_first 86 = .ok (.iload_n 2, 1) := by decide +kernel
theorem dX8_first_87 : decode cX8_first 87 = .ok (.if_icmp .ne 28, 3) := by decide +kernel
theorem dX8_first_90 : decode cX8_first 90 = .ok (.aload 6, 2) := by decide +kernel
theorem dX8_first_92 : decode cX8_first 92 = .ok (.iconst 2, 1) := by decide +kernel
theorem dX8_first_93 : decode cX8_first 93 = .ok (.iaload, 1) := by decide +kernel
theorem dX8_first_94 : decode cX8_first 94 = .ok (.aload_n 1, 1) := by decide +kernel
theorem dX8_first_95 : decode cX8_first 95 = .ok (.aload 6, 2) := by decide +kernel
theorem dX8_first_97 : decode cX8_first 97 = .ok (.iconst 0, 1) := by decide +kernel
theorem dX8_first_98 : decode cX8_first 98 = .ok (.iaload, 1) := by decide +kernel
theorem dX8_first_99 : decode cX8_first 99 = .ok (.aaload, 1) := by decide +kernel
theorem dX8_first_100 : decode cX8_first 100 = .ok (.iload_n 3, 1) := by decide +kernel
theorem dX8_first_101 : decode cX8_first 101 = .ok (.iaload, 1) := by decide +kernel
theorem dX8_first_102 : decode cX8_first 102 = .ok (.iadd, 1) := by decide +kernel
theorem dX8_first_103 : decode cX8_first 103 = .ok (.aload_n 1, 1) := by decide +kernel
theorem dX8_first_104 : decode cX8_first 104 = .ok (.iload_n 2, 1) := by decide +kernel
theorem dX8_first_105 : decode cX8_first 105 = .ok (.aaload, 1) := by decide +kernel
theorem dX8_first_106 : decode cX8_first 106 = .ok (.iload_n 3, 1) := by decide +kernel
theorem dX8_first_107 : decode cX8_first 107 = .ok (.iaload, 1) := by decide +kernel
theorem dX8_first_108 : decode cX8_first 108 = .ok (.if_icmp .ne 7, 3) := by decide +kernel
theorem dX8_first_111 : decode cX8_first 111 = .ok (.iload 5, 2) := by decide +kernel
theorem dX8_first_113 : decode cX8_first 113 = .ok (.istore 4, 2) := by decide +kernel
theorem dX8_first_115 : decode cX8_first 115 = .ok (.iinc 5 (-1), 3) := by decide +kernel
theorem dX8_first_118 : decode cX8_first 118 = .ok (.goto (-88), 3) := by decide +kernel
theorem dX8_first_121 : decode cX8_first 121 = .ok (.iload 4, 2) := by decide +kernel
theorem dX8_first_123 : decode cX8_first 123 = .ok (.ireturn, 1) := by decide +kernel
theorem dX8_holds_0 : decode cX8_holds 0 = .ok (.aload_n 1, 1) := by decide +kernel
theorem dX8_holds_1 : decode cX8_holds 1 = .ok (.iconst 2, 1) := by decide +kernel
theorem dX8_holds_2 : decode cX8_holds 2 = .ok (.iaload, 1) := by decide +kernel
theorem dX8_holds_3 : decode cX8_holds 3 = .ok (.istore_n 2, 1) := by decide +kernel
theorem dX8_holds_4 : decode cX8_holds 4 = .ok (.aload_n 0, 1) := by decide +kernel
theorem dX8_holds_5 : decode cX8_holds 5 = .ok (.getfield 25, 3) := by decide +kernel
theorem dX8_holds_8 : decode cX8_holds 8 = .ok (.aload_n 1, 1) := by decide +kernel
theorem dX8_holds_9 : decode cX8_holds 9 = .ok (.iconst 5, 1) := by decide +kernel
theorem dX8_holds_10 : decode cX8_holds 10 = .ok (.iaload, 1) := by decide +kernel
theorem dX8_holds_11 : decode cX8_holds 11 = .ok (.aaload, 1) := by decide +kernel
theorem dX8_holds_12 : decode cX8_holds 12 = .ok (.astore_n 3, 1) := by decide +kernel
theorem dX8_holds_13 : decode cX8_holds 13 = .ok (.aload_n 1, 1) := by decide +kernel
theorem dX8_holds_14 : decode cX8_holds 14 = .ok (.iconst 1, 1) := by decide +kernel
theorem dX8_holds_15 : decode cX8_holds 15 = .ok (.iaload, 1) := by decide +kernel
theorem dX8_holds_16 : decode cX8_holds 16 = .ok (.tableswitch 177 0 6 #[44, 61, 78, 86, 109, 125, 164], 44) := by decide +kernel
theorem dX8_holds_60 : decode cX8_holds 60 = .ok (.aload_n 0, 1) := by decide +kernel
theorem dX8_holds_61 : decode cX8_holds 61 = .ok (.getfield 35, 3) := by decide +kernel
theorem dX8_holds_64 : decode cX8_holds 64 = .ok (.bipush 120, 2) := by decide +kernel
theorem dX8_holds_66 : decode cX8_holds 66 = .ok (.irem, 1) := by decide +kernel
theorem dX8_holds_67 : decode cX8_holds 67 = .ok (.iload_n 2, 1) := by decide +kernel
theorem dX8_holds_68 : decode cX8_holds 68 = .ok (.if_icmp .ge 7, 3) := by decide +kernel
theorem dX8_holds_71 : decode cX8_holds 71 = .ok (.iconst 1, 1) := by decide +kernel
theorem dX8_holds_72 : decode cX8_holds 72 = .ok (.goto 4, 3) := by decide +kernel
theorem dX8_holds_75 : decode cX8_holds 75 = .ok (.iconst 0, 1) := by decide +kernel
theorem dX8_holds_76 : decode cX8_holds 76 = .ok (.ireturn, 1) := by decide +kernel
theorem dX8_holds_77 : decode cX8_holds 77 = .ok (.aload_n 0, 1) := by decide +kernel
theorem dX8_holds_78 : decode cX8_holds 78 = .ok (.aload_n 1, 1) := by decide +kernel
theorem dX8_holds_79 : decode cX8_holds 79 = .ok (.iconst 3, 1) := by decide +kernel
theorem dX8_holds_80 : decode cX8_holds 80 = .ok (.iaload, 1) := by decide +kernel
theorem dX8_holds_81 : decode cX8_holds 81 = .ok (.invokevirtual 51, 3) := by decide +kernel
theorem dX8_holds_84 : decode cX8_holds 84 = .ok (.iconst 1, 1) := by decide +kernel
theorem dX8_holds_85 : decode cX8_holds 85 = .ok (.if_icmp .le 7, 3) := by decide +kernel
theorem dX8_holds_88 : decode cX8_holds 88 = .ok (.iconst 1, 1) := by decide +kernel
theorem dX8_holds_89 : decode cX8_holds 89 = .ok (.goto 4, 3) := by decide +kernel
theorem dX8_holds_92 : decode cX8_holds 92 = .ok (.iconst 0, 1) := by decide +kernel
theorem dX8_holds_93 : decode cX8_holds 93 = .ok (.ireturn, 1) := by decide +kernel
theorem dX8_holds_94 : decode cX8_holds 94 = .ok (.aload_n 0, 1) := by decide +kernel
theorem dX8_holds_95 : decode cX8_holds 95 = .ok (.aload_n 1, 1) := by decide +kernel
theorem dX8_holds_96 : decode cX8_holds 96 = .ok (.iconst 4, 1) := by decide +kernel
theorem dX8_holds_97 : decode cX8_holds 97 = .ok (.iaload, 1) := by decide +kernel
theorem dX8_holds_98 : decode cX8_holds 98 = .ok (.invokevirtual 42, 3) := by decide +kernel
theorem dX8_holds_101 : decode cX8_holds 101 = .ok (.ireturn, 1) := by decide +kernel
theorem dX8_holds_102 : decode cX8_holds 102 = .ok (.aload_n 0, 1) := by decide +kernel
theorem dX8_holds_103 : decode cX8_holds 103 = .ok (.aload_n 1, 1) := by decide +kernel
theorem dX8_holds_104 : decode cX8_holds 104 = .ok (.iconst 4, 1) := by decide +kernel
theorem dX8_holds_105 : decode cX8_holds 105 = .ok (.iaload, 1) := by decide +kernel
theorem dX8_holds_106 : decode cX8_holds 106 = .ok (.invokevirtual 42, 3) := by decide +kernel
theorem dX8_holds_109 : decode cX8_holds 109 = .ok (.ifCond .eq 10, 3) := by decide +kernel
theorem dX8_holds_112 : decode cX8_holds 112 = .ok (.aload_n 3, 1) := by decide +kernel
theorem dX8_holds_113 : decode cX8_holds 113 = .ok (.iconst 4, 1) := by decide +kernel
theorem dX8_holds_114 : decode cX8_holds 114 = .ok (.iaload, 1) := by decide +kernel
theorem dX8_holds_115 : decode cX8_holds 115 = .ok (.iconst 1, 1) := by decide +kernel
theorem dX8_holds_116 : decode cX8_holds 116 = .ok (.if_icmp .ne 7, 3) := by decide +kernel
theorem dX8_holds_119 : decode cX8_holds 119 = .ok (.iconst 1, 1) := by decide +kernel
theorem dX8_holds_120 : decode cX8_holds 120 = .ok (.goto 4, 3) := by decide +kernel
theorem dX8_holds_123 : decode cX8_holds 123 = .ok (.iconst 0, 1) := by decide +kernel
theorem dX8_holds_124 : decode cX8_holds 124 = .ok (.ireturn, 1) := by decide +kernel
theorem dX8_holds_125 : decode cX8_holds 125 = .ok (.aload_n 3, 1) := by decide +kernel
theorem dX8_holds_126 : decode cX8_holds 126 = .ok (.bipush 6, 2) := by decide +kernel
theorem dX8_holds_128 : decode cX8_holds 128 = .ok (.iaload, 1) := by decide +kernel
theorem dX8_holds_129 : decode cX8_holds 129 = .ok (.iconst 2, 1) := by decide +kernel
theorem dX8_holds_130 : decode cX8_holds 130 = .ok (.imul, 1) := by decide +kernel
theorem dX8_holds_131 : decode cX8_holds 131 = .ok (.iload_n 2, 1) := by decide +kernel
theorem dX8_holds_132 : decode cX8_holds 132 = .ok (.if_icmp .lt 7, 3) := by decide +kernel
theorem dX8_holds_135 : decode cX8_holds 135 = .ok (.iconst 1, 1) := by decide +kernel
theorem dX8_holds_136 : decode cX8_holds 136 = .ok (.goto 4, 3) := by decide +kernel
theorem dX8_holds_139 : decode cX8_holds 139 = .ok (.iconst 0, 1) := by decide +kernel
theorem dX8_holds_140 : decode cX8_holds 140 = .ok (.ireturn, 1) := by decide +kernel
theorem dX8_holds_141 : decode cX8_holds 141 = .ok (.aload_n 3, 1) := by decide +kernel
theorem dX8_holds_142 : decode cX8_holds 142 = .ok (.bipush 7, 2) := by decide +kernel
theorem dX8_holds_144 : decode cX8_holds 144 = .ok (.iaload, 1) := by decide +kernel
theorem dX8_holds_145 : decode cX8_holds 145 = .ok (.iload_n 2, 1) := by decide +kernel
theorem dX8_holds_146 : decode cX8_holds 146 = .ok (.bipush 30, 2) := by decide +kernel
theorem dX8_holds_148 : decode cX8_holds 148 = .ok (.idiv, 1) := by decide +kernel
theorem dX8_holds_149 : decode cX8_holds 149 = .ok (.if_icmp .ge 16, 3) := by decide +kernel
theorem dX8_holds_152 : decode cX8_holds 152 = .ok (.aload_n 0, 1) := by decide +kernel
theorem dX8_holds_153 : decode cX8_holds 153 = .ok (.getfield 35, 3) := by decide +kernel
theorem dX8_holds_156 : decode cX8_holds 156 = .ok (.bipush 120, 2) := by decide +kernel
theorem dX8_holds_158 : decode cX8_holds 158 = .ok (.irem, 1) := by decide +kernel
theorem dX8_holds_159 : decode cX8_holds 159 = .ok (.iload_n 2, 1) := by decide +kernel
theorem dX8_holds_160 : decode cX8_holds 160 = .ok (.iconst 2, 1) := by decide +kernel
theorem dX8_holds_161 : decode cX8_holds 161 = .ok (.idiv, 1) := by decide +kernel
theorem dX8_holds_162 : decode cX8_holds 162 = .ok (.if_icmp .gt 12, 3) := by decide +kernel
theorem dX8_holds_165 : decode cX8_holds 165 = .ok (.aload_n 0, 1) := by decide +kernel
theorem dX8_holds_166 : decode cX8_holds 166 = .ok (.getfield 35, 3) := by decide +kernel
theorem dX8_holds_169 : decode cX8_holds 169 = .ok (.iconst 2, 1) := by decide +kernel
theorem dX8_holds_170 : decode cX8_holds 170 = .ok (.irem, 1) := by decide +kernel
theorem dX8_holds_171 : decode cX8_holds 171 = .ok (.ifCond .ne 7, 3) := by decide +kernel
theorem dX8_holds_174 : decode cX8_holds 174 = .ok (.iconst 1, 1) := by decide +kernel
theorem dX8_holds_175 : decode cX8_holds 175 = .ok (.goto 4, 3) := by decide +kernel
theorem dX8_holds_178 : decode cX8_holds 178 = .ok (.iconst 0, 1) := by decide +kernel
theorem dX8_holds_179 : decode cX8_holds 179 = .ok (.ireturn, 1) := by decide +kernel
theorem dX8_holds_180 : decode cX8_holds 180 = .ok (.aload_n 3, 1) := by decide +kernel
theorem dX8_holds_181 : decode cX8_holds 181 = .ok (.iconst 4, 1) := by decide +kernel
theorem dX8_holds_182 : decode cX8_holds 182 = .ok (.iaload, 1) := by decide +kernel
theorem dX8_holds_183 : decode cX8_holds 183 = .ok (.iconst 1, 1) := by decide +kernel
theorem dX8_holds_184 : decode cX8_holds 184 = .ok (.if_icmp .ne 7, 3) := by decide +kernel
theorem dX8_holds_187 : decode cX8_holds 187 = .ok (.iconst 1, 1) := by decide +kernel
theorem dX8_holds_188 : decode cX8_holds 188 = .ok (.goto 4, 3) := by decide +kernel
theorem dX8_holds_191 : decode cX8_holds 191 = .ok (.iconst 0, 1) := by decide +kernel
theorem dX8_holds_192 : decode cX8_holds 192 = .ok (.ireturn, 1) := by decide +kernel
theorem dX8_holds_193 : decode cX8_holds 193 = .ok (.iload_n 2, 1) := by decide +kernel
theorem dX8_holds_194 : decode cX8_holds 194 = .ok (.iconst 2, 1) := by decide +kernel
theorem dX8_holds_195 : decode cX8_holds 195 = .ok (.irem, 1) := by decide +kernel
theorem dX8_holds_196 : decode cX8_holds 196 = .ok (.ifCond .ne 7, 3) := by decide +kernel
theorem dX8_holds_199 : decode cX8_holds 199 = .ok (.iconst 1, 1) := by decide +kernel
theorem dX8_holds_200 : decode cX8_holds 200 = .ok (.goto 4, 3) := by decide +kernel
theorem dX8_holds_203 : decode cX8_holds 203 = .ok (.iconst 0, 1) := by decide +kernel
theorem dX8_holds_204 : decode cX8_holds 204 = .ok (.ireturn, 1) := by decide +kernel
theorem dX8_isHeld_0 : decode cX8_isHeld 0 = .ok (.iconst 0, 1) := by decide +kernel
theorem dX8_isHeld_1 : decode cX8_isHeld 1 = .ok (.istore_n 2, 1) := by decide +kernel
theorem dX8_isHeld_2 : decode cX8_isHeld 2 = .ok (.aload_n 0, 1) := by decide +kernel
theorem dX8_isHeld_3 : decode cX8_isHeld 3 = .ok (.getfield 28, 3) := by decide +kernel
theorem dX8_isHeld_6 : decode cX8_isHeld 6 = .ok (.astore_n 3, 1) := by decide +kernel
theorem dX8_isHeld_7 : decode cX8_isHeld 7 = .ok (.aload_n 3, 1) := by decide +kernel
theorem dX8_isHeld_8 : decode cX8_isHeld 8 = .ok (.arraylength, 1) := by decide +kernel
theorem dX8_isHeld_9 : decode cX8_isHeld 9 = .ok (.istore 4, 2) := by decide +kernel
theorem dX8_isHeld_11 : decode cX8_isHeld 11 = .ok (.iconst 0, 1) := by decide +kernel
theorem dX8_isHeld_12 : decode cX8_isHeld 12 = .ok (.istore 5, 2) := by decide +kernel
theorem dX8_isHeld_14 : decode cX8_isHeld 14 = .ok (.iload 5, 2) := by decide +kernel
theorem dX8_isHeld_16 : decode cX8_isHeld 16 = .ok (.iload 4, 2) := by decide +kernel
theorem dX8_isHeld_18 : decode cX8_isHeld 18 = .ok (.if_icmp .ge 40, 3) := by decide +kernel
theorem dX8_isHeld_21 : decode cX8_isHeld 21 = .ok (.aload_n 3, 1) := by decide +kernel
theorem dX8_isHeld_22 : decode cX8_isHeld 22 = .ok (.iload 5, 2) := by decide +kernel
theorem dX8_isHeld_24 : decode cX8_isHeld 24 = .ok (.aaload, 1) := by decide +kernel
theorem dX8_isHeld_25 : decode cX8_isHeld 25 = .ok (.astore 6, 2) := by decide +kernel
theorem dX8_isHeld_27 : decode cX8_isHeld 27 = .ok (.iload_n 2, 1) := by decide +kernel
theorem dX8_isHeld_28 : decode cX8_isHeld 28 = .ok (.aload 6, 2) := by decide +kernel
theorem dX8_isHeld_30 : decode cX8_isHeld 30 = .ok (.iconst 0, 1) := by decide +kernel
theorem dX8_isHeld_31 : decode cX8_isHeld 31 = .ok (.iaload, 1) := by decide +kernel
theorem dX8_isHeld_32 : decode cX8_isHeld 32 = .ok (.iload_n 1, 1) := by decide +kernel
theorem dX8_isHeld_33 : decode cX8_isHeld 33 = .ok (.if_icmp .ne 16, 3) := by decide +kernel
theorem dX8_isHeld_36 : decode cX8_isHeld 36 = .ok (.aload_n 0, 1) := by decide +kernel
theorem dX8_isHeld_37 : decode cX8_isHeld 37 = .ok (.aload 6, 2) := by decide +kernel
theorem dX8_isHeld_39 : decode cX8_isHeld 39 = .ok (.invokevirtual 55, 3) := by decide +kernel
theorem dX8_isHeld_42 : decode cX8_isHeld 42 = .ok (.ifCond .eq 7, 3) := by decide +kernel
theorem dX8_isHeld_45 : decode cX8_isHeld 45 = .ok (.iconst 1, 1) := by decide +kernel
theorem dX8_isHeld_46 : decode cX8_isHeld 46 = .ok (.goto 4, 3) := by decide +kernel
theorem dX8_isHeld_49 : decode cX8_isHeld 49 = .ok (.iconst 0, 1) := by decide +kernel
theorem dX8_isHeld_50 : decode cX8_isHeld 50 = .ok (.ior, 1) := by decide +kernel
theorem dX8_isHeld_51 : decode cX8_isHeld 51 = .ok (.istore_n 2, 1) := by decide +kernel
theorem dX8_isHeld_52 : decode cX8_isHeld 52 = .ok (.iinc 5 1, 3) := by decide +kernel
theorem dX8_isHeld_55 : decode cX8_isHeld 55 = .ok (.goto (-41), 3) := by decide +kernel
theorem dX8_isHeld_58 : decode cX8_isHeld 58 = .ok (.iload_n 2, 1) := by decide +kernel
theorem dX8_isHeld_59 : decode cX8_isHeld 59 = .ok (.ireturn, 1) := by decide +kernel
theorem dX8_breakOff_0 : decode cX8_breakOff 0 = .ok (.aload_n 1, 1) := by decide +kernel
theorem dX8_breakOff_1 : decode cX8_breakOff 1 = .ok (.iconst 4, 1) := by decide +kernel
theorem dX8_breakOff_2 : decode cX8_breakOff 2 = .ok (.iconst 0, 1) := by decide +kernel
theorem dX8_breakOff_3 : decode cX8_breakOff 3 = .ok (.iastore, 1) := by decide +kernel
theorem dX8_breakOff_4 : decode cX8_breakOff 4 = .ok (.aload_n 1, 1) := by decide +kernel
theorem dX8_breakOff_5 : decode cX8_breakOff 5 = .ok (.iconst 5, 1) := by decide +kernel
theorem dX8_breakOff_6 : decode cX8_breakOff 6 = .ok (.iconst (-1), 1) := by decide +kernel
theorem dX8_breakOff_7 : decode cX8_breakOff 7 = .ok (.iastore, 1) := by decide +kernel
theorem dX8_breakOff_8 : decode cX8_breakOff 8 = .ok (.aload_n 1, 1) := by decide +kernel
theorem dX8_breakOff_9 : decode cX8_breakOff 9 = .ok (.bipush 6, 2) := by decide +kernel
theorem dX8_breakOff_11 : decode cX8_breakOff 11 = .ok (.aload_n 1, 1) := by decide +kernel
theorem dX8_breakOff_12 : decode cX8_breakOff 12 = .ok (.iconst 0, 1) := by decide +kernel
theorem dX8_breakOff_13 : decode cX8_breakOff 13 = .ok (.iaload, 1) := by decide +kernel
theorem dX8_breakOff_14 : decode cX8_breakOff 14 = .ok (.iastore, 1) := by decide +kernel
theorem dX8_breakOff_15 : decode cX8_breakOff 15 = .ok (.aload_n 1, 1) := by decide +kernel
theorem dX8_breakOff_16 : decode cX8_breakOff 16 = .ok (.bipush 7, 2) := by decide +kernel
theorem dX8_breakOff_18 : decode cX8_breakOff 18 = .ok (.dup2, 1) := by decide +kernel
theorem dX8_breakOff_19 : decode cX8_breakOff 19 = .ok (.iaload, 1) := by decide +kernel
theorem dX8_breakOff_20 : decode cX8_breakOff 20 = .ok (.iconst 1, 1) := by decide +kernel
theorem dX8_breakOff_21 : decode cX8_breakOff 21 = .ok (.iadd, 1) := by decide +kernel
theorem dX8_breakOff_22 : decode cX8_breakOff 22 = .ok (.iastore, 1) := by decide +kernel
theorem dX8_breakOff_23 : decode cX8_breakOff 23 = .ok (.return_, 1) := by decide +kernel
theorem dX8_pass_0 : decode cX8_pass 0 = .ok (.iconst 0, 1) := by decide +kernel
theorem dX8_pass_1 : decode cX8_pass 1 = .ok (.istore_n 1, 1) := by decide +kernel
theorem dX8_pass_2 : decode cX8_pass 2 = .ok (.aload_n 0, 1) := by decide +kernel
theorem dX8_pass_3 : decode cX8_pass 3 = .ok (.getfield 25, 3) := by decide +kernel
theorem dX8_pass_6 : decode cX8_pass 6 = .ok (.astore_n 2, 1) := by decide +kernel
theorem dX8_pass_7 : decode cX8_pass 7 = .ok (.aload_n 2, 1) := by decide +kernel
theorem dX8_pass_8 : decode cX8_pass 8 = .ok (.arraylength, 1) := by decide +kernel
theorem dX8_pass_9 : decode cX8_pass 9 = .ok (.istore_n 3, 1) := by decide +kernel
theorem dX8_pass_10 : decode cX8_pass 10 = .ok (.iconst 0, 1) := by decide +kernel
theorem dX8_pass_11 : decode cX8_pass 11 = .ok (.istore 4, 2) := by decide +kernel
theorem dX8_pass_13 : decode cX8_pass 13 = .ok (.iload 4, 2) := by decide +kernel
theorem dX8_pass_15 : decode cX8_pass 15 = .ok (.iload_n 3, 1) := by decide +kernel
theorem dX8_pass_16 : decode cX8_pass 16 = .ok (.if_icmp .ge 215, 3) := by decide +kernel
theorem dX8_pass_19 : decode cX8_pass 19 = .ok (.aload_n 2, 1) := by decide +kernel
theorem dX8_pass_20 : decode cX8_pass 20 = .ok (.iload 4, 2) := by decide +kernel
theorem dX8_pass_22 : decode cX8_pass 22 = .ok (.aaload, 1) := by decide +kernel
theorem dX8_pass_23 : decode cX8_pass 23 = .ok (.astore 5, 2) := by decide +kernel
theorem dX8_pass_25 : decode cX8_pass 25 = .ok (.aload 5, 2) := by decide +kernel
theorem dX8_pass_27 : decode cX8_pass 27 = .ok (.iconst 4, 1) := by decide +kernel
theorem dX8_pass_28 : decode cX8_pass 28 = .ok (.iaload, 1) := by decide +kernel
theorem dX8_pass_29 : decode cX8_pass 29 = .ok (.iconst 1, 1) := by decide +kernel
theorem dX8_pass_30 : decode cX8_pass 30 = .ok (.if_icmp .eq 6, 3) := by decide +kernel
theorem dX8_pass_33 : decode cX8_pass 33 = .ok (.goto 192, 3) := by decide +kernel
theorem dX8_pass_36 : decode cX8_pass 36 = .ok (.aload_n 0, 1) := by decide +kernel
theorem dX8_pass_37 : decode cX8_pass 37 = .ok (.getfield 19, 3) := by decide +kernel
theorem dX8_pass_40 : decode cX8_pass 40 = .ok (.aload 5, 2) := by decide +kernel
theorem dX8_pass_42 : decode cX8_pass 42 = .ok (.iconst 5, 1) := by decide +kernel
theorem dX8_pass_43 : decode cX8_pass 43 = .ok (.iaload, 1) := by decide +kernel
theorem dX8_pass_44 : decode cX8_pass 44 = .ok (.aaload, 1) := by decide +kernel
theorem dX8_pass_45 : decode cX8_pass 45 = .ok (.astore 6, 2) := by decide +kernel
theorem dX8_pass_47 : decode cX8_pass 47 = .ok (.aload_n 0, 1) := by decide +kernel
theorem dX8_pass_48 : decode cX8_pass 48 = .ok (.aload 5, 2) := by decide +kernel
theorem dX8_pass_50 : decode cX8_pass 50 = .ok (.iconst 5, 1) := by decide +kernel
theorem dX8_pass_51 : decode cX8_pass 51 = .ok (.iaload, 1) := by decide +kernel
theorem dX8_pass_52 : decode cX8_pass 52 = .ok (.invokevirtual 42, 3) := by decide +kernel
theorem dX8_pass_55 : decode cX8_pass 55 = .ok (.ifCond .ne 12, 3) := by decide +kernel
theorem dX8_pass_58 : decode cX8_pass 58 = .ok (.aload_n 0, 1) := by decide +kernel
theorem dX8_pass_59 : decode cX8_pass 59 = .ok (.aload 5, 2) := by decide +kernel
theorem dX8_pass_61 : decode cX8_pass 61 = .ok (.invokevirtual 58, 3) := by decide +kernel
theorem dX8_pass_64 : decode cX8_pass 64 = .ok (.goto 161, 3) := by decide +kernel
theorem dX8_pass_67 : decode cX8_pass 67 = .ok (.aload 6, 2) := by decide +kernel
theorem dX8_pass_69 : decode cX8_pass 69 = .ok (.iconst 3, 1) := by decide +kernel
theorem dX8_pass_70 : decode cX8_pass 70 = .ok (.dup2, 1) := by decide +kernel
theorem dX8_pass_71 : decode cX8_pass 71 = .ok (.iaload, 1) := by decide +kernel
theorem dX8_pass_72 : decode cX8_pass 72 = .ok (.iconst 1, 1) := by decide +kernel
theorem dX8_pass_73 : decode cX8_pass 73 = .ok (.iadd, 1) := by decide +kernel
theorem dX8_pass_74 : decode cX8_pass 74 = .ok (.iastore, 1) := by decide +kernel
theorem dX8_pass_75 : decode cX8_pass 75 = .ok (.aload 6, 2) := by decide +kernel
theorem dX8_pass_77 : decode cX8_pass 77 = .ok (.iconst 2, 1) := by decide +kernel
theorem dX8_pass_78 : decode cX8_pass 78 = .ok (.iaload, 1) := by decide +kernel
theorem dX8_pass_79 : decode cX8_pass 79 = .ok (.bipush 6, 2) := by decide +kernel
theorem dX8_pass_81 : decode cX8_pass 81 = .ok (.if_icmp .le 31, 3) := by decide +kernel
theorem dX8_pass_84 : decode cX8_pass 84 = .ok (.aload_n 0, 1) := by decide +kernel
theorem dX8_pass_85 : decode cX8_pass 85 = .ok (.getfield 35, 3) := by decide +kernel
theorem dX8_pass_88 : decode cX8_pass 88 = .ok (.aload 5, 2) := by decide +kernel
theorem dX8_pass_90 : decode cX8_pass 90 = .ok (.bipush 6, 2) := by decide +kernel
theorem dX8_pass_92 : decode cX8_pass 92 = .ok (.iaload, 1) := by decide +kernel
theorem dX8_pass_93 : decode cX8_pass 93 = .ok (.iadd, 1) := by decide +kernel
theorem dX8_pass_94 : decode cX8_pass 94 = .ok (.iconst 5, 1) := by decide +kernel
theorem dX8_pass_95 : decode cX8_pass 95 = .ok (.irem, 1) := by decide +kernel
theorem dX8_pass_96 : decode cX8_pass 96 = .ok (.ifCond .ne 16, 3) := by decide +kernel
theorem dX8_pass_99 : decode cX8_pass 99 = .ok (.aload_n 0, 1) := by decide +kernel
theorem dX8_pass_100 : decode cX8_pass 100 = .ok (.dup, 1) := by decide +kernel
theorem dX8_pass_101 : decode cX8_pass 101 = .ok (.getfield 62, 3) := by decide +kernel
theorem dX8_pass_104 : decode cX8_pass 104 = .ok (.iconst 1, 1) := by decide +kernel
theorem dX8_pass_105 : decode cX8_pass 105 = .ok (.iadd, 1) := by decide +kernel
theorem dX8_pass_106 : decode cX8_pass 106 = .ok (.putfield 62, 3) := by decide +kernel
theorem dX8_pass_109 : decode cX8_pass 109 = .ok (.goto 116, 3) := by decide +kernel
theorem dX8_pass_112 : decode cX8_pass 112 = .ok (.aload 5, 2) := by decide +kernel
theorem dX8_pass_114 : decode cX8_pass 114 = .ok (.bipush 6, 2) := by decide +kernel
theorem dX8_pass_116 : decode cX8_pass 116 = .ok (.dup2, 1) := by decide +kernel
theorem dX8_pass_117 : decode cX8_pass 117 = .ok (.iaload, 1) := by decide +kernel
theorem dX8_pass_118 : decode cX8_pass 118 = .ok (.iconst 1, 1) := by decide +kernel
theorem dX8_pass_119 : decode cX8_pass 119 = .ok (.isub, 1) := by decide +kernel
theorem dX8_pass_120 : decode cX8_pass 120 = .ok (.iastore, 1) := by decide +kernel
theorem dX8_pass_121 : decode cX8_pass 121 = .ok (.aload 5, 2) := by decide +kernel
theorem dX8_pass_123 : decode cX8_pass 123 = .ok (.bipush 6, 2) := by decide +kernel
theorem dX8_pass_125 : decode cX8_pass 125 = .ok (.iaload, 1) := by decide +kernel
theorem dX8_pass_126 : decode cX8_pass 126 = .ok (.ifCond .le 6, 3) := by decide +kernel
theorem dX8_pass_129 : decode cX8_pass 129 = .ok (.goto 96, 3) := by decide +kernel
theorem dX8_pass_132 : decode cX8_pass 132 = .ok (.aload 5, 2) := by decide +kernel
theorem dX8_pass_134 : decode cX8_pass 134 = .ok (.iconst 1, 1) := by decide +kernel
theorem dX8_pass_135 : decode cX8_pass 135 = .ok (.aload 6, 2) := by decide +kernel
theorem dX8_pass_137 : decode cX8_pass 137 = .ok (.iconst 0, 1) := by decide +kernel
theorem dX8_pass_138 : decode cX8_pass 138 = .ok (.iaload, 1) := by decide +kernel
theorem dX8_pass_139 : decode cX8_pass 139 = .ok (.aload 6, 2) := by decide +kernel
theorem dX8_pass_141 : decode cX8_pass 141 = .ok (.iconst 1, 1) := by decide +kernel
theorem dX8_pass_142 : decode cX8_pass 142 = .ok (.iaload, 1) := by decide +kernel
theorem dX8_pass_143 : decode cX8_pass 143 = .ok (.iadd, 1) := by decide +kernel
theorem dX8_pass_144 : decode cX8_pass 144 = .ok (.aload 5, 2) := by decide +kernel
theorem dX8_pass_146 : decode cX8_pass 146 = .ok (.iconst 1, 1) := by decide +kernel
theorem dX8_pass_147 : decode cX8_pass 147 = .ok (.iaload, 1) := by decide +kernel
theorem dX8_pass_148 : decode cX8_pass 148 = .ok (.isub, 1) := by decide +kernel
theorem dX8_pass_149 : decode cX8_pass 149 = .ok (.iastore, 1) := by decide +kernel
theorem dX8_pass_150 : decode cX8_pass 150 = .ok (.aload 5, 2) := by decide +kernel
theorem dX8_pass_152 : decode cX8_pass 152 = .ok (.bipush 9, 2) := by decide +kernel
theorem dX8_pass_154 : decode cX8_pass 154 = .ok (.dup2, 1) := by decide +kernel
theorem dX8_pass_155 : decode cX8_pass 155 = .ok (.iaload, 1) := by decide +kernel
theorem dX8_pass_156 : decode cX8_pass 156 = .ok (.iconst 1, 1) := by decide +kernel
theorem dX8_pass_157 : decode cX8_pass 157 = .ok (.iadd, 1) := by decide +kernel
theorem dX8_pass_158 : decode cX8_pass 158 = .ok (.iastore, 1) := by decide +kernel
theorem dX8_pass_159 : decode cX8_pass 159 = .ok (.aload 5, 2) := by decide +kernel
theorem dX8_pass_161 : decode cX8_pass 161 = .ok (.iconst 5, 1) := by decide +kernel
theorem dX8_pass_162 : decode cX8_pass 162 = .ok (.iconst (-1), 1) := by decide +kernel
theorem dX8_pass_163 : decode cX8_pass 163 = .ok (.iastore, 1) := by decide +kernel
theorem dX8_pass_164 : decode cX8_pass 164 = .ok (.aload 5, 2) := by decide +kernel
theorem dX8_pass_166 : decode cX8_pass 166 = .ok (.iconst 4, 1) := by decide +kernel
theorem dX8_pass_167 : decode cX8_pass 167 = .ok (.aload 5, 2) := by decide +kernel
theorem dX8_pass_169 : decode cX8_pass 169 = .ok (.iconst 1, 1) := by decide +kernel
theorem dX8_pass_170 : decode cX8_pass 170 = .ok (.iaload, 1) := by decide +kernel
theorem dX8_pass_171 : decode cX8_pass 171 = .ok (.aload 5, 2) := by decide +kernel
theorem dX8_pass_173 : decode cX8_pass 173 = .ok (.iconst 2, 1) := by decide +kernel
theorem dX8_pass_174 : decode cX8_pass 174 = .ok (.iaload, 1) := by decide +kernel
theorem dX8_pass_175 : decode cX8_pass 175 = .ok (.if_icmp .ne 7, 3) := by decide +kernel
theorem dX8_pass_178 : decode cX8_pass 178 = .ok (.iconst 2, 1) := by decide +kernel
theorem dX8_pass_179 : decode cX8_pass 179 = .ok (.goto 4, 3) := by decide +kernel
theorem dX8_pass_182 : decode cX8_pass 182 = .ok (.iconst 0, 1) := by decide +kernel
theorem dX8_pass_183 : decode cX8_pass 183 = .ok (.iastore, 1) := by decide +kernel
theorem dX8_pass_184 : decode cX8_pass 184 = .ok (.aload 5, 2) := by decide +kernel
theorem dX8_pass_186 : decode cX8_pass 186 = .ok (.bipush 6, 2) := by decide +kernel
theorem dX8_pass_188 : decode cX8_pass 188 = .ok (.aload 5, 2) := by decide +kernel
theorem dX8_pass_190 : decode cX8_pass 190 = .ok (.iconst 4, 1) := by decide +kernel
theorem dX8_pass_191 : decode cX8_pass 191 = .ok (.iaload, 1) := by decide +kernel
theorem dX8_pass_192 : decode cX8_pass 192 = .ok (.iconst 2, 1) := by decide +kernel
theorem dX8_pass_193 : decode cX8_pass 193 = .ok (.if_icmp .ne 7, 3) := by decide +kernel
theorem dX8_pass_196 : decode cX8_pass 196 = .ok (.iconst 0, 1) := by decide +kernel
theorem dX8_pass_197 : decode cX8_pass 197 = .ok (.goto 7, 3) := by decide +kernel
theorem dX8_pass_200 : decode cX8_pass 200 = .ok (.aload 5, 2) := by decide +kernel
theorem dX8_pass_202 : decode cX8_pass 202 = .ok (.iconst 0, 1) := by decide +kernel
theorem dX8_pass_203 : decode cX8_pass 203 = .ok (.iaload, 1) := by decide +kernel
theorem dX8_pass_204 : decode cX8_pass 204 = .ok (.iastore, 1) := by decide +kernel
theorem dX8_pass_205 : decode cX8_pass 205 = .ok (.aload 5, 2) := by decide +kernel
theorem dX8_pass_207 : decode cX8_pass 207 = .ok (.iconst 4, 1) := by decide +kernel
theorem dX8_pass_208 : decode cX8_pass 208 = .ok (.iaload, 1) := by decide +kernel
theorem dX8_pass_209 : decode cX8_pass 209 = .ok (.iconst 2, 1) := by decide +kernel
theorem dX8_pass_210 : decode cX8_pass 210 = .ok (.if_icmp .ne 15, 3) := by decide +kernel
theorem dX8_pass_213 : decode cX8_pass 213 = .ok (.aload 5, 2) := by decide +kernel
theorem dX8_pass_215 : decode cX8_pass 215 = .ok (.bipush 8, 2) := by decide +kernel
theorem dX8_pass_217 : decode cX8_pass 217 = .ok (.aload_n 0, 1) := by decide +kernel
theorem dX8_pass_218 : decode cX8_pass 218 = .ok (.getfield 35, 3) := by decide +kernel
theorem dX8_pass_221 : decode cX8_pass 221 = .ok (.iastore, 1) := by decide +kernel
theorem dX8_pass_222 : decode cX8_pass 222 = .ok (.iinc 1 1, 3) := by decide +kernel
theorem dX8_pass_225 : decode cX8_pass 225 = .ok (.iinc 4 1, 3) := by decide +kernel
theorem dX8_pass_228 : decode cX8_pass 228 = .ok (.goto (-215), 3) := by decide +kernel
theorem dX8_pass_231 : decode cX8_pass 231 = .ok (.aload_n 0, 1) := by decide +kernel
theorem dX8_pass_232 : decode cX8_pass 232 = .ok (.invokevirtual 65, 3) := by decide +kernel
theorem dX8_pass_235 : decode cX8_pass 235 = .ok (.astore_n 2, 1) := by decide +kernel
theorem dX8_pass_236 : decode cX8_pass 236 = .ok (.iconst 0, 1) := by decide +kernel
theorem dX8_pass_237 : decode cX8_pass 237 = .ok (.istore_n 3, 1) := by decide +kernel
theorem dX8_pass_238 : decode cX8_pass 238 = .ok (.iload_n 3, 1) := by decide +kernel
theorem dX8_pass_239 : decode cX8_pass 239 = .ok (.aload_n 0, 1) := by decide +kernel
theorem dX8_pass_240 : decode cX8_pass 240 = .ok (.getfield 25, 3) := by decide +kernel
theorem dX8_pass_243 : decode cX8_pass 243 = .ok (.arraylength, 1) := by decide +kernel
theorem dX8_pass_244 : decode cX8_pass 244 = .ok (.if_icmp .ge 120, 3) := by decide +kernel
theorem dX8_pass_247 : decode cX8_pass 247 = .ok (.aload_n 0, 1) := by decide +kernel
theorem dX8_pass_248 : decode cX8_pass 248 = .ok (.getfield 25, 3) := by decide +kernel
theorem dX8_pass_251 : decode cX8_pass 251 = .ok (.iload_n 3, 1) := by decide +kernel
theorem dX8_pass_252 : decode cX8_pass 252 = .ok (.aaload, 1) := by decide +kernel
theorem dX8_pass_253 : decode cX8_pass 253 = .ok (.astore 4, 2) := by decide +kernel
theorem dX8_pass_255 : decode cX8_pass 255 = .ok (.aload 4, 2) := by decide +kernel
theorem dX8_pass_257 : decode cX8_pass 257 = .ok (.iconst 4, 1) := by decide +kernel
theorem dX8_pass_258 : decode cX8_pass 258 = .ok (.iaload, 1) := by decide +kernel
theorem dX8_pass_259 : decode cX8_pass 259 = .ok (.ifCond .ne 99, 3) := by decide +kernel
theorem dX8_pass_262 : decode cX8_pass 262 = .ok (.aload 4, 2) := by decide +kernel
theorem dX8_pass_264 : decode cX8_pass 264 = .ok (.iconst 3, 1) := by decide +kernel
theorem dX8_pass_265 : decode cX8_pass 265 = .ok (.iaload, 1) := by decide +kernel
theorem dX8_pass_266 : decode cX8_pass 266 = .ok (.aload_n 0, 1) := by decide +kernel
theorem dX8_pass_267 : decode cX8_pass 267 = .ok (.getfield 35, 3) := by decide +kernel
theorem dX8_pass_270 : decode cX8_pass 270 = .ok (.if_icmp .gt 88, 3) := by decide +kernel
theorem dX8_pass_273 : decode cX8_pass 273 = .ok (.aload_n 0, 1) := by decide +kernel
theorem dX8_pass_274 : decode cX8_pass 274 = .ok (.iload_n 3, 1) := by decide +kernel
theorem dX8_pass_275 : decode cX8_pass 275 = .ok (.invokevirtual 69, 3) := by decide +kernel
theorem dX8_pass_278 : decode cX8_pass 278 = .ok (.ifCond .ne 80, 3) := by decide +kernel
theorem dX8_pass_281 : decode cX8_pass 281 = .ok (.aload_n 0, 1) := by decide +kernel
theorem dX8_pass_282 : decode cX8_pass 282 = .ok (.aload 4, 2) := by decide +kernel
theorem dX8_pass_284 : decode cX8_pass 284 = .ok (.iconst 1, 1) := by decide +kernel
theorem dX8_pass_285 : decode cX8_pass 285 = .ok (.iaload, 1) := by decide +kernel
theorem dX8_pass_286 : decode cX8_pass 286 = .ok (.invokevirtual 72, 3) := by decide +kernel
theorem dX8_pass_289 : decode cX8_pass 289 = .ok (.aload_n 0, 1) := by decide +kernel
theorem dX8_pass_290 : decode cX8_pass 290 = .ok (.getfield 15, 3) := by decide +kernel
theorem dX8_pass_293 : decode cX8_pass 293 = .ok (.aload 4, 2) := by decide +kernel
theorem dX8_pass_295 : decode cX8_pass 295 = .ok (.iconst 1, 1) := by decide +kernel
theorem dX8_pass_296 : decode cX8_pass 296 = .ok (.iaload, 1) := by decide +kernel
theorem dX8_pass_297 : decode cX8_pass 297 = .ok (.aaload, 1) := by decide +kernel
theorem dX8_pass_298 : decode cX8_pass 298 = .ok (.iconst 2, 1) := by decide +kernel
theorem dX8_pass_299 : decode cX8_pass 299 = .ok (.iaload, 1) := by decide +kernel
theorem dX8_pass_300 : decode cX8_pass 300 = .ok (.if_icmp .lt 6, 3) := by decide +kernel
theorem dX8_pass_303 : decode cX8_pass 303 = .ok (.goto 55, 3) := by decide +kernel
theorem dX8_pass_306 : decode cX8_pass 306 = .ok (.aload_n 0, 1) := by decide +kernel
theorem dX8_pass_307 : decode cX8_pass 307 = .ok (.aload_n 2, 1) := by decide +kernel
theorem dX8_pass_308 : decode cX8_pass 308 = .ok (.aload 4, 2) := by decide +kernel
theorem dX8_pass_310 : decode cX8_pass 310 = .ok (.iconst 1, 1) := by decide +kernel
theorem dX8_pass_311 : decode cX8_pass 311 = .ok (.iaload, 1) := by decide +kernel
theorem dX8_pass_312 : decode cX8_pass 312 = .ok (.aload 4, 2) := by decide +kernel
theorem dX8_pass_314 : decode cX8_pass 314 = .ok (.iconst 2, 1) := by decide +kernel
theorem dX8_pass_315 : decode cX8_pass 315 = .ok (.iaload, 1) := by decide +kernel
theorem dX8_pass_316 : decode cX8_pass 316 = .ok (.invokevirtual 75, 3) := by decide +kernel
theorem dX8_pass_319 : decode cX8_pass 319 = .ok (.istore 5, 2) := by decide +kernel
theorem dX8_pass_321 : decode cX8_pass 321 = .ok (.iload 5, 2) := by decide +kernel
theorem dX8_pass_323 : decode cX8_pass 323 = .ok (.ifCond .lt 35, 3) := by decide +kernel
theorem dX8_pass_326 : decode cX8_pass 326 = .ok (.aload_n 0, 1) := by decide +kernel
theorem dX8_pass_327 : decode cX8_pass 327 = .ok (.iload 5, 2) := by decide +kernel
theorem dX8_pass_329 : decode cX8_pass 329 = .ok (.invokevirtual 79, 3) := by decide +kernel
theorem dX8_pass_332 : decode cX8_pass 332 = .ok (.ifCond .lt 6, 3) := by decide +kernel
theorem dX8_pass_335 : decode cX8_pass 335 = .ok (.goto 23, 3) := by decide +kernel
theorem dX8_pass_338 : decode cX8_pass 338 = .ok (.aload 4, 2) := by decide +kernel
theorem dX8_pass_340 : decode cX8_pass 340 = .ok (.iconst 4, 1) := by decide +kernel
theorem dX8_pass_341 : decode cX8_pass 341 = .ok (.iconst 1, 1) := by decide +kernel
theorem dX8_pass_342 : decode cX8_pass 342 = .ok (.iastore, 1) := by decide +kernel
theorem dX8_pass_343 : decode cX8_pass 343 = .ok (.aload 4, 2) := by decide +kernel
theorem dX8_pass_345 : decode cX8_pass 345 = .ok (.iconst 5, 1) := by decide +kernel
theorem dX8_pass_346 : decode cX8_pass 346 = .ok (.iload 5, 2) := by decide +kernel
theorem dX8_pass_348 : decode cX8_pass 348 = .ok (.iastore, 1) := by decide +kernel
theorem dX8_pass_349 : decode cX8_pass 349 = .ok (.aload 4, 2) := by decide +kernel
theorem dX8_pass_351 : decode cX8_pass 351 = .ok (.bipush 6, 2) := by decide +kernel
theorem dX8_pass_353 : decode cX8_pass 353 = .ok (.aload 4, 2) := by decide +kernel
theorem dX8_pass_355 : decode cX8_pass 355 = .ok (.iconst 0, 1) := by decide +kernel
theorem dX8_pass_356 : decode cX8_pass 356 = .ok (.iaload, 1) := by decide +kernel
theorem dX8_pass_357 : decode cX8_pass 357 = .ok (.iastore, 1) := by decide +kernel
theorem dX8_pass_358 : decode cX8_pass 358 = .ok (.iinc 3 1, 3) := by decide +kernel
theorem dX8_pass_361 : decode cX8_pass 361 = .ok (.goto (-123), 3) := by decide +kernel
theorem dX8_pass_364 : decode cX8_pass 364 = .ok (.aload_n 0, 1) := by decide +kernel
theorem dX8_pass_365 : decode cX8_pass 365 = .ok (.dup, 1) := by decide +kernel
theorem dX8_pass_366 : decode cX8_pass 366 = .ok (.getfield 35, 3) := by decide +kernel
theorem dX8_pass_369 : decode cX8_pass 369 = .ok (.iconst 1, 1) := by decide +kernel
theorem dX8_pass_370 : decode cX8_pass 370 = .ok (.iadd, 1) := by decide +kernel
theorem dX8_pass_371 : decode cX8_pass 371 = .ok (.putfield 35, 3) := by decide +kernel
theorem dX8_pass_374 : decode cX8_pass 374 = .ok (.iload_n 1, 1) := by decide +kernel
theorem dX8_pass_375 : decode cX8_pass 375 = .ok (.ireturn, 1) := by decide +kernel
theorem dX8_go_0 : decode cX8_go 0 = .ok (.iconst 0, 1) := by decide +kernel
theorem dX8_go_1 : decode cX8_go 1 = .ok (.istore_n 2, 1) := by decide +kernel
theorem dX8_go_2 : decode cX8_go 2 = .ok (.iconst 0, 1) := by decide +kernel
theorem dX8_go_3 : decode cX8_go 3 = .ok (.istore_n 3, 1) := by decide +kernel
theorem dX8_go_4 : decode cX8_go 4 = .ok (.iload_n 3, 1) := by decide +kernel
theorem dX8_go_5 : decode cX8_go 5 = .ok (.iload_n 1, 1) := by decide +kernel
theorem dX8_go_6 : decode cX8_go 6 = .ok (.if_icmp .ge 16, 3) := by decide +kernel
theorem dX8_go_9 : decode cX8_go 9 = .ok (.iload_n 2, 1) := by decide +kernel
theorem dX8_go_10 : decode cX8_go 10 = .ok (.aload_n 0, 1) := by decide +kernel
theorem dX8_go_11 : decode cX8_go 11 = .ok (.invokevirtual 82, 3) := by decide +kernel
theorem dX8_go_14 : decode cX8_go 14 = .ok (.iadd, 1) := by decide +kernel
theorem dX8_go_15 : decode cX8_go 15 = .ok (.istore_n 2, 1) := by decide +kernel
theorem dX8_go_16 : decode cX8_go 16 = .ok (.iinc 3 1, 3) := by decide +kernel
theorem dX8_go_19 : decode cX8_go 19 = .ok (.goto (-15), 3) := by decide +kernel
theorem dX8_go_22 : decode cX8_go 22 = .ok (.iload_n 2, 1) := by decide +kernel
theorem dX8_go_23 : decode cX8_go 23 = .ok (.ireturn, 1) := by decide +kernel
theorem dX8_counts_0 : decode cX8_counts 0 = .ok (.bipush 14, 2) := by decide +kernel
theorem dX8_counts_2 : decode cX8_counts 2 = .ok (.newarray .int, 2) := by decide +kernel
theorem dX8_counts_4 : decode cX8_counts 4 = .ok (.dup, 1) := by decide +kernel
theorem dX8_counts_5 : decode cX8_counts 5 = .ok (.iconst 0, 1) := by decide +kernel
theorem dX8_counts_6 : decode cX8_counts 6 = .ok (.aload_n 0, 1) := by decide +kernel
theorem dX8_counts_7 : decode cX8_counts 7 = .ok (.getfield 35, 3) := by decide +kernel
theorem dX8_counts_10 : decode cX8_counts 10 = .ok (.iastore, 1) := by decide +kernel
theorem dX8_counts_11 : decode cX8_counts 11 = .ok (.dup, 1) := by decide +kernel
theorem dX8_counts_12 : decode cX8_counts 12 = .ok (.iconst 1, 1) := by decide +kernel
theorem dX8_counts_13 : decode cX8_counts 13 = .ok (.aload_n 0, 1) := by decide +kernel
theorem dX8_counts_14 : decode cX8_counts 14 = .ok (.getfield 15, 3) := by decide +kernel
theorem dX8_counts_17 : decode cX8_counts 17 = .ok (.arraylength, 1) := by decide +kernel
theorem dX8_counts_18 : decode cX8_counts 18 = .ok (.iastore, 1) := by decide +kernel
theorem dX8_counts_19 : decode cX8_counts 19 = .ok (.dup, 1) := by decide +kernel
theorem dX8_counts_20 : decode cX8_counts 20 = .ok (.iconst 2, 1) := by decide +kernel
theorem dX8_counts_21 : decode cX8_counts 21 = .ok (.aload_n 0, 1) := by decide +kernel
theorem dX8_counts_22 : decode cX8_counts 22 = .ok (.getfield 19, 3) := by decide +kernel
theorem dX8_counts_25 : decode cX8_counts 25 = .ok (.arraylength, 1) := by decide +kernel
theorem dX8_counts_26 : decode cX8_counts 26 = .ok (.iastore, 1) := by decide +kernel
theorem dX8_counts_27 : decode cX8_counts 27 = .ok (.dup, 1) := by decide +kernel
theorem dX8_counts_28 : decode cX8_counts 28 = .ok (.iconst 3, 1) := by decide +kernel
theorem dX8_counts_29 : decode cX8_counts 29 = .ok (.aload_n 0, 1) := by decide +kernel
theorem dX8_counts_30 : decode cX8_counts 30 = .ok (.getfield 22, 3) := by decide +kernel
theorem dX8_counts_33 : decode cX8_counts 33 = .ok (.arraylength, 1) := by decide +kernel
theorem dX8_counts_34 : decode cX8_counts 34 = .ok (.iastore, 1) := by decide +kernel
theorem dX8_counts_35 : decode cX8_counts 35 = .ok (.dup, 1) := by decide +kernel
theorem dX8_counts_36 : decode cX8_counts 36 = .ok (.iconst 4, 1) := by decide +kernel
theorem dX8_counts_37 : decode cX8_counts 37 = .ok (.aload_n 0, 1) := by decide +kernel
theorem dX8_counts_38 : decode cX8_counts 38 = .ok (.getfield 25, 3) := by decide +kernel
theorem dX8_counts_41 : decode cX8_counts 41 = .ok (.arraylength, 1) := by decide +kernel
theorem dX8_counts_42 : decode cX8_counts 42 = .ok (.iastore, 1) := by decide +kernel
theorem dX8_counts_43 : decode cX8_counts 43 = .ok (.dup, 1) := by decide +kernel
theorem dX8_counts_44 : decode cX8_counts 44 = .ok (.iconst 5, 1) := by decide +kernel
theorem dX8_counts_45 : decode cX8_counts 45 = .ok (.aload_n 0, 1) := by decide +kernel
theorem dX8_counts_46 : decode cX8_counts 46 = .ok (.getfield 28, 3) := by decide +kernel
theorem dX8_counts_49 : decode cX8_counts 49 = .ok (.arraylength, 1) := by decide +kernel
theorem dX8_counts_50 : decode cX8_counts 50 = .ok (.iastore, 1) := by decide +kernel
theorem dX8_counts_51 : decode cX8_counts 51 = .ok (.dup, 1) := by decide +kernel
theorem dX8_counts_52 : decode cX8_counts 52 = .ok (.bipush 6, 2) := by decide +kernel
theorem dX8_counts_54 : decode cX8_counts 54 = .ok (.iconst 0, 1) := by decide +kernel
theorem dX8_counts_55 : decode cX8_counts 55 = .ok (.iastore, 1) := by decide +kernel
theorem dX8_counts_56 : decode cX8_counts 56 = .ok (.dup, 1) := by decide +kernel
theorem dX8_counts_57 : decode cX8_counts 57 = .ok (.bipush 7, 2) := by decide +kernel
theorem dX8_counts_59 : decode cX8_counts 59 = .ok (.iconst 0, 1) := by decide +kernel
theorem dX8_counts_60 : decode cX8_counts 60 = .ok (.iastore, 1) := by decide +kernel
theorem dX8_counts_61 : decode cX8_counts 61 = .ok (.dup, 1) := by decide +kernel
theorem dX8_counts_62 : decode cX8_counts 62 = .ok (.bipush 8, 2) := by decide +kernel
theorem dX8_counts_64 : decode cX8_counts 64 = .ok (.iconst 0, 1) := by decide +kernel
theorem dX8_counts_65 : decode cX8_counts 65 = .ok (.iastore, 1) := by decide +kernel
theorem dX8_counts_66 : decode cX8_counts 66 = .ok (.dup, 1) := by decide +kernel
theorem dX8_counts_67 : decode cX8_counts 67 = .ok (.bipush 9, 2) := by decide +kernel
theorem dX8_counts_69 : decode cX8_counts 69 = .ok (.iconst 0, 1) := by decide +kernel
theorem dX8_counts_70 : decode cX8_counts 70 = .ok (.iastore, 1) := by decide +kernel
theorem dX8_counts_71 : decode cX8_counts 71 = .ok (.dup, 1) := by decide +kernel
theorem dX8_counts_72 : decode cX8_counts 72 = .ok (.bipush 10, 2) := by decide +kernel
theorem dX8_counts_74 : decode cX8_counts 74 = .ok (.iconst 0, 1) := by decide +kernel
theorem dX8_counts_75 : decode cX8_counts 75 = .ok (.iastore, 1) := by decide +kernel
theorem dX8_counts_76 : decode cX8_counts 76 = .ok (.dup, 1) := by decide +kernel
theorem dX8_counts_77 : decode cX8_counts 77 = .ok (.bipush 11, 2) := by decide +kernel
theorem dX8_counts_79 : decode cX8_counts 79 = .ok (.iconst 0, 1) := by decide +kernel
theorem dX8_counts_80 : decode cX8_counts 80 = .ok (.iastore, 1) := by decide +kernel
theorem dX8_counts_81 : decode cX8_counts 81 = .ok (.dup, 1) := by decide +kernel
theorem dX8_counts_82 : decode cX8_counts 82 = .ok (.bipush 12, 2) := by decide +kernel
theorem dX8_counts_84 : decode cX8_counts 84 = .ok (.aload_n 0, 1) := by decide +kernel
theorem dX8_counts_85 : decode cX8_counts 85 = .ok (.getfield 62, 3) := by decide +kernel
theorem dX8_counts_88 : decode cX8_counts 88 = .ok (.iastore, 1) := by decide +kernel
theorem dX8_counts_89 : decode cX8_counts 89 = .ok (.dup, 1) := by decide +kernel
theorem dX8_counts_90 : decode cX8_counts 90 = .ok (.bipush 13, 2) := by decide +kernel
theorem dX8_counts_92 : decode cX8_counts 92 = .ok (.iconst 0, 1) := by decide +kernel
theorem dX8_counts_93 : decode cX8_counts 93 = .ok (.iastore, 1) := by decide +kernel
theorem dX8_counts_94 : decode cX8_counts 94 = .ok (.astore_n 1, 1) := by decide +kernel
theorem dX8_counts_95 : decode cX8_counts 95 = .ok (.iconst 0, 1) := by decide +kernel
theorem dX8_counts_96 : decode cX8_counts 96 = .ok (.istore_n 2, 1) := by decide +kernel
theorem dX8_counts_97 : decode cX8_counts 97 = .ok (.iload_n 2, 1) := by decide +kernel
theorem dX8_counts_98 : decode cX8_counts 98 = .ok (.aload_n 0, 1) := by decide +kernel
theorem dX8_counts_99 : decode cX8_counts 99 = .ok (.getfield 15, 3) := by decide +kernel
theorem dX8_counts_102 : decode cX8_counts 102 = .ok (.arraylength, 1) := by decide +kernel
theorem dX8_counts_103 : decode cX8_counts 103 = .ok (.if_icmp .ge 33, 3) := by decide +kernel
theorem dX8_counts_106 : decode cX8_counts 106 = .ok (.aload_n 1, 1) := by decide +kernel
theorem dX8_counts_107 : decode cX8_counts 107 = .ok (.bipush 6, 2) := by decide +kernel
theorem dX8_counts_109 : decode cX8_counts 109 = .ok (.dup2, 1) := by decide +kernel
theorem dX8_counts_110 : decode cX8_counts 110 = .ok (.iaload, 1) := by decide +kernel
theorem dX8_counts_111 : decode cX8_counts 111 = .ok (.aload_n 0, 1) := by decide +kernel
theorem dX8_counts_112 : decode cX8_counts 112 = .ok (.iload_n 2, 1) := by decide +kernel
theorem dX8_counts_113 : decode cX8_counts 113 = .ok (.aload_n 0, 1) := by decide +kernel
theorem dX8_counts_114 : decode cX8_counts 114 = .ok (.getfield 35, 3) := by decide +kernel
theorem dX8_counts_117 : decode cX8_counts 117 = .ok (.invokevirtual 31, 3) := by decide +kernel
theorem dX8_counts_120 : decode cX8_counts 120 = .ok (.ifCond .eq 7, 3) := by decide +kernel
theorem dX8_counts_123 : decode cX8_counts 123 = .ok (.iconst 1, 1) := by decide +kernel
theorem dX8_counts_124 : decode cX8_counts 124 = .ok (.goto 4, 3) := by decide +kernel
theorem dX8_counts_127 : decode cX8_counts 127 = .ok (.iconst 0, 1) := by decide +kernel
theorem dX8_counts_128 : decode cX8_counts 128 = .ok (.iadd, 1) := by decide +kernel
theorem dX8_counts_129 : decode cX8_counts 129 = .ok (.iastore, 1) := by decide +kernel
theorem dX8_counts_130 : decode cX8_counts 130 = .ok (.iinc 2 1, 3) := by decide +kernel
theorem dX8_counts_133 : decode cX8_counts 133 = .ok (.goto (-36), 3) := by decide +kernel
theorem dX8_counts_136 : decode cX8_counts 136 = .ok (.iconst 0, 1) := by decide +kernel
theorem dX8_counts_137 : decode cX8_counts 137 = .ok (.istore_n 2, 1) := by decide +kernel
theorem dX8_counts_138 : decode cX8_counts 138 = .ok (.iload_n 2, 1) := by decide +kernel
theorem dX8_counts_139 : decode cX8_counts 139 = .ok (.aload_n 0, 1) := by decide +kernel
theorem dX8_counts_140 : decode cX8_counts 140 = .ok (.getfield 19, 3) := by decide +kernel
theorem dX8_counts_143 : decode cX8_counts 143 = .ok (.arraylength, 1) := by decide +kernel
theorem dX8_counts_144 : decode cX8_counts 144 = .ok (.if_icmp .ge 29, 3) := by decide +kernel
theorem dX8_counts_147 : decode cX8_counts 147 = .ok (.aload_n 1, 1) := by decide +kernel
theorem dX8_counts_148 : decode cX8_counts 148 = .ok (.bipush 7, 2) := by decide +kernel
theorem dX8_counts_150 : decode cX8_counts 150 = .ok (.dup2, 1) := by decide +kernel
theorem dX8_counts_151 : decode cX8_counts 151 = .ok (.iaload, 1) := by decide +kernel
theorem dX8_counts_152 : decode cX8_counts 152 = .ok (.aload_n 0, 1) := by decide +kernel
theorem dX8_counts_153 : decode cX8_counts 153 = .ok (.iload_n 2, 1) := by decide +kernel
theorem dX8_counts_154 : decode cX8_counts 154 = .ok (.invokevirtual 42, 3) := by decide +kernel
theorem dX8_counts_157 : decode cX8_counts 157 = .ok (.ifCond .eq 7, 3) := by decide +kernel
theorem dX8_counts_160 : decode cX8_counts 160 = .ok (.iconst 1, 1) := by decide +kernel
theorem dX8_counts_161 : decode cX8_counts 161 = .ok (.goto 4, 3) := by decide +kernel
theorem dX8_counts_164 : decode cX8_counts 164 = .ok (.iconst 0, 1) := by decide +kernel
theorem dX8_counts_165 : decode cX8_counts 165 = .ok (.iadd, 1) := by decide +kernel
theorem dX8_counts_166 : decode cX8_counts 166 = .ok (.iastore, 1) := by decide +kernel
theorem dX8_counts_167 : decode cX8_counts 167 = .ok (.iinc 2 1, 3) := by decide +kernel
theorem dX8_counts_170 : decode cX8_counts 170 = .ok (.goto (-32), 3) := by decide +kernel
theorem dX8_counts_173 : decode cX8_counts 173 = .ok (.aload_n 0, 1) := by decide +kernel
theorem dX8_counts_174 : decode cX8_counts 174 = .ok (.getfield 25, 3) := by decide +kernel
theorem dX8_counts_177 : decode cX8_counts 177 = .ok (.astore_n 2, 1) := by decide +kernel
theorem dX8_counts_178 : decode cX8_counts 178 = .ok (.aload_n 2, 1) := by decide +kernel
theorem dX8_counts_179 : decode cX8_counts 179 = .ok (.arraylength, 1) := by decide +kernel
theorem dX8_counts_180 : decode cX8_counts 180 = .ok (.istore_n 3, 1) := by decide +kernel
theorem dX8_counts_181 : decode cX8_counts 181 = .ok (.iconst 0, 1) := by decide +kernel
theorem dX8_counts_182 : decode cX8_counts 182 = .ok (.istore 4, 2) := by decide +kernel
theorem dX8_counts_184 : decode cX8_counts 184 = .ok (.iload 4, 2) := by decide +kernel
theorem dX8_counts_186 : decode cX8_counts 186 = .ok (.iload_n 3, 1) := by decide +kernel
theorem dX8_counts_187 : decode cX8_counts 187 = .ok (.if_icmp .ge 40, 3) := by decide +kernel
theorem dX8_counts_190 : decode cX8_counts 190 = .ok (.aload_n 2, 1) := by decide +kernel
theorem dX8_counts_191 : decode cX8_counts 191 = .ok (.iload 4, 2) := by decide +kernel
theorem dX8_counts_193 : decode cX8_counts 193 = .ok (.aaload, 1) := by decide +kernel
theorem dX8_counts_194 : decode cX8_counts 194 = .ok (.astore 5, 2) := by decide +kernel
theorem dX8_counts_196 : decode cX8_counts 196 = .ok (.aload_n 1, 1) := by decide +kernel
theorem dX8_counts_197 : decode cX8_counts 197 = .ok (.bipush 8, 2) := by decide +kernel
theorem dX8_counts_199 : decode cX8_counts 199 = .ok (.aload 5, 2) := by decide +kernel
theorem dX8_counts_201 : decode cX8_counts 201 = .ok (.iconst 4, 1) := by decide +kernel
theorem dX8_counts_202 : decode cX8_counts 202 = .ok (.iaload, 1) := by decide +kernel
theorem dX8_counts_203 : decode cX8_counts 203 = .ok (.iadd, 1) := by decide +kernel
theorem dX8_counts_204 : decode cX8_counts 204 = .ok (.dup2, 1) := by decide +kernel
theorem dX8_counts_205 : decode cX8_counts 205 = .ok (.iaload, 1) := by decide +kernel
theorem dX8_counts_206 : decode cX8_counts 206 = .ok (.iconst 1, 1) := by decide +kernel
theorem dX8_counts_207 : decode cX8_counts 207 = .ok (.iadd, 1) := by decide +kernel
theorem dX8_counts_208 : decode cX8_counts 208 = .ok (.iastore, 1) := by decide +kernel
theorem dX8_counts_209 : decode cX8_counts 209 = .ok (.aload_n 1, 1) := by decide +kernel
theorem dX8_counts_210 : decode cX8_counts 210 = .ok (.bipush 11, 2) := by decide +kernel
theorem dX8_counts_212 : decode cX8_counts 212 = .ok (.dup2, 1) := by decide +kernel
theorem dX8_counts_213 : decode cX8_counts 213 = .ok (.iaload, 1) := by decide +kernel
theorem dX8_counts_214 : decode cX8_counts 214 = .ok (.aload 5, 2) := by decide +kernel
theorem dX8_counts_216 : decode cX8_counts 216 = .ok (.bipush 7, 2) := by decide +kernel
theorem dX8_counts_218 : decode cX8_counts 218 = .ok (.iaload, 1) := by decide +kernel
theorem dX8_counts_219 : decode cX8_counts 219 = .ok (.iadd, 1) := by decide +kernel
theorem dX8_counts_220 : decode cX8_counts 220 = .ok (.iastore, 1) := by decide +kernel
theorem dX8_counts_221 : decode cX8_counts 221 = .ok (.iinc 4 1, 3) := by decide +kernel
theorem dX8_counts_224 : decode cX8_counts 224 = .ok (.goto (-40), 3) := by decide +kernel
theorem dX8_counts_227 : decode cX8_counts 227 = .ok (.aload_n 1, 1) := by decide +kernel
theorem dX8_counts_228 : decode cX8_counts 228 = .ok (.areturn, 1) := by decide +kernel
theorem dX8_isSame_0 : decode cX8_isSame 0 = .ok (.aload_n 0, 1) := by decide +kernel
theorem dX8_isSame_1 : decode cX8_isSame 1 = .ok (.invokevirtual 97, 3) := by decide +kernel
theorem dX8_isSame_4 : decode cX8_isSame 4 = .ok (.astore_n 2, 1) := by decide +kernel
theorem dX8_isSame_5 : decode cX8_isSame 5 = .ok (.iconst 0, 1) := by decide +kernel
theorem dX8_isSame_6 : decode cX8_isSame 6 = .ok (.istore_n 3, 1) := by decide +kernel
theorem dX8_isSame_7 : decode cX8_isSame 7 = .ok (.iload_n 3, 1) := by decide +kernel
theorem dX8_isSame_8 : decode cX8_isSame 8 = .ok (.bipush 14, 2) := by decide +kernel
theorem dX8_isSame_10 : decode cX8_isSame 10 = .ok (.if_icmp .ge 22, 3) := by decide +kernel
theorem dX8_isSame_13 : decode cX8_isSame 13 = .ok (.aload_n 1, 1) := by decide +kernel
theorem dX8_isSame_14 : decode cX8_isSame 14 = .ok (.iload_n 3, 1) := by decide +kernel
theorem dX8_isSame_15 : decode cX8_isSame 15 = .ok (.invokevirtual 101, 3) := by decide +kernel
theorem dX8_isSame_18 : decode cX8_isSame 18 = .ok (.aload_n 2, 1) := by decide +kernel
theorem dX8_isSame_19 : decode cX8_isSame 19 = .ok (.iload_n 3, 1) := by decide +kernel
theorem dX8_isSame_20 : decode cX8_isSame 20 = .ok (.iaload, 1) := by decide +kernel
theorem dX8_isSame_21 : decode cX8_isSame 21 = .ok (.if_icmp .eq 5, 3) := by decide +kernel
theorem dX8_isSame_24 : decode cX8_isSame 24 = .ok (.iconst 0, 1) := by decide +kernel
theorem dX8_isSame_25 : decode cX8_isSame 25 = .ok (.ireturn, 1) := by decide +kernel
theorem dX8_isSame_26 : decode cX8_isSame 26 = .ok (.iinc 3 1, 3) := by decide +kernel
theorem dX8_isSame_29 : decode cX8_isSame 29 = .ok (.goto (-22), 3) := by decide +kernel
theorem dX8_isSame_32 : decode cX8_isSame 32 = .ok (.aload_n 0, 1) := by decide +kernel
theorem dX8_isSame_33 : decode cX8_isSame 33 = .ok (.invokevirtual 65, 3) := by decide +kernel
theorem dX8_isSame_36 : decode cX8_isSame 36 = .ok (.astore_n 3, 1) := by decide +kernel
theorem dX8_isSame_37 : decode cX8_isSame 37 = .ok (.iconst 0, 1) := by decide +kernel
theorem dX8_isSame_38 : decode cX8_isSame 38 = .ok (.istore 4, 2) := by decide +kernel

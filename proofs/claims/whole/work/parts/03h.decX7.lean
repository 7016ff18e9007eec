theorem dX7_trader_0 : decode cX7_trader 0 = .ok (.aload_n 0, 1) := by decide +kernel
theorem dX7_trader_1 : decode cX7_trader 1 = .ok (.iload_n 1, 1) := by decide +kernel
theorem dX7_trader_2 : decode cX7_trader 2 = .ok (.invokevirtual 111, 3) := by decide +kernel
theorem dX7_trader_5 : decode cX7_trader 5 = .ok (.ifCond .eq 15, 3) := by decide +kernel
theorem dX7_trader_8 : decode cX7_trader 8 = .ok (.aload_n 0, 1) := by decide +kernel
theorem dX7_trader_9 : decode cX7_trader 9 = .ok (.iload_n 2, 1) := by decide +kernel
theorem dX7_trader_10 : decode cX7_trader 10 = .ok (.invokevirtual 111, 3) := by decide +kernel
theorem dX7_trader_13 : decode cX7_trader 13 = .ok (.ifCond .eq 7, 3) := by decide +kernel
theorem dX7_trader_16 : decode cX7_trader 16 = .ok (.iconst 1, 1) := by decide +kernel
theorem dX7_trader_17 : decode cX7_trader 17 = .ok (.goto 4, 3) := by decide +kernel
theorem dX7_trader_20 : decode cX7_trader 20 = .ok (.iconst 0, 1) := by decide +kernel
theorem dX7_trader_21 : decode cX7_trader 21 = .ok (.istore 7, 2) := by decide +kernel
theorem dX7_trader_23 : decode cX7_trader 23 = .ok (.iload_n 1, 1) := by decide +kernel
theorem dX7_trader_24 : decode cX7_trader 24 = .ok (.iload_n 2, 1) := by decide +kernel
theorem dX7_trader_25 : decode cX7_trader 25 = .ok (.if_icmp .eq 53, 3) := by decide +kernel
theorem dX7_trader_28 : decode cX7_trader 28 = .ok (.iload_n 3, 1) := by decide +kernel
theorem dX7_trader_29 : decode cX7_trader 29 = .ok (.iconst 1, 1) := by decide +kernel
theorem dX7_trader_30 : decode cX7_trader 30 = .ok (.sipush 5000, 3) := by decide +kernel
theorem dX7_trader_33 : decode cX7_trader 33 = .ok (.invokestatic 91, 3) := by decide +kernel
theorem dX7_trader_36 : decode cX7_trader 36 = .ok (.ifCond .eq 42, 3) := by decide +kernel
theorem dX7_trader_39 : decode cX7_trader 39 = .ok (.iload 4, 2) := by decide +kernel
theorem dX7_trader_41 : decode cX7_trader 41 = .ok (.iconst 0, 1) := by decide +kernel
theorem dX7_trader_42 : decode cX7_trader 42 = .ok (.sipush 9999, 3) := by decide +kernel
theorem dX7_trader_45 : decode cX7_trader 45 = .ok (.invokestatic 91, 3) := by decide +kernel
theorem dX7_trader_48 : decode cX7_trader 48 = .ok (.ifCond .eq 30, 3) := by decide +kernel
theorem dX7_trader_51 : decode cX7_trader 51 = .ok (.iload 5, 2) := by decide +kernel
theorem dX7_trader_53 : decode cX7_trader 53 = .ok (.iconst 0, 1) := by decide +kernel
theorem dX7_trader_54 : decode cX7_trader 54 = .ok (.sipush 9999, 3) := by decide +kernel
theorem dX7_trader_57 : decode cX7_trader 57 = .ok (.invokestatic 91, 3) := by decide +kernel
theorem dX7_trader_60 : decode cX7_trader 60 = .ok (.ifCond .eq 18, 3) := by decide +kernel
theorem dX7_trader_63 : decode cX7_trader 63 = .ok (.iload 6, 2) := by decide +kernel
theorem dX7_trader_65 : decode cX7_trader 65 = .ok (.iconst 0, 1) := by decide +kernel
theorem dX7_trader_66 : decode cX7_trader 66 = .ok (.ldc 145, 2) := by decide +kernel
theorem dX7_trader_68 : decode cX7_trader 68 = .ok (.invokestatic 91, 3) := by decide +kernel
theorem dX7_trader_71 : decode cX7_trader 71 = .ok (.ifCond .eq 7, 3) := by decide +kernel
theorem dX7_trader_74 : decode cX7_trader 74 = .ok (.iconst 1, 1) := by decide +kernel
theorem dX7_trader_75 : decode cX7_trader 75 = .ok (.goto 4, 3) := by decide +kernel
theorem dX7_trader_78 : decode cX7_trader 78 = .ok (.iconst 0, 1) := by decide +kernel
theorem dX7_trader_79 : decode cX7_trader 79 = .ok (.istore 8, 2) := by decide +kernel
theorem dX7_trader_81 : decode cX7_trader 81 = .ok (.aload_n 0, 1) := by decide +kernel
theorem dX7_trader_82 : decode cX7_trader 82 = .ok (.iload 7, 2) := by decide +kernel
theorem dX7_trader_84 : decode cX7_trader 84 = .ok (.ifCond .ne 7, 3) := by decide +kernel
theorem dX7_trader_87 : decode cX7_trader 87 = .ok (.iconst 1, 1) := by decide +kernel
theorem dX7_trader_88 : decode cX7_trader 88 = .ok (.goto 26, 3) := by decide +kernel
theorem dX7_trader_91 : decode cX7_trader 91 = .ok (.iload 8, 2) := by decide +kernel
theorem dX7_trader_93 : decode cX7_trader 93 = .ok (.ifCond .ne 7, 3) := by decide +kernel
theorem dX7_trader_96 : decode cX7_trader 96 = .ok (.iconst 2, 1) := by decide +kernel
theorem dX7_trader_97 : decode cX7_trader 97 = .ok (.goto 17, 3) := by decide +kernel
theorem dX7_trader_100 : decode cX7_trader 100 = .ok (.aload_n 0, 1) := by decide +kernel
theorem dX7_trader_101 : decode cX7_trader 101 = .ok (.getfield 105, 3) := by decide +kernel
theorem dX7_trader_104 : decode cX7_trader 104 = .ok (.bipush 12, 2) := by decide +kernel
theorem dX7_trader_106 : decode cX7_trader 106 = .ok (.if_icmp .ne 7, 3) := by decide +kernel
theorem dX7_trader_109 : decode cX7_trader 109 = .ok (.iconst 3, 1) := by decide +kernel
theorem dX7_trader_110 : decode cX7_trader 110 = .ok (.goto 4, 3) := by decide +kernel
theorem dX7_trader_113 : decode cX7_trader 113 = .ok (.iconst 0, 1) := by decide +kernel
theorem dX7_trader_114 : decode cX7_trader 114 = .ok (.invokevirtual 108, 3) := by decide +kernel
theorem dX7_trader_117 : decode cX7_trader 117 = .ok (.ifCond .ne 5, 3) := by decide +kernel
theorem dX7_trader_120 : decode cX7_trader 120 = .ok (.iconst 0, 1) := by decide +kernel
theorem dX7_trader_121 : decode cX7_trader 121 = .ok (.ireturn, 1) := by decide +kernel
theorem dX7_trader_122 : decode cX7_trader 122 = .ok (.aload_n 0, 1) := by decide +kernel
theorem dX7_trader_123 : decode cX7_trader 123 = .ok (.getfield 55, 3) := by decide +kernel
theorem dX7_trader_126 : decode cX7_trader 126 = .ok (.aload_n 0, 1) := by decide +kernel
theorem dX7_trader_127 : decode cX7_trader 127 = .ok (.getfield 105, 3) := by decide +kernel
theorem dX7_trader_130 : decode cX7_trader 130 = .ok (.iload_n 1, 1) := by decide +kernel
theorem dX7_trader_131 : decode cX7_trader 131 = .ok (.iastore, 1) := by decide +kernel
theorem dX7_trader_132 : decode cX7_trader 132 = .ok (.aload_n 0, 1) := by decide +kernel
theorem dX7_trader_133 : decode cX7_trader 133 = .ok (.getfield 58, 3) := by decide +kernel
theorem dX7_trader_136 : decode cX7_trader 136 = .ok (.aload_n 0, 1) := by decide +kernel
theorem dX7_trader_137 : decode cX7_trader 137 = .ok (.getfield 105, 3) := by decide +kernel
theorem dX7_trader_140 : decode cX7_trader 140 = .ok (.iload_n 2, 1) := by decide +kernel
theorem dX7_trader_141 : decode cX7_trader 141 = .ok (.iastore, 1) := by decide +kernel
theorem dX7_trader_142 : decode cX7_trader 142 = .ok (.aload_n 0, 1) := by decide +kernel
theorem dX7_trader_143 : decode cX7_trader 143 = .ok (.getfield 61, 3) := by decide +kernel
theorem dX7_trader_146 : decode cX7_trader 146 = .ok (.aload_n 0, 1) := by decide +kernel
theorem dX7_trader_147 : decode cX7_trader 147 = .ok (.getfield 105, 3) := by decide +kernel
theorem dX7_trader_150 : decode cX7_trader 150 = .ok (.iload_n 3, 1) := by decide +kernel
theorem dX7_trader_151 : decode cX7_trader 151 = .ok (.iastore, 1) := by decide +kernel
theorem dX7_trader_152 : decode cX7_trader 152 = .ok (.aload_n 0, 1) := by decide +kernel
theorem dX7_trader_153 : decode cX7_trader 153 = .ok (.getfield 64, 3) := by decide +kernel
theorem dX7_trader_156 : decode cX7_trader 156 = .ok (.aload_n 0, 1) := by decide +kernel
theorem dX7_trader_157 : decode cX7_trader 157 = .ok (.getfield 105, 3) := by decide +kernel
theorem dX7_trader_160 : decode cX7_trader 160 = .ok (.iload 4, 2) := by decide +kernel
theorem dX7_trader_162 : decode cX7_trader 162 = .ok (.iastore, 1) := by decide +kernel
theorem dX7_trader_163 : decode cX7_trader 163 = .ok (.aload_n 0, 1) := by decide +kernel
theorem dX7_trader_164 : decode cX7_trader 164 = .ok (.getfield 67, 3) := by decide +kernel
theorem dX7_trader_167 : decode cX7_trader 167 = .ok (.aload_n 0, 1) := by decide +kernel
theorem dX7_trader_168 : decode cX7_trader 168 = .ok (.getfield 105, 3) := by decide +kernel
theorem dX7_trader_171 : decode cX7_trader 171 = .ok (.iload 5, 2) := by decide +kernel
theorem dX7_trader_173 : decode cX7_trader 173 = .ok (.iastore, 1) := by decide +kernel
theorem dX7_trader_174 : decode cX7_trader 174 = .ok (.aload_n 0, 1) := by decide +kernel
theorem dX7_trader_175 : decode cX7_trader 175 = .ok (.getfield 70, 3) := by decide +kernel
theorem dX7_trader_178 : decode cX7_trader 178 = .ok (.aload_n 0, 1) := by decide +kernel
theorem dX7_trader_179 : decode cX7_trader 179 = .ok (.getfield 105, 3) := by decide +kernel
theorem dX7_trader_182 : decode cX7_trader 182 = .ok (.iload 6, 2) := by decide +kernel
theorem dX7_trader_184 : decode cX7_trader 184 = .ok (.iastore, 1) := by decide +kernel
theorem dX7_trader_185 : decode cX7_trader 185 = .ok (.aload_n 0, 1) := by decide +kernel
theorem dX7_trader_186 : decode cX7_trader 186 = .ok (.dup, 1) := by decide +kernel
theorem dX7_trader_187 : decode cX7_trader 187 = .ok (.getfield 105, 3) := by decide +kernel
theorem dX7_trader_190 : decode cX7_trader 190 = .ok (.iconst 1, 1) := by decide +kernel
theorem dX7_trader_191 : decode cX7_trader 191 = .ok (.iadd, 1) := by decide +kernel
theorem dX7_trader_192 : decode cX7_trader 192 = .ok (.putfield 105, 3) := by decide +kernel
theorem dX7_trader_195 : decode cX7_trader 195 = .ok (.aload_n 0, 1) := by decide +kernel
theorem dX7_trader_196 : decode cX7_trader 196 = .ok (.getfield 105, 3) := by decide +kernel
theorem dX7_trader_199 : decode cX7_trader 199 = .ok (.iconst 1, 1) := by decide +kernel
theorem dX7_trader_200 : decode cX7_trader 200 = .ok (.isub, 1) := by decide +kernel
theorem dX7_trader_201 : decode cX7_trader 201 = .ok (.ireturn, 1) := by decide +kernel
theorem dX7_costs_0 : decode cX7_costs 0 = .ok (.ldc2_w 146, 3) := by decide +kernel
theorem dX7_costs_3 : decode cX7_costs 3 = .ok (.aload_n 0, 1) := by decide +kernel
theorem dX7_costs_4 : decode cX7_costs 4 = .ok (.getfield 28, 3) := by decide +kernel
theorem dX7_costs_7 : decode cX7_costs 7 = .ok (.iload_n 1, 1) := by decide +kernel
theorem dX7_costs_8 : decode cX7_costs 8 = .ok (.iaload, 1) := by decide +kernel
theorem dX7_costs_9 : decode cX7_costs 9 = .ok (.i2l, 1) := by decide +kernel
theorem dX7_costs_10 : decode cX7_costs 10 = .ok (.lmul, 1) := by decide +kernel
theorem dX7_costs_11 : decode cX7_costs 11 = .ok (.ldc2_w 148, 3) := by decide +kernel
theorem dX7_costs_14 : decode cX7_costs 14 = .ok (.aload_n 0, 1) := by decide +kernel
theorem dX7_costs_15 : decode cX7_costs 15 = .ok (.getfield 25, 3) := by decide +kernel
theorem dX7_costs_18 : decode cX7_costs 18 = .ok (.iload_n 1, 1) := by decide +kernel
theorem dX7_costs_19 : decode cX7_costs 19 = .ok (.iaload, 1) := by decide +kernel
theorem dX7_costs_20 : decode cX7_costs 20 = .ok (.i2l, 1) := by decide +kernel
theorem dX7_costs_21 : decode cX7_costs 21 = .ok (.lmul, 1) := by decide +kernel
theorem dX7_costs_22 : decode cX7_costs 22 = .ok (.ladd, 1) := by decide +kernel
theorem dX7_costs_23 : decode cX7_costs 23 = .ok (.lconst 1, 1) := by decide +kernel
theorem dX7_costs_24 : decode cX7_costs 24 = .ok (.ladd, 1) := by decide +kernel
theorem dX7_costs_25 : decode cX7_costs 25 = .ok (.lreturn, 1) := by decide +kernel
theorem dX7_across_0 : decode cX7_across 0 = .ok (.aload_n 0, 1) := by decide +kernel
theorem dX7_across_1 : decode cX7_across 1 = .ok (.getfield 16, 3) := by decide +kernel
theorem dX7_across_4 : decode cX7_across 4 = .ok (.iload_n 1, 1) := by decide +kernel
theorem dX7_across_5 : decode cX7_across 5 = .ok (.iaload, 1) := by decide +kernel
theorem dX7_across_6 : decode cX7_across 6 = .ok (.iload_n 2, 1) := by decide +kernel
theorem dX7_across_7 : decode cX7_across 7 = .ok (.if_icmp .ne 12, 3) := by decide +kernel
theorem dX7_across_10 : decode cX7_across 10 = .ok (.aload_n 0, 1) := by decide +kernel
theorem dX7_across_11 : decode cX7_across 11 = .ok (.getfield 19, 3) := by decide +kernel
theorem dX7_across_14 : decode cX7_across 14 = .ok (.iload_n 1, 1) := by decide +kernel
theorem dX7_across_15 : decode cX7_across 15 = .ok (.iaload, 1) := by decide +kernel
theorem dX7_across_16 : decode cX7_across 16 = .ok (.goto 9, 3) := by decide +kernel
theorem dX7_across_19 : decode cX7_across 19 = .ok (.aload_n 0, 1) := by decide +kernel
theorem dX7_across_20 : decode cX7_across 20 = .ok (.getfield 16, 3) := by decide +kernel
theorem dX7_across_23 : decode cX7_across 23 = .ok (.iload_n 1, 1) := by decide +kernel
theorem dX7_across_24 : decode cX7_across 24 = .ok (.iaload, 1) := by decide +kernel
theorem dX7_across_25 : decode cX7_across 25 = .ok (.ireturn, 1) := by decide +kernel
theorem dX7_findWays_0 : decode cX7_findWays 0 = .ok (.iconst 0, 1) := by decide +kernel
theorem dX7_findWays_1 : decode cX7_findWays 1 = .ok (.istore_n 2, 1) := by decide +kernel
theorem dX7_findWays_2 : decode cX7_findWays 2 = .ok (.iload_n 2, 1) := by decide +kernel
theorem dX7_findWays_3 : decode cX7_findWays 3 = .ok (.aload_n 0, 1) := by decide +kernel
theorem dX7_findWays_4 : decode cX7_findWays 4 = .ok (.getfield 88, 3) := by decide +kernel
theorem dX7_findWays_7 : decode cX7_findWays 7 = .ok (.if_icmp .ge 27, 3) := by decide +kernel
theorem dX7_findWays_10 : decode cX7_findWays 10 = .ok (.aload_n 0, 1) := by decide +kernel
theorem dX7_findWays_11 : decode cX7_findWays 11 = .ok (.getfield 77, 3) := by decide +kernel
theorem dX7_findWays_14 : decode cX7_findWays 14 = .ok (.iload_n 2, 1) := by decide +kernel
theorem dX7_findWays_15 : decode cX7_findWays 15 = .ok (.iload_n 2, 1) := by decide +kernel
theorem dX7_findWays_16 : decode cX7_findWays 16 = .ok (.iload_n 1, 1) := by decide +kernel
theorem dX7_findWays_17 : decode cX7_findWays 17 = .ok (.if_icmp .ne 7, 3) := by decide +kernel
theorem dX7_findWays_20 : decode cX7_findWays 20 = .ok (.lconst 0, 1) := by decide +kernel
theorem dX7_findWays_21 : decode cX7_findWays 21 = .ok (.goto 6, 3) := by decide +kernel
theorem dX7_findWays_24 : decode cX7_findWays 24 = .ok (.ldc2_w 150, 3) := by decide +kernel
theorem dX7_findWays_27 : decode cX7_findWays 27 = .ok (.lastore, 1) := by decide +kernel
theorem dX7_findWays_28 : decode cX7_findWays 28 = .ok (.iinc 2 1, 3) := by decide +kernel
theorem dX7_findWays_31 : decode cX7_findWays 31 = .ok (.goto (-29), 3) := by decide +kernel
theorem dX7_findWays_34 : decode cX7_findWays 34 = .ok (.iconst 0, 1) := by decide +kernel
theorem dX7_findWays_35 : decode cX7_findWays 35 = .ok (.istore_n 2, 1) := by decide +kernel
theorem dX7_findWays_36 : decode cX7_findWays 36 = .ok (.iload_n 2, 1) := by decide +kernel
theorem dX7_findWays_37 : decode cX7_findWays 37 = .ok (.aload_n 0, 1) := by decide +kernel
theorem dX7_findWays_38 : decode cX7_findWays 38 = .ok (.getfield 95, 3) := by decide +kernel
theorem dX7_findWays_41 : decode cX7_findWays 41 = .ok (.if_icmp .ge 20, 3) := by decide +kernel
theorem dX7_findWays_44 : decode cX7_findWays 44 = .ok (.aload_n 0, 1) := by decide +kernel
theorem dX7_findWays_45 : decode cX7_findWays 45 = .ok (.getfield 80, 3) := by decide +kernel
theorem dX7_findWays_48 : decode cX7_findWays 48 = .ok (.iload_n 2, 1) := by decide +kernel
theorem dX7_findWays_49 : decode cX7_findWays 49 = .ok (.aload_n 0, 1) := by decide +kernel
theorem dX7_findWays_50 : decode cX7_findWays 50 = .ok (.iload_n 2, 1) := by decide +kernel
theorem dX7_findWays_51 : decode cX7_findWays 51 = .ok (.invokevirtual 152, 3) := by decide +kernel
theorem dX7_findWays_54 : decode cX7_findWays 54 = .ok (.bastore, 1) := by decide +kernel
theorem dX7_findWays_55 : decode cX7_findWays 55 = .ok (.iinc 2 1, 3) := by decide +kernel
theorem dX7_findWays_58 : decode cX7_findWays 58 = .ok (.goto (-22), 3) := by decide +kernel
theorem dX7_findWays_61 : decode cX7_findWays 61 = .ok (.iconst 0, 1) := by decide +kernel
theorem dX7_findWays_62 : decode cX7_findWays 62 = .ok (.istore_n 2, 1) := by decide +kernel
theorem dX7_findWays_63 : decode cX7_findWays 63 = .ok (.iload_n 2, 1) := by decide +kernel
theorem dX7_findWays_64 : decode cX7_findWays 64 = .ok (.aload_n 0, 1) := by decide +kernel
theorem dX7_findWays_65 : decode cX7_findWays 65 = .ok (.getfield 88, 3) := by decide +kernel
theorem dX7_findWays_68 : decode cX7_findWays 68 = .ok (.if_icmp .ge 136, 3) := by decide +kernel
theorem dX7_findWays_71 : decode cX7_findWays 71 = .ok (.iconst 0, 1) := by decide +kernel
theorem dX7_findWays_72 : decode cX7_findWays 72 = .ok (.istore_n 3, 1) := by decide +kernel
theorem dX7_findWays_73 : decode cX7_findWays 73 = .ok (.iload_n 3, 1) := by decide +kernel
theorem dX7_findWays_74 : decode cX7_findWays 74 = .ok (.aload_n 0, 1) := by decide +kernel
theorem dX7_findWays_75 : decode cX7_findWays 75 = .ok (.getfield 95, 3) := by decide +kernel
theorem dX7_findWays_78 : decode cX7_findWays 78 = .ok (.if_icmp .ge 120, 3) := by decide +kernel
theorem dX7_findWays_81 : decode cX7_findWays 81 = .ok (.aload_n 0, 1) := by decide +kernel
theorem dX7_findWays_82 : decode cX7_findWays 82 = .ok (.getfield 80, 3) := by decide +kernel
theorem dX7_findWays_85 : decode cX7_findWays 85 = .ok (.iload_n 3, 1) := by decide +kernel
theorem dX7_findWays_86 : decode cX7_findWays 86 = .ok (.baload, 1) := by decide +kernel
theorem dX7_findWays_87 : decode cX7_findWays 87 = .ok (.ifCond .eq 105, 3) := by decide +kernel
theorem dX7_findWays_90 : decode cX7_findWays 90 = .ok (.aload_n 0, 1) := by decide +kernel
theorem dX7_findWays_91 : decode cX7_findWays 91 = .ok (.getfield 77, 3) := by decide +kernel
theorem dX7_findWays_94 : decode cX7_findWays 94 = .ok (.aload_n 0, 1) := by decide +kernel
theorem dX7_findWays_95 : decode cX7_findWays 95 = .ok (.getfield 16, 3) := by decide +kernel
theorem dX7_findWays_98 : decode cX7_findWays 98 = .ok (.iload_n 3, 1) := by decide +kernel
theorem dX7_findWays_99 : decode cX7_findWays 99 = .ok (.iaload, 1) := by decide +kernel
theorem dX7_findWays_100 : decode cX7_findWays 100 = .ok (.laload, 1) := by decide +kernel
theorem dX7_findWays_101 : decode cX7_findWays 101 = .ok (.lstore 4, 2) := by decide +kernel
theorem dX7_findWays_103 : decode cX7_findWays 103 = .ok (.aload_n 0, 1) := by decide +kernel
theorem dX7_findWays_104 : decode cX7_findWays 104 = .ok (.getfield 77, 3) := by decide +kernel
theorem dX7_findWays_107 : decode cX7_findWays 107 = .ok (.aload_n 0, 1) := by decide +kernel
theorem dX7_findWays_108 : decode cX7_findWays 108 = .ok (.getfield 19, 3) := by decide +kernel
theorem dX7_findWays_111 : decode cX7_findWays 111 = .ok (.iload_n 3, 1) := by decide +kernel
theorem dX7_findWays_112 : decode cX7_findWays 112 = .ok (.iaload, 1) := by decide +kernel
theorem dX7_findWays_113 : decode cX7_findWays 113 = .ok (.laload, 1) := by decide +kernel
theorem dX7_findWays_114 : decode cX7_findWays 114 = .ok (.lstore 6, 2) := by decide +kernel
theorem dX7_findWays_116 : decode cX7_findWays 116 = .ok (.aload_n 0, 1) := by decide +kernel
theorem dX7_findWays_117 : decode cX7_findWays 117 = .ok (.getfield 77, 3) := by decide +kernel
theorem dX7_findWays_120 : decode cX7_findWays 120 = .ok (.aload_n 0, 1) := by decide +kernel
theorem dX7_findWays_121 : decode cX7_findWays 121 = .ok (.getfield 16, 3) := by decide +kernel
theorem dX7_findWays_124 : decode cX7_findWays 124 = .ok (.iload_n 3, 1) := by decide +kernel
theorem dX7_findWays_125 : decode cX7_findWays 125 = .ok (.iaload, 1) := by decide +kernel
theorem dX7_findWays_126 : decode cX7_findWays 126 = .ok (.lload 6, 2) := by decide +kernel
theorem dX7_findWays_128 : decode cX7_findWays 128 = .ok (.aload_n 0, 1) := by decide +kernel
theorem dX7_findWays_129 : decode cX7_findWays 129 = .ok (.iload_n 3, 1) := by decide +kernel
theorem dX7_findWays_130 : decode cX7_findWays 130 = .ok (.invokevirtual 155, 3) := by decide +kernel
theorem dX7_findWays_133 : decode cX7_findWays 133 = .ok (.ladd, 1) := by decide +kernel
theorem dX7_findWays_134 : decode cX7_findWays 134 = .ok (.lload 4, 2) := by decide +kernel
theorem dX7_findWays_136 : decode cX7_findWays 136 = .ok (.lcmp, 1) := by decide +kernel
theorem dX7_findWays_137 : decode cX7_findWays 137 = .ok (.ifCond .ge 14, 3) := by decide +kernel
theorem dX7_findWays_140 : decode cX7_findWays 140 = .ok (.lload 6, 2) := by decide +kernel
theorem dX7_findWays_142 : decode cX7_findWays 142 = .ok (.aload_n 0, 1) := by decide +kernel
theorem dX7_findWays_143 : decode cX7_findWays 143 = .ok (.iload_n 3, 1) := by decide +kernel
theorem dX7_findWays_144 : decode cX7_findWays 144 = .ok (.invokevirtual 155, 3) := by decide +kernel
theorem dX7_findWays_147 : decode cX7_findWays 147 = .ok (.ladd, 1) := by decide +kernel
theorem dX7_findWays_148 : decode cX7_findWays 148 = .ok (.goto 5, 3) := by decide +kernel
theorem dX7_findWays_151 : decode cX7_findWays 151 = .ok (.lload 4, 2) := by decide +kernel
theorem dX7_findWays_153 : decode cX7_findWays 153 = .ok (.lastore, 1) := by decide +kernel
theorem dX7_findWays_154 : decode cX7_findWays 154 = .ok (.aload_n 0, 1) := by decide +kernel
theorem dX7_findWays_155 : decode cX7_findWays 155 = .ok (.getfield 77, 3) := by decide +kernel
theorem dX7_findWays_158 : decode cX7_findWays 158 = .ok (.aload_n 0, 1) := by decide +kernel
theorem dX7_findWays_159 : decode cX7_findWays 159 = .ok (.getfield 19, 3) := by decide +kernel
theorem dX7_findWays_162 : decode cX7_findWays 162 = .ok (.iload_n 3, 1) := by decide +kernel
theorem dX7_findWays_163 : decode cX7_findWays 163 = .ok (.iaload, 1) := by decide +kernel
theorem dX7_findWays_164 : decode cX7_findWays 164 = .ok (.lload 4, 2) := by decide +kernel
theorem dX7_findWays_166 : decode cX7_findWays 166 = .ok (.aload_n 0, 1) := by decide +kernel
theorem dX7_findWays_167 : decode cX7_findWays 167 = .ok (.iload_n 3, 1) := by decide +kernel
theorem dX7_findWays_168 : decode cX7_findWays 168 = .ok (.invokevirtual 155, 3) := by decide +kernel
theorem dX7_findWays_171 : decode cX7_findWays 171 = .ok (.ladd, 1) := by decide +kernel
theorem dX7_findWays_172 : decode cX7_findWays 172 = .ok (.lload 6, 2) := by decide +kernel
theorem dX7_findWays_174 : decode cX7_findWays 174 = .ok (.lcmp, 1) := by decide +kernel
theorem dX7_findWays_175 : decode cX7_findWays 175 = .ok (.ifCond .ge 14, 3) := by decide +kernel
theorem dX7_findWays_178 : decode cX7_findWays 178 = .ok (.lload 4, 2) := by decide +kernel
theorem dX7_findWays_180 : decode cX7_findWays 180 = .ok (.aload_n 0, 1) := by decide +kernel
theorem dX7_findWays_181 : decode cX7_findWays 181 = .ok (.iload_n 3, 1) := by decide +kernel
theorem dX7_findWays_182 : decode cX7_findWays 182 = .ok (.invokevirtual 155, 3) := by decide +kernel
theorem dX7_findWays_185 : decode cX7_findWays 185 = .ok (.ladd, 1) := by decide +kernel
theorem dX7_findWays_186 : decode cX7_findWays 186 = .ok (.goto 5, 3) := by decide +kernel
theorem dX7_findWays_189 : decode cX7_findWays 189 = .ok (.lload 6, 2) := by decide +kernel
theorem dX7_findWays_191 : decode cX7_findWays 191 = .ok (.lastore, 1) := by decide +kernel
theorem dX7_findWays_192 : decode cX7_findWays 192 = .ok (.iinc 3 1, 3) := by decide +kernel
theorem dX7_findWays_195 : decode cX7_findWays 195 = .ok (.goto (-122), 3) := by decide +kernel
theorem dX7_findWays_198 : decode cX7_findWays 198 = .ok (.iinc 2 1, 3) := by decide +kernel
theorem dX7_findWays_201 : decode cX7_findWays 201 = .ok (.goto (-138), 3) := by decide +kernel
theorem dX7_findWays_204 : decode cX7_findWays 204 = .ok (.return_, 1) := by decide +kernel
theorem dX7_next_0 : decode cX7_next 0 = .ok (.iconst 0, 1) := by decide +kernel
theorem dX7_next_1 : decode cX7_next 1 = .ok (.istore_n 2, 1) := by decide +kernel
theorem dX7_next_2 : decode cX7_next 2 = .ok (.iload_n 2, 1) := by decide +kernel
theorem dX7_next_3 : decode cX7_next 3 = .ok (.aload_n 0, 1) := by decide +kernel
theorem dX7_next_4 : decode cX7_next 4 = .ok (.getfield 95, 3) := by decide +kernel
theorem dX7_next_7 : decode cX7_next 7 = .ok (.if_icmp .ge 88, 3) := by decide +kernel
theorem dX7_next_10 : decode cX7_next 10 = .ok (.aload_n 0, 1) := by decide +kernel
theorem dX7_next_11 : decode cX7_next 11 = .ok (.getfield 16, 3) := by decide +kernel
theorem dX7_next_14 : decode cX7_next 14 = .ok (.iload_n 2, 1) := by decide +kernel
theorem dX7_next_15 : decode cX7_next 15 = .ok (.iaload, 1) := by decide +kernel
theorem dX7_next_16 : decode cX7_next 16 = .ok (.iload_n 1, 1) := by decide +kernel
theorem dX7_next_17 : decode cX7_next 17 = .ok (.if_icmp .eq 13, 3) := by decide +kernel
theorem dX7_next_20 : decode cX7_next 20 = .ok (.aload_n 0, 1) := by decide +kernel
theorem dX7_next_21 : decode cX7_next 21 = .ok (.getfield 19, 3) := by decide +kernel
theorem dX7_next_24 : decode cX7_next 24 = .ok (.iload_n 2, 1) := by decide +kernel
theorem dX7_next_25 : decode cX7_next 25 = .ok (.iaload, 1) := by decide +kernel
theorem dX7_next_26 : decode cX7_next 26 = .ok (.iload_n 1, 1) := by decide +kernel
theorem dX7_next_27 : decode cX7_next 27 = .ok (.if_icmp .ne 7, 3) := by decide +kernel
theorem dX7_next_30 : decode cX7_next 30 = .ok (.iconst 1, 1) := by decide +kernel
theorem dX7_next_31 : decode cX7_next 31 = .ok (.goto 4, 3) := by decide +kernel
theorem dX7_next_34 : decode cX7_next 34 = .ok (.iconst 0, 1) := by decide +kernel
theorem dX7_next_35 : decode cX7_next 35 = .ok (.istore_n 3, 1) := by decide +kernel
theorem dX7_next_36 : decode cX7_next 36 = .ok (.aload_n 0, 1) := by decide +kernel
theorem dX7_next_37 : decode cX7_next 37 = .ok (.getfield 80, 3) := by decide +kernel
theorem dX7_next_40 : decode cX7_next 40 = .ok (.iload_n 2, 1) := by decide +kernel
theorem dX7_next_41 : decode cX7_next 41 = .ok (.baload, 1) := by decide +kernel
theorem dX7_next_42 : decode cX7_next 42 = .ok (.ifCond .eq 47, 3) := by decide +kernel
theorem dX7_next_45 : decode cX7_next 45 = .ok (.iload_n 3, 1) := by decide +kernel
theorem dX7_next_46 : decode cX7_next 46 = .ok (.ifCond .eq 43, 3) := by decide +kernel
theorem dX7_next_49 : decode cX7_next 49 = .ok (.aload_n 0, 1) := by decide +kernel
theorem dX7_next_50 : decode cX7_next 50 = .ok (.getfield 77, 3) := by decide +kernel
theorem dX7_next_53 : decode cX7_next 53 = .ok (.iload_n 1, 1) := by decide +kernel
theorem dX7_next_54 : decode cX7_next 54 = .ok (.laload, 1) := by decide +kernel
theorem dX7_next_55 : decode cX7_next 55 = .ok (.lconst 0, 1) := by decide +kernel
theorem dX7_next_56 : decode cX7_next 56 = .ok (.lcmp, 1) := by decide +kernel
theorem dX7_next_57 : decode cX7_next 57 = .ok (.ifCond .le 32, 3) := by decide +kernel
theorem dX7_next_60 : decode cX7_next 60 = .ok (.aload_n 0, 1) := by decide +kernel
theorem dX7_next_61 : decode cX7_next 61 = .ok (.getfield 77, 3) := by decide +kernel
theorem dX7_next_64 : decode cX7_next 64 = .ok (.aload_n 0, 1) := by decide +kernel
theorem dX7_next_65 : decode cX7_next 65 = .ok (.iload_n 2, 1) := by decide +kernel
theorem dX7_next_66 : decode cX7_next 66 = .ok (.iload_n 1, 1) := by decide +kernel
theorem dX7_next_67 : decode cX7_next 67 = .ok (.invokevirtual 159, 3) := by decide +kernel
theorem dX7_next_70 : decode cX7_next 70 = .ok (.laload, 1) := by decide +kernel
theorem dX7_next_71 : decode cX7_next 71 = .ok (.aload_n 0, 1) := by decide +kernel
theorem dX7_next_72 : decode cX7_next 72 = .ok (.iload_n 2, 1) := by decide +kernel
theorem dX7_next_73 : decode cX7_next 73 = .ok (.invokevirtual 155, 3) := by decide +kernel
theorem dX7_next_76 : decode cX7_next 76 = .ok (.ladd, 1) := by decide +kernel
theorem dX7_next_77 : decode cX7_next 77 = .ok (.aload_n 0, 1) := by decide +kernel
theorem dX7_next_78 : decode cX7_next 78 = .ok (.getfield 77, 3) := by decide +kernel
theorem dX7_next_81 : decode cX7_next 81 = .ok (.iload_n 1, 1) := by decide +kernel
theorem dX7_next_82 : decode cX7_next 82 = .ok (.laload, 1) := by decide +kernel
theorem dX7_next_83 : decode cX7_next 83 = .ok (.lcmp, 1) := by decide +kernel
theorem dX7_next_84 : decode cX7_next 84 = .ok (.ifCond .ne 5, 3) := by decide +kernel
theorem dX7_next_87 : decode cX7_next 87 = .ok (.iload_n 2, 1) := by decide +kernel
theorem dX7_next_88 : decode cX7_next 88 = .ok (.ireturn, 1) := by decide +kernel
theorem dX7_next_89 : decode cX7_next 89 = .ok (.iinc 2 1, 3) := by decide +kernel
theorem dX7_next_92 : decode cX7_next 92 = .ok (.goto (-90), 3) := by decide +kernel
theorem dX7_next_95 : decode cX7_next 95 = .ok (.iconst (-1), 1) := by decide +kernel
theorem dX7_next_96 : decode cX7_next 96 = .ok (.ireturn, 1) := by decide +kernel
theorem dX7_hourOf_0 : decode cX7_hourOf 0 = .ok (.aload_n 0, 1) := by decide +kernel
theorem dX7_hourOf_1 : decode cX7_hourOf 1 = .ok (.aload_n 0, 1) := by decide +kernel
theorem dX7_hourOf_2 : decode cX7_hourOf 2 = .ok (.getfield 58, 3) := by decide +kernel
theorem dX7_hourOf_5 : decode cX7_hourOf 5 = .ok (.iload_n 1, 1) := by decide +kernel
theorem dX7_hourOf_6 : decode cX7_hourOf 6 = .ok (.iaload, 1) := by decide +kernel
theorem dX7_hourOf_7 : decode cX7_hourOf 7 = .ok (.invokevirtual 163, 3) := by decide +kernel
theorem dX7_hourOf_10 : decode cX7_hourOf 10 = .ok (.aload_n 0, 1) := by decide +kernel
theorem dX7_hourOf_11 : decode cX7_hourOf 11 = .ok (.getfield 77, 3) := by decide +kernel
theorem dX7_hourOf_14 : decode cX7_hourOf 14 = .ok (.aload_n 0, 1) := by decide +kernel
theorem dX7_hourOf_15 : decode cX7_hourOf 15 = .ok (.getfield 55, 3) := by decide +kernel
theorem dX7_hourOf_18 : decode cX7_hourOf 18 = .ok (.iload_n 1, 1) := by decide +kernel
theorem dX7_hourOf_19 : decode cX7_hourOf 19 = .ok (.iaload, 1) := by decide +kernel
theorem dX7_hourOf_20 : decode cX7_hourOf 20 = .ok (.laload, 1) := by decide +kernel
theorem dX7_hourOf_21 : decode cX7_hourOf 21 = .ok (.lstore_n 2, 1) := by decide +kernel
theorem dX7_hourOf_22 : decode cX7_hourOf 22 = .ok (.lload_n 2, 1) := by decide +kernel
theorem dX7_hourOf_23 : decode cX7_hourOf 23 = .ok (.ldc2_w 150, 3) := by decide +kernel
theorem dX7_hourOf_26 : decode cX7_hourOf 26 = .ok (.lcmp, 1) := by decide +kernel
theorem dX7_hourOf_27 : decode cX7_hourOf 27 = .ok (.ifCond .lt 7, 3) := by decide +kernel
theorem dX7_hourOf_30 : decode cX7_hourOf 30 = .ok (.iconst 1, 1) := by decide +kernel
theorem dX7_hourOf_31 : decode cX7_hourOf 31 = .ok (.goto 4, 3) := by decide +kernel
theorem dX7_hourOf_34 : decode cX7_hourOf 34 = .ok (.iconst 0, 1) := by decide +kernel
theorem dX7_hourOf_35 : decode cX7_hourOf 35 = .ok (.istore 4, 2) := by decide +kernel
theorem dX7_hourOf_37 : decode cX7_hourOf 37 = .ok (.iload 4, 2) := by decide +kernel
theorem dX7_hourOf_39 : decode cX7_hourOf 39 = .ok (.ifCond .ne 27, 3) := by decide +kernel
theorem dX7_hourOf_42 : decode cX7_hourOf 42 = .ok (.lload_n 2, 1) := by decide +kernel
theorem dX7_hourOf_43 : decode cX7_hourOf 43 = .ok (.ldc2_w 146, 3) := by decide +kernel
theorem dX7_hourOf_46 : decode cX7_hourOf 46 = .ok (.lrem, 1) := by decide +kernel
theorem dX7_hourOf_47 : decode cX7_hourOf 47 = .ok (.ldc2_w 148, 3) := by decide +kernel
theorem dX7_hourOf_50 : decode cX7_hourOf 50 = .ok (.ldiv, 1) := by decide +kernel
theorem dX7_hourOf_51 : decode cX7_hourOf 51 = .ok (.aload_n 0, 1) := by decide +kernel
theorem dX7_hourOf_52 : decode cX7_hourOf 52 = .ok (.getfield 61, 3) := by decide +kernel
theorem dX7_hourOf_55 : decode cX7_hourOf 55 = .ok (.iload_n 1, 1) := by decide +kernel
theorem dX7_hourOf_56 : decode cX7_hourOf 56 = .ok (.iaload, 1) := by decide +kernel
theorem dX7_hourOf_57 : decode cX7_hourOf 57 = .ok (.i2l, 1) := by decide +kernel
theorem dX7_hourOf_58 : decode cX7_hourOf 58 = .ok (.lcmp, 1) := by decide +kernel
theorem dX7_hourOf_59 : decode cX7_hourOf 59 = .ok (.ifCond .le 7, 3) := by decide +kernel
theorem dX7_hourOf_62 : decode cX7_hourOf 62 = .ok (.iconst 1, 1) := by decide +kernel
theorem dX7_hourOf_63 : decode cX7_hourOf 63 = .ok (.goto 4, 3) := by decide +kernel
theorem dX7_hourOf_66 : decode cX7_hourOf 66 = .ok (.iconst 0, 1) := by decide +kernel
theorem dX7_hourOf_67 : decode cX7_hourOf 67 = .ok (.istore 5, 2) := by decide +kernel
theorem dX7_hourOf_69 : decode cX7_hourOf 69 = .ok (.aload_n 0, 1) := by decide +kernel
theorem dX7_hourOf_70 : decode cX7_hourOf 70 = .ok (.getfield 73, 3) := by decide +kernel
theorem dX7_hourOf_73 : decode cX7_hourOf 73 = .ok (.iconst 4, 1) := by decide +kernel
theorem dX7_hourOf_74 : decode cX7_hourOf 74 = .ok (.iload_n 1, 1) := by decide +kernel
theorem dX7_hourOf_75 : decode cX7_hourOf 75 = .ok (.imul, 1) := by decide +kernel
theorem dX7_hourOf_76 : decode cX7_hourOf 76 = .ok (.dup2, 1) := by decide +kernel
theorem dX7_hourOf_77 : decode cX7_hourOf 77 = .ok (.laload, 1) := by decide +kernel
theorem dX7_hourOf_78 : decode cX7_hourOf 78 = .ok (.iload 4, 2) := by decide +kernel
theorem dX7_hourOf_80 : decode cX7_hourOf 80 = .ok (.ifCond .eq 7, 3) := by decide +kernel
theorem dX7_hourOf_83 : decode cX7_hourOf 83 = .ok (.lconst 0, 1) := by decide +kernel
theorem dX7_hourOf_84 : decode cX7_hourOf 84 = .ok (.goto 8, 3) := by decide +kernel
theorem dX7_hourOf_87 : decode cX7_hourOf 87 = .ok (.lload_n 2, 1) := by decide +kernel
theorem dX7_hourOf_88 : decode cX7_hourOf 88 = .ok (.ldc2_w 146, 3) := by decide +kernel
theorem dX7_hourOf_91 : decode cX7_hourOf 91 = .ok (.ldiv, 1) := by decide +kernel
theorem dX7_hourOf_92 : decode cX7_hourOf 92 = .ok (.ladd, 1) := by decide +kernel
theorem dX7_hourOf_93 : decode cX7_hourOf 93 = .ok (.lastore, 1) := by decide +kernel
theorem dX7_hourOf_94 : decode cX7_hourOf 94 = .ok (.iload 4, 2) := by decide +kernel
theorem dX7_hourOf_96 : decode cX7_hourOf 96 = .ok (.ifCond .eq 12, 3) := by decide +kernel
theorem dX7_hourOf_99 : decode cX7_hourOf 99 = .ok (.aload_n 0, 1) := by decide +kernel
theorem dX7_hourOf_100 : decode cX7_hourOf 100 = .ok (.getfield 64, 3) := by decide +kernel
theorem dX7_hourOf_103 : decode cX7_hourOf 103 = .ok (.iload_n 1, 1) := by decide +kernel
theorem dX7_hourOf_104 : decode cX7_hourOf 104 = .ok (.iaload, 1) := by decide +kernel
theorem dX7_hourOf_105 : decode cX7_hourOf 105 = .ok (.goto 18, 3) := by decide +kernel
theorem dX7_hourOf_108 : decode cX7_hourOf 108 = .ok (.iload 5, 2) := by decide +kernel
theorem dX7_hourOf_110 : decode cX7_hourOf 110 = .ok (.ifCond .eq 12, 3) := by decide +kernel
theorem dX7_hourOf_113 : decode cX7_hourOf 113 = .ok (.aload_n 0, 1) := by decide +kernel
theorem dX7_hourOf_114 : decode cX7_hourOf 114 = .ok (.getfield 67, 3) := by decide +kernel
theorem dX7_hourOf_117 : decode cX7_hourOf 117 = .ok (.iload_n 1, 1) := by decide +kernel
theorem dX7_hourOf_118 : decode cX7_hourOf 118 = .ok (.iaload, 1) := by decide +kernel
theorem dX7_hourOf_119 : decode cX7_hourOf 119 = .ok (.goto 4, 3) := by decide +kernel
theorem dX7_hourOf_122 : decode cX7_hourOf 122 = .ok (.iconst 0, 1) := by decide +kernel
theorem dX7_hourOf_123 : decode cX7_hourOf 123 = .ok (.istore 6, 2) := by decide +kernel
theorem dX7_hourOf_125 : decode cX7_hourOf 125 = .ok (.aload_n 0, 1) := by decide +kernel
theorem dX7_hourOf_126 : decode cX7_hourOf 126 = .ok (.getfield 73, 3) := by decide +kernel
theorem dX7_hourOf_129 : decode cX7_hourOf 129 = .ok (.iconst 4, 1) := by decide +kernel
theorem dX7_hourOf_130 : decode cX7_hourOf 130 = .ok (.iload_n 1, 1) := by decide +kernel
theorem dX7_hourOf_131 : decode cX7_hourOf 131 = .ok (.imul, 1) := by decide +kernel
theorem dX7_hourOf_132 : decode cX7_hourOf 132 = .ok (.iconst 1, 1) := by decide +kernel
theorem dX7_hourOf_133 : decode cX7_hourOf 133 = .ok (.iadd, 1) := by decide +kernel
theorem dX7_hourOf_134 : decode cX7_hourOf 134 = .ok (.aload_n 0, 1) := by decide +kernel
theorem dX7_hourOf_135 : decode cX7_hourOf 135 = .ok (.getfield 73, 3) := by decide +kernel
theorem dX7_hourOf_138 : decode cX7_hourOf 138 = .ok (.iconst 4, 1) := by decide +kernel
theorem dX7_hourOf_139 : decode cX7_hourOf 139 = .ok (.iload_n 1, 1) := by decide +kernel
theorem dX7_hourOf_140 : decode cX7_hourOf 140 = .ok (.imul, 1) := by decide +kernel
theorem dX7_hourOf_141 : decode cX7_hourOf 141 = .ok (.iconst 1, 1) := by decide +kernel
theorem dX7_hourOf_142 : decode cX7_hourOf 142 = .ok (.iadd, 1) := by decide +kernel
theorem dX7_hourOf_143 : decode cX7_hourOf 143 = .ok (.laload, 1) := by decide +kernel
theorem dX7_hourOf_144 : decode cX7_hourOf 144 = .ok (.iload 6, 2) := by decide +kernel
theorem dX7_hourOf_146 : decode cX7_hourOf 146 = .ok (.i2l, 1) := by decide +kernel
theorem dX7_hourOf_147 : decode cX7_hourOf 147 = .ok (.ladd, 1) := by decide +kernel
theorem dX7_hourOf_148 : decode cX7_hourOf 148 = .ok (.aload_n 0, 1) := by decide +kernel
theorem dX7_hourOf_149 : decode cX7_hourOf 149 = .ok (.getfield 70, 3) := by decide +kernel
theorem dX7_hourOf_152 : decode cX7_hourOf 152 = .ok (.iload_n 1, 1) := by decide +kernel
theorem dX7_hourOf_153 : decode cX7_hourOf 153 = .ok (.iaload, 1) := by decide +kernel
theorem dX7_hourOf_154 : decode cX7_hourOf 154 = .ok (.i2l, 1) := by decide +kernel
theorem dX7_hourOf_155 : decode cX7_hourOf 155 = .ok (.lcmp, 1) := by decide +kernel
theorem dX7_hourOf_156 : decode cX7_hourOf 156 = .ok (.ifCond .le 13, 3) := by decide +kernel
theorem dX7_hourOf_159 : decode cX7_hourOf 159 = .ok (.aload_n 0, 1) := by decide +kernel
theorem dX7_hourOf_160 : decode cX7_hourOf 160 = .ok (.getfield 70, 3) := by decide +kernel
theorem dX7_hourOf_163 : decode cX7_hourOf 163 = .ok (.iload_n 1, 1) := by decide +kernel
theorem dX7_hourOf_164 : decode cX7_hourOf 164 = .ok (.iaload, 1) := by decide +kernel
theorem dX7_hourOf_165 : decode cX7_hourOf 165 = .ok (.i2l, 1) := by decide +kernel
theorem dX7_hourOf_166 : decode cX7_hourOf 166 = .ok (.goto 17, 3) := by decide +kernel
theorem dX7_hourOf_169 : decode cX7_hourOf 169 = .ok (.aload_n 0, 1) := by decide +kernel
theorem dX7_hourOf_170 : decode cX7_hourOf 170 = .ok (.getfield 73, 3) := by decide +kernel
theorem dX7_hourOf_173 : decode cX7_hourOf 173 = .ok (.iconst 4, 1) := by decide +kernel
theorem dX7_hourOf_174 : decode cX7_hourOf 174 = .ok (.iload_n 1, 1) := by decide +kernel
theorem dX7_hourOf_175 : decode cX7_hourOf 175 = .ok (.imul, 1) := by decide +kernel
theorem dX7_hourOf_176 : decode cX7_hourOf 176 = .ok (.iconst 1, 1) := by decide +kernel
theorem dX7_hourOf_177 : decode cX7_hourOf 177 = .ok (.iadd, 1) := by decide +kernel
theorem dX7_hourOf_178 : decode cX7_hourOf 178 = .ok (.laload, 1) := by decide +kernel
theorem dX7_hourOf_179 : decode cX7_hourOf 179 = .ok (.iload 6, 2) := by decide +kernel
theorem dX7_hourOf_181 : decode cX7_hourOf 181 = .ok (.i2l, 1) := by decide +kernel
theorem dX7_hourOf_182 : decode cX7_hourOf 182 = .ok (.ladd, 1) := by decide +kernel
theorem dX7_hourOf_183 : decode cX7_hourOf 183 = .ok (.lastore, 1) := by decide +kernel
theorem dX7_hourOf_184 : decode cX7_hourOf 184 = .ok (.aload_n 0, 1) := by decide +kernel

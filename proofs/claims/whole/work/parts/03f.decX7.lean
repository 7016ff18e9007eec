theorem dX7_init_0 : decode cX7_init 0 = .ok (.aload_n 0, 1) := by decide +kernel
theorem dX7_init_1 : decode cX7_init 1 = .ok (.invokespecial 1, 3) := by decide +kernel
theorem dX7_init_4 : decode cX7_init 4 = .ok (.aload_n 0, 1) := by decide +kernel
theorem dX7_init_5 : decode cX7_init 5 = .ok (.bipush 10, 2) := by decide +kernel
theorem dX7_init_7 : decode cX7_init 7 = .ok (.newarray .int, 2) := by decide +kernel
theorem dX7_init_9 : decode cX7_init 9 = .ok (.putfield 7, 3) := by decide +kernel
theorem dX7_init_12 : decode cX7_init 12 = .ok (.aload_n 0, 1) := by decide +kernel
theorem dX7_init_13 : decode cX7_init 13 = .ok (.bipush 10, 2) := by decide +kernel
theorem dX7_init_15 : decode cX7_init 15 = .ok (.newarray .int, 2) := by decide +kernel
theorem dX7_init_17 : decode cX7_init 17 = .ok (.putfield 13, 3) := by decide +kernel
theorem dX7_init_20 : decode cX7_init 20 = .ok (.aload_n 0, 1) := by decide +kernel
theorem dX7_init_21 : decode cX7_init 21 = .ok (.bipush 16, 2) := by decide +kernel
theorem dX7_init_23 : decode cX7_init 23 = .ok (.newarray .int, 2) := by decide +kernel
theorem dX7_init_25 : decode cX7_init 25 = .ok (.putfield 16, 3) := by decide +kernel
theorem dX7_init_28 : decode cX7_init 28 = .ok (.aload_n 0, 1) := by decide +kernel
theorem dX7_init_29 : decode cX7_init 29 = .ok (.bipush 16, 2) := by decide +kernel
theorem dX7_init_31 : decode cX7_init 31 = .ok (.newarray .int, 2) := by decide +kernel
theorem dX7_init_33 : decode cX7_init 33 = .ok (.putfield 19, 3) := by decide +kernel
theorem dX7_init_36 : decode cX7_init 36 = .ok (.aload_n 0, 1) := by decide +kernel
theorem dX7_init_37 : decode cX7_init 37 = .ok (.bipush 16, 2) := by decide +kernel
theorem dX7_init_39 : decode cX7_init 39 = .ok (.newarray .int, 2) := by decide +kernel
theorem dX7_init_41 : decode cX7_init 41 = .ok (.putfield 22, 3) := by decide +kernel
theorem dX7_init_44 : decode cX7_init 44 = .ok (.aload_n 0, 1) := by decide +kernel
theorem dX7_init_45 : decode cX7_init 45 = .ok (.bipush 16, 2) := by decide +kernel
theorem dX7_init_47 : decode cX7_init 47 = .ok (.newarray .int, 2) := by decide +kernel
theorem dX7_init_49 : decode cX7_init 49 = .ok (.putfield 25, 3) := by decide +kernel
theorem dX7_init_52 : decode cX7_init 52 = .ok (.aload_n 0, 1) := by decide +kernel
theorem dX7_init_53 : decode cX7_init 53 = .ok (.bipush 16, 2) := by decide +kernel
theorem dX7_init_55 : decode cX7_init 55 = .ok (.newarray .int, 2) := by decide +kernel
theorem dX7_init_57 : decode cX7_init 57 = .ok (.putfield 28, 3) := by decide +kernel
theorem dX7_init_60 : decode cX7_init 60 = .ok (.aload_n 0, 1) := by decide +kernel
theorem dX7_init_61 : decode cX7_init 61 = .ok (.sipush 128, 3) := by decide +kernel
theorem dX7_init_64 : decode cX7_init 64 = .ok (.newarray .int, 2) := by decide +kernel
theorem dX7_init_66 : decode cX7_init 66 = .ok (.putfield 31, 3) := by decide +kernel
theorem dX7_init_69 : decode cX7_init 69 = .ok (.aload_n 0, 1) := by decide +kernel
theorem dX7_init_70 : decode cX7_init 70 = .ok (.iconst 4, 1) := by decide +kernel
theorem dX7_init_71 : decode cX7_init 71 = .ok (.newarray .int, 2) := by decide +kernel
theorem dX7_init_73 : decode cX7_init 73 = .ok (.putfield 34, 3) := by decide +kernel
theorem dX7_init_76 : decode cX7_init 76 = .ok (.aload_n 0, 1) := by decide +kernel
theorem dX7_init_77 : decode cX7_init 77 = .ok (.iconst 4, 1) := by decide +kernel
theorem dX7_init_78 : decode cX7_init 78 = .ok (.newarray .int, 2) := by decide +kernel
theorem dX7_init_80 : decode cX7_init 80 = .ok (.putfield 37, 3) := by decide +kernel
theorem dX7_init_83 : decode cX7_init 83 = .ok (.aload_n 0, 1) := by decide +kernel
theorem dX7_init_84 : decode cX7_init 84 = .ok (.iconst 4, 1) := by decide +kernel
theorem dX7_init_85 : decode cX7_init 85 = .ok (.newarray .int, 2) := by decide +kernel
theorem dX7_init_87 : decode cX7_init 87 = .ok (.putfield 40, 3) := by decide +kernel
theorem dX7_init_90 : decode cX7_init 90 = .ok (.aload_n 0, 1) := by decide +kernel
theorem dX7_init_91 : decode cX7_init 91 = .ok (.iconst 4, 1) := by decide +kernel
theorem dX7_init_92 : decode cX7_init 92 = .ok (.newarray .int, 2) := by decide +kernel
theorem dX7_init_94 : decode cX7_init 94 = .ok (.putfield 43, 3) := by decide +kernel
theorem dX7_init_97 : decode cX7_init 97 = .ok (.aload_n 0, 1) := by decide +kernel
theorem dX7_init_98 : decode cX7_init 98 = .ok (.iconst 4, 1) := by decide +kernel
theorem dX7_init_99 : decode cX7_init 99 = .ok (.newarray .int, 2) := by decide +kernel
theorem dX7_init_101 : decode cX7_init 101 = .ok (.putfield 46, 3) := by decide +kernel
theorem dX7_init_104 : decode cX7_init 104 = .ok (.aload_n 0, 1) := by decide +kernel
theorem dX7_init_105 : decode cX7_init 105 = .ok (.iconst 4, 1) := by decide +kernel
theorem dX7_init_106 : decode cX7_init 106 = .ok (.newarray .int, 2) := by decide +kernel
theorem dX7_init_108 : decode cX7_init 108 = .ok (.putfield 49, 3) := by decide +kernel
theorem dX7_init_111 : decode cX7_init 111 = .ok (.aload_n 0, 1) := by decide +kernel
theorem dX7_init_112 : decode cX7_init 112 = .ok (.iconst 4, 1) := by decide +kernel
theorem dX7_init_113 : decode cX7_init 113 = .ok (.newarray .int, 2) := by decide +kernel
theorem dX7_init_115 : decode cX7_init 115 = .ok (.putfield 52, 3) := by decide +kernel
theorem dX7_init_118 : decode cX7_init 118 = .ok (.aload_n 0, 1) := by decide +kernel
theorem dX7_init_119 : decode cX7_init 119 = .ok (.bipush 12, 2) := by decide +kernel
theorem dX7_init_121 : decode cX7_init 121 = .ok (.newarray .int, 2) := by decide +kernel
theorem dX7_init_123 : decode cX7_init 123 = .ok (.putfield 55, 3) := by decide +kernel
theorem dX7_init_126 : decode cX7_init 126 = .ok (.aload_n 0, 1) := by decide +kernel
theorem dX7_init_127 : decode cX7_init 127 = .ok (.bipush 12, 2) := by decide +kernel
theorem dX7_init_129 : decode cX7_init 129 = .ok (.newarray .int, 2) := by decide +kernel
theorem dX7_init_131 : decode cX7_init 131 = .ok (.putfield 58, 3) := by decide +kernel
theorem dX7_init_134 : decode cX7_init 134 = .ok (.aload_n 0, 1) := by decide +kernel
theorem dX7_init_135 : decode cX7_init 135 = .ok (.bipush 12, 2) := by decide +kernel
theorem dX7_init_137 : decode cX7_init 137 = .ok (.newarray .int, 2) := by decide +kernel
theorem dX7_init_139 : decode cX7_init 139 = .ok (.putfield 61, 3) := by decide +kernel
theorem dX7_init_142 : decode cX7_init 142 = .ok (.aload_n 0, 1) := by decide +kernel
theorem dX7_init_143 : decode cX7_init 143 = .ok (.bipush 12, 2) := by decide +kernel
theorem dX7_init_145 : decode cX7_init 145 = .ok (.newarray .int, 2) := by decide +kernel
theorem dX7_init_147 : decode cX7_init 147 = .ok (.putfield 64, 3) := by decide +kernel
theorem dX7_init_150 : decode cX7_init 150 = .ok (.aload_n 0, 1) := by decide +kernel
theorem dX7_init_151 : decode cX7_init 151 = .ok (.bipush 12, 2) := by decide +kernel
theorem dX7_init_153 : decode cX7_init 153 = .ok (.newarray .int, 2) := by decide +kernel
theorem dX7_init_155 : decode cX7_init 155 = .ok (.putfield 67, 3) := by decide +kernel
theorem dX7_init_158 : decode cX7_init 158 = .ok (.aload_n 0, 1) := by decide +kernel
theorem dX7_init_159 : decode cX7_init 159 = .ok (.bipush 12, 2) := by decide +kernel
theorem dX7_init_161 : decode cX7_init 161 = .ok (.newarray .int, 2) := by decide +kernel
theorem dX7_init_163 : decode cX7_init 163 = .ok (.putfield 70, 3) := by decide +kernel
theorem dX7_init_166 : decode cX7_init 166 = .ok (.aload_n 0, 1) := by decide +kernel
theorem dX7_init_167 : decode cX7_init 167 = .ok (.bipush 48, 2) := by decide +kernel
theorem dX7_init_169 : decode cX7_init 169 = .ok (.newarray .long, 2) := by decide +kernel
theorem dX7_init_171 : decode cX7_init 171 = .ok (.putfield 73, 3) := by decide +kernel
theorem dX7_init_174 : decode cX7_init 174 = .ok (.aload_n 0, 1) := by decide +kernel
theorem dX7_init_175 : decode cX7_init 175 = .ok (.bipush 10, 2) := by decide +kernel
theorem dX7_init_177 : decode cX7_init 177 = .ok (.newarray .long, 2) := by decide +kernel
theorem dX7_init_179 : decode cX7_init 179 = .ok (.putfield 77, 3) := by decide +kernel
theorem dX7_init_182 : decode cX7_init 182 = .ok (.aload_n 0, 1) := by decide +kernel
theorem dX7_init_183 : decode cX7_init 183 = .ok (.bipush 16, 2) := by decide +kernel
theorem dX7_init_185 : decode cX7_init 185 = .ok (.newarray .boolean, 2) := by decide +kernel
theorem dX7_init_187 : decode cX7_init 187 = .ok (.putfield 80, 3) := by decide +kernel
theorem dX7_init_190 : decode cX7_init 190 = .ok (.return_, 1) := by decide +kernel
theorem dX7_thrown_0 : decode cX7_thrown 0 = .ok (.aload_n 0, 1) := by decide +kernel
theorem dX7_thrown_1 : decode cX7_thrown 1 = .ok (.getfield 84, 3) := by decide +kernel
theorem dX7_thrown_4 : decode cX7_thrown 4 = .ok (.ireturn, 1) := by decide +kernel
theorem dX7_goesWell_0 : decode cX7_goesWell 0 = .ok (.aload_n 0, 1) := by decide +kernel
theorem dX7_goesWell_1 : decode cX7_goesWell 1 = .ok (.iload_n 1, 1) := by decide +kernel
theorem dX7_goesWell_2 : decode cX7_goesWell 2 = .ok (.putfield 84, 3) := by decide +kernel
theorem dX7_goesWell_5 : decode cX7_goesWell 5 = .ok (.iload_n 1, 1) := by decide +kernel
theorem dX7_goesWell_6 : decode cX7_goesWell 6 = .ok (.ifCond .ne 7, 3) := by decide +kernel
theorem dX7_goesWell_9 : decode cX7_goesWell 9 = .ok (.iconst 1, 1) := by decide +kernel
theorem dX7_goesWell_10 : decode cX7_goesWell 10 = .ok (.goto 4, 3) := by decide +kernel
theorem dX7_goesWell_13 : decode cX7_goesWell 13 = .ok (.iconst 0, 1) := by decide +kernel
theorem dX7_goesWell_14 : decode cX7_goesWell 14 = .ok (.ireturn, 1) := by decide +kernel
theorem dX7_in_0 : decode cX7_in 0 = .ok (.iload_n 0, 1) := by decide +kernel
theorem dX7_in_1 : decode cX7_in 1 = .ok (.iload_n 1, 1) := by decide +kernel
theorem dX7_in_2 : decode cX7_in 2 = .ok (.if_icmp .lt 12, 3) := by decide +kernel
theorem dX7_in_5 : decode cX7_in 5 = .ok (.iload_n 0, 1) := by decide +kernel
theorem dX7_in_6 : decode cX7_in 6 = .ok (.iload_n 2, 1) := by decide +kernel
theorem dX7_in_7 : decode cX7_in 7 = .ok (.if_icmp .gt 7, 3) := by decide +kernel
theorem dX7_in_10 : decode cX7_in 10 = .ok (.iconst 1, 1) := by decide +kernel
theorem dX7_in_11 : decode cX7_in 11 = .ok (.goto 4, 3) := by decide +kernel
theorem dX7_in_14 : decode cX7_in 14 = .ok (.iconst 0, 1) := by decide +kernel
theorem dX7_in_15 : decode cX7_in 15 = .ok (.ireturn, 1) := by decide +kernel
theorem dX7_isIsland_0 : decode cX7_isIsland 0 = .ok (.iload_n 1, 1) := by decide +kernel
theorem dX7_isIsland_1 : decode cX7_isIsland 1 = .ok (.iconst 0, 1) := by decide +kernel
theorem dX7_isIsland_2 : decode cX7_isIsland 2 = .ok (.aload_n 0, 1) := by decide +kernel
theorem dX7_isIsland_3 : decode cX7_isIsland 3 = .ok (.getfield 88, 3) := by decide +kernel
theorem dX7_isIsland_6 : decode cX7_isIsland 6 = .ok (.iconst 1, 1) := by decide +kernel
theorem dX7_isIsland_7 : decode cX7_isIsland 7 = .ok (.isub, 1) := by decide +kernel
theorem dX7_isIsland_8 : decode cX7_isIsland 8 = .ok (.invokestatic 91, 3) := by decide +kernel
theorem dX7_isIsland_11 : decode cX7_isIsland 11 = .ok (.ireturn, 1) := by decide +kernel
theorem dX7_isCable_0 : decode cX7_isCable 0 = .ok (.iload_n 1, 1) := by decide +kernel
theorem dX7_isCable_1 : decode cX7_isCable 1 = .ok (.iconst 0, 1) := by decide +kernel
theorem dX7_isCable_2 : decode cX7_isCable 2 = .ok (.aload_n 0, 1) := by decide +kernel
theorem dX7_isCable_3 : decode cX7_isCable 3 = .ok (.getfield 95, 3) := by decide +kernel
theorem dX7_isCable_6 : decode cX7_isCable 6 = .ok (.iconst 1, 1) := by decide +kernel
theorem dX7_isCable_7 : decode cX7_isCable 7 = .ok (.isub, 1) := by decide +kernel
theorem dX7_isCable_8 : decode cX7_isCable 8 = .ok (.invokestatic 91, 3) := by decide +kernel
theorem dX7_isCable_11 : decode cX7_isCable 11 = .ok (.ireturn, 1) := by decide +kernel
theorem dX7_isSpan_0 : decode cX7_isSpan 0 = .ok (.aload_n 0, 1) := by decide +kernel
theorem dX7_isSpan_1 : decode cX7_isSpan 1 = .ok (.iload_n 1, 1) := by decide +kernel
theorem dX7_isSpan_2 : decode cX7_isSpan 2 = .ok (.invokevirtual 98, 3) := by decide +kernel
theorem dX7_isSpan_5 : decode cX7_isSpan 5 = .ok (.ifCond .eq 23, 3) := by decide +kernel
theorem dX7_isSpan_8 : decode cX7_isSpan 8 = .ok (.iload_n 2, 1) := by decide +kernel
theorem dX7_isSpan_9 : decode cX7_isSpan 9 = .ok (.iconst 0, 1) := by decide +kernel
theorem dX7_isSpan_10 : decode cX7_isSpan 10 = .ok (.aload_n 0, 1) := by decide +kernel
theorem dX7_isSpan_11 : decode cX7_isSpan 11 = .ok (.getfield 22, 3) := by decide +kernel
theorem dX7_isSpan_14 : decode cX7_isSpan 14 = .ok (.iload_n 1, 1) := by decide +kernel
theorem dX7_isSpan_15 : decode cX7_isSpan 15 = .ok (.iaload, 1) := by decide +kernel
theorem dX7_isSpan_16 : decode cX7_isSpan 16 = .ok (.iconst 1, 1) := by decide +kernel
theorem dX7_isSpan_17 : decode cX7_isSpan 17 = .ok (.isub, 1) := by decide +kernel
theorem dX7_isSpan_18 : decode cX7_isSpan 18 = .ok (.invokestatic 91, 3) := by decide +kernel
theorem dX7_isSpan_21 : decode cX7_isSpan 21 = .ok (.ifCond .eq 7, 3) := by decide +kernel
theorem dX7_isSpan_24 : decode cX7_isSpan 24 = .ok (.iconst 1, 1) := by decide +kernel
theorem dX7_isSpan_25 : decode cX7_isSpan 25 = .ok (.goto 4, 3) := by decide +kernel
theorem dX7_isSpan_28 : decode cX7_isSpan 28 = .ok (.iconst 0, 1) := by decide +kernel
theorem dX7_isSpan_29 : decode cX7_isSpan 29 = .ok (.ireturn, 1) := by decide +kernel
theorem dX7_isShip_0 : decode cX7_isShip 0 = .ok (.iload_n 1, 1) := by decide +kernel
theorem dX7_isShip_1 : decode cX7_isShip 1 = .ok (.iconst 0, 1) := by decide +kernel
theorem dX7_isShip_2 : decode cX7_isShip 2 = .ok (.aload_n 0, 1) := by decide +kernel
theorem dX7_isShip_3 : decode cX7_isShip 3 = .ok (.getfield 102, 3) := by decide +kernel
theorem dX7_isShip_6 : decode cX7_isShip 6 = .ok (.iconst 1, 1) := by decide +kernel
theorem dX7_isShip_7 : decode cX7_isShip 7 = .ok (.isub, 1) := by decide +kernel
theorem dX7_isShip_8 : decode cX7_isShip 8 = .ok (.invokestatic 91, 3) := by decide +kernel
theorem dX7_isShip_11 : decode cX7_isShip 11 = .ok (.ireturn, 1) := by decide +kernel
theorem dX7_isTrader_0 : decode cX7_isTrader 0 = .ok (.iload_n 1, 1) := by decide +kernel
theorem dX7_isTrader_1 : decode cX7_isTrader 1 = .ok (.iconst 0, 1) := by decide +kernel
theorem dX7_isTrader_2 : decode cX7_isTrader 2 = .ok (.aload_n 0, 1) := by decide +kernel
theorem dX7_isTrader_3 : decode cX7_isTrader 3 = .ok (.getfield 105, 3) := by decide +kernel
theorem dX7_isTrader_6 : decode cX7_isTrader 6 = .ok (.iconst 1, 1) := by decide +kernel
theorem dX7_isTrader_7 : decode cX7_isTrader 7 = .ok (.isub, 1) := by decide +kernel
theorem dX7_isTrader_8 : decode cX7_isTrader 8 = .ok (.invokestatic 91, 3) := by decide +kernel
theorem dX7_isTrader_11 : decode cX7_isTrader 11 = .ok (.ireturn, 1) := by decide +kernel
theorem dX7_size_0 : decode cX7_size 0 = .ok (.iload_n 0, 1) := by decide +kernel
theorem dX7_size_1 : decode cX7_size 1 = .ok (.ifCond .ge 8, 3) := by decide +kernel
theorem dX7_size_4 : decode cX7_size 4 = .ok (.iload_n 0, 1) := by decide +kernel
theorem dX7_size_5 : decode cX7_size 5 = .ok (.ineg, 1) := by decide +kernel
theorem dX7_size_6 : decode cX7_size 6 = .ok (.goto 4, 3) := by decide +kernel
theorem dX7_size_9 : decode cX7_size 9 = .ok (.iload_n 0, 1) := by decide +kernel
theorem dX7_size_10 : decode cX7_size 10 = .ok (.ireturn, 1) := by decide +kernel
theorem dX7_island_0 : decode cX7_island 0 = .ok (.iload_n 1, 1) := by decide +kernel
theorem dX7_island_1 : decode cX7_island 1 = .ok (.iconst 0, 1) := by decide +kernel
theorem dX7_island_2 : decode cX7_island 2 = .ok (.bipush 99, 2) := by decide +kernel
theorem dX7_island_4 : decode cX7_island 4 = .ok (.invokestatic 91, 3) := by decide +kernel
theorem dX7_island_7 : decode cX7_island 7 = .ok (.ifCond .eq 17, 3) := by decide +kernel
theorem dX7_island_10 : decode cX7_island 10 = .ok (.iload_n 2, 1) := by decide +kernel
theorem dX7_island_11 : decode cX7_island 11 = .ok (.iconst 0, 1) := by decide +kernel
theorem dX7_island_12 : decode cX7_island 12 = .ok (.bipush 99, 2) := by decide +kernel
theorem dX7_island_14 : decode cX7_island 14 = .ok (.invokestatic 91, 3) := by decide +kernel
theorem dX7_island_17 : decode cX7_island 17 = .ok (.ifCond .eq 7, 3) := by decide +kernel
theorem dX7_island_20 : decode cX7_island 20 = .ok (.iconst 1, 1) := by decide +kernel
theorem dX7_island_21 : decode cX7_island 21 = .ok (.goto 4, 3) := by decide +kernel
theorem dX7_island_24 : decode cX7_island 24 = .ok (.iconst 0, 1) := by decide +kernel
theorem dX7_island_25 : decode cX7_island 25 = .ok (.istore_n 3, 1) := by decide +kernel
theorem dX7_island_26 : decode cX7_island 26 = .ok (.aload_n 0, 1) := by decide +kernel
theorem dX7_island_27 : decode cX7_island 27 = .ok (.iload_n 3, 1) := by decide +kernel
theorem dX7_island_28 : decode cX7_island 28 = .ok (.ifCond .ne 7, 3) := by decide +kernel
theorem dX7_island_31 : decode cX7_island 31 = .ok (.iconst 1, 1) := by decide +kernel
theorem dX7_island_32 : decode cX7_island 32 = .ok (.goto 17, 3) := by decide +kernel
theorem dX7_island_35 : decode cX7_island 35 = .ok (.aload_n 0, 1) := by decide +kernel
theorem dX7_island_36 : decode cX7_island 36 = .ok (.getfield 88, 3) := by decide +kernel
theorem dX7_island_39 : decode cX7_island 39 = .ok (.bipush 10, 2) := by decide +kernel
theorem dX7_island_41 : decode cX7_island 41 = .ok (.if_icmp .ne 7, 3) := by decide +kernel
theorem dX7_island_44 : decode cX7_island 44 = .ok (.iconst 2, 1) := by decide +kernel
theorem dX7_island_45 : decode cX7_island 45 = .ok (.goto 4, 3) := by decide +kernel
theorem dX7_island_48 : decode cX7_island 48 = .ok (.iconst 0, 1) := by decide +kernel
theorem dX7_island_49 : decode cX7_island 49 = .ok (.invokevirtual 108, 3) := by decide +kernel
theorem dX7_island_52 : decode cX7_island 52 = .ok (.ifCond .ne 5, 3) := by decide +kernel
theorem dX7_island_55 : decode cX7_island 55 = .ok (.iconst 0, 1) := by decide +kernel
theorem dX7_island_56 : decode cX7_island 56 = .ok (.ireturn, 1) := by decide +kernel
theorem dX7_island_57 : decode cX7_island 57 = .ok (.aload_n 0, 1) := by decide +kernel
theorem dX7_island_58 : decode cX7_island 58 = .ok (.getfield 7, 3) := by decide +kernel
theorem dX7_island_61 : decode cX7_island 61 = .ok (.aload_n 0, 1) := by decide +kernel
theorem dX7_island_62 : decode cX7_island 62 = .ok (.getfield 88, 3) := by decide +kernel
theorem dX7_island_65 : decode cX7_island 65 = .ok (.iload_n 1, 1) := by decide +kernel
theorem dX7_island_66 : decode cX7_island 66 = .ok (.iastore, 1) := by decide +kernel
theorem dX7_island_67 : decode cX7_island 67 = .ok (.aload_n 0, 1) := by decide +kernel
theorem dX7_island_68 : decode cX7_island 68 = .ok (.getfield 13, 3) := by decide +kernel
theorem dX7_island_71 : decode cX7_island 71 = .ok (.aload_n 0, 1) := by decide +kernel
theorem dX7_island_72 : decode cX7_island 72 = .ok (.getfield 88, 3) := by decide +kernel
theorem dX7_island_75 : decode cX7_island 75 = .ok (.iload_n 2, 1) := by decide +kernel
theorem dX7_island_76 : decode cX7_island 76 = .ok (.iastore, 1) := by decide +kernel
theorem dX7_island_77 : decode cX7_island 77 = .ok (.aload_n 0, 1) := by decide +kernel
theorem dX7_island_78 : decode cX7_island 78 = .ok (.dup, 1) := by decide +kernel
theorem dX7_island_79 : decode cX7_island 79 = .ok (.getfield 88, 3) := by decide +kernel
theorem dX7_island_82 : decode cX7_island 82 = .ok (.iconst 1, 1) := by decide +kernel
theorem dX7_island_83 : decode cX7_island 83 = .ok (.iadd, 1) := by decide +kernel
theorem dX7_island_84 : decode cX7_island 84 = .ok (.putfield 88, 3) := by decide +kernel
theorem dX7_island_87 : decode cX7_island 87 = .ok (.aload_n 0, 1) := by decide +kernel
theorem dX7_island_88 : decode cX7_island 88 = .ok (.getfield 88, 3) := by decide +kernel
theorem dX7_island_91 : decode cX7_island 91 = .ok (.iconst 1, 1) := by decide +kernel
theorem dX7_island_92 : decode cX7_island 92 = .ok (.isub, 1) := by decide +kernel
theorem dX7_island_93 : decode cX7_island 93 = .ok (.ireturn, 1) := by decide +kernel
theorem dX7_cable_0 : decode cX7_cable 0 = .ok (.aload_n 0, 1) := by decide +kernel
theorem dX7_cable_1 : decode cX7_cable 1 = .ok (.iload_n 1, 1) := by decide +kernel
theorem dX7_cable_2 : decode cX7_cable 2 = .ok (.invokevirtual 111, 3) := by decide +kernel
theorem dX7_cable_5 : decode cX7_cable 5 = .ok (.ifCond .eq 15, 3) := by decide +kernel
theorem dX7_cable_8 : decode cX7_cable 8 = .ok (.aload_n 0, 1) := by decide +kernel
theorem dX7_cable_9 : decode cX7_cable 9 = .ok (.iload_n 2, 1) := by decide +kernel
theorem dX7_cable_10 : decode cX7_cable 10 = .ok (.invokevirtual 111, 3) := by decide +kernel
theorem dX7_cable_13 : decode cX7_cable 13 = .ok (.ifCond .eq 7, 3) := by decide +kernel
theorem dX7_cable_16 : decode cX7_cable 16 = .ok (.iconst 1, 1) := by decide +kernel
theorem dX7_cable_17 : decode cX7_cable 17 = .ok (.goto 4, 3) := by decide +kernel
theorem dX7_cable_20 : decode cX7_cable 20 = .ok (.iconst 0, 1) := by decide +kernel
theorem dX7_cable_21 : decode cX7_cable 21 = .ok (.istore 6, 2) := by decide +kernel
theorem dX7_cable_23 : decode cX7_cable 23 = .ok (.iload_n 1, 1) := by decide +kernel
theorem dX7_cable_24 : decode cX7_cable 24 = .ok (.iload_n 2, 1) := by decide +kernel
theorem dX7_cable_25 : decode cX7_cable 25 = .ok (.if_icmp .eq 41, 3) := by decide +kernel
theorem dX7_cable_28 : decode cX7_cable 28 = .ok (.iload_n 3, 1) := by decide +kernel
theorem dX7_cable_29 : decode cX7_cable 29 = .ok (.iconst 1, 1) := by decide +kernel
theorem dX7_cable_30 : decode cX7_cable 30 = .ok (.bipush 8, 2) := by decide +kernel
theorem dX7_cable_32 : decode cX7_cable 32 = .ok (.invokestatic 91, 3) := by decide +kernel
theorem dX7_cable_35 : decode cX7_cable 35 = .ok (.ifCond .eq 31, 3) := by decide +kernel
theorem dX7_cable_38 : decode cX7_cable 38 = .ok (.iload 4, 2) := by decide +kernel
theorem dX7_cable_40 : decode cX7_cable 40 = .ok (.iconst 1, 1) := by decide +kernel
theorem dX7_cable_41 : decode cX7_cable 41 = .ok (.sipush 500, 3) := by decide +kernel
theorem dX7_cable_44 : decode cX7_cable 44 = .ok (.invokestatic 91, 3) := by decide +kernel
theorem dX7_cable_47 : decode cX7_cable 47 = .ok (.ifCond .eq 19, 3) := by decide +kernel
theorem dX7_cable_50 : decode cX7_cable 50 = .ok (.iload 5, 2) := by decide +kernel
theorem dX7_cable_52 : decode cX7_cable 52 = .ok (.iconst 0, 1) := by decide +kernel
theorem dX7_cable_53 : decode cX7_cable 53 = .ok (.sipush 9999, 3) := by decide +kernel
theorem dX7_cable_56 : decode cX7_cable 56 = .ok (.invokestatic 91, 3) := by decide +kernel
theorem dX7_cable_59 : decode cX7_cable 59 = .ok (.ifCond .eq 7, 3) := by decide +kernel
theorem dX7_cable_62 : decode cX7_cable 62 = .ok (.iconst 1, 1) := by decide +kernel
theorem dX7_cable_63 : decode cX7_cable 63 = .ok (.goto 4, 3) := by decide +kernel
theorem dX7_cable_66 : decode cX7_cable 66 = .ok (.iconst 0, 1) := by decide +kernel
theorem dX7_cable_67 : decode cX7_cable 67 = .ok (.istore 7, 2) := by decide +kernel
theorem dX7_cable_69 : decode cX7_cable 69 = .ok (.aload_n 0, 1) := by decide +kernel
theorem dX7_cable_70 : decode cX7_cable 70 = .ok (.iload 6, 2) := by decide +kernel
theorem dX7_cable_72 : decode cX7_cable 72 = .ok (.ifCond .ne 7, 3) := by decide +kernel
theorem dX7_cable_75 : decode cX7_cable 75 = .ok (.iconst 1, 1) := by decide +kernel
theorem dX7_cable_76 : decode cX7_cable 76 = .ok (.goto 26, 3) := by decide +kernel
theorem dX7_cable_79 : decode cX7_cable 79 = .ok (.iload 7, 2) := by decide +kernel
theorem dX7_cable_81 : decode cX7_cable 81 = .ok (.ifCond .ne 7, 3) := by decide +kernel
theorem dX7_cable_84 : decode cX7_cable 84 = .ok (.iconst 2, 1) := by decide +kernel
theorem dX7_cable_85 : decode cX7_cable 85 = .ok (.goto 17, 3) := by decide +kernel
theorem dX7_cable_88 : decode cX7_cable 88 = .ok (.aload_n 0, 1) := by decide +kernel
theorem dX7_cable_89 : decode cX7_cable 89 = .ok (.getfield 95, 3) := by decide +kernel
theorem dX7_cable_92 : decode cX7_cable 92 = .ok (.bipush 16, 2) := by decide +kernel
theorem dX7_cable_94 : decode cX7_cable 94 = .ok (.if_icmp .ne 7, 3) := by decide +kernel
theorem dX7_cable_97 : decode cX7_cable 97 = .ok (.iconst 3, 1) := by decide +kernel
theorem dX7_cable_98 : decode cX7_cable 98 = .ok (.goto 4, 3) := by decide +kernel
theorem dX7_cable_101 : decode cX7_cable 101 = .ok (.iconst 0, 1) := by decide +kernel
theorem dX7_cable_102 : decode cX7_cable 102 = .ok (.invokevirtual 108, 3) := by decide +kernel
theorem dX7_cable_105 : decode cX7_cable 105 = .ok (.ifCond .ne 5, 3) := by decide +kernel
theorem dX7_cable_108 : decode cX7_cable 108 = .ok (.iconst 0, 1) := by decide +kernel
theorem dX7_cable_109 : decode cX7_cable 109 = .ok (.ireturn, 1) := by decide +kernel
theorem dX7_cable_110 : decode cX7_cable 110 = .ok (.aload_n 0, 1) := by decide +kernel
theorem dX7_cable_111 : decode cX7_cable 111 = .ok (.getfield 16, 3) := by decide +kernel
theorem dX7_cable_114 : decode cX7_cable 114 = .ok (.aload_n 0, 1) := by decide +kernel
theorem dX7_cable_115 : decode cX7_cable 115 = .ok (.getfield 95, 3) := by decide +kernel
theorem dX7_cable_118 : decode cX7_cable 118 = .ok (.iload_n 1, 1) := by decide +kernel
theorem dX7_cable_119 : decode cX7_cable 119 = .ok (.iastore, 1) := by decide +kernel
theorem dX7_cable_120 : decode cX7_cable 120 = .ok (.aload_n 0, 1) := by decide +kernel
theorem dX7_cable_121 : decode cX7_cable 121 = .ok (.getfield 19, 3) := by decide +kernel
theorem dX7_cable_124 : decode cX7_cable 124 = .ok (.aload_n 0, 1) := by decide +kernel
theorem dX7_cable_125 : decode cX7_cable 125 = .ok (.getfield 95, 3) := by decide +kernel
theorem dX7_cable_128 : decode cX7_cable 128 = .ok (.iload_n 2, 1) := by decide +kernel
theorem dX7_cable_129 : decode cX7_cable 129 = .ok (.iastore, 1) := by decide +kernel
theorem dX7_cable_130 : decode cX7_cable 130 = .ok (.aload_n 0, 1) := by decide +kernel
theorem dX7_cable_131 : decode cX7_cable 131 = .ok (.getfield 22, 3) := by decide +kernel
theorem dX7_cable_134 : decode cX7_cable 134 = .ok (.aload_n 0, 1) := by decide +kernel
theorem dX7_cable_135 : decode cX7_cable 135 = .ok (.getfield 95, 3) := by decide +kernel
theorem dX7_cable_138 : decode cX7_cable 138 = .ok (.iload_n 3, 1) := by decide +kernel
theorem dX7_cable_139 : decode cX7_cable 139 = .ok (.iastore, 1) := by decide +kernel
theorem dX7_cable_140 : decode cX7_cable 140 = .ok (.aload_n 0, 1) := by decide +kernel
theorem dX7_cable_141 : decode cX7_cable 141 = .ok (.getfield 25, 3) := by decide +kernel
theorem dX7_cable_144 : decode cX7_cable 144 = .ok (.aload_n 0, 1) := by decide +kernel
theorem dX7_cable_145 : decode cX7_cable 145 = .ok (.getfield 95, 3) := by decide +kernel
theorem dX7_cable_148 : decode cX7_cable 148 = .ok (.iload 4, 2) := by decide +kernel
theorem dX7_cable_150 : decode cX7_cable 150 = .ok (.iastore, 1) := by decide +kernel
theorem dX7_cable_151 : decode cX7_cable 151 = .ok (.aload_n 0, 1) := by decide +kernel
theorem dX7_cable_152 : decode cX7_cable 152 = .ok (.getfield 28, 3) := by decide +kernel
theorem dX7_cable_155 : decode cX7_cable 155 = .ok (.aload_n 0, 1) := by decide +kernel
theorem dX7_cable_156 : decode cX7_cable 156 = .ok (.getfield 95, 3) := by decide +kernel
theorem dX7_cable_159 : decode cX7_cable 159 = .ok (.iload 5, 2) := by decide +kernel
theorem dX7_cable_161 : decode cX7_cable 161 = .ok (.iastore, 1) := by decide +kernel
theorem dX7_cable_162 : decode cX7_cable 162 = .ok (.aload_n 0, 1) := by decide +kernel
theorem dX7_cable_163 : decode cX7_cable 163 = .ok (.dup, 1) := by decide +kernel
theorem dX7_cable_164 : decode cX7_cable 164 = .ok (.getfield 95, 3) := by decide +kernel
theorem dX7_cable_167 : decode cX7_cable 167 = .ok (.iconst 1, 1) := by decide +kernel
theorem dX7_cable_168 : decode cX7_cable 168 = .ok (.iadd, 1) := by decide +kernel
theorem dX7_cable_169 : decode cX7_cable 169 = .ok (.putfield 95, 3) := by decide +kernel
theorem dX7_cable_172 : decode cX7_cable 172 = .ok (.aload_n 0, 1) := by decide +kernel
theorem dX7_cable_173 : decode cX7_cable 173 = .ok (.getfield 95, 3) := by decide +kernel
theorem dX7_cable_176 : decode cX7_cable 176 = .ok (.iconst 1, 1) := by decide +kernel
theorem dX7_cable_177 : decode cX7_cable 177 = .ok (.isub, 1) := by decide +kernel
theorem dX7_cable_178 : decode cX7_cable 178 = .ok (.ireturn, 1) := by decide +kernel
theorem dX7_price_0 : decode cX7_price 0 = .ok (.aload_n 0, 1) := by decide +kernel
theorem dX7_price_1 : decode cX7_price 1 = .ok (.iload_n 1, 1) := by decide +kernel
theorem dX7_price_2 : decode cX7_price 2 = .ok (.invokevirtual 98, 3) := by decide +kernel
theorem dX7_price_5 : decode cX7_price 5 = .ok (.istore_n 3, 1) := by decide +kernel
theorem dX7_price_6 : decode cX7_price 6 = .ok (.aload_n 0, 1) := by decide +kernel
theorem dX7_price_7 : decode cX7_price 7 = .ok (.iload_n 3, 1) := by decide +kernel
theorem dX7_price_8 : decode cX7_price 8 = .ok (.ifCond .ne 7, 3) := by decide +kernel
theorem dX7_price_11 : decode cX7_price 11 = .ok (.iconst 1, 1) := by decide +kernel
theorem dX7_price_12 : decode cX7_price 12 = .ok (.goto 19, 3) := by decide +kernel
theorem dX7_price_15 : decode cX7_price 15 = .ok (.iload_n 2, 1) := by decide +kernel
theorem dX7_price_16 : decode cX7_price 16 = .ok (.iconst 0, 1) := by decide +kernel
theorem dX7_price_17 : decode cX7_price 17 = .ok (.sipush 9999, 3) := by decide +kernel
theorem dX7_price_20 : decode cX7_price 20 = .ok (.invokestatic 91, 3) := by decide +kernel
theorem dX7_price_23 : decode cX7_price 23 = .ok (.ifCond .eq 7, 3) := by decide +kernel
theorem dX7_price_26 : decode cX7_price 26 = .ok (.iconst 0, 1) := by decide +kernel
theorem dX7_price_27 : decode cX7_price 27 = .ok (.goto 4, 3) := by decide +kernel
theorem dX7_price_30 : decode cX7_price 30 = .ok (.iconst 2, 1) := by decide +kernel
theorem dX7_price_31 : decode cX7_price 31 = .ok (.invokevirtual 108, 3) := by decide +kernel
theorem dX7_price_34 : decode cX7_price 34 = .ok (.ifCond .ne 5, 3) := by decide +kernel
theorem dX7_price_37 : decode cX7_price 37 = .ok (.iconst 0, 1) := by decide +kernel
theorem dX7_price_38 : decode cX7_price 38 = .ok (.ireturn, 1) := by decide +kernel
theorem dX7_price_39 : decode cX7_price 39 = .ok (.aload_n 0, 1) := by decide +kernel
theorem dX7_price_40 : decode cX7_price 40 = .ok (.getfield 28, 3) := by decide +kernel
theorem dX7_price_43 : decode cX7_price 43 = .ok (.iload_n 1, 1) := by decide +kernel
theorem dX7_price_44 : decode cX7_price 44 = .ok (.iaload, 1) := by decide +kernel
theorem dX7_price_45 : decode cX7_price 45 = .ok (.istore 4, 2) := by decide +kernel
theorem dX7_price_47 : decode cX7_price 47 = .ok (.aload_n 0, 1) := by decide +kernel
theorem dX7_price_48 : decode cX7_price 48 = .ok (.getfield 28, 3) := by decide +kernel
theorem dX7_price_51 : decode cX7_price 51 = .ok (.iload_n 1, 1) := by decide +kernel
theorem dX7_price_52 : decode cX7_price 52 = .ok (.iload_n 2, 1) := by decide +kernel
theorem dX7_price_53 : decode cX7_price 53 = .ok (.iastore, 1) := by decide +kernel
theorem dX7_price_54 : decode cX7_price 54 = .ok (.iload 4, 2) := by decide +kernel
theorem dX7_price_56 : decode cX7_price 56 = .ok (.ireturn, 1) := by decide +kernel
theorem dX7_placeOf_0 : decode cX7_placeOf 0 = .ok (.iconst 0, 1) := by decide +kernel
theorem dX7_placeOf_1 : decode cX7_placeOf 1 = .ok (.istore_n 2, 1) := by decide +kernel
theorem dX7_placeOf_2 : decode cX7_placeOf 2 = .ok (.iload_n 2, 1) := by decide +kernel
theorem dX7_placeOf_3 : decode cX7_placeOf 3 = .ok (.aload_n 0, 1) := by decide +kernel
theorem dX7_placeOf_4 : decode cX7_placeOf 4 = .ok (.getfield 114, 3) := by decide +kernel
theorem dX7_placeOf_7 : decode cX7_placeOf 7 = .ok (.if_icmp .ge 19, 3) := by decide +kernel
theorem dX7_placeOf_10 : decode cX7_placeOf 10 = .ok (.aload_n 0, 1) := by decide +kernel
theorem dX7_placeOf_11 : decode cX7_placeOf 11 = .ok (.getfield 31, 3) := by decide +kernel
theorem dX7_placeOf_14 : decode cX7_placeOf 14 = .ok (.iload_n 2, 1) := by decide +kernel
theorem dX7_placeOf_15 : decode cX7_placeOf 15 = .ok (.iaload, 1) := by decide +kernel
theorem dX7_placeOf_16 : decode cX7_placeOf 16 = .ok (.iload_n 1, 1) := by decide +kernel
theorem dX7_placeOf_17 : decode cX7_placeOf 17 = .ok (.if_icmp .eq 9, 3) := by decide +kernel
theorem dX7_placeOf_20 : decode cX7_placeOf 20 = .ok (.iinc 2 1, 3) := by decide +kernel
theorem dX7_placeOf_23 : decode cX7_placeOf 23 = .ok (.goto (-21), 3) := by decide +kernel
theorem dX7_placeOf_26 : decode cX7_placeOf 26 = .ok (.iload_n 2, 1) := by decide +kernel
theorem dX7_placeOf_27 : decode cX7_placeOf 27 = .ok (.aload_n 0, 1) := by decide +kernel
theorem dX7_placeOf_28 : decode cX7_placeOf 28 = .ok (.getfield 114, 3) := by decide +kernel
theorem dX7_placeOf_31 : decode cX7_placeOf 31 = .ok (.if_icmp .ge 7, 3) := by decide +kernel
theorem dX7_placeOf_34 : decode cX7_placeOf 34 = .ok (.iload_n 2, 1) := by decide +kernel
theorem dX7_placeOf_35 : decode cX7_placeOf 35 = .ok (.goto 4, 3) := by decide +kernel
theorem dX7_placeOf_38 : decode cX7_placeOf 38 = .ok (.iconst (-1), 1) := by decide +kernel
theorem dX7_placeOf_39 : decode cX7_placeOf 39 = .ok (.ireturn, 1) := by decide +kernel
theorem dX7_fault_0 : decode cX7_fault 0 = .ok (.aload_n 0, 1) := by decide +kernel
theorem dX7_fault_1 : decode cX7_fault 1 = .ok (.iload_n 1, 1) := by decide +kernel
theorem dX7_fault_2 : decode cX7_fault 2 = .ok (.iload_n 2, 1) := by decide +kernel
theorem dX7_fault_3 : decode cX7_fault 3 = .ok (.invokevirtual 117, 3) := by decide +kernel
theorem dX7_fault_6 : decode cX7_fault 6 = .ok (.istore_n 3, 1) := by decide +kernel
theorem dX7_fault_7 : decode cX7_fault 7 = .ok (.aload_n 0, 1) := by decide +kernel
theorem dX7_fault_8 : decode cX7_fault 8 = .ok (.iload_n 3, 1) := by decide +kernel
theorem dX7_fault_9 : decode cX7_fault 9 = .ok (.ifCond .ne 7, 3) := by decide +kernel
theorem dX7_fault_12 : decode cX7_fault 12 = .ok (.iconst 1, 1) := by decide +kernel
theorem dX7_fault_13 : decode cX7_fault 13 = .ok (.goto 22, 3) := by decide +kernel
theorem dX7_fault_16 : decode cX7_fault 16 = .ok (.aload_n 0, 1) := by decide +kernel
theorem dX7_fault_17 : decode cX7_fault 17 = .ok (.bipush 8, 2) := by decide +kernel
theorem dX7_fault_19 : decode cX7_fault 19 = .ok (.iload_n 1, 1) := by decide +kernel
theorem dX7_fault_20 : decode cX7_fault 20 = .ok (.imul, 1) := by decide +kernel
theorem dX7_fault_21 : decode cX7_fault 21 = .ok (.iload_n 2, 1) := by decide +kernel
theorem dX7_fault_22 : decode cX7_fault 22 = .ok (.iadd, 1) := by decide +kernel
theorem dX7_fault_23 : decode cX7_fault 23 = .ok (.invokevirtual 121, 3) := by decide +kernel
theorem dX7_fault_26 : decode cX7_fault 26 = .ok (.iconst (-1), 1) := by decide +kernel
theorem dX7_fault_27 : decode cX7_fault 27 = .ok (.if_icmp .eq 7, 3) := by decide +kernel
theorem dX7_fault_30 : decode cX7_fault 30 = .ok (.iconst 2, 1) := by decide +kernel
theorem dX7_fault_31 : decode cX7_fault 31 = .ok (.goto 4, 3) := by decide +kernel
theorem dX7_fault_34 : decode cX7_fault 34 = .ok (.iconst 0, 1) := by decide +kernel
theorem dX7_fault_35 : decode cX7_fault 35 = .ok (.invokevirtual 108, 3) := by decide +kernel
theorem dX7_fault_38 : decode cX7_fault 38 = .ok (.ifCond .ne 5, 3) := by decide +kernel
theorem dX7_fault_41 : decode cX7_fault 41 = .ok (.iconst 0, 1) := by decide +kernel
theorem dX7_fault_42 : decode cX7_fault 42 = .ok (.ireturn, 1) := by decide +kernel
theorem dX7_fault_43 : decode cX7_fault 43 = .ok (.aload_n 0, 1) := by decide +kernel
theorem dX7_fault_44 : decode cX7_fault 44 = .ok (.getfield 31, 3) := by decide +kernel
theorem dX7_fault_47 : decode cX7_fault 47 = .ok (.aload_n 0, 1) := by decide +kernel
theorem dX7_fault_48 : decode cX7_fault 48 = .ok (.getfield 114, 3) := by decide +kernel
theorem dX7_fault_51 : decode cX7_fault 51 = .ok (.bipush 8, 2) := by decide +kernel
theorem dX7_fault_53 : decode cX7_fault 53 = .ok (.iload_n 1, 1) := by decide +kernel
theorem dX7_fault_54 : decode cX7_fault 54 = .ok (.imul, 1) := by decide +kernel
theorem dX7_fault_55 : decode cX7_fault 55 = .ok (.iload_n 2, 1) := by decide +kernel
theorem dX7_fault_56 : decode cX7_fault 56 = .ok (.iadd, 1) := by decide +kernel
theorem dX7_fault_57 : decode cX7_fault 57 = .ok (.iastore, 1) := by decide +kernel
theorem dX7_fault_58 : decode cX7_fault 58 = .ok (.aload_n 0, 1) := by decide +kernel
theorem dX7_fault_59 : decode cX7_fault 59 = .ok (.dup, 1) := by decide +kernel
theorem dX7_fault_60 : decode cX7_fault 60 = .ok (.getfield 114, 3) := by decide +kernel
theorem dX7_fault_63 : decode cX7_fault 63 = .ok (.iconst 1, 1) := by decide +kernel
theorem dX7_fault_64 : decode cX7_fault 64 = .ok (.iadd, 1) := by decide +kernel
theorem dX7_fault_65 : decode cX7_fault 65 = .ok (.putfield 114, 3) := by decide +kernel
theorem dX7_fault_68 : decode cX7_fault 68 = .ok (.aload_n 0, 1) := by decide +kernel
theorem dX7_fault_69 : decode cX7_fault 69 = .ok (.getfield 114, 3) := by decide +kernel
theorem dX7_fault_72 : decode cX7_fault 72 = .ok (.ireturn, 1) := by decide +kernel
theorem dX7_doesWork_0 : decode cX7_doesWork 0 = .ok (.iconst 1, 1) := by decide +kernel
theorem dX7_doesWork_1 : decode cX7_doesWork 1 = .ok (.istore_n 2, 1) := by decide +kernel
theorem dX7_doesWork_2 : decode cX7_doesWork 2 = .ok (.iconst 0, 1) := by decide +kernel
theorem dX7_doesWork_3 : decode cX7_doesWork 3 = .ok (.istore_n 3, 1) := by decide +kernel

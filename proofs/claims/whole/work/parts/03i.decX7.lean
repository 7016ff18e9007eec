theorem dX7_hourOf_185 : decode cX7_hourOf 185 = .ok (.getfield 73, 3) := by decide +kernel
theorem dX7_hourOf_188 : decode cX7_hourOf 188 = .ok (.iconst 4, 1) := by decide +kernel
theorem dX7_hourOf_189 : decode cX7_hourOf 189 = .ok (.iload_n 1, 1) := by decide +kernel
theorem dX7_hourOf_190 : decode cX7_hourOf 190 = .ok (.imul, 1) := by decide +kernel
theorem dX7_hourOf_191 : decode cX7_hourOf 191 = .ok (.iconst 2, 1) := by decide +kernel
theorem dX7_hourOf_192 : decode cX7_hourOf 192 = .ok (.iadd, 1) := by decide +kernel
theorem dX7_hourOf_193 : decode cX7_hourOf 193 = .ok (.dup2, 1) := by decide +kernel
theorem dX7_hourOf_194 : decode cX7_hourOf 194 = .ok (.laload, 1) := by decide +kernel
theorem dX7_hourOf_195 : decode cX7_hourOf 195 = .ok (.iload 4, 2) := by decide +kernel
theorem dX7_hourOf_197 : decode cX7_hourOf 197 = .ok (.ifCond .eq 7, 3) := by decide +kernel
theorem dX7_hourOf_200 : decode cX7_hourOf 200 = .ok (.lconst 1, 1) := by decide +kernel
theorem dX7_hourOf_201 : decode cX7_hourOf 201 = .ok (.goto 4, 3) := by decide +kernel
theorem dX7_hourOf_204 : decode cX7_hourOf 204 = .ok (.lconst 0, 1) := by decide +kernel
theorem dX7_hourOf_205 : decode cX7_hourOf 205 = .ok (.ladd, 1) := by decide +kernel
theorem dX7_hourOf_206 : decode cX7_hourOf 206 = .ok (.lastore, 1) := by decide +kernel
theorem dX7_hourOf_207 : decode cX7_hourOf 207 = .ok (.aload_n 0, 1) := by decide +kernel
theorem dX7_hourOf_208 : decode cX7_hourOf 208 = .ok (.getfield 73, 3) := by decide +kernel
theorem dX7_hourOf_211 : decode cX7_hourOf 211 = .ok (.iconst 4, 1) := by decide +kernel
theorem dX7_hourOf_212 : decode cX7_hourOf 212 = .ok (.iload_n 1, 1) := by decide +kernel
theorem dX7_hourOf_213 : decode cX7_hourOf 213 = .ok (.imul, 1) := by decide +kernel
theorem dX7_hourOf_214 : decode cX7_hourOf 214 = .ok (.iconst 3, 1) := by decide +kernel
theorem dX7_hourOf_215 : decode cX7_hourOf 215 = .ok (.iadd, 1) := by decide +kernel
theorem dX7_hourOf_216 : decode cX7_hourOf 216 = .ok (.dup2, 1) := by decide +kernel
theorem dX7_hourOf_217 : decode cX7_hourOf 217 = .ok (.laload, 1) := by decide +kernel
theorem dX7_hourOf_218 : decode cX7_hourOf 218 = .ok (.iload 5, 2) := by decide +kernel
theorem dX7_hourOf_220 : decode cX7_hourOf 220 = .ok (.ifCond .eq 7, 3) := by decide +kernel
theorem dX7_hourOf_223 : decode cX7_hourOf 223 = .ok (.lconst 1, 1) := by decide +kernel
theorem dX7_hourOf_224 : decode cX7_hourOf 224 = .ok (.goto 4, 3) := by decide +kernel
theorem dX7_hourOf_227 : decode cX7_hourOf 227 = .ok (.lconst 0, 1) := by decide +kernel
theorem dX7_hourOf_228 : decode cX7_hourOf 228 = .ok (.ladd, 1) := by decide +kernel
theorem dX7_hourOf_229 : decode cX7_hourOf 229 = .ok (.lastore, 1) := by decide +kernel
theorem dX7_hourOf_230 : decode cX7_hourOf 230 = .ok (.return_, 1) := by decide +kernel
theorem dX7_pass_0 : decode cX7_pass 0 = .ok (.aload_n 0, 1) := by decide +kernel
theorem dX7_pass_1 : decode cX7_pass 1 = .ok (.iload_n 1, 1) := by decide +kernel
theorem dX7_pass_2 : decode cX7_pass 2 = .ok (.iconst 1, 1) := by decide +kernel
theorem dX7_pass_3 : decode cX7_pass 3 = .ok (.sipush 500, 3) := by decide +kernel
theorem dX7_pass_6 : decode cX7_pass 6 = .ok (.invokestatic 91, 3) := by decide +kernel
theorem dX7_pass_9 : decode cX7_pass 9 = .ok (.ifCond .eq 7, 3) := by decide +kernel
theorem dX7_pass_12 : decode cX7_pass 12 = .ok (.iconst 0, 1) := by decide +kernel
theorem dX7_pass_13 : decode cX7_pass 13 = .ok (.goto 4, 3) := by decide +kernel
theorem dX7_pass_16 : decode cX7_pass 16 = .ok (.iconst 1, 1) := by decide +kernel
theorem dX7_pass_17 : decode cX7_pass 17 = .ok (.invokevirtual 108, 3) := by decide +kernel
theorem dX7_pass_20 : decode cX7_pass 20 = .ok (.ifCond .ne 5, 3) := by decide +kernel
theorem dX7_pass_23 : decode cX7_pass 23 = .ok (.iconst 0, 1) := by decide +kernel
theorem dX7_pass_24 : decode cX7_pass 24 = .ok (.ireturn, 1) := by decide +kernel
theorem dX7_pass_25 : decode cX7_pass 25 = .ok (.iconst 0, 1) := by decide +kernel
theorem dX7_pass_26 : decode cX7_pass 26 = .ok (.istore_n 2, 1) := by decide +kernel
theorem dX7_pass_27 : decode cX7_pass 27 = .ok (.iload_n 2, 1) := by decide +kernel
theorem dX7_pass_28 : decode cX7_pass 28 = .ok (.iload_n 1, 1) := by decide +kernel
theorem dX7_pass_29 : decode cX7_pass 29 = .ok (.if_icmp .ge 70, 3) := by decide +kernel
theorem dX7_pass_32 : decode cX7_pass 32 = .ok (.aload_n 0, 1) := by decide +kernel
theorem dX7_pass_33 : decode cX7_pass 33 = .ok (.dup, 1) := by decide +kernel
theorem dX7_pass_34 : decode cX7_pass 34 = .ok (.getfield 166, 3) := by decide +kernel
theorem dX7_pass_37 : decode cX7_pass 37 = .ok (.iconst 1, 1) := by decide +kernel
theorem dX7_pass_38 : decode cX7_pass 38 = .ok (.iadd, 1) := by decide +kernel
theorem dX7_pass_39 : decode cX7_pass 39 = .ok (.putfield 166, 3) := by decide +kernel
theorem dX7_pass_42 : decode cX7_pass 42 = .ok (.iconst 0, 1) := by decide +kernel
theorem dX7_pass_43 : decode cX7_pass 43 = .ok (.istore_n 3, 1) := by decide +kernel
theorem dX7_pass_44 : decode cX7_pass 44 = .ok (.iload_n 3, 1) := by decide +kernel
theorem dX7_pass_45 : decode cX7_pass 45 = .ok (.aload_n 0, 1) := by decide +kernel
theorem dX7_pass_46 : decode cX7_pass 46 = .ok (.getfield 102, 3) := by decide +kernel
theorem dX7_pass_49 : decode cX7_pass 49 = .ok (.if_icmp .ge 23, 3) := by decide +kernel
theorem dX7_pass_52 : decode cX7_pass 52 = .ok (.aload_n 0, 1) := by decide +kernel
theorem dX7_pass_53 : decode cX7_pass 53 = .ok (.getfield 37, 3) := by decide +kernel
theorem dX7_pass_56 : decode cX7_pass 56 = .ok (.iload_n 3, 1) := by decide +kernel
theorem dX7_pass_57 : decode cX7_pass 57 = .ok (.iaload, 1) := by decide +kernel
theorem dX7_pass_58 : decode cX7_pass 58 = .ok (.ifCond .eq 8, 3) := by decide +kernel
theorem dX7_pass_61 : decode cX7_pass 61 = .ok (.aload_n 0, 1) := by decide +kernel
theorem dX7_pass_62 : decode cX7_pass 62 = .ok (.iload_n 3, 1) := by decide +kernel
theorem dX7_pass_63 : decode cX7_pass 63 = .ok (.invokevirtual 169, 3) := by decide +kernel
theorem dX7_pass_66 : decode cX7_pass 66 = .ok (.iinc 3 1, 3) := by decide +kernel
theorem dX7_pass_69 : decode cX7_pass 69 = .ok (.goto (-25), 3) := by decide +kernel
theorem dX7_pass_72 : decode cX7_pass 72 = .ok (.iconst 0, 1) := by decide +kernel
theorem dX7_pass_73 : decode cX7_pass 73 = .ok (.istore_n 3, 1) := by decide +kernel
theorem dX7_pass_74 : decode cX7_pass 74 = .ok (.iload_n 3, 1) := by decide +kernel
theorem dX7_pass_75 : decode cX7_pass 75 = .ok (.aload_n 0, 1) := by decide +kernel
theorem dX7_pass_76 : decode cX7_pass 76 = .ok (.getfield 105, 3) := by decide +kernel
theorem dX7_pass_79 : decode cX7_pass 79 = .ok (.if_icmp .ge 14, 3) := by decide +kernel
theorem dX7_pass_82 : decode cX7_pass 82 = .ok (.aload_n 0, 1) := by decide +kernel
theorem dX7_pass_83 : decode cX7_pass 83 = .ok (.iload_n 3, 1) := by decide +kernel
theorem dX7_pass_84 : decode cX7_pass 84 = .ok (.invokevirtual 172, 3) := by decide +kernel
theorem dX7_pass_87 : decode cX7_pass 87 = .ok (.iinc 3 1, 3) := by decide +kernel
theorem dX7_pass_90 : decode cX7_pass 90 = .ok (.goto (-16), 3) := by decide +kernel
theorem dX7_pass_93 : decode cX7_pass 93 = .ok (.iinc 2 1, 3) := by decide +kernel
theorem dX7_pass_96 : decode cX7_pass 96 = .ok (.goto (-69), 3) := by decide +kernel
theorem dX7_pass_99 : decode cX7_pass 99 = .ok (.aload_n 0, 1) := by decide +kernel
theorem dX7_pass_100 : decode cX7_pass 100 = .ok (.getfield 166, 3) := by decide +kernel
theorem dX7_pass_103 : decode cX7_pass 103 = .ok (.ireturn, 1) := by decide +kernel
theorem dX7_works_0 : decode cX7_works 0 = .ok (.aload_n 0, 1) := by decide +kernel
theorem dX7_works_1 : decode cX7_works 1 = .ok (.aload_n 0, 1) := by decide +kernel
theorem dX7_works_2 : decode cX7_works 2 = .ok (.iload_n 1, 1) := by decide +kernel
theorem dX7_works_3 : decode cX7_works 3 = .ok (.invokevirtual 98, 3) := by decide +kernel
theorem dX7_works_6 : decode cX7_works 6 = .ok (.ifCond .eq 7, 3) := by decide +kernel
theorem dX7_works_9 : decode cX7_works 9 = .ok (.iconst 0, 1) := by decide +kernel
theorem dX7_works_10 : decode cX7_works 10 = .ok (.goto 4, 3) := by decide +kernel
theorem dX7_works_13 : decode cX7_works 13 = .ok (.iconst 1, 1) := by decide +kernel
theorem dX7_works_14 : decode cX7_works 14 = .ok (.invokevirtual 108, 3) := by decide +kernel
theorem dX7_works_17 : decode cX7_works 17 = .ok (.ifCond .eq 15, 3) := by decide +kernel
theorem dX7_works_20 : decode cX7_works 20 = .ok (.aload_n 0, 1) := by decide +kernel
theorem dX7_works_21 : decode cX7_works 21 = .ok (.iload_n 1, 1) := by decide +kernel
theorem dX7_works_22 : decode cX7_works 22 = .ok (.invokevirtual 152, 3) := by decide +kernel
theorem dX7_works_25 : decode cX7_works 25 = .ok (.ifCond .eq 7, 3) := by decide +kernel
theorem dX7_works_28 : decode cX7_works 28 = .ok (.iconst 1, 1) := by decide +kernel
theorem dX7_works_29 : decode cX7_works 29 = .ok (.goto 4, 3) := by decide +kernel
theorem dX7_works_32 : decode cX7_works 32 = .ok (.iconst 0, 1) := by decide +kernel
theorem dX7_works_33 : decode cX7_works 33 = .ok (.ireturn, 1) := by decide +kernel
theorem dX7_faultAt_0 : decode cX7_faultAt 0 = .ok (.aload_n 0, 1) := by decide +kernel
theorem dX7_faultAt_1 : decode cX7_faultAt 1 = .ok (.iload_n 1, 1) := by decide +kernel
theorem dX7_faultAt_2 : decode cX7_faultAt 2 = .ok (.ifCond .lt 7, 3) := by decide +kernel
theorem dX7_faultAt_5 : decode cX7_faultAt 5 = .ok (.iconst 0, 1) := by decide +kernel
theorem dX7_faultAt_6 : decode cX7_faultAt 6 = .ok (.goto 4, 3) := by decide +kernel
theorem dX7_faultAt_9 : decode cX7_faultAt 9 = .ok (.iconst 1, 1) := by decide +kernel
theorem dX7_faultAt_10 : decode cX7_faultAt 10 = .ok (.invokevirtual 108, 3) := by decide +kernel
theorem dX7_faultAt_13 : decode cX7_faultAt 13 = .ok (.ifCond .ne 5, 3) := by decide +kernel
theorem dX7_faultAt_16 : decode cX7_faultAt 16 = .ok (.iconst 0, 1) := by decide +kernel
theorem dX7_faultAt_17 : decode cX7_faultAt 17 = .ok (.ireturn, 1) := by decide +kernel
theorem dX7_faultAt_18 : decode cX7_faultAt 18 = .ok (.iload_n 1, 1) := by decide +kernel
theorem dX7_faultAt_19 : decode cX7_faultAt 19 = .ok (.aload_n 0, 1) := by decide +kernel
theorem dX7_faultAt_20 : decode cX7_faultAt 20 = .ok (.getfield 114, 3) := by decide +kernel
theorem dX7_faultAt_23 : decode cX7_faultAt 23 = .ok (.if_icmp .ge 12, 3) := by decide +kernel
theorem dX7_faultAt_26 : decode cX7_faultAt 26 = .ok (.aload_n 0, 1) := by decide +kernel
theorem dX7_faultAt_27 : decode cX7_faultAt 27 = .ok (.getfield 31, 3) := by decide +kernel
theorem dX7_faultAt_30 : decode cX7_faultAt 30 = .ok (.iload_n 1, 1) := by decide +kernel
theorem dX7_faultAt_31 : decode cX7_faultAt 31 = .ok (.iaload, 1) := by decide +kernel
theorem dX7_faultAt_32 : decode cX7_faultAt 32 = .ok (.goto 4, 3) := by decide +kernel
theorem dX7_faultAt_35 : decode cX7_faultAt 35 = .ok (.iconst (-1), 1) := by decide +kernel
theorem dX7_faultAt_36 : decode cX7_faultAt 36 = .ok (.ireturn, 1) := by decide +kernel
theorem dX7_shipOf_0 : decode cX7_shipOf 0 = .ok (.aload_n 0, 1) := by decide +kernel
theorem dX7_shipOf_1 : decode cX7_shipOf 1 = .ok (.iload_n 1, 1) := by decide +kernel
theorem dX7_shipOf_2 : decode cX7_shipOf 2 = .ok (.invokevirtual 132, 3) := by decide +kernel
theorem dX7_shipOf_5 : decode cX7_shipOf 5 = .ok (.istore_n 3, 1) := by decide +kernel
theorem dX7_shipOf_6 : decode cX7_shipOf 6 = .ok (.aload_n 0, 1) := by decide +kernel
theorem dX7_shipOf_7 : decode cX7_shipOf 7 = .ok (.iload_n 3, 1) := by decide +kernel
theorem dX7_shipOf_8 : decode cX7_shipOf 8 = .ok (.ifCond .ne 7, 3) := by decide +kernel
theorem dX7_shipOf_11 : decode cX7_shipOf 11 = .ok (.iconst 1, 1) := by decide +kernel
theorem dX7_shipOf_12 : decode cX7_shipOf 12 = .ok (.goto 17, 3) := by decide +kernel
theorem dX7_shipOf_15 : decode cX7_shipOf 15 = .ok (.iload_n 2, 1) := by decide +kernel
theorem dX7_shipOf_16 : decode cX7_shipOf 16 = .ok (.iconst 0, 1) := by decide +kernel
theorem dX7_shipOf_17 : decode cX7_shipOf 17 = .ok (.iconst 4, 1) := by decide +kernel
theorem dX7_shipOf_18 : decode cX7_shipOf 18 = .ok (.invokestatic 91, 3) := by decide +kernel
theorem dX7_shipOf_21 : decode cX7_shipOf 21 = .ok (.ifCond .eq 7, 3) := by decide +kernel
theorem dX7_shipOf_24 : decode cX7_shipOf 24 = .ok (.iconst 0, 1) := by decide +kernel
theorem dX7_shipOf_25 : decode cX7_shipOf 25 = .ok (.goto 4, 3) := by decide +kernel
theorem dX7_shipOf_28 : decode cX7_shipOf 28 = .ok (.iconst 2, 1) := by decide +kernel
theorem dX7_shipOf_29 : decode cX7_shipOf 29 = .ok (.invokevirtual 108, 3) := by decide +kernel
theorem dX7_shipOf_32 : decode cX7_shipOf 32 = .ok (.ifCond .ne 5, 3) := by decide +kernel
theorem dX7_shipOf_35 : decode cX7_shipOf 35 = .ok (.iconst 0, 1) := by decide +kernel
theorem dX7_shipOf_36 : decode cX7_shipOf 36 = .ok (.ireturn, 1) := by decide +kernel
theorem dX7_shipOf_37 : decode cX7_shipOf 37 = .ok (.iload_n 2, 1) := by decide +kernel
theorem dX7_shipOf_38 : decode cX7_shipOf 38 = .ok (.ifCond .ne 12, 3) := by decide +kernel
theorem dX7_shipOf_41 : decode cX7_shipOf 41 = .ok (.aload_n 0, 1) := by decide +kernel
theorem dX7_shipOf_42 : decode cX7_shipOf 42 = .ok (.getfield 37, 3) := by decide +kernel
theorem dX7_shipOf_45 : decode cX7_shipOf 45 = .ok (.iload_n 1, 1) := by decide +kernel
theorem dX7_shipOf_46 : decode cX7_shipOf 46 = .ok (.iaload, 1) := by decide +kernel
theorem dX7_shipOf_47 : decode cX7_shipOf 47 = .ok (.goto 51, 3) := by decide +kernel
theorem dX7_shipOf_50 : decode cX7_shipOf 50 = .ok (.iload_n 2, 1) := by decide +kernel
theorem dX7_shipOf_51 : decode cX7_shipOf 51 = .ok (.iconst 1, 1) := by decide +kernel
theorem dX7_shipOf_52 : decode cX7_shipOf 52 = .ok (.if_icmp .ne 12, 3) := by decide +kernel
theorem dX7_shipOf_55 : decode cX7_shipOf 55 = .ok (.aload_n 0, 1) := by decide +kernel
theorem dX7_shipOf_56 : decode cX7_shipOf 56 = .ok (.getfield 40, 3) := by decide +kernel
theorem dX7_shipOf_59 : decode cX7_shipOf 59 = .ok (.iload_n 1, 1) := by decide +kernel
theorem dX7_shipOf_60 : decode cX7_shipOf 60 = .ok (.iaload, 1) := by decide +kernel
theorem dX7_shipOf_61 : decode cX7_shipOf 61 = .ok (.goto 37, 3) := by decide +kernel
theorem dX7_shipOf_64 : decode cX7_shipOf 64 = .ok (.iload_n 2, 1) := by decide +kernel
theorem dX7_shipOf_65 : decode cX7_shipOf 65 = .ok (.iconst 2, 1) := by decide +kernel
theorem dX7_shipOf_66 : decode cX7_shipOf 66 = .ok (.if_icmp .ne 12, 3) := by decide +kernel
theorem dX7_shipOf_69 : decode cX7_shipOf 69 = .ok (.aload_n 0, 1) := by decide +kernel
theorem dX7_shipOf_70 : decode cX7_shipOf 70 = .ok (.getfield 43, 3) := by decide +kernel
theorem dX7_shipOf_73 : decode cX7_shipOf 73 = .ok (.iload_n 1, 1) := by decide +kernel
theorem dX7_shipOf_74 : decode cX7_shipOf 74 = .ok (.iaload, 1) := by decide +kernel
theorem dX7_shipOf_75 : decode cX7_shipOf 75 = .ok (.goto 23, 3) := by decide +kernel
theorem dX7_shipOf_78 : decode cX7_shipOf 78 = .ok (.iload_n 2, 1) := by decide +kernel
theorem dX7_shipOf_79 : decode cX7_shipOf 79 = .ok (.iconst 3, 1) := by decide +kernel
theorem dX7_shipOf_80 : decode cX7_shipOf 80 = .ok (.if_icmp .ne 12, 3) := by decide +kernel
theorem dX7_shipOf_83 : decode cX7_shipOf 83 = .ok (.aload_n 0, 1) := by decide +kernel
theorem dX7_shipOf_84 : decode cX7_shipOf 84 = .ok (.getfield 46, 3) := by decide +kernel
theorem dX7_shipOf_87 : decode cX7_shipOf 87 = .ok (.iload_n 1, 1) := by decide +kernel
theorem dX7_shipOf_88 : decode cX7_shipOf 88 = .ok (.iaload, 1) := by decide +kernel
theorem dX7_shipOf_89 : decode cX7_shipOf 89 = .ok (.goto 9, 3) := by decide +kernel
theorem dX7_shipOf_92 : decode cX7_shipOf 92 = .ok (.aload_n 0, 1) := by decide +kernel
theorem dX7_shipOf_93 : decode cX7_shipOf 93 = .ok (.getfield 52, 3) := by decide +kernel
theorem dX7_shipOf_96 : decode cX7_shipOf 96 = .ok (.iload_n 1, 1) := by decide +kernel
theorem dX7_shipOf_97 : decode cX7_shipOf 97 = .ok (.iaload, 1) := by decide +kernel
theorem dX7_shipOf_98 : decode cX7_shipOf 98 = .ok (.ireturn, 1) := by decide +kernel
theorem dX7_way_0 : decode cX7_way 0 = .ok (.aload_n 0, 1) := by decide +kernel
theorem dX7_way_1 : decode cX7_way 1 = .ok (.aload_n 0, 1) := by decide +kernel
theorem dX7_way_2 : decode cX7_way 2 = .ok (.iload_n 1, 1) := by decide +kernel
theorem dX7_way_3 : decode cX7_way 3 = .ok (.invokevirtual 175, 3) := by decide +kernel
theorem dX7_way_6 : decode cX7_way 6 = .ok (.ifCond .eq 11, 3) := by decide +kernel
theorem dX7_way_9 : decode cX7_way 9 = .ok (.iload_n 2, 1) := by decide +kernel
theorem dX7_way_10 : decode cX7_way 10 = .ok (.ifCond .lt 7, 3) := by decide +kernel
theorem dX7_way_13 : decode cX7_way 13 = .ok (.iconst 0, 1) := by decide +kernel
theorem dX7_way_14 : decode cX7_way 14 = .ok (.goto 4, 3) := by decide +kernel
theorem dX7_way_17 : decode cX7_way 17 = .ok (.iconst 1, 1) := by decide +kernel
theorem dX7_way_18 : decode cX7_way 18 = .ok (.invokevirtual 108, 3) := by decide +kernel
theorem dX7_way_21 : decode cX7_way 21 = .ok (.ifCond .ne 5, 3) := by decide +kernel
theorem dX7_way_24 : decode cX7_way 24 = .ok (.iconst 0, 1) := by decide +kernel
theorem dX7_way_25 : decode cX7_way 25 = .ok (.ireturn, 1) := by decide +kernel
theorem dX7_way_26 : decode cX7_way 26 = .ok (.aload_n 0, 1) := by decide +kernel
theorem dX7_way_27 : decode cX7_way 27 = .ok (.aload_n 0, 1) := by decide +kernel
theorem dX7_way_28 : decode cX7_way 28 = .ok (.getfield 58, 3) := by decide +kernel
theorem dX7_way_31 : decode cX7_way 31 = .ok (.iload_n 1, 1) := by decide +kernel
theorem dX7_way_32 : decode cX7_way 32 = .ok (.iaload, 1) := by decide +kernel
theorem dX7_way_33 : decode cX7_way 33 = .ok (.invokevirtual 163, 3) := by decide +kernel
theorem dX7_way_36 : decode cX7_way 36 = .ok (.aload_n 0, 1) := by decide +kernel
theorem dX7_way_37 : decode cX7_way 37 = .ok (.getfield 55, 3) := by decide +kernel
theorem dX7_way_40 : decode cX7_way 40 = .ok (.iload_n 1, 1) := by decide +kernel
theorem dX7_way_41 : decode cX7_way 41 = .ok (.iaload, 1) := by decide +kernel
theorem dX7_way_42 : decode cX7_way 42 = .ok (.istore_n 3, 1) := by decide +kernel
theorem dX7_way_43 : decode cX7_way 43 = .ok (.aload_n 0, 1) := by decide +kernel
theorem dX7_way_44 : decode cX7_way 44 = .ok (.getfield 77, 3) := by decide +kernel
theorem dX7_way_47 : decode cX7_way 47 = .ok (.iload_n 3, 1) := by decide +kernel
theorem dX7_way_48 : decode cX7_way 48 = .ok (.laload, 1) := by decide +kernel
theorem dX7_way_49 : decode cX7_way 49 = .ok (.ldc2_w 150, 3) := by decide +kernel
theorem dX7_way_52 : decode cX7_way 52 = .ok (.lcmp, 1) := by decide +kernel
theorem dX7_way_53 : decode cX7_way 53 = .ok (.ifCond .lt 7, 3) := by decide +kernel
theorem dX7_way_56 : decode cX7_way 56 = .ok (.iconst (-1), 1) := by decide +kernel
theorem dX7_way_57 : decode cX7_way 57 = .ok (.goto 8, 3) := by decide +kernel
theorem dX7_way_60 : decode cX7_way 60 = .ok (.aload_n 0, 1) := by decide +kernel
theorem dX7_way_61 : decode cX7_way 61 = .ok (.iload_n 3, 1) := by decide +kernel
theorem dX7_way_62 : decode cX7_way 62 = .ok (.invokevirtual 178, 3) := by decide +kernel
theorem dX7_way_65 : decode cX7_way 65 = .ok (.istore 4, 2) := by decide +kernel
theorem dX7_way_67 : decode cX7_way 67 = .ok (.iconst 0, 1) := by decide +kernel
theorem dX7_way_68 : decode cX7_way 68 = .ok (.istore 5, 2) := by decide +kernel
theorem dX7_way_70 : decode cX7_way 70 = .ok (.iload 5, 2) := by decide +kernel
theorem dX7_way_72 : decode cX7_way 72 = .ok (.iload_n 2, 1) := by decide +kernel
theorem dX7_way_73 : decode cX7_way 73 = .ok (.if_icmp .ge 30, 3) := by decide +kernel
theorem dX7_way_76 : decode cX7_way 76 = .ok (.iload 4, 2) := by decide +kernel
theorem dX7_way_78 : decode cX7_way 78 = .ok (.iconst (-1), 1) := by decide +kernel
theorem dX7_way_79 : decode cX7_way 79 = .ok (.if_icmp .eq 24, 3) := by decide +kernel
theorem dX7_way_82 : decode cX7_way 82 = .ok (.aload_n 0, 1) := by decide +kernel
theorem dX7_way_83 : decode cX7_way 83 = .ok (.iload 4, 2) := by decide +kernel
theorem dX7_way_85 : decode cX7_way 85 = .ok (.iload_n 3, 1) := by decide +kernel
theorem dX7_way_86 : decode cX7_way 86 = .ok (.invokevirtual 159, 3) := by decide +kernel
theorem dX7_way_89 : decode cX7_way 89 = .ok (.istore_n 3, 1) := by decide +kernel
theorem dX7_way_90 : decode cX7_way 90 = .ok (.aload_n 0, 1) := by decide +kernel
theorem dX7_way_91 : decode cX7_way 91 = .ok (.iload_n 3, 1) := by decide +kernel
theorem dX7_way_92 : decode cX7_way 92 = .ok (.invokevirtual 178, 3) := by decide +kernel
theorem dX7_way_95 : decode cX7_way 95 = .ok (.istore 4, 2) := by decide +kernel
theorem dX7_way_97 : decode cX7_way 97 = .ok (.iinc 5 1, 3) := by decide +kernel
theorem dX7_way_100 : decode cX7_way 100 = .ok (.goto (-30), 3) := by decide +kernel
theorem dX7_way_103 : decode cX7_way 103 = .ok (.iload 4, 2) := by decide +kernel
theorem dX7_way_105 : decode cX7_way 105 = .ok (.ireturn, 1) := by decide +kernel
theorem dX7_sum_0 : decode cX7_sum 0 = .ok (.aload_n 0, 1) := by decide +kernel
theorem dX7_sum_1 : decode cX7_sum 1 = .ok (.iload_n 1, 1) := by decide +kernel
theorem dX7_sum_2 : decode cX7_sum 2 = .ok (.invokevirtual 175, 3) := by decide +kernel
theorem dX7_sum_5 : decode cX7_sum 5 = .ok (.istore_n 3, 1) := by decide +kernel
theorem dX7_sum_6 : decode cX7_sum 6 = .ok (.aload_n 0, 1) := by decide +kernel
theorem dX7_sum_7 : decode cX7_sum 7 = .ok (.iload_n 3, 1) := by decide +kernel
theorem dX7_sum_8 : decode cX7_sum 8 = .ok (.ifCond .ne 7, 3) := by decide +kernel
theorem dX7_sum_11 : decode cX7_sum 11 = .ok (.iconst 1, 1) := by decide +kernel
theorem dX7_sum_12 : decode cX7_sum 12 = .ok (.goto 17, 3) := by decide +kernel
theorem dX7_sum_15 : decode cX7_sum 15 = .ok (.iload_n 2, 1) := by decide +kernel
theorem dX7_sum_16 : decode cX7_sum 16 = .ok (.iconst 0, 1) := by decide +kernel
theorem dX7_sum_17 : decode cX7_sum 17 = .ok (.iconst 2, 1) := by decide +kernel
theorem dX7_sum_18 : decode cX7_sum 18 = .ok (.invokestatic 91, 3) := by decide +kernel
theorem dX7_sum_21 : decode cX7_sum 21 = .ok (.ifCond .eq 7, 3) := by decide +kernel
theorem dX7_sum_24 : decode cX7_sum 24 = .ok (.iconst 0, 1) := by decide +kernel
theorem dX7_sum_25 : decode cX7_sum 25 = .ok (.goto 4, 3) := by decide +kernel
theorem dX7_sum_28 : decode cX7_sum 28 = .ok (.iconst 2, 1) := by decide +kernel
theorem dX7_sum_29 : decode cX7_sum 29 = .ok (.invokevirtual 108, 3) := by decide +kernel
theorem dX7_sum_32 : decode cX7_sum 32 = .ok (.ifCond .ne 5, 3) := by decide +kernel
theorem dX7_sum_35 : decode cX7_sum 35 = .ok (.iconst 0, 1) := by decide +kernel
theorem dX7_sum_36 : decode cX7_sum 36 = .ok (.ireturn, 1) := by decide +kernel
theorem dX7_sum_37 : decode cX7_sum 37 = .ok (.aload_n 0, 1) := by decide +kernel
theorem dX7_sum_38 : decode cX7_sum 38 = .ok (.aload_n 0, 1) := by decide +kernel
theorem dX7_sum_39 : decode cX7_sum 39 = .ok (.getfield 58, 3) := by decide +kernel
theorem dX7_sum_42 : decode cX7_sum 42 = .ok (.iload_n 1, 1) := by decide +kernel
theorem dX7_sum_43 : decode cX7_sum 43 = .ok (.iaload, 1) := by decide +kernel
theorem dX7_sum_44 : decode cX7_sum 44 = .ok (.invokevirtual 163, 3) := by decide +kernel
theorem dX7_sum_47 : decode cX7_sum 47 = .ok (.aload_n 0, 1) := by decide +kernel
theorem dX7_sum_48 : decode cX7_sum 48 = .ok (.getfield 77, 3) := by decide +kernel
theorem dX7_sum_51 : decode cX7_sum 51 = .ok (.aload_n 0, 1) := by decide +kernel
theorem dX7_sum_52 : decode cX7_sum 52 = .ok (.getfield 55, 3) := by decide +kernel
theorem dX7_sum_55 : decode cX7_sum 55 = .ok (.iload_n 1, 1) := by decide +kernel
theorem dX7_sum_56 : decode cX7_sum 56 = .ok (.iaload, 1) := by decide +kernel
theorem dX7_sum_57 : decode cX7_sum 57 = .ok (.laload, 1) := by decide +kernel
theorem dX7_sum_58 : decode cX7_sum 58 = .ok (.lstore 4, 2) := by decide +kernel
theorem dX7_sum_60 : decode cX7_sum 60 = .ok (.lload 4, 2) := by decide +kernel
theorem dX7_sum_62 : decode cX7_sum 62 = .ok (.ldc2_w 150, 3) := by decide +kernel
theorem dX7_sum_65 : decode cX7_sum 65 = .ok (.lcmp, 1) := by decide +kernel
theorem dX7_sum_66 : decode cX7_sum 66 = .ok (.ifCond .lt 7, 3) := by decide +kernel
theorem dX7_sum_69 : decode cX7_sum 69 = .ok (.iconst (-1), 1) := by decide +kernel
theorem dX7_sum_70 : decode cX7_sum 70 = .ok (.goto 41, 3) := by decide +kernel
theorem dX7_sum_73 : decode cX7_sum 73 = .ok (.iload_n 2, 1) := by decide +kernel
theorem dX7_sum_74 : decode cX7_sum 74 = .ok (.ifCond .ne 12, 3) := by decide +kernel
theorem dX7_sum_77 : decode cX7_sum 77 = .ok (.lload 4, 2) := by decide +kernel
theorem dX7_sum_79 : decode cX7_sum 79 = .ok (.ldc2_w 146, 3) := by decide +kernel
theorem dX7_sum_82 : decode cX7_sum 82 = .ok (.ldiv, 1) := by decide +kernel
theorem dX7_sum_83 : decode cX7_sum 83 = .ok (.goto 27, 3) := by decide +kernel
theorem dX7_sum_86 : decode cX7_sum 86 = .ok (.iload_n 2, 1) := by decide +kernel
theorem dX7_sum_87 : decode cX7_sum 87 = .ok (.iconst 1, 1) := by decide +kernel
theorem dX7_sum_88 : decode cX7_sum 88 = .ok (.if_icmp .ne 16, 3) := by decide +kernel
theorem dX7_sum_91 : decode cX7_sum 91 = .ok (.lload 4, 2) := by decide +kernel
theorem dX7_sum_93 : decode cX7_sum 93 = .ok (.ldc2_w 146, 3) := by decide +kernel
theorem dX7_sum_96 : decode cX7_sum 96 = .ok (.lrem, 1) := by decide +kernel
theorem dX7_sum_97 : decode cX7_sum 97 = .ok (.ldc2_w 148, 3) := by decide +kernel
theorem dX7_sum_100 : decode cX7_sum 100 = .ok (.ldiv, 1) := by decide +kernel
theorem dX7_sum_101 : decode cX7_sum 101 = .ok (.goto 9, 3) := by decide +kernel
theorem dX7_sum_104 : decode cX7_sum 104 = .ok (.lload 4, 2) := by decide +kernel
theorem dX7_sum_106 : decode cX7_sum 106 = .ok (.ldc2_w 148, 3) := by decide +kernel
theorem dX7_sum_109 : decode cX7_sum 109 = .ok (.lrem, 1) := by decide +kernel
theorem dX7_sum_110 : decode cX7_sum 110 = .ok (.l2i, 1) := by decide +kernel
theorem dX7_sum_111 : decode cX7_sum 111 = .ok (.ireturn, 1) := by decide +kernel
theorem dX7_sumAnew_0 : decode cX7_sumAnew 0 = .ok (.aload_n 0, 1) := by decide +kernel
theorem dX7_sumAnew_1 : decode cX7_sumAnew 1 = .ok (.aload_n 0, 1) := by decide +kernel
theorem dX7_sumAnew_2 : decode cX7_sumAnew 2 = .ok (.iload_n 1, 1) := by decide +kernel
theorem dX7_sumAnew_3 : decode cX7_sumAnew 3 = .ok (.invokevirtual 175, 3) := by decide +kernel
theorem dX7_sumAnew_6 : decode cX7_sumAnew 6 = .ok (.ifCond .eq 7, 3) := by decide +kernel
theorem dX7_sumAnew_9 : decode cX7_sumAnew 9 = .ok (.iconst 0, 1) := by decide +kernel
theorem dX7_sumAnew_10 : decode cX7_sumAnew 10 = .ok (.goto 4, 3) := by decide +kernel
theorem dX7_sumAnew_13 : decode cX7_sumAnew 13 = .ok (.iconst 1, 1) := by decide +kernel
theorem dX7_sumAnew_14 : decode cX7_sumAnew 14 = .ok (.invokevirtual 108, 3) := by decide +kernel
theorem dX7_sumAnew_17 : decode cX7_sumAnew 17 = .ok (.ifCond .ne 5, 3) := by decide +kernel
theorem dX7_sumAnew_20 : decode cX7_sumAnew 20 = .ok (.iconst 0, 1) := by decide +kernel
theorem dX7_sumAnew_21 : decode cX7_sumAnew 21 = .ok (.ireturn, 1) := by decide +kernel
theorem dX7_sumAnew_22 : decode cX7_sumAnew 22 = .ok (.aload_n 0, 1) := by decide +kernel
theorem dX7_sumAnew_23 : decode cX7_sumAnew 23 = .ok (.aload_n 0, 1) := by decide +kernel
theorem dX7_sumAnew_24 : decode cX7_sumAnew 24 = .ok (.getfield 58, 3) := by decide +kernel
theorem dX7_sumAnew_27 : decode cX7_sumAnew 27 = .ok (.iload_n 1, 1) := by decide +kernel
theorem dX7_sumAnew_28 : decode cX7_sumAnew 28 = .ok (.iaload, 1) := by decide +kernel
theorem dX7_sumAnew_29 : decode cX7_sumAnew 29 = .ok (.invokevirtual 163, 3) := by decide +kernel
theorem dX7_sumAnew_32 : decode cX7_sumAnew 32 = .ok (.aload_n 0, 1) := by decide +kernel
theorem dX7_sumAnew_33 : decode cX7_sumAnew 33 = .ok (.getfield 77, 3) := by decide +kernel
theorem dX7_sumAnew_36 : decode cX7_sumAnew 36 = .ok (.aload_n 0, 1) := by decide +kernel
theorem dX7_sumAnew_37 : decode cX7_sumAnew 37 = .ok (.getfield 55, 3) := by decide +kernel
theorem dX7_sumAnew_40 : decode cX7_sumAnew 40 = .ok (.iload_n 1, 1) := by decide +kernel
theorem dX7_sumAnew_41 : decode cX7_sumAnew 41 = .ok (.iaload, 1) := by decide +kernel
theorem dX7_sumAnew_42 : decode cX7_sumAnew 42 = .ok (.laload, 1) := by decide +kernel
theorem dX7_sumAnew_43 : decode cX7_sumAnew 43 = .ok (.ldc2_w 150, 3) := by decide +kernel
theorem dX7_sumAnew_46 : decode cX7_sumAnew 46 = .ok (.lcmp, 1) := by decide +kernel
theorem dX7_sumAnew_47 : decode cX7_sumAnew 47 = .ok (.ifCond .lt 7, 3) := by decide +kernel
theorem dX7_sumAnew_50 : decode cX7_sumAnew 50 = .ok (.iconst (-1), 1) := by decide +kernel
theorem dX7_sumAnew_51 : decode cX7_sumAnew 51 = .ok (.goto 19, 3) := by decide +kernel
theorem dX7_sumAnew_54 : decode cX7_sumAnew 54 = .ok (.aload_n 0, 1) := by decide +kernel
theorem dX7_sumAnew_55 : decode cX7_sumAnew 55 = .ok (.getfield 77, 3) := by decide +kernel
theorem dX7_sumAnew_58 : decode cX7_sumAnew 58 = .ok (.aload_n 0, 1) := by decide +kernel
theorem dX7_sumAnew_59 : decode cX7_sumAnew 59 = .ok (.getfield 55, 3) := by decide +kernel
theorem dX7_sumAnew_62 : decode cX7_sumAnew 62 = .ok (.iload_n 1, 1) := by decide +kernel
theorem dX7_sumAnew_63 : decode cX7_sumAnew 63 = .ok (.iaload, 1) := by decide +kernel
theorem dX7_sumAnew_64 : decode cX7_sumAnew 64 = .ok (.laload, 1) := by decide +kernel
theorem dX7_sumAnew_65 : decode cX7_sumAnew 65 = .ok (.ldc2_w 146, 3) := by decide +kernel
theorem dX7_sumAnew_68 : decode cX7_sumAnew 68 = .ok (.ldiv, 1) := by decide +kernel
theorem dX7_sumAnew_69 : decode cX7_sumAnew 69 = .ok (.l2i, 1) := by decide +kernel
theorem dX7_sumAnew_70 : decode cX7_sumAnew 70 = .ok (.ireturn, 1) := by decide +kernel
theorem dX7_account_0 : decode cX7_account 0 = .ok (.aload_n 0, 1) := by decide +kernel
theorem dX7_account_1 : decode cX7_account 1 = .ok (.iload_n 1, 1) := by decide +kernel
theorem dX7_account_2 : decode cX7_account 2 = .ok (.invokevirtual 175, 3) := by decide +kernel
theorem dX7_account_5 : decode cX7_account 5 = .ok (.istore_n 3, 1) := by decide +kernel
theorem dX7_account_6 : decode cX7_account 6 = .ok (.aload_n 0, 1) := by decide +kernel
theorem dX7_account_7 : decode cX7_account 7 = .ok (.iload_n 3, 1) := by decide +kernel
theorem dX7_account_8 : decode cX7_account 8 = .ok (.ifCond .ne 7, 3) := by decide +kernel
theorem dX7_account_11 : decode cX7_account 11 = .ok (.iconst 1, 1) := by decide +kernel
theorem dX7_account_12 : decode cX7_account 12 = .ok (.goto 17, 3) := by decide +kernel
theorem dX7_account_15 : decode cX7_account 15 = .ok (.iload_n 2, 1) := by decide +kernel
theorem dX7_account_16 : decode cX7_account 16 = .ok (.iconst 0, 1) := by decide +kernel
theorem dX7_account_17 : decode cX7_account 17 = .ok (.iconst 3, 1) := by decide +kernel
theorem dX7_account_18 : decode cX7_account 18 = .ok (.invokestatic 91, 3) := by decide +kernel
theorem dX7_account_21 : decode cX7_account 21 = .ok (.ifCond .eq 7, 3) := by decide +kernel
theorem dX7_account_24 : decode cX7_account 24 = .ok (.iconst 0, 1) := by decide +kernel
theorem dX7_account_25 : decode cX7_account 25 = .ok (.goto 4, 3) := by decide +kernel
theorem dX7_account_28 : decode cX7_account 28 = .ok (.iconst 2, 1) := by decide +kernel
theorem dX7_account_29 : decode cX7_account 29 = .ok (.invokevirtual 108, 3) := by decide +kernel
theorem dX7_account_32 : decode cX7_account 32 = .ok (.ifCond .eq 16, 3) := by decide +kernel
theorem dX7_account_35 : decode cX7_account 35 = .ok (.aload_n 0, 1) := by decide +kernel
theorem dX7_account_36 : decode cX7_account 36 = .ok (.getfield 73, 3) := by decide +kernel
theorem dX7_account_39 : decode cX7_account 39 = .ok (.iconst 4, 1) := by decide +kernel
theorem dX7_account_40 : decode cX7_account 40 = .ok (.iload_n 1, 1) := by decide +kernel
theorem dX7_account_41 : decode cX7_account 41 = .ok (.imul, 1) := by decide +kernel
theorem dX7_account_42 : decode cX7_account 42 = .ok (.iload_n 2, 1) := by decide +kernel
theorem dX7_account_43 : decode cX7_account 43 = .ok (.iadd, 1) := by decide +kernel
theorem dX7_account_44 : decode cX7_account 44 = .ok (.laload, 1) := by decide +kernel
theorem dX7_account_45 : decode cX7_account 45 = .ok (.goto 4, 3) := by decide +kernel
theorem dX7_account_48 : decode cX7_account 48 = .ok (.lconst 0, 1) := by decide +kernel
theorem dX7_account_49 : decode cX7_account 49 = .ok (.lreturn, 1) := by decide +kernel
theorem dX7_reach_0 : decode cX7_reach 0 = .ok (.aload_n 0, 1) := by decide +kernel
theorem dX7_reach_1 : decode cX7_reach 1 = .ok (.aload_n 0, 1) := by decide +kernel
theorem dX7_reach_2 : decode cX7_reach 2 = .ok (.iload_n 1, 1) := by decide +kernel
theorem dX7_reach_3 : decode cX7_reach 3 = .ok (.invokevirtual 111, 3) := by decide +kernel
theorem dX7_reach_6 : decode cX7_reach 6 = .ok (.ifCond .eq 7, 3) := by decide +kernel
theorem dX7_reach_9 : decode cX7_reach 9 = .ok (.iconst 0, 1) := by decide +kernel
theorem dX7_reach_10 : decode cX7_reach 10 = .ok (.goto 4, 3) := by decide +kernel
theorem dX7_reach_13 : decode cX7_reach 13 = .ok (.iconst 1, 1) := by decide +kernel
theorem dX7_reach_14 : decode cX7_reach 14 = .ok (.invokevirtual 108, 3) := by decide +kernel
theorem dX7_reach_17 : decode cX7_reach 17 = .ok (.ifCond .ne 5, 3) := by decide +kernel
theorem dX7_reach_20 : decode cX7_reach 20 = .ok (.iconst 0, 1) := by decide +kernel
theorem dX7_reach_21 : decode cX7_reach 21 = .ok (.ireturn, 1) := by decide +kernel
theorem dX7_reach_22 : decode cX7_reach 22 = .ok (.aload_n 0, 1) := by decide +kernel
theorem dX7_reach_23 : decode cX7_reach 23 = .ok (.iload_n 1, 1) := by decide +kernel
theorem dX7_reach_24 : decode cX7_reach 24 = .ok (.invokevirtual 163, 3) := by decide +kernel
theorem dX7_reach_27 : decode cX7_reach 27 = .ok (.iconst 0, 1) := by decide +kernel
theorem dX7_reach_28 : decode cX7_reach 28 = .ok (.istore_n 2, 1) := by decide +kernel
theorem dX7_reach_29 : decode cX7_reach 29 = .ok (.iconst 0, 1) := by decide +kernel
theorem dX7_reach_30 : decode cX7_reach 30 = .ok (.istore_n 3, 1) := by decide +kernel
theorem dX7_reach_31 : decode cX7_reach 31 = .ok (.iload_n 3, 1) := by decide +kernel
theorem dX7_reach_32 : decode cX7_reach 32 = .ok (.aload_n 0, 1) := by decide +kernel
theorem dX7_reach_33 : decode cX7_reach 33 = .ok (.getfield 88, 3) := by decide +kernel
theorem dX7_reach_36 : decode cX7_reach 36 = .ok (.if_icmp .ge 32, 3) := by decide +kernel
theorem dX7_reach_39 : decode cX7_reach 39 = .ok (.iload_n 2, 1) := by decide +kernel
theorem dX7_reach_40 : decode cX7_reach 40 = .ok (.aload_n 0, 1) := by decide +kernel
theorem dX7_reach_41 : decode cX7_reach 41 = .ok (.getfield 77, 3) := by decide +kernel
theorem dX7_reach_44 : decode cX7_reach 44 = .ok (.iload_n 3, 1) := by decide +kernel
theorem dX7_reach_45 : decode cX7_reach 45 = .ok (.laload, 1) := by decide +kernel
theorem dX7_reach_46 : decode cX7_reach 46 = .ok (.ldc2_w 150, 3) := by decide +kernel
theorem dX7_reach_49 : decode cX7_reach 49 = .ok (.lcmp, 1) := by decide +kernel
theorem dX7_reach_50 : decode cX7_reach 50 = .ok (.ifCond .ge 9, 3) := by decide +kernel
theorem dX7_reach_53 : decode cX7_reach 53 = .ok (.iconst 1, 1) := by decide +kernel
theorem dX7_reach_54 : decode cX7_reach 54 = .ok (.iload_n 3, 1) := by decide +kernel
theorem dX7_reach_55 : decode cX7_reach 55 = .ok (.ishl, 1) := by decide +kernel
theorem dX7_reach_56 : decode cX7_reach 56 = .ok (.goto 4, 3) := by decide +kernel
theorem dX7_reach_59 : decode cX7_reach 59 = .ok (.iconst 0, 1) := by decide +kernel
theorem dX7_reach_60 : decode cX7_reach 60 = .ok (.ior, 1) := by decide +kernel
theorem dX7_reach_61 : decode cX7_reach 61 = .ok (.istore_n 2, 1) := by decide +kernel
theorem dX7_reach_62 : decode cX7_reach 62 = .ok (.iinc 3 1, 3) := by decide +kernel
theorem dX7_reach_65 : decode cX7_reach 65 = .ok (.goto (-34), 3) := by decide +kernel
theorem dX7_reach_68 : decode cX7_reach 68 = .ok (.iload_n 2, 1) := by decide +kernel
theorem dX7_reach_69 : decode cX7_reach 69 = .ok (.ireturn, 1) := by decide +kernel

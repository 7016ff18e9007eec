theorem dX2_lowestBestCable_20 : decode cX2_lowestBestCable 20 = .ok (.istore_n 3, 1) := by decide +kernel
theorem dX2_lowestBestCable_21 : decode cX2_lowestBestCable 21 = .ok (.iload_n 3, 1) := by decide +kernel
theorem dX2_lowestBestCable_22 : decode cX2_lowestBestCable 22 = .ok (.iconst (-1), 1) := by decide +kernel
theorem dX2_lowestBestCable_23 : decode cX2_lowestBestCable 23 = .ok (.if_icmp .eq 31, 3) := by decide +kernel
theorem dX2_lowestBestCable_26 : decode cX2_lowestBestCable 26 = .ok (.aload_n 0, 1) := by decide +kernel
theorem dX2_lowestBestCable_27 : decode cX2_lowestBestCable 27 = .ok (.getfield 28, 3) := by decide +kernel
theorem dX2_lowestBestCable_30 : decode cX2_lowestBestCable 30 = .ok (.iload_n 1, 1) := by decide +kernel
theorem dX2_lowestBestCable_31 : decode cX2_lowestBestCable 31 = .ok (.laload, 1) := by decide +kernel
theorem dX2_lowestBestCable_32 : decode cX2_lowestBestCable 32 = .ok (.aload_n 0, 1) := by decide +kernel
theorem dX2_lowestBestCable_33 : decode cX2_lowestBestCable 33 = .ok (.getfield 28, 3) := by decide +kernel
theorem dX2_lowestBestCable_36 : decode cX2_lowestBestCable 36 = .ok (.iload_n 3, 1) := by decide +kernel
theorem dX2_lowestBestCable_37 : decode cX2_lowestBestCable 37 = .ok (.laload, 1) := by decide +kernel
theorem dX2_lowestBestCable_38 : decode cX2_lowestBestCable 38 = .ok (.aload_n 0, 1) := by decide +kernel
theorem dX2_lowestBestCable_39 : decode cX2_lowestBestCable 39 = .ok (.getfield 11, 3) := by decide +kernel
theorem dX2_lowestBestCable_42 : decode cX2_lowestBestCable 42 = .ok (.iload_n 2, 1) := by decide +kernel
theorem dX2_lowestBestCable_43 : decode cX2_lowestBestCable 43 = .ok (.aaload, 1) := by decide +kernel
theorem dX2_lowestBestCable_44 : decode cX2_lowestBestCable 44 = .ok (.invokevirtual 79, 3) := by decide +kernel
theorem dX2_lowestBestCable_47 : decode cX2_lowestBestCable 47 = .ok (.ladd, 1) := by decide +kernel
theorem dX2_lowestBestCable_48 : decode cX2_lowestBestCable 48 = .ok (.lcmp, 1) := by decide +kernel
theorem dX2_lowestBestCable_49 : decode cX2_lowestBestCable 49 = .ok (.ifCond .ne 5, 3) := by decide +kernel
theorem dX2_lowestBestCable_52 : decode cX2_lowestBestCable 52 = .ok (.iload_n 2, 1) := by decide +kernel
theorem dX2_lowestBestCable_53 : decode cX2_lowestBestCable 53 = .ok (.ireturn, 1) := by decide +kernel
theorem dX2_lowestBestCable_54 : decode cX2_lowestBestCable 54 = .ok (.iinc 2 1, 3) := by decide +kernel
theorem dX2_lowestBestCable_57 : decode cX2_lowestBestCable 57 = .ok (.goto (-55), 3) := by decide +kernel
theorem dX2_lowestBestCable_60 : decode cX2_lowestBestCable 60 = .ok (.iconst (-1), 1) := by decide +kernel
theorem dX2_lowestBestCable_61 : decode cX2_lowestBestCable 61 = .ok (.ireturn, 1) := by decide +kernel
theorem dX2_priceByRounds_0 : decode cX2_priceByRounds 0 = .ok (.aload_n 0, 1) := by decide +kernel
theorem dX2_priceByRounds_1 : decode cX2_priceByRounds 1 = .ok (.getfield 32, 3) := by decide +kernel
theorem dX2_priceByRounds_4 : decode cX2_priceByRounds 4 = .ok (.iconst (-1), 1) := by decide +kernel
theorem dX2_priceByRounds_5 : decode cX2_priceByRounds 5 = .ok (.invokestatic 89, 3) := by decide +kernel
theorem dX2_priceByRounds_8 : decode cX2_priceByRounds 8 = .ok (.aload_n 0, 1) := by decide +kernel
theorem dX2_priceByRounds_9 : decode cX2_priceByRounds 9 = .ok (.getfield 32, 3) := by decide +kernel
theorem dX2_priceByRounds_12 : decode cX2_priceByRounds 12 = .ok (.iload_n 1, 1) := by decide +kernel
theorem dX2_priceByRounds_13 : decode cX2_priceByRounds 13 = .ok (.iconst 0, 1) := by decide +kernel
theorem dX2_priceByRounds_14 : decode cX2_priceByRounds 14 = .ok (.iastore, 1) := by decide +kernel
theorem dX2_priceByRounds_15 : decode cX2_priceByRounds 15 = .ok (.iconst 1, 1) := by decide +kernel
theorem dX2_priceByRounds_16 : decode cX2_priceByRounds 16 = .ok (.istore_n 3, 1) := by decide +kernel
theorem dX2_priceByRounds_17 : decode cX2_priceByRounds 17 = .ok (.iload_n 3, 1) := by decide +kernel
theorem dX2_priceByRounds_18 : decode cX2_priceByRounds 18 = .ok (.bipush 10, 2) := by decide +kernel
theorem dX2_priceByRounds_20 : decode cX2_priceByRounds 20 = .ok (.if_icmp .ge 108, 3) := by decide +kernel
theorem dX2_priceByRounds_23 : decode cX2_priceByRounds 23 = .ok (.iconst 0, 1) := by decide +kernel
theorem dX2_priceByRounds_24 : decode cX2_priceByRounds 24 = .ok (.istore 4, 2) := by decide +kernel
theorem dX2_priceByRounds_26 : decode cX2_priceByRounds 26 = .ok (.iload 4, 2) := by decide +kernel
theorem dX2_priceByRounds_28 : decode cX2_priceByRounds 28 = .ok (.aload_n 0, 1) := by decide +kernel
theorem dX2_priceByRounds_29 : decode cX2_priceByRounds 29 = .ok (.getfield 17, 3) := by decide +kernel
theorem dX2_priceByRounds_32 : decode cX2_priceByRounds 32 = .ok (.if_icmp .ge 90, 3) := by decide +kernel
theorem dX2_priceByRounds_35 : decode cX2_priceByRounds 35 = .ok (.aload_n 0, 1) := by decide +kernel
theorem dX2_priceByRounds_36 : decode cX2_priceByRounds 36 = .ok (.getfield 11, 3) := by decide +kernel
theorem dX2_priceByRounds_39 : decode cX2_priceByRounds 39 = .ok (.iload 4, 2) := by decide +kernel
theorem dX2_priceByRounds_41 : decode cX2_priceByRounds 41 = .ok (.aaload, 1) := by decide +kernel
theorem dX2_priceByRounds_42 : decode cX2_priceByRounds 42 = .ok (.invokevirtual 92, 3) := by decide +kernel
theorem dX2_priceByRounds_45 : decode cX2_priceByRounds 45 = .ok (.ifCond .eq 71, 3) := by decide +kernel
theorem dX2_priceByRounds_48 : decode cX2_priceByRounds 48 = .ok (.aload_n 0, 1) := by decide +kernel
theorem dX2_priceByRounds_49 : decode cX2_priceByRounds 49 = .ok (.aload_n 0, 1) := by decide +kernel
theorem dX2_priceByRounds_50 : decode cX2_priceByRounds 50 = .ok (.getfield 11, 3) := by decide +kernel
theorem dX2_priceByRounds_53 : decode cX2_priceByRounds 53 = .ok (.iload 4, 2) := by decide +kernel
theorem dX2_priceByRounds_55 : decode cX2_priceByRounds 55 = .ok (.aaload, 1) := by decide +kernel
theorem dX2_priceByRounds_56 : decode cX2_priceByRounds 56 = .ok (.getfield 96, 3) := by decide +kernel
theorem dX2_priceByRounds_59 : decode cX2_priceByRounds 59 = .ok (.aload_n 0, 1) := by decide +kernel
theorem dX2_priceByRounds_60 : decode cX2_priceByRounds 60 = .ok (.getfield 11, 3) := by decide +kernel
theorem dX2_priceByRounds_63 : decode cX2_priceByRounds 63 = .ok (.iload 4, 2) := by decide +kernel
theorem dX2_priceByRounds_65 : decode cX2_priceByRounds 65 = .ok (.aaload, 1) := by decide +kernel
theorem dX2_priceByRounds_66 : decode cX2_priceByRounds 66 = .ok (.getfield 99, 3) := by decide +kernel
theorem dX2_priceByRounds_69 : decode cX2_priceByRounds 69 = .ok (.aload_n 0, 1) := by decide +kernel
theorem dX2_priceByRounds_70 : decode cX2_priceByRounds 70 = .ok (.getfield 11, 3) := by decide +kernel
theorem dX2_priceByRounds_73 : decode cX2_priceByRounds 73 = .ok (.iload 4, 2) := by decide +kernel
theorem dX2_priceByRounds_75 : decode cX2_priceByRounds 75 = .ok (.aaload, 1) := by decide +kernel
theorem dX2_priceByRounds_76 : decode cX2_priceByRounds 76 = .ok (.getfield 102, 3) := by decide +kernel
theorem dX2_priceByRounds_79 : decode cX2_priceByRounds 79 = .ok (.invokevirtual 105, 3) := by decide +kernel
theorem dX2_priceByRounds_82 : decode cX2_priceByRounds 82 = .ok (.aload_n 0, 1) := by decide +kernel
theorem dX2_priceByRounds_83 : decode cX2_priceByRounds 83 = .ok (.aload_n 0, 1) := by decide +kernel
theorem dX2_priceByRounds_84 : decode cX2_priceByRounds 84 = .ok (.getfield 11, 3) := by decide +kernel
theorem dX2_priceByRounds_87 : decode cX2_priceByRounds 87 = .ok (.iload 4, 2) := by decide +kernel
theorem dX2_priceByRounds_89 : decode cX2_priceByRounds 89 = .ok (.aaload, 1) := by decide +kernel
theorem dX2_priceByRounds_90 : decode cX2_priceByRounds 90 = .ok (.getfield 99, 3) := by decide +kernel
theorem dX2_priceByRounds_93 : decode cX2_priceByRounds 93 = .ok (.aload_n 0, 1) := by decide +kernel
theorem dX2_priceByRounds_94 : decode cX2_priceByRounds 94 = .ok (.getfield 11, 3) := by decide +kernel
theorem dX2_priceByRounds_97 : decode cX2_priceByRounds 97 = .ok (.iload 4, 2) := by decide +kernel
theorem dX2_priceByRounds_99 : decode cX2_priceByRounds 99 = .ok (.aaload, 1) := by decide +kernel
theorem dX2_priceByRounds_100 : decode cX2_priceByRounds 100 = .ok (.getfield 96, 3) := by decide +kernel
theorem dX2_priceByRounds_103 : decode cX2_priceByRounds 103 = .ok (.aload_n 0, 1) := by decide +kernel
theorem dX2_priceByRounds_104 : decode cX2_priceByRounds 104 = .ok (.getfield 11, 3) := by decide +kernel
theorem dX2_priceByRounds_107 : decode cX2_priceByRounds 107 = .ok (.iload 4, 2) := by decide +kernel
theorem dX2_priceByRounds_109 : decode cX2_priceByRounds 109 = .ok (.aaload, 1) := by decide +kernel
theorem dX2_priceByRounds_110 : decode cX2_priceByRounds 110 = .ok (.getfield 102, 3) := by decide +kernel
theorem dX2_priceByRounds_113 : decode cX2_priceByRounds 113 = .ok (.invokevirtual 105, 3) := by decide +kernel
theorem dX2_priceByRounds_116 : decode cX2_priceByRounds 116 = .ok (.iinc 4 1, 3) := by decide +kernel
theorem dX2_priceByRounds_119 : decode cX2_priceByRounds 119 = .ok (.goto (-93), 3) := by decide +kernel
theorem dX2_priceByRounds_122 : decode cX2_priceByRounds 122 = .ok (.iinc 3 1, 3) := by decide +kernel
theorem dX2_priceByRounds_125 : decode cX2_priceByRounds 125 = .ok (.goto (-108), 3) := by decide +kernel
theorem dX2_priceByRounds_128 : decode cX2_priceByRounds 128 = .ok (.aload_n 0, 1) := by decide +kernel
theorem dX2_priceByRounds_129 : decode cX2_priceByRounds 129 = .ok (.getfield 32, 3) := by decide +kernel
theorem dX2_priceByRounds_132 : decode cX2_priceByRounds 132 = .ok (.iload_n 2, 1) := by decide +kernel
theorem dX2_priceByRounds_133 : decode cX2_priceByRounds 133 = .ok (.iaload, 1) := by decide +kernel
theorem dX2_priceByRounds_134 : decode cX2_priceByRounds 134 = .ok (.ireturn, 1) := by decide +kernel
theorem dX2_lowerSum_0 : decode cX2_lowerSum 0 = .ok (.aload_n 0, 1) := by decide +kernel
theorem dX2_lowerSum_1 : decode cX2_lowerSum 1 = .ok (.getfield 32, 3) := by decide +kernel
theorem dX2_lowerSum_4 : decode cX2_lowerSum 4 = .ok (.iload_n 1, 1) := by decide +kernel
theorem dX2_lowerSum_5 : decode cX2_lowerSum 5 = .ok (.iaload, 1) := by decide +kernel
theorem dX2_lowerSum_6 : decode cX2_lowerSum 6 = .ok (.iconst (-1), 1) := by decide +kernel
theorem dX2_lowerSum_7 : decode cX2_lowerSum 7 = .ok (.if_icmp .eq 44, 3) := by decide +kernel
theorem dX2_lowerSum_10 : decode cX2_lowerSum 10 = .ok (.aload_n 0, 1) := by decide +kernel
theorem dX2_lowerSum_11 : decode cX2_lowerSum 11 = .ok (.getfield 32, 3) := by decide +kernel
theorem dX2_lowerSum_14 : decode cX2_lowerSum 14 = .ok (.iload_n 2, 1) := by decide +kernel
theorem dX2_lowerSum_15 : decode cX2_lowerSum 15 = .ok (.iaload, 1) := by decide +kernel
theorem dX2_lowerSum_16 : decode cX2_lowerSum 16 = .ok (.iconst (-1), 1) := by decide +kernel
theorem dX2_lowerSum_17 : decode cX2_lowerSum 17 = .ok (.if_icmp .eq 20, 3) := by decide +kernel
theorem dX2_lowerSum_20 : decode cX2_lowerSum 20 = .ok (.aload_n 0, 1) := by decide +kernel
theorem dX2_lowerSum_21 : decode cX2_lowerSum 21 = .ok (.getfield 32, 3) := by decide +kernel
theorem dX2_lowerSum_24 : decode cX2_lowerSum 24 = .ok (.iload_n 1, 1) := by decide +kernel
theorem dX2_lowerSum_25 : decode cX2_lowerSum 25 = .ok (.iaload, 1) := by decide +kernel
theorem dX2_lowerSum_26 : decode cX2_lowerSum 26 = .ok (.iload_n 3, 1) := by decide +kernel
theorem dX2_lowerSum_27 : decode cX2_lowerSum 27 = .ok (.iadd, 1) := by decide +kernel
theorem dX2_lowerSum_28 : decode cX2_lowerSum 28 = .ok (.aload_n 0, 1) := by decide +kernel
theorem dX2_lowerSum_29 : decode cX2_lowerSum 29 = .ok (.getfield 32, 3) := by decide +kernel
theorem dX2_lowerSum_32 : decode cX2_lowerSum 32 = .ok (.iload_n 2, 1) := by decide +kernel
theorem dX2_lowerSum_33 : decode cX2_lowerSum 33 = .ok (.iaload, 1) := by decide +kernel
theorem dX2_lowerSum_34 : decode cX2_lowerSum 34 = .ok (.if_icmp .ge 17, 3) := by decide +kernel
theorem dX2_lowerSum_37 : decode cX2_lowerSum 37 = .ok (.aload_n 0, 1) := by decide +kernel
theorem dX2_lowerSum_38 : decode cX2_lowerSum 38 = .ok (.getfield 32, 3) := by decide +kernel
theorem dX2_lowerSum_41 : decode cX2_lowerSum 41 = .ok (.iload_n 2, 1) := by decide +kernel
theorem dX2_lowerSum_42 : decode cX2_lowerSum 42 = .ok (.aload_n 0, 1) := by decide +kernel
theorem dX2_lowerSum_43 : decode cX2_lowerSum 43 = .ok (.getfield 32, 3) := by decide +kernel
theorem dX2_lowerSum_46 : decode cX2_lowerSum 46 = .ok (.iload_n 1, 1) := by decide +kernel
theorem dX2_lowerSum_47 : decode cX2_lowerSum 47 = .ok (.iaload, 1) := by decide +kernel
theorem dX2_lowerSum_48 : decode cX2_lowerSum 48 = .ok (.iload_n 3, 1) := by decide +kernel
theorem dX2_lowerSum_49 : decode cX2_lowerSum 49 = .ok (.iadd, 1) := by decide +kernel
theorem dX2_lowerSum_50 : decode cX2_lowerSum 50 = .ok (.iastore, 1) := by decide +kernel
theorem dX2_lowerSum_51 : decode cX2_lowerSum 51 = .ok (.return_, 1) := by decide +kernel
theorem dX2_reachedFrom_0 : decode cX2_reachedFrom 0 = .ok (.iconst 1, 1) := by decide +kernel
theorem dX2_reachedFrom_1 : decode cX2_reachedFrom 1 = .ok (.iload_n 1, 1) := by decide +kernel
theorem dX2_reachedFrom_2 : decode cX2_reachedFrom 2 = .ok (.ishl, 1) := by decide +kernel
theorem dX2_reachedFrom_3 : decode cX2_reachedFrom 3 = .ok (.istore_n 2, 1) := by decide +kernel
theorem dX2_reachedFrom_4 : decode cX2_reachedFrom 4 = .ok (.iconst 1, 1) := by decide +kernel
theorem dX2_reachedFrom_5 : decode cX2_reachedFrom 5 = .ok (.istore_n 3, 1) := by decide +kernel
theorem dX2_reachedFrom_6 : decode cX2_reachedFrom 6 = .ok (.iload_n 3, 1) := by decide +kernel
theorem dX2_reachedFrom_7 : decode cX2_reachedFrom 7 = .ok (.bipush 10, 2) := by decide +kernel
theorem dX2_reachedFrom_9 : decode cX2_reachedFrom 9 = .ok (.if_icmp .ge 79, 3) := by decide +kernel
theorem dX2_reachedFrom_12 : decode cX2_reachedFrom 12 = .ok (.iconst 0, 1) := by decide +kernel
theorem dX2_reachedFrom_13 : decode cX2_reachedFrom 13 = .ok (.istore 4, 2) := by decide +kernel
theorem dX2_reachedFrom_15 : decode cX2_reachedFrom 15 = .ok (.iload 4, 2) := by decide +kernel
theorem dX2_reachedFrom_17 : decode cX2_reachedFrom 17 = .ok (.aload_n 0, 1) := by decide +kernel
theorem dX2_reachedFrom_18 : decode cX2_reachedFrom 18 = .ok (.getfield 17, 3) := by decide +kernel
theorem dX2_reachedFrom_21 : decode cX2_reachedFrom 21 = .ok (.if_icmp .ge 61, 3) := by decide +kernel
theorem dX2_reachedFrom_24 : decode cX2_reachedFrom 24 = .ok (.iconst 1, 1) := by decide +kernel
theorem dX2_reachedFrom_25 : decode cX2_reachedFrom 25 = .ok (.aload_n 0, 1) := by decide +kernel
theorem dX2_reachedFrom_26 : decode cX2_reachedFrom 26 = .ok (.getfield 11, 3) := by decide +kernel
theorem dX2_reachedFrom_29 : decode cX2_reachedFrom 29 = .ok (.iload 4, 2) := by decide +kernel
theorem dX2_reachedFrom_31 : decode cX2_reachedFrom 31 = .ok (.aaload, 1) := by decide +kernel
theorem dX2_reachedFrom_32 : decode cX2_reachedFrom 32 = .ok (.getfield 96, 3) := by decide +kernel
theorem dX2_reachedFrom_35 : decode cX2_reachedFrom 35 = .ok (.ishl, 1) := by decide +kernel
theorem dX2_reachedFrom_36 : decode cX2_reachedFrom 36 = .ok (.iconst 1, 1) := by decide +kernel
theorem dX2_reachedFrom_37 : decode cX2_reachedFrom 37 = .ok (.aload_n 0, 1) := by decide +kernel
theorem dX2_reachedFrom_38 : decode cX2_reachedFrom 38 = .ok (.getfield 11, 3) := by decide +kernel
theorem dX2_reachedFrom_41 : decode cX2_reachedFrom 41 = .ok (.iload 4, 2) := by decide +kernel
theorem dX2_reachedFrom_43 : decode cX2_reachedFrom 43 = .ok (.aaload, 1) := by decide +kernel
theorem dX2_reachedFrom_44 : decode cX2_reachedFrom 44 = .ok (.getfield 99, 3) := by decide +kernel
theorem dX2_reachedFrom_47 : decode cX2_reachedFrom 47 = .ok (.ishl, 1) := by decide +kernel
theorem dX2_reachedFrom_48 : decode cX2_reachedFrom 48 = .ok (.ior, 1) := by decide +kernel
theorem dX2_reachedFrom_49 : decode cX2_reachedFrom 49 = .ok (.istore 5, 2) := by decide +kernel
theorem dX2_reachedFrom_51 : decode cX2_reachedFrom 51 = .ok (.aload_n 0, 1) := by decide +kernel
theorem dX2_reachedFrom_52 : decode cX2_reachedFrom 52 = .ok (.getfield 11, 3) := by decide +kernel
theorem dX2_reachedFrom_55 : decode cX2_reachedFrom 55 = .ok (.iload 4, 2) := by decide +kernel
theorem dX2_reachedFrom_57 : decode cX2_reachedFrom 57 = .ok (.aaload, 1) := by decide +kernel
theorem dX2_reachedFrom_58 : decode cX2_reachedFrom 58 = .ok (.invokevirtual 92, 3) := by decide +kernel
theorem dX2_reachedFrom_61 : decode cX2_reachedFrom 61 = .ok (.ifCond .eq 15, 3) := by decide +kernel
theorem dX2_reachedFrom_64 : decode cX2_reachedFrom 64 = .ok (.iload_n 2, 1) := by decide +kernel
theorem dX2_reachedFrom_65 : decode cX2_reachedFrom 65 = .ok (.iload 5, 2) := by decide +kernel
theorem dX2_reachedFrom_67 : decode cX2_reachedFrom 67 = .ok (.iand, 1) := by decide +kernel
theorem dX2_reachedFrom_68 : decode cX2_reachedFrom 68 = .ok (.ifCond .eq 8, 3) := by decide +kernel
theorem dX2_reachedFrom_71 : decode cX2_reachedFrom 71 = .ok (.iload_n 2, 1) := by decide +kernel
theorem dX2_reachedFrom_72 : decode cX2_reachedFrom 72 = .ok (.iload 5, 2) := by decide +kernel
theorem dX2_reachedFrom_74 : decode cX2_reachedFrom 74 = .ok (.ior, 1) := by decide +kernel
theorem dX2_reachedFrom_75 : decode cX2_reachedFrom 75 = .ok (.istore_n 2, 1) := by decide +kernel
theorem dX2_reachedFrom_76 : decode cX2_reachedFrom 76 = .ok (.iinc 4 1, 3) := by decide +kernel
theorem dX2_reachedFrom_79 : decode cX2_reachedFrom 79 = .ok (.goto (-64), 3) := by decide +kernel
theorem dX2_reachedFrom_82 : decode cX2_reachedFrom 82 = .ok (.iinc 3 1, 3) := by decide +kernel
theorem dX2_reachedFrom_85 : decode cX2_reachedFrom 85 = .ok (.goto (-79), 3) := by decide +kernel
theorem dX2_reachedFrom_88 : decode cX2_reachedFrom 88 = .ok (.iload_n 2, 1) := by decide +kernel
theorem dX2_reachedFrom_89 : decode cX2_reachedFrom 89 = .ok (.ireturn, 1) := by decide +kernel
theorem dX3_init_0 : decode cX3_init 0 = .ok (.aload_n 0, 1) := by decide +kernel
theorem dX3_init_1 : decode cX3_init 1 = .ok (.invokespecial 3, 3) := by decide +kernel
theorem dX3_init_4 : decode cX3_init 4 = .ok (.aload_n 0, 1) := by decide +kernel
theorem dX3_init_5 : decode cX3_init 5 = .ok (.iconst 0, 1) := by decide +kernel
theorem dX3_init_6 : decode cX3_init 6 = .ok (.putfield 9, 3) := by decide +kernel
theorem dX3_init_9 : decode cX3_init 9 = .ok (.aload_n 0, 1) := by decide +kernel
theorem dX3_init_10 : decode cX3_init 10 = .ok (.iconst 0, 1) := by decide +kernel
theorem dX3_init_11 : decode cX3_init 11 = .ok (.putfield 15, 3) := by decide +kernel
theorem dX3_init_14 : decode cX3_init 14 = .ok (.aload_n 0, 1) := by decide +kernel
theorem dX3_init_15 : decode cX3_init 15 = .ok (.iconst (-1), 1) := by decide +kernel
theorem dX3_init_16 : decode cX3_init 16 = .ok (.putfield 18, 3) := by decide +kernel
theorem dX3_init_19 : decode cX3_init 19 = .ok (.aload_n 0, 1) := by decide +kernel
theorem dX3_init_20 : decode cX3_init 20 = .ok (.iconst (-1), 1) := by decide +kernel
theorem dX3_init_21 : decode cX3_init 21 = .ok (.putfield 21, 3) := by decide +kernel
theorem dX3_init_24 : decode cX3_init 24 = .ok (.aload_n 0, 1) := by decide +kernel
theorem dX3_init_25 : decode cX3_init 25 = .ok (.iconst 0, 1) := by decide +kernel
theorem dX3_init_26 : decode cX3_init 26 = .ok (.putfield 24, 3) := by decide +kernel
theorem dX3_init_29 : decode cX3_init 29 = .ok (.aload_n 0, 1) := by decide +kernel
theorem dX3_init_30 : decode cX3_init 30 = .ok (.iload_n 1, 1) := by decide +kernel
theorem dX3_init_31 : decode cX3_init 31 = .ok (.putfield 27, 3) := by decide +kernel
theorem dX3_init_34 : decode cX3_init 34 = .ok (.aload_n 0, 1) := by decide +kernel
theorem dX3_init_35 : decode cX3_init 35 = .ok (.iload_n 2, 1) := by decide +kernel
theorem dX3_init_36 : decode cX3_init 36 = .ok (.putfield 30, 3) := by decide +kernel
theorem dX3_init_39 : decode cX3_init 39 = .ok (.aload_n 0, 1) := by decide +kernel
theorem dX3_init_40 : decode cX3_init 40 = .ok (.iload_n 3, 1) := by decide +kernel
theorem dX3_init_41 : decode cX3_init 41 = .ok (.putfield 33, 3) := by decide +kernel
theorem dX3_init_44 : decode cX3_init 44 = .ok (.return_, 1) := by decide +kernel
theorem dX3_aimAt_0 : decode cX3_aimAt 0 = .ok (.aload_n 0, 1) := by decide +kernel
theorem dX3_aimAt_1 : decode cX3_aimAt 1 = .ok (.iload_n 1, 1) := by decide +kernel
theorem dX3_aimAt_2 : decode cX3_aimAt 2 = .ok (.putfield 18, 3) := by decide +kernel
theorem dX3_aimAt_5 : decode cX3_aimAt 5 = .ok (.aload_n 0, 1) := by decide +kernel
theorem dX3_aimAt_6 : decode cX3_aimAt 6 = .ok (.iload_n 2, 1) := by decide +kernel
theorem dX3_aimAt_7 : decode cX3_aimAt 7 = .ok (.putfield 21, 3) := by decide +kernel
theorem dX3_aimAt_10 : decode cX3_aimAt 10 = .ok (.return_, 1) := by decide +kernel
theorem dX3_begin_0 : decode cX3_begin 0 = .ok (.aload_n 0, 1) := by decide +kernel
theorem dX3_begin_1 : decode cX3_begin 1 = .ok (.iload_n 1, 1) := by decide +kernel
theorem dX3_begin_2 : decode cX3_begin 2 = .ok (.putfield 9, 3) := by decide +kernel
theorem dX3_begin_5 : decode cX3_begin 5 = .ok (.aload_n 0, 1) := by decide +kernel
theorem dX3_begin_6 : decode cX3_begin 6 = .ok (.iload_n 2, 1) := by decide +kernel
theorem dX3_begin_7 : decode cX3_begin 7 = .ok (.putfield 15, 3) := by decide +kernel
theorem dX3_begin_10 : decode cX3_begin 10 = .ok (.return_, 1) := by decide +kernel
theorem dX3_hoursTo_0 : decode cX3_hoursTo 0 = .ok (.iload_n 1, 1) := by decide +kernel
theorem dX3_hoursTo_1 : decode cX3_hoursTo 1 = .ok (.aload_n 0, 1) := by decide +kernel
theorem dX3_hoursTo_2 : decode cX3_hoursTo 2 = .ok (.getfield 27, 3) := by decide +kernel
theorem dX3_hoursTo_5 : decode cX3_hoursTo 5 = .ok (.isub, 1) := by decide +kernel
theorem dX3_hoursTo_6 : decode cX3_hoursTo 6 = .ok (.invokestatic 36, 3) := by decide +kernel
theorem dX3_hoursTo_9 : decode cX3_hoursTo 9 = .ok (.iload_n 2, 1) := by decide +kernel
theorem dX3_hoursTo_10 : decode cX3_hoursTo 10 = .ok (.aload_n 0, 1) := by decide +kernel
theorem dX3_hoursTo_11 : decode cX3_hoursTo 11 = .ok (.getfield 30, 3) := by decide +kernel
theorem dX3_hoursTo_14 : decode cX3_hoursTo 14 = .ok (.isub, 1) := by decide +kernel
theorem dX3_hoursTo_15 : decode cX3_hoursTo 15 = .ok (.invokestatic 36, 3) := by decide +kernel
theorem dX3_hoursTo_18 : decode cX3_hoursTo 18 = .ok (.iadd, 1) := by decide +kernel
theorem dX3_hoursTo_19 : decode cX3_hoursTo 19 = .ok (.istore_n 3, 1) := by decide +kernel
theorem dX3_hoursTo_20 : decode cX3_hoursTo 20 = .ok (.iload_n 3, 1) := by decide +kernel
theorem dX3_hoursTo_21 : decode cX3_hoursTo 21 = .ok (.aload_n 0, 1) := by decide +kernel
theorem dX3_hoursTo_22 : decode cX3_hoursTo 22 = .ok (.getfield 33, 3) := by decide +kernel
theorem dX3_hoursTo_25 : decode cX3_hoursTo 25 = .ok (.iadd, 1) := by decide +kernel
theorem dX3_hoursTo_26 : decode cX3_hoursTo 26 = .ok (.iconst 1, 1) := by decide +kernel
theorem dX3_hoursTo_27 : decode cX3_hoursTo 27 = .ok (.isub, 1) := by decide +kernel
theorem dX3_hoursTo_28 : decode cX3_hoursTo 28 = .ok (.aload_n 0, 1) := by decide +kernel
theorem dX3_hoursTo_29 : decode cX3_hoursTo 29 = .ok (.getfield 33, 3) := by decide +kernel
theorem dX3_hoursTo_32 : decode cX3_hoursTo 32 = .ok (.idiv, 1) := by decide +kernel
theorem dX3_hoursTo_33 : decode cX3_hoursTo 33 = .ok (.ireturn, 1) := by decide +kernel
theorem dX4_init_0 : decode cX4_init 0 = .ok (.aload_n 0, 1) := by decide +kernel
theorem dX4_init_1 : decode cX4_init 1 = .ok (.invokespecial 3, 3) := by decide +kernel
theorem dX4_init_4 : decode cX4_init 4 = .ok (.aload_n 0, 1) := by decide +kernel
theorem dX4_init_5 : decode cX4_init 5 = .ok (.new 9, 3) := by decide +kernel
theorem dX4_init_8 : decode cX4_init 8 = .ok (.dup, 1) := by decide +kernel
theorem dX4_init_9 : decode cX4_init 9 = .ok (.invokespecial 11, 3) := by decide +kernel
theorem dX4_init_12 : decode cX4_init 12 = .ok (.putfield 12, 3) := by decide +kernel
theorem dX4_init_15 : decode cX4_init 15 = .ok (.aload_n 0, 1) := by decide +kernel
theorem dX4_init_16 : decode cX4_init 16 = .ok (.lconst 0, 1) := by decide +kernel
theorem dX4_init_17 : decode cX4_init 17 = .ok (.putfield 18, 3) := by decide +kernel
theorem dX4_init_20 : decode cX4_init 20 = .ok (.aload_n 0, 1) := by decide +kernel
theorem dX4_init_21 : decode cX4_init 21 = .ok (.iconst 0, 1) := by decide +kernel
theorem dX4_init_22 : decode cX4_init 22 = .ok (.putfield 22, 3) := by decide +kernel
theorem dX4_init_25 : decode cX4_init 25 = .ok (.aload_n 0, 1) := by decide +kernel
theorem dX4_init_26 : decode cX4_init 26 = .ok (.iconst 0, 1) := by decide +kernel
theorem dX4_init_27 : decode cX4_init 27 = .ok (.putfield 26, 3) := by decide +kernel
theorem dX4_init_30 : decode cX4_init 30 = .ok (.aload_n 0, 1) := by decide +kernel
theorem dX4_init_31 : decode cX4_init 31 = .ok (.iconst 0, 1) := by decide +kernel
theorem dX4_init_32 : decode cX4_init 32 = .ok (.putfield 29, 3) := by decide +kernel
theorem dX4_init_35 : decode cX4_init 35 = .ok (.aload_n 0, 1) := by decide +kernel
theorem dX4_init_36 : decode cX4_init 36 = .ok (.iload_n 1, 1) := by decide +kernel
theorem dX4_init_37 : decode cX4_init 37 = .ok (.putfield 32, 3) := by decide +kernel
theorem dX4_init_40 : decode cX4_init 40 = .ok (.aload_n 0, 1) := by decide +kernel
theorem dX4_init_41 : decode cX4_init 41 = .ok (.iload_n 2, 1) := by decide +kernel
theorem dX4_init_42 : decode cX4_init 42 = .ok (.putfield 35, 3) := by decide +kernel
theorem dX4_init_45 : decode cX4_init 45 = .ok (.aload_n 0, 1) := by decide +kernel
theorem dX4_init_46 : decode cX4_init 46 = .ok (.iload_n 3, 1) := by decide +kernel
theorem dX4_init_47 : decode cX4_init 47 = .ok (.putfield 38, 3) := by decide +kernel
theorem dX4_init_50 : decode cX4_init 50 = .ok (.aload_n 0, 1) := by decide +kernel
theorem dX4_init_51 : decode cX4_init 51 = .ok (.iload 4, 2) := by decide +kernel
theorem dX4_init_53 : decode cX4_init 53 = .ok (.putfield 41, 3) := by decide +kernel
theorem dX4_init_56 : decode cX4_init 56 = .ok (.aload_n 0, 1) := by decide +kernel
theorem dX4_init_57 : decode cX4_init 57 = .ok (.iload 5, 2) := by decide +kernel
theorem dX4_init_59 : decode cX4_init 59 = .ok (.putfield 44, 3) := by decide +kernel
theorem dX4_init_62 : decode cX4_init 62 = .ok (.aload_n 0, 1) := by decide +kernel
theorem dX4_init_63 : decode cX4_init 63 = .ok (.iload 6, 2) := by decide +kernel
theorem dX4_init_65 : decode cX4_init 65 = .ok (.putfield 47, 3) := by decide +kernel
theorem dX4_init_68 : decode cX4_init 68 = .ok (.return_, 1) := by decide +kernel
theorem dX4_settleHour_0 : decode cX4_settleHour 0 = .ok (.aload_n 0, 1) := by decide +kernel
theorem dX4_settleHour_1 : decode cX4_settleHour 1 = .ok (.getfield 12, 3) := by decide +kernel
theorem dX4_settleHour_4 : decode cX4_settleHour 4 = .ok (.getfield 50, 3) := by decide +kernel
theorem dX4_settleHour_7 : decode cX4_settleHour 7 = .ok (.iconst (-1), 1) := by decide +kernel
theorem dX4_settleHour_8 : decode cX4_settleHour 8 = .ok (.if_icmp .ne 22, 3) := by decide +kernel
theorem dX4_settleHour_11 : decode cX4_settleHour 11 = .ok (.aload_n 0, 1) := by decide +kernel
theorem dX4_settleHour_12 : decode cX4_settleHour 12 = .ok (.dup, 1) := by decide +kernel
theorem dX4_settleHour_13 : decode cX4_settleHour 13 = .ok (.getfield 26, 3) := by decide +kernel
theorem dX4_settleHour_16 : decode cX4_settleHour 16 = .ok (.iconst 1, 1) := by decide +kernel
theorem dX4_settleHour_17 : decode cX4_settleHour 17 = .ok (.iadd, 1) := by decide +kernel
theorem dX4_settleHour_18 : decode cX4_settleHour 18 = .ok (.putfield 26, 3) := by decide +kernel
theorem dX4_settleHour_21 : decode cX4_settleHour 21 = .ok (.aload_n 0, 1) := by decide +kernel
theorem dX4_settleHour_22 : decode cX4_settleHour 22 = .ok (.aload_n 0, 1) := by decide +kernel
theorem dX4_settleHour_23 : decode cX4_settleHour 23 = .ok (.getfield 41, 3) := by decide +kernel
theorem dX4_settleHour_26 : decode cX4_settleHour 26 = .ok (.invokevirtual 53, 3) := by decide +kernel
theorem dX4_settleHour_29 : decode cX4_settleHour 29 = .ok (.return_, 1) := by decide +kernel
theorem dX4_settleHour_30 : decode cX4_settleHour 30 = .ok (.aload_n 0, 1) := by decide +kernel
theorem dX4_settleHour_31 : decode cX4_settleHour 31 = .ok (.dup, 1) := by decide +kernel
theorem dX4_settleHour_32 : decode cX4_settleHour 32 = .ok (.getfield 18, 3) := by decide +kernel
theorem dX4_settleHour_35 : decode cX4_settleHour 35 = .ok (.aload_n 0, 1) := by decide +kernel
theorem dX4_settleHour_36 : decode cX4_settleHour 36 = .ok (.getfield 12, 3) := by decide +kernel
theorem dX4_settleHour_39 : decode cX4_settleHour 39 = .ok (.getfield 57, 3) := by decide +kernel
theorem dX4_settleHour_42 : decode cX4_settleHour 42 = .ok (.i2l, 1) := by decide +kernel
theorem dX4_settleHour_43 : decode cX4_settleHour 43 = .ok (.ladd, 1) := by decide +kernel
theorem dX4_settleHour_44 : decode cX4_settleHour 44 = .ok (.putfield 18, 3) := by decide +kernel
theorem dX4_settleHour_47 : decode cX4_settleHour 47 = .ok (.aload_n 0, 1) := by decide +kernel
theorem dX4_settleHour_48 : decode cX4_settleHour 48 = .ok (.getfield 12, 3) := by decide +kernel
theorem dX4_settleHour_51 : decode cX4_settleHour 51 = .ok (.getfield 60, 3) := by decide +kernel
theorem dX4_settleHour_54 : decode cX4_settleHour 54 = .ok (.aload_n 0, 1) := by decide +kernel
theorem dX4_settleHour_55 : decode cX4_settleHour 55 = .ok (.getfield 38, 3) := by decide +kernel
theorem dX4_settleHour_58 : decode cX4_settleHour 58 = .ok (.if_icmp .le 21, 3) := by decide +kernel
theorem dX4_settleHour_61 : decode cX4_settleHour 61 = .ok (.aload_n 0, 1) := by decide +kernel
theorem dX4_settleHour_62 : decode cX4_settleHour 62 = .ok (.dup, 1) := by decide +kernel
theorem dX4_settleHour_63 : decode cX4_settleHour 63 = .ok (.getfield 29, 3) := by decide +kernel
theorem dX4_settleHour_66 : decode cX4_settleHour 66 = .ok (.iconst 1, 1) := by decide +kernel
theorem dX4_settleHour_67 : decode cX4_settleHour 67 = .ok (.iadd, 1) := by decide +kernel
theorem dX4_settleHour_68 : decode cX4_settleHour 68 = .ok (.putfield 29, 3) := by decide +kernel
theorem dX4_settleHour_71 : decode cX4_settleHour 71 = .ok (.aload_n 0, 1) := by decide +kernel
theorem dX4_settleHour_72 : decode cX4_settleHour 72 = .ok (.aload_n 0, 1) := by decide +kernel
theorem dX4_settleHour_73 : decode cX4_settleHour 73 = .ok (.getfield 44, 3) := by decide +kernel
theorem dX4_settleHour_76 : decode cX4_settleHour 76 = .ok (.invokevirtual 53, 3) := by decide +kernel
theorem dX4_settleHour_79 : decode cX4_settleHour 79 = .ok (.return_, 1) := by decide +kernel
theorem dX4_credit_0 : decode cX4_credit 0 = .ok (.aload_n 0, 1) := by decide +kernel
theorem dX4_credit_1 : decode cX4_credit 1 = .ok (.aload_n 0, 1) := by decide +kernel
theorem dX4_credit_2 : decode cX4_credit 2 = .ok (.getfield 47, 3) := by decide +kernel
theorem dX4_credit_5 : decode cX4_credit 5 = .ok (.aload_n 0, 1) := by decide +kernel
theorem dX4_credit_6 : decode cX4_credit 6 = .ok (.getfield 22, 3) := by decide +kernel
theorem dX4_credit_9 : decode cX4_credit 9 = .ok (.iload_n 1, 1) := by decide +kernel
theorem dX4_credit_10 : decode cX4_credit 10 = .ok (.iadd, 1) := by decide +kernel
theorem dX4_credit_11 : decode cX4_credit 11 = .ok (.invokestatic 63, 3) := by decide +kernel
theorem dX4_credit_14 : decode cX4_credit 14 = .ok (.putfield 22, 3) := by decide +kernel
theorem dX4_credit_17 : decode cX4_credit 17 = .ok (.return_, 1) := by decide +kernel
theorem dX5_init_0 : decode cX5_init 0 = .ok (.aload_n 0, 1) := by decide +kernel
theorem dX5_init_1 : decode cX5_init 1 = .ok (.invokespecial 3, 3) := by decide +kernel
theorem dX5_init_4 : decode cX5_init 4 = .ok (.aload_n 0, 1) := by decide +kernel
theorem dX5_init_5 : decode cX5_init 5 = .ok (.bipush 9, 2) := by decide +kernel
theorem dX5_init_7 : decode cX5_init 7 = .ok (.newarray .int, 2) := by decide +kernel
theorem dX5_init_9 : decode cX5_init 9 = .ok (.putfield 9, 3) := by decide +kernel
theorem dX5_init_12 : decode cX5_init 12 = .ok (.aload_n 0, 1) := by decide +kernel
theorem dX5_init_13 : decode cX5_init 13 = .ok (.iconst (-1), 1) := by decide +kernel
theorem dX5_init_14 : decode cX5_init 14 = .ok (.putfield 15, 3) := by decide +kernel
theorem dX5_init_17 : decode cX5_init 17 = .ok (.aload_n 0, 1) := by decide +kernel
theorem dX5_init_18 : decode cX5_init 18 = .ok (.iconst (-1), 1) := by decide +kernel
theorem dX5_init_19 : decode cX5_init 19 = .ok (.putfield 19, 3) := by decide +kernel
theorem dX5_init_22 : decode cX5_init 22 = .ok (.aload_n 0, 1) := by decide +kernel
theorem dX5_init_23 : decode cX5_init 23 = .ok (.iconst (-1), 1) := by decide +kernel
theorem dX5_init_24 : decode cX5_init 24 = .ok (.putfield 22, 3) := by decide +kernel
theorem dX5_init_27 : decode cX5_init 27 = .ok (.return_, 1) := by decide +kernel
theorem dX5_end_0 : decode cX5_end 0 = .ok (.aload_n 0, 1) := by decide +kernel
theorem dX5_end_1 : decode cX5_end 1 = .ok (.iconst (-1), 1) := by decide +kernel
theorem dX5_end_2 : decode cX5_end 2 = .ok (.putfield 15, 3) := by decide +kernel
theorem dX5_end_5 : decode cX5_end 5 = .ok (.aload_n 0, 1) := by decide +kernel
theorem dX5_end_6 : decode cX5_end 6 = .ok (.iconst (-1), 1) := by decide +kernel
theorem dX5_end_7 : decode cX5_end 7 = .ok (.putfield 19, 3) := by decide +kernel
theorem dX5_end_10 : decode cX5_end 10 = .ok (.aload_n 0, 1) := by decide +kernel
theorem dX5_end_11 : decode cX5_end 11 = .ok (.iconst (-1), 1) := by decide +kernel
theorem dX5_end_12 : decode cX5_end 12 = .ok (.putfield 22, 3) := by decide +kernel
theorem dX5_end_15 : decode cX5_end 15 = .ok (.return_, 1) := by decide +kernel
theorem dX5_start_0 : decode cX5_start 0 = .ok (.aload_n 0, 1) := by decide +kernel
theorem dX5_start_1 : decode cX5_start 1 = .ok (.iconst 0, 1) := by decide +kernel
theorem dX5_start_2 : decode cX5_start 2 = .ok (.putfield 15, 3) := by decide +kernel
theorem dX5_start_5 : decode cX5_start 5 = .ok (.aload_n 0, 1) := by decide +kernel
theorem dX5_start_6 : decode cX5_start 6 = .ok (.iconst 0, 1) := by decide +kernel
theorem dX5_start_7 : decode cX5_start 7 = .ok (.putfield 19, 3) := by decide +kernel
theorem dX5_start_10 : decode cX5_start 10 = .ok (.aload_n 0, 1) := by decide +kernel
theorem dX5_start_11 : decode cX5_start 11 = .ok (.iconst 0, 1) := by decide +kernel
theorem dX5_start_12 : decode cX5_start 12 = .ok (.putfield 22, 3) := by decide +kernel
theorem dX5_start_15 : decode cX5_start 15 = .ok (.return_, 1) := by decide +kernel
theorem dX5_add_0 : decode cX5_add 0 = .ok (.aload_n 0, 1) := by decide +kernel
theorem dX5_add_1 : decode cX5_add 1 = .ok (.getfield 15, 3) := by decide +kernel
theorem dX5_add_4 : decode cX5_add 4 = .ok (.ifCond .lt 15, 3) := by decide +kernel
theorem dX5_add_7 : decode cX5_add 7 = .ok (.aload_n 0, 1) := by decide +kernel
theorem dX5_add_8 : decode cX5_add 8 = .ok (.getfield 15, 3) := by decide +kernel
theorem dX5_add_11 : decode cX5_add 11 = .ok (.aload_n 0, 1) := by decide +kernel
theorem dX5_add_12 : decode cX5_add 12 = .ok (.getfield 9, 3) := by decide +kernel
theorem dX5_add_15 : decode cX5_add 15 = .ok (.arraylength, 1) := by decide +kernel
theorem dX5_add_16 : decode cX5_add 16 = .ok (.if_icmp .lt 4, 3) := by decide +kernel
theorem dX5_add_19 : decode cX5_add 19 = .ok (.return_, 1) := by decide +kernel
theorem dX5_add_20 : decode cX5_add 20 = .ok (.aload_n 0, 1) := by decide +kernel
theorem dX5_add_21 : decode cX5_add 21 = .ok (.getfield 9, 3) := by decide +kernel
theorem dX5_add_24 : decode cX5_add 24 = .ok (.aload_n 0, 1) := by decide +kernel
theorem dX5_add_25 : decode cX5_add 25 = .ok (.getfield 15, 3) := by decide +kernel
theorem dX5_add_28 : decode cX5_add 28 = .ok (.iload_n 1, 1) := by decide +kernel
theorem dX5_add_29 : decode cX5_add 29 = .ok (.iastore, 1) := by decide +kernel
theorem dX5_add_30 : decode cX5_add 30 = .ok (.aload_n 0, 1) := by decide +kernel
theorem dX5_add_31 : decode cX5_add 31 = .ok (.dup, 1) := by decide +kernel
theorem dX5_add_32 : decode cX5_add 32 = .ok (.getfield 15, 3) := by decide +kernel
theorem dX5_add_35 : decode cX5_add 35 = .ok (.iconst 1, 1) := by decide +kernel
theorem dX5_add_36 : decode cX5_add 36 = .ok (.iadd, 1) := by decide +kernel
theorem dX5_add_37 : decode cX5_add 37 = .ok (.putfield 15, 3) := by decide +kernel
theorem dX5_add_40 : decode cX5_add 40 = .ok (.aload_n 0, 1) := by decide +kernel
theorem dX5_add_41 : decode cX5_add 41 = .ok (.dup, 1) := by decide +kernel
theorem dX5_add_42 : decode cX5_add 42 = .ok (.getfield 19, 3) := by decide +kernel
theorem dX5_add_45 : decode cX5_add 45 = .ok (.aload_n 2, 1) := by decide +kernel
theorem dX5_add_46 : decode cX5_add 46 = .ok (.getfield 25, 3) := by decide +kernel
theorem dX5_add_49 : decode cX5_add 49 = .ok (.iadd, 1) := by decide +kernel
theorem dX5_add_50 : decode cX5_add 50 = .ok (.putfield 19, 3) := by decide +kernel
theorem dX5_add_53 : decode cX5_add 53 = .ok (.aload_n 0, 1) := by decide +kernel
theorem dX5_add_54 : decode cX5_add 54 = .ok (.dup, 1) := by decide +kernel

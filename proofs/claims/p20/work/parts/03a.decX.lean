theorem dX0_init_0 : decode cX0_init 0 = .ok (.aload_n 0, 1) := by decide +kernel
theorem dX0_init_1 : decode cX0_init 1 = .ok (.invokespecial 3, 3) := by decide +kernel
theorem dX0_init_4 : decode cX0_init 4 = .ok (.aload_n 0, 1) := by decide +kernel
theorem dX0_init_5 : decode cX0_init 5 = .ok (.iconst 0, 1) := by decide +kernel
theorem dX0_init_6 : decode cX0_init 6 = .ok (.putfield 9, 3) := by decide +kernel
theorem dX0_init_9 : decode cX0_init 9 = .ok (.aload_n 0, 1) := by decide +kernel
theorem dX0_init_10 : decode cX0_init 10 = .ok (.iload_n 1, 1) := by decide +kernel
theorem dX0_init_11 : decode cX0_init 11 = .ok (.putfield 15, 3) := by decide +kernel
theorem dX0_init_14 : decode cX0_init 14 = .ok (.aload_n 0, 1) := by decide +kernel
theorem dX0_init_15 : decode cX0_init 15 = .ok (.iload_n 2, 1) := by decide +kernel
theorem dX0_init_16 : decode cX0_init 16 = .ok (.putfield 18, 3) := by decide +kernel
theorem dX0_init_19 : decode cX0_init 19 = .ok (.aload_n 0, 1) := by decide +kernel
theorem dX0_init_20 : decode cX0_init 20 = .ok (.iload_n 3, 1) := by decide +kernel
theorem dX0_init_21 : decode cX0_init 21 = .ok (.putfield 21, 3) := by decide +kernel
theorem dX0_init_24 : decode cX0_init 24 = .ok (.aload_n 0, 1) := by decide +kernel
theorem dX0_init_25 : decode cX0_init 25 = .ok (.iload 4, 2) := by decide +kernel
theorem dX0_init_27 : decode cX0_init 27 = .ok (.putfield 24, 3) := by decide +kernel
theorem dX0_init_30 : decode cX0_init 30 = .ok (.aload_n 0, 1) := by decide +kernel
theorem dX0_init_31 : decode cX0_init 31 = .ok (.iload 5, 2) := by decide +kernel
theorem dX0_init_33 : decode cX0_init 33 = .ok (.putfield 27, 3) := by decide +kernel
theorem dX0_init_36 : decode cX0_init 36 = .ok (.return_, 1) := by decide +kernel
theorem dX0_isWorking_0 : decode cX0_isWorking 0 = .ok (.aload_n 0, 1) := by decide +kernel
theorem dX0_isWorking_1 : decode cX0_isWorking 1 = .ok (.getfield 9, 3) := by decide +kernel
theorem dX0_isWorking_4 : decode cX0_isWorking 4 = .ok (.ifCond .ne 7, 3) := by decide +kernel
theorem dX0_isWorking_7 : decode cX0_isWorking 7 = .ok (.iconst 1, 1) := by decide +kernel
theorem dX0_isWorking_8 : decode cX0_isWorking 8 = .ok (.goto 4, 3) := by decide +kernel
theorem dX0_isWorking_11 : decode cX0_isWorking 11 = .ok (.iconst 0, 1) := by decide +kernel
theorem dX0_isWorking_12 : decode cX0_isWorking 12 = .ok (.ireturn, 1) := by decide +kernel
theorem dX0_hasFaultAt_0 : decode cX0_hasFaultAt 0 = .ok (.aload_n 0, 1) := by decide +kernel
theorem dX0_hasFaultAt_1 : decode cX0_hasFaultAt 1 = .ok (.getfield 9, 3) := by decide +kernel
theorem dX0_hasFaultAt_4 : decode cX0_hasFaultAt 4 = .ok (.iload_n 1, 1) := by decide +kernel
theorem dX0_hasFaultAt_5 : decode cX0_hasFaultAt 5 = .ok (.ishr, 1) := by decide +kernel
theorem dX0_hasFaultAt_6 : decode cX0_hasFaultAt 6 = .ok (.iconst 1, 1) := by decide +kernel
theorem dX0_hasFaultAt_7 : decode cX0_hasFaultAt 7 = .ok (.iand, 1) := by decide +kernel
theorem dX0_hasFaultAt_8 : decode cX0_hasFaultAt 8 = .ok (.ifCond .eq 7, 3) := by decide +kernel
theorem dX0_hasFaultAt_11 : decode cX0_hasFaultAt 11 = .ok (.iconst 1, 1) := by decide +kernel
theorem dX0_hasFaultAt_12 : decode cX0_hasFaultAt 12 = .ok (.goto 4, 3) := by decide +kernel
theorem dX0_hasFaultAt_15 : decode cX0_hasFaultAt 15 = .ok (.iconst 0, 1) := by decide +kernel
theorem dX0_hasFaultAt_16 : decode cX0_hasFaultAt 16 = .ok (.ireturn, 1) := by decide +kernel
theorem dX0_leadsTo_0 : decode cX0_leadsTo 0 = .ok (.aload_n 0, 1) := by decide +kernel
theorem dX0_leadsTo_1 : decode cX0_leadsTo 1 = .ok (.getfield 9, 3) := by decide +kernel
theorem dX0_leadsTo_4 : decode cX0_leadsTo 4 = .ok (.ifCond .eq 5, 3) := by decide +kernel
theorem dX0_leadsTo_7 : decode cX0_leadsTo 7 = .ok (.iconst (-1), 1) := by decide +kernel
theorem dX0_leadsTo_8 : decode cX0_leadsTo 8 = .ok (.ireturn, 1) := by decide +kernel
theorem dX0_leadsTo_9 : decode cX0_leadsTo 9 = .ok (.iload_n 1, 1) := by decide +kernel
theorem dX0_leadsTo_10 : decode cX0_leadsTo 10 = .ok (.aload_n 0, 1) := by decide +kernel
theorem dX0_leadsTo_11 : decode cX0_leadsTo 11 = .ok (.getfield 15, 3) := by decide +kernel
theorem dX0_leadsTo_14 : decode cX0_leadsTo 14 = .ok (.if_icmp .ne 8, 3) := by decide +kernel
theorem dX0_leadsTo_17 : decode cX0_leadsTo 17 = .ok (.aload_n 0, 1) := by decide +kernel
theorem dX0_leadsTo_18 : decode cX0_leadsTo 18 = .ok (.getfield 18, 3) := by decide +kernel
theorem dX0_leadsTo_21 : decode cX0_leadsTo 21 = .ok (.ireturn, 1) := by decide +kernel
theorem dX0_leadsTo_22 : decode cX0_leadsTo 22 = .ok (.iload_n 1, 1) := by decide +kernel
theorem dX0_leadsTo_23 : decode cX0_leadsTo 23 = .ok (.aload_n 0, 1) := by decide +kernel
theorem dX0_leadsTo_24 : decode cX0_leadsTo 24 = .ok (.getfield 18, 3) := by decide +kernel
theorem dX0_leadsTo_27 : decode cX0_leadsTo 27 = .ok (.if_icmp .ne 10, 3) := by decide +kernel
theorem dX0_leadsTo_30 : decode cX0_leadsTo 30 = .ok (.aload_n 0, 1) := by decide +kernel
theorem dX0_leadsTo_31 : decode cX0_leadsTo 31 = .ok (.getfield 15, 3) := by decide +kernel
theorem dX0_leadsTo_34 : decode cX0_leadsTo 34 = .ok (.goto 4, 3) := by decide +kernel
theorem dX0_leadsTo_37 : decode cX0_leadsTo 37 = .ok (.iconst (-1), 1) := by decide +kernel
theorem dX0_leadsTo_38 : decode cX0_leadsTo 38 = .ok (.ireturn, 1) := by decide +kernel
theorem dX0_placeOfSpan_0 : decode cX0_placeOfSpan 0 = .ok (.iload_n 2, 1) := by decide +kernel
theorem dX0_placeOfSpan_1 : decode cX0_placeOfSpan 1 = .ok (.iconst 2, 1) := by decide +kernel
theorem dX0_placeOfSpan_2 : decode cX0_placeOfSpan 2 = .ok (.iload_n 1, 1) := by decide +kernel
theorem dX0_placeOfSpan_3 : decode cX0_placeOfSpan 3 = .ok (.imul, 1) := by decide +kernel
theorem dX0_placeOfSpan_4 : decode cX0_placeOfSpan 4 = .ok (.iconst 1, 1) := by decide +kernel
theorem dX0_placeOfSpan_5 : decode cX0_placeOfSpan 5 = .ok (.iadd, 1) := by decide +kernel
theorem dX0_placeOfSpan_6 : decode cX0_placeOfSpan 6 = .ok (.iload_n 3, 1) := by decide +kernel
theorem dX0_placeOfSpan_7 : decode cX0_placeOfSpan 7 = .ok (.iload_n 2, 1) := by decide +kernel
theorem dX0_placeOfSpan_8 : decode cX0_placeOfSpan 8 = .ok (.isub, 1) := by decide +kernel
theorem dX0_placeOfSpan_9 : decode cX0_placeOfSpan 9 = .ok (.imul, 1) := by decide +kernel
theorem dX0_placeOfSpan_10 : decode cX0_placeOfSpan 10 = .ok (.iconst 2, 1) := by decide +kernel
theorem dX0_placeOfSpan_11 : decode cX0_placeOfSpan 11 = .ok (.aload_n 0, 1) := by decide +kernel
theorem dX0_placeOfSpan_12 : decode cX0_placeOfSpan 12 = .ok (.getfield 21, 3) := by decide +kernel
theorem dX0_placeOfSpan_15 : decode cX0_placeOfSpan 15 = .ok (.imul, 1) := by decide +kernel
theorem dX0_placeOfSpan_16 : decode cX0_placeOfSpan 16 = .ok (.idiv, 1) := by decide +kernel
theorem dX0_placeOfSpan_17 : decode cX0_placeOfSpan 17 = .ok (.iadd, 1) := by decide +kernel
theorem dX0_placeOfSpan_18 : decode cX0_placeOfSpan 18 = .ok (.ireturn, 1) := by decide +kernel
theorem dX0_cost_0 : decode cX0_cost 0 = .ok (.aload_n 0, 1) := by decide +kernel
theorem dX0_cost_1 : decode cX0_cost 1 = .ok (.getfield 27, 3) := by decide +kernel
theorem dX0_cost_4 : decode cX0_cost 4 = .ok (.i2l, 1) := by decide +kernel
theorem dX0_cost_5 : decode cX0_cost 5 = .ok (.bipush 17, 2) := by decide +kernel
theorem dX0_cost_7 : decode cX0_cost 7 = .ok (.lshl, 1) := by decide +kernel
theorem dX0_cost_8 : decode cX0_cost 8 = .ok (.aload_n 0, 1) := by decide +kernel
theorem dX0_cost_9 : decode cX0_cost 9 = .ok (.getfield 24, 3) := by decide +kernel
theorem dX0_cost_12 : decode cX0_cost 12 = .ok (.i2l, 1) := by decide +kernel
theorem dX0_cost_13 : decode cX0_cost 13 = .ok (.iconst 4, 1) := by decide +kernel
theorem dX0_cost_14 : decode cX0_cost 14 = .ok (.lshl, 1) := by decide +kernel
theorem dX0_cost_15 : decode cX0_cost 15 = .ok (.ladd, 1) := by decide +kernel
theorem dX0_cost_16 : decode cX0_cost 16 = .ok (.lconst 1, 1) := by decide +kernel
theorem dX0_cost_17 : decode cX0_cost 17 = .ok (.ladd, 1) := by decide +kernel
theorem dX0_cost_18 : decode cX0_cost 18 = .ok (.lreturn, 1) := by decide +kernel
theorem dX1_init_0 : decode cX1_init 0 = .ok (.aload_n 0, 1) := by decide +kernel
theorem dX1_init_1 : decode cX1_init 1 = .ok (.invokespecial 1, 3) := by decide +kernel
theorem dX1_init_4 : decode cX1_init 4 = .ok (.aload_n 0, 1) := by decide +kernel
theorem dX1_init_5 : decode cX1_init 5 = .ok (.iload_n 1, 1) := by decide +kernel
theorem dX1_init_6 : decode cX1_init 6 = .ok (.putfield 7, 3) := by decide +kernel
theorem dX1_init_9 : decode cX1_init 9 = .ok (.aload_n 0, 1) := by decide +kernel
theorem dX1_init_10 : decode cX1_init 10 = .ok (.iload_n 2, 1) := by decide +kernel
theorem dX1_init_11 : decode cX1_init 11 = .ok (.putfield 13, 3) := by decide +kernel
theorem dX1_init_14 : decode cX1_init 14 = .ok (.return_, 1) := by decide +kernel
theorem dX2_init_0 : decode cX2_init 0 = .ok (.aload_n 0, 1) := by decide +kernel
theorem dX2_init_1 : decode cX2_init 1 = .ok (.invokespecial 3, 3) := by decide +kernel
theorem dX2_init_4 : decode cX2_init 4 = .ok (.aload_n 0, 1) := by decide +kernel
theorem dX2_init_5 : decode cX2_init 5 = .ok (.bipush 16, 2) := by decide +kernel
theorem dX2_init_7 : decode cX2_init 7 = .ok (.anewarray 9, 3) := by decide +kernel
theorem dX2_init_10 : decode cX2_init 10 = .ok (.putfield 11, 3) := by decide +kernel
theorem dX2_init_13 : decode cX2_init 13 = .ok (.aload_n 0, 1) := by decide +kernel
theorem dX2_init_14 : decode cX2_init 14 = .ok (.iconst 0, 1) := by decide +kernel
theorem dX2_init_15 : decode cX2_init 15 = .ok (.putfield 17, 3) := by decide +kernel
theorem dX2_init_18 : decode cX2_init 18 = .ok (.aload_n 0, 1) := by decide +kernel
theorem dX2_init_19 : decode cX2_init 19 = .ok (.sipush 128, 3) := by decide +kernel
theorem dX2_init_22 : decode cX2_init 22 = .ok (.newarray .int, 2) := by decide +kernel
theorem dX2_init_24 : decode cX2_init 24 = .ok (.putfield 21, 3) := by decide +kernel
theorem dX2_init_27 : decode cX2_init 27 = .ok (.aload_n 0, 1) := by decide +kernel
theorem dX2_init_28 : decode cX2_init 28 = .ok (.iconst 0, 1) := by decide +kernel
theorem dX2_init_29 : decode cX2_init 29 = .ok (.putfield 25, 3) := by decide +kernel
theorem dX2_init_32 : decode cX2_init 32 = .ok (.aload_n 0, 1) := by decide +kernel
theorem dX2_init_33 : decode cX2_init 33 = .ok (.bipush 10, 2) := by decide +kernel
theorem dX2_init_35 : decode cX2_init 35 = .ok (.newarray .long, 2) := by decide +kernel
theorem dX2_init_37 : decode cX2_init 37 = .ok (.putfield 28, 3) := by decide +kernel
theorem dX2_init_40 : decode cX2_init 40 = .ok (.aload_n 0, 1) := by decide +kernel
theorem dX2_init_41 : decode cX2_init 41 = .ok (.bipush 10, 2) := by decide +kernel
theorem dX2_init_43 : decode cX2_init 43 = .ok (.newarray .int, 2) := by decide +kernel
theorem dX2_init_45 : decode cX2_init 45 = .ok (.putfield 32, 3) := by decide +kernel
theorem dX2_init_48 : decode cX2_init 48 = .ok (.return_, 1) := by decide +kernel
theorem dX2_lay_0 : decode cX2_lay 0 = .ok (.aload_n 0, 1) := by decide +kernel
theorem dX2_lay_1 : decode cX2_lay 1 = .ok (.getfield 11, 3) := by decide +kernel
theorem dX2_lay_4 : decode cX2_lay 4 = .ok (.aload_n 0, 1) := by decide +kernel
theorem dX2_lay_5 : decode cX2_lay 5 = .ok (.getfield 17, 3) := by decide +kernel
theorem dX2_lay_8 : decode cX2_lay 8 = .ok (.aload_n 1, 1) := by decide +kernel
theorem dX2_lay_9 : decode cX2_lay 9 = .ok (.aastore, 1) := by decide +kernel
theorem dX2_lay_10 : decode cX2_lay 10 = .ok (.aload_n 0, 1) := by decide +kernel
theorem dX2_lay_11 : decode cX2_lay 11 = .ok (.dup, 1) := by decide +kernel
theorem dX2_lay_12 : decode cX2_lay 12 = .ok (.getfield 17, 3) := by decide +kernel
theorem dX2_lay_15 : decode cX2_lay 15 = .ok (.iconst 1, 1) := by decide +kernel
theorem dX2_lay_16 : decode cX2_lay 16 = .ok (.iadd, 1) := by decide +kernel
theorem dX2_lay_17 : decode cX2_lay 17 = .ok (.putfield 17, 3) := by decide +kernel
theorem dX2_lay_20 : decode cX2_lay 20 = .ok (.aload_n 0, 1) := by decide +kernel
theorem dX2_lay_21 : decode cX2_lay 21 = .ok (.getfield 17, 3) := by decide +kernel
theorem dX2_lay_24 : decode cX2_lay 24 = .ok (.iconst 1, 1) := by decide +kernel
theorem dX2_lay_25 : decode cX2_lay 25 = .ok (.isub, 1) := by decide +kernel
theorem dX2_lay_26 : decode cX2_lay 26 = .ok (.ireturn, 1) := by decide +kernel
theorem dX2_addFault_0 : decode cX2_addFault 0 = .ok (.aload_n 0, 1) := by decide +kernel
theorem dX2_addFault_1 : decode cX2_addFault 1 = .ok (.getfield 11, 3) := by decide +kernel
theorem dX2_addFault_4 : decode cX2_addFault 4 = .ok (.iload_n 1, 1) := by decide +kernel
theorem dX2_addFault_5 : decode cX2_addFault 5 = .ok (.aaload, 1) := by decide +kernel
theorem dX2_addFault_6 : decode cX2_addFault 6 = .ok (.dup, 1) := by decide +kernel
theorem dX2_addFault_7 : decode cX2_addFault 7 = .ok (.getfield 35, 3) := by decide +kernel
theorem dX2_addFault_10 : decode cX2_addFault 10 = .ok (.iconst 1, 1) := by decide +kernel
theorem dX2_addFault_11 : decode cX2_addFault 11 = .ok (.iload_n 2, 1) := by decide +kernel
theorem dX2_addFault_12 : decode cX2_addFault 12 = .ok (.ishl, 1) := by decide +kernel
theorem dX2_addFault_13 : decode cX2_addFault 13 = .ok (.ior, 1) := by decide +kernel
theorem dX2_addFault_14 : decode cX2_addFault 14 = .ok (.putfield 35, 3) := by decide +kernel
theorem dX2_addFault_17 : decode cX2_addFault 17 = .ok (.aload_n 0, 1) := by decide +kernel
theorem dX2_addFault_18 : decode cX2_addFault 18 = .ok (.getfield 21, 3) := by decide +kernel
theorem dX2_addFault_21 : decode cX2_addFault 21 = .ok (.aload_n 0, 1) := by decide +kernel
theorem dX2_addFault_22 : decode cX2_addFault 22 = .ok (.getfield 25, 3) := by decide +kernel
theorem dX2_addFault_25 : decode cX2_addFault 25 = .ok (.iload_n 1, 1) := by decide +kernel
theorem dX2_addFault_26 : decode cX2_addFault 26 = .ok (.iload_n 2, 1) := by decide +kernel
theorem dX2_addFault_27 : decode cX2_addFault 27 = .ok (.invokestatic 38, 3) := by decide +kernel
theorem dX2_addFault_30 : decode cX2_addFault 30 = .ok (.iastore, 1) := by decide +kernel
theorem dX2_addFault_31 : decode cX2_addFault 31 = .ok (.aload_n 0, 1) := by decide +kernel
theorem dX2_addFault_32 : decode cX2_addFault 32 = .ok (.dup, 1) := by decide +kernel
theorem dX2_addFault_33 : decode cX2_addFault 33 = .ok (.getfield 25, 3) := by decide +kernel
theorem dX2_addFault_36 : decode cX2_addFault 36 = .ok (.iconst 1, 1) := by decide +kernel
theorem dX2_addFault_37 : decode cX2_addFault 37 = .ok (.iadd, 1) := by decide +kernel
theorem dX2_addFault_38 : decode cX2_addFault 38 = .ok (.putfield 25, 3) := by decide +kernel
theorem dX2_addFault_41 : decode cX2_addFault 41 = .ok (.aload_n 0, 1) := by decide +kernel
theorem dX2_addFault_42 : decode cX2_addFault 42 = .ok (.getfield 25, 3) := by decide +kernel
theorem dX2_addFault_45 : decode cX2_addFault 45 = .ok (.ireturn, 1) := by decide +kernel
theorem dX2_removeFault_0 : decode cX2_removeFault 0 = .ok (.iconst 0, 1) := by decide +kernel
theorem dX2_removeFault_1 : decode cX2_removeFault 1 = .ok (.istore_n 3, 1) := by decide +kernel
theorem dX2_removeFault_2 : decode cX2_removeFault 2 = .ok (.iconst 0, 1) := by decide +kernel
theorem dX2_removeFault_3 : decode cX2_removeFault 3 = .ok (.istore 4, 2) := by decide +kernel
theorem dX2_removeFault_5 : decode cX2_removeFault 5 = .ok (.iload 4, 2) := by decide +kernel
theorem dX2_removeFault_7 : decode cX2_removeFault 7 = .ok (.aload_n 0, 1) := by decide +kernel
theorem dX2_removeFault_8 : decode cX2_removeFault 8 = .ok (.getfield 25, 3) := by decide +kernel
theorem dX2_removeFault_11 : decode cX2_removeFault 11 = .ok (.if_icmp .ge 40, 3) := by decide +kernel
theorem dX2_removeFault_14 : decode cX2_removeFault 14 = .ok (.aload_n 0, 1) := by decide +kernel
theorem dX2_removeFault_15 : decode cX2_removeFault 15 = .ok (.getfield 21, 3) := by decide +kernel
theorem dX2_removeFault_18 : decode cX2_removeFault 18 = .ok (.iload 4, 2) := by decide +kernel
theorem dX2_removeFault_20 : decode cX2_removeFault 20 = .ok (.iaload, 1) := by decide +kernel
theorem dX2_removeFault_21 : decode cX2_removeFault 21 = .ok (.iload_n 1, 1) := by decide +kernel
theorem dX2_removeFault_22 : decode cX2_removeFault 22 = .ok (.iload_n 2, 1) := by decide +kernel
theorem dX2_removeFault_23 : decode cX2_removeFault 23 = .ok (.invokestatic 38, 3) := by decide +kernel
theorem dX2_removeFault_26 : decode cX2_removeFault 26 = .ok (.if_icmp .eq 19, 3) := by decide +kernel
theorem dX2_removeFault_29 : decode cX2_removeFault 29 = .ok (.aload_n 0, 1) := by decide +kernel
theorem dX2_removeFault_30 : decode cX2_removeFault 30 = .ok (.getfield 21, 3) := by decide +kernel
theorem dX2_removeFault_33 : decode cX2_removeFault 33 = .ok (.iload_n 3, 1) := by decide +kernel
theorem dX2_removeFault_34 : decode cX2_removeFault 34 = .ok (.aload_n 0, 1) := by decide +kernel
theorem dX2_removeFault_35 : decode cX2_removeFault 35 = .ok (.getfield 21, 3) := by decide +kernel
theorem dX2_removeFault_38 : decode cX2_removeFault 38 = .ok (.iload 4, 2) := by decide +kernel
theorem dX2_removeFault_40 : decode cX2_removeFault 40 = .ok (.iaload, 1) := by decide +kernel
theorem dX2_removeFault_41 : decode cX2_removeFault 41 = .ok (.iastore, 1) := by decide +kernel
theorem dX2_removeFault_42 : decode cX2_removeFault 42 = .ok (.iinc 3 1, 3) := by decide +kernel
theorem dX2_removeFault_45 : decode cX2_removeFault 45 = .ok (.iinc 4 1, 3) := by decide +kernel
theorem dX2_removeFault_48 : decode cX2_removeFault 48 = .ok (.goto (-43), 3) := by decide +kernel
theorem dX2_removeFault_51 : decode cX2_removeFault 51 = .ok (.aload_n 0, 1) := by decide +kernel
theorem dX2_removeFault_52 : decode cX2_removeFault 52 = .ok (.iload_n 3, 1) := by decide +kernel
theorem dX2_removeFault_53 : decode cX2_removeFault 53 = .ok (.putfield 25, 3) := by decide +kernel
theorem dX2_removeFault_56 : decode cX2_removeFault 56 = .ok (.aload_n 0, 1) := by decide +kernel
theorem dX2_removeFault_57 : decode cX2_removeFault 57 = .ok (.getfield 11, 3) := by decide +kernel
theorem dX2_removeFault_60 : decode cX2_removeFault 60 = .ok (.iload_n 1, 1) := by decide +kernel
theorem dX2_removeFault_61 : decode cX2_removeFault 61 = .ok (.aaload, 1) := by decide +kernel
theorem dX2_removeFault_62 : decode cX2_removeFault 62 = .ok (.dup, 1) := by decide +kernel
theorem dX2_removeFault_63 : decode cX2_removeFault 63 = .ok (.getfield 35, 3) := by decide +kernel
theorem dX2_removeFault_66 : decode cX2_removeFault 66 = .ok (.iconst 1, 1) := by decide +kernel
theorem dX2_removeFault_67 : decode cX2_removeFault 67 = .ok (.iload_n 2, 1) := by decide +kernel
theorem dX2_removeFault_68 : decode cX2_removeFault 68 = .ok (.ishl, 1) := by decide +kernel
theorem dX2_removeFault_69 : decode cX2_removeFault 69 = .ok (.iconst (-1), 1) := by decide +kernel
theorem dX2_removeFault_70 : decode cX2_removeFault 70 = .ok (.ixor, 1) := by decide +kernel
theorem dX2_removeFault_71 : decode cX2_removeFault 71 = .ok (.iand, 1) := by decide +kernel
theorem dX2_removeFault_72 : decode cX2_removeFault 72 = .ok (.putfield 35, 3) := by decide +kernel
theorem dX2_removeFault_75 : decode cX2_removeFault 75 = .ok (.return_, 1) := by decide +kernel
theorem dX2_faultRanked_0 : decode cX2_faultRanked 0 = .ok (.iload_n 1, 1) := by decide +kernel
theorem dX2_faultRanked_1 : decode cX2_faultRanked 1 = .ok (.aload_n 0, 1) := by decide +kernel
theorem dX2_faultRanked_2 : decode cX2_faultRanked 2 = .ok (.getfield 25, 3) := by decide +kernel
theorem dX2_faultRanked_5 : decode cX2_faultRanked 5 = .ok (.if_icmp .ge 12, 3) := by decide +kernel
theorem dX2_faultRanked_8 : decode cX2_faultRanked 8 = .ok (.aload_n 0, 1) := by decide +kernel
theorem dX2_faultRanked_9 : decode cX2_faultRanked 9 = .ok (.getfield 21, 3) := by decide +kernel
theorem dX2_faultRanked_12 : decode cX2_faultRanked 12 = .ok (.iload_n 1, 1) := by decide +kernel
theorem dX2_faultRanked_13 : decode cX2_faultRanked 13 = .ok (.iaload, 1) := by decide +kernel
theorem dX2_faultRanked_14 : decode cX2_faultRanked 14 = .ok (.goto 4, 3) := by decide +kernel
theorem dX2_faultRanked_17 : decode cX2_faultRanked 17 = .ok (.iconst (-1), 1) := by decide +kernel
theorem dX2_faultRanked_18 : decode cX2_faultRanked 18 = .ok (.ireturn, 1) := by decide +kernel
theorem dX2_faultCode_0 : decode cX2_faultCode 0 = .ok (.bipush 8, 2) := by decide +kernel
theorem dX2_faultCode_2 : decode cX2_faultCode 2 = .ok (.iload_n 0, 1) := by decide +kernel
theorem dX2_faultCode_3 : decode cX2_faultCode 3 = .ok (.imul, 1) := by decide +kernel
theorem dX2_faultCode_4 : decode cX2_faultCode 4 = .ok (.iload_n 1, 1) := by decide +kernel
theorem dX2_faultCode_5 : decode cX2_faultCode 5 = .ok (.iadd, 1) := by decide +kernel
theorem dX2_faultCode_6 : decode cX2_faultCode 6 = .ok (.ireturn, 1) := by decide +kernel
theorem dX2_findWay_0 : decode cX2_findWay 0 = .ok (.aload_n 3, 1) := by decide +kernel
theorem dX2_findWay_1 : decode cX2_findWay 1 = .ok (.invokevirtual 42, 3) := by decide +kernel
theorem dX2_findWay_4 : decode cX2_findWay 4 = .ok (.aload_n 0, 1) := by decide +kernel
theorem dX2_findWay_5 : decode cX2_findWay 5 = .ok (.iload_n 2, 1) := by decide +kernel
theorem dX2_findWay_6 : decode cX2_findWay 6 = .ok (.invokevirtual 47, 3) := by decide +kernel
theorem dX2_findWay_9 : decode cX2_findWay 9 = .ok (.aload_n 0, 1) := by decide +kernel
theorem dX2_findWay_10 : decode cX2_findWay 10 = .ok (.getfield 28, 3) := by decide +kernel
theorem dX2_findWay_13 : decode cX2_findWay 13 = .ok (.iload_n 1, 1) := by decide +kernel
theorem dX2_findWay_14 : decode cX2_findWay 14 = .ok (.laload, 1) := by decide +kernel
theorem dX2_findWay_15 : decode cX2_findWay 15 = .ok (.ldc2_w 51, 3) := by decide +kernel
theorem dX2_findWay_18 : decode cX2_findWay 18 = .ok (.lcmp, 1) := by decide +kernel
theorem dX2_findWay_19 : decode cX2_findWay 19 = .ok (.ifCond .ne 4, 3) := by decide +kernel
theorem dX2_findWay_22 : decode cX2_findWay 22 = .ok (.return_, 1) := by decide +kernel
theorem dX2_findWay_23 : decode cX2_findWay 23 = .ok (.aload_n 3, 1) := by decide +kernel
theorem dX2_findWay_24 : decode cX2_findWay 24 = .ok (.invokevirtual 53, 3) := by decide +kernel
theorem dX2_findWay_27 : decode cX2_findWay 27 = .ok (.iload_n 1, 1) := by decide +kernel
theorem dX2_findWay_28 : decode cX2_findWay 28 = .ok (.istore 4, 2) := by decide +kernel
theorem dX2_findWay_30 : decode cX2_findWay 30 = .ok (.iconst 0, 1) := by decide +kernel
theorem dX2_findWay_31 : decode cX2_findWay 31 = .ok (.istore 5, 2) := by decide +kernel
theorem dX2_findWay_33 : decode cX2_findWay 33 = .ok (.iload 5, 2) := by decide +kernel
theorem dX2_findWay_35 : decode cX2_findWay 35 = .ok (.bipush 10, 2) := by decide +kernel
theorem dX2_findWay_37 : decode cX2_findWay 37 = .ok (.if_icmp .ge 57, 3) := by decide +kernel
theorem dX2_findWay_40 : decode cX2_findWay 40 = .ok (.iload 4, 2) := by decide +kernel
theorem dX2_findWay_42 : decode cX2_findWay 42 = .ok (.iload_n 2, 1) := by decide +kernel
theorem dX2_findWay_43 : decode cX2_findWay 43 = .ok (.if_icmp .eq 51, 3) := by decide +kernel
theorem dX2_findWay_46 : decode cX2_findWay 46 = .ok (.aload_n 0, 1) := by decide +kernel
theorem dX2_findWay_47 : decode cX2_findWay 47 = .ok (.iload 4, 2) := by decide +kernel
theorem dX2_findWay_49 : decode cX2_findWay 49 = .ok (.invokevirtual 56, 3) := by decide +kernel
theorem dX2_findWay_52 : decode cX2_findWay 52 = .ok (.istore 6, 2) := by decide +kernel
theorem dX2_findWay_54 : decode cX2_findWay 54 = .ok (.iload 6, 2) := by decide +kernel
theorem dX2_findWay_56 : decode cX2_findWay 56 = .ok (.iconst (-1), 1) := by decide +kernel
theorem dX2_findWay_57 : decode cX2_findWay 57 = .ok (.if_icmp .ne 4, 3) := by decide +kernel
theorem dX2_findWay_60 : decode cX2_findWay 60 = .ok (.return_, 1) := by decide +kernel
theorem dX2_findWay_61 : decode cX2_findWay 61 = .ok (.aload_n 3, 1) := by decide +kernel
theorem dX2_findWay_62 : decode cX2_findWay 62 = .ok (.iload 6, 2) := by decide +kernel
theorem dX2_findWay_64 : decode cX2_findWay 64 = .ok (.aload_n 0, 1) := by decide +kernel
theorem dX2_findWay_65 : decode cX2_findWay 65 = .ok (.getfield 11, 3) := by decide +kernel
theorem dX2_findWay_68 : decode cX2_findWay 68 = .ok (.iload 6, 2) := by decide +kernel
theorem dX2_findWay_70 : decode cX2_findWay 70 = .ok (.aaload, 1) := by decide +kernel
theorem dX2_findWay_71 : decode cX2_findWay 71 = .ok (.invokevirtual 60, 3) := by decide +kernel
theorem dX2_findWay_74 : decode cX2_findWay 74 = .ok (.aload_n 0, 1) := by decide +kernel
theorem dX2_findWay_75 : decode cX2_findWay 75 = .ok (.getfield 11, 3) := by decide +kernel
theorem dX2_findWay_78 : decode cX2_findWay 78 = .ok (.iload 6, 2) := by decide +kernel
theorem dX2_findWay_80 : decode cX2_findWay 80 = .ok (.aaload, 1) := by decide +kernel
theorem dX2_findWay_81 : decode cX2_findWay 81 = .ok (.iload 4, 2) := by decide +kernel
theorem dX2_findWay_83 : decode cX2_findWay 83 = .ok (.invokevirtual 64, 3) := by decide +kernel
theorem dX2_findWay_86 : decode cX2_findWay 86 = .ok (.istore 4, 2) := by decide +kernel
theorem dX2_findWay_88 : decode cX2_findWay 88 = .ok (.iinc 5 1, 3) := by decide +kernel
theorem dX2_findWay_91 : decode cX2_findWay 91 = .ok (.goto (-58), 3) := by decide +kernel
theorem dX2_findWay_94 : decode cX2_findWay 94 = .ok (.return_, 1) := by decide +kernel
theorem dX2_measureTo_0 : decode cX2_measureTo 0 = .ok (.aload_n 0, 1) := by decide +kernel
theorem dX2_measureTo_1 : decode cX2_measureTo 1 = .ok (.getfield 28, 3) := by decide +kernel
theorem dX2_measureTo_4 : decode cX2_measureTo 4 = .ok (.ldc2_w 51, 3) := by decide +kernel
theorem dX2_measureTo_7 : decode cX2_measureTo 7 = .ok (.invokestatic 67, 3) := by decide +kernel
theorem dX2_measureTo_10 : decode cX2_measureTo 10 = .ok (.aload_n 0, 1) := by decide +kernel
theorem dX2_measureTo_11 : decode cX2_measureTo 11 = .ok (.getfield 28, 3) := by decide +kernel
theorem dX2_measureTo_14 : decode cX2_measureTo 14 = .ok (.iload_n 1, 1) := by decide +kernel
theorem dX2_measureTo_15 : decode cX2_measureTo 15 = .ok (.lconst 0, 1) := by decide +kernel
theorem dX2_measureTo_16 : decode cX2_measureTo 16 = .ok (.lastore, 1) := by decide +kernel
theorem dX2_measureTo_17 : decode cX2_measureTo 17 = .ok (.iconst 0, 1) := by decide +kernel
theorem dX2_measureTo_18 : decode cX2_measureTo 18 = .ok (.istore_n 2, 1) := by decide +kernel
theorem dX2_measureTo_19 : decode cX2_measureTo 19 = .ok (.iconst 0, 1) := by decide +kernel
theorem dX2_measureTo_20 : decode cX2_measureTo 20 = .ok (.istore_n 3, 1) := by decide +kernel
theorem dX2_measureTo_21 : decode cX2_measureTo 21 = .ok (.iload_n 3, 1) := by decide +kernel
theorem dX2_measureTo_22 : decode cX2_measureTo 22 = .ok (.bipush 10, 2) := by decide +kernel
theorem dX2_measureTo_24 : decode cX2_measureTo 24 = .ok (.if_icmp .ge 36, 3) := by decide +kernel
theorem dX2_measureTo_27 : decode cX2_measureTo 27 = .ok (.aload_n 0, 1) := by decide +kernel
theorem dX2_measureTo_28 : decode cX2_measureTo 28 = .ok (.iload_n 2, 1) := by decide +kernel
theorem dX2_measureTo_29 : decode cX2_measureTo 29 = .ok (.invokevirtual 73, 3) := by decide +kernel
theorem dX2_measureTo_32 : decode cX2_measureTo 32 = .ok (.istore 4, 2) := by decide +kernel
theorem dX2_measureTo_34 : decode cX2_measureTo 34 = .ok (.iload 4, 2) := by decide +kernel
theorem dX2_measureTo_36 : decode cX2_measureTo 36 = .ok (.iconst (-1), 1) := by decide +kernel
theorem dX2_measureTo_37 : decode cX2_measureTo 37 = .ok (.if_icmp .ne 4, 3) := by decide +kernel
theorem dX2_measureTo_40 : decode cX2_measureTo 40 = .ok (.return_, 1) := by decide +kernel
theorem dX2_measureTo_41 : decode cX2_measureTo 41 = .ok (.iload_n 2, 1) := by decide +kernel
theorem dX2_measureTo_42 : decode cX2_measureTo 42 = .ok (.iconst 1, 1) := by decide +kernel
theorem dX2_measureTo_43 : decode cX2_measureTo 43 = .ok (.iload 4, 2) := by decide +kernel
theorem dX2_measureTo_45 : decode cX2_measureTo 45 = .ok (.ishl, 1) := by decide +kernel
theorem dX2_measureTo_46 : decode cX2_measureTo 46 = .ok (.ior, 1) := by decide +kernel
theorem dX2_measureTo_47 : decode cX2_measureTo 47 = .ok (.istore_n 2, 1) := by decide +kernel
theorem dX2_measureTo_48 : decode cX2_measureTo 48 = .ok (.aload_n 0, 1) := by decide +kernel
theorem dX2_measureTo_49 : decode cX2_measureTo 49 = .ok (.iload 4, 2) := by decide +kernel
theorem dX2_measureTo_51 : decode cX2_measureTo 51 = .ok (.invokevirtual 76, 3) := by decide +kernel
theorem dX2_measureTo_54 : decode cX2_measureTo 54 = .ok (.iinc 3 1, 3) := by decide +kernel
theorem dX2_measureTo_57 : decode cX2_measureTo 57 = .ok (.goto (-36), 3) := by decide +kernel
theorem dX2_measureTo_60 : decode cX2_measureTo 60 = .ok (.return_, 1) := by decide +kernel
theorem dX2_nearestBeside_0 : decode cX2_nearestBeside 0 = .ok (.iconst (-1), 1) := by decide +kernel
theorem dX2_nearestBeside_1 : decode cX2_nearestBeside 1 = .ok (.istore_n 2, 1) := by decide +kernel
theorem dX2_nearestBeside_2 : decode cX2_nearestBeside 2 = .ok (.ldc2_w 51, 3) := by decide +kernel
theorem dX2_nearestBeside_5 : decode cX2_nearestBeside 5 = .ok (.lstore_n 3, 1) := by decide +kernel
theorem dX2_nearestBeside_6 : decode cX2_nearestBeside 6 = .ok (.iconst 0, 1) := by decide +kernel
theorem dX2_nearestBeside_7 : decode cX2_nearestBeside 7 = .ok (.istore 5, 2) := by decide +kernel
theorem dX2_nearestBeside_9 : decode cX2_nearestBeside 9 = .ok (.iload 5, 2) := by decide +kernel
theorem dX2_nearestBeside_11 : decode cX2_nearestBeside 11 = .ok (.bipush 10, 2) := by decide +kernel
theorem dX2_nearestBeside_13 : decode cX2_nearestBeside 13 = .ok (.if_icmp .ge 41, 3) := by decide +kernel
theorem dX2_nearestBeside_16 : decode cX2_nearestBeside 16 = .ok (.iload_n 1, 1) := by decide +kernel
theorem dX2_nearestBeside_17 : decode cX2_nearestBeside 17 = .ok (.iload 5, 2) := by decide +kernel
theorem dX2_nearestBeside_19 : decode cX2_nearestBeside 19 = .ok (.ishr, 1) := by decide +kernel
theorem dX2_nearestBeside_20 : decode cX2_nearestBeside 20 = .ok (.iconst 1, 1) := by decide +kernel
theorem dX2_nearestBeside_21 : decode cX2_nearestBeside 21 = .ok (.iand, 1) := by decide +kernel
theorem dX2_nearestBeside_22 : decode cX2_nearestBeside 22 = .ok (.ifCond .ne 26, 3) := by decide +kernel
theorem dX2_nearestBeside_25 : decode cX2_nearestBeside 25 = .ok (.aload_n 0, 1) := by decide +kernel
theorem dX2_nearestBeside_26 : decode cX2_nearestBeside 26 = .ok (.getfield 28, 3) := by decide +kernel
theorem dX2_nearestBeside_29 : decode cX2_nearestBeside 29 = .ok (.iload 5, 2) := by decide +kernel
theorem dX2_nearestBeside_31 : decode cX2_nearestBeside 31 = .ok (.laload, 1) := by decide +kernel
theorem dX2_nearestBeside_32 : decode cX2_nearestBeside 32 = .ok (.lload_n 3, 1) := by decide +kernel
theorem dX2_nearestBeside_33 : decode cX2_nearestBeside 33 = .ok (.lcmp, 1) := by decide +kernel
theorem dX2_nearestBeside_34 : decode cX2_nearestBeside 34 = .ok (.ifCond .ge 14, 3) := by decide +kernel
theorem dX2_nearestBeside_37 : decode cX2_nearestBeside 37 = .ok (.iload 5, 2) := by decide +kernel
theorem dX2_nearestBeside_39 : decode cX2_nearestBeside 39 = .ok (.istore_n 2, 1) := by decide +kernel
theorem dX2_nearestBeside_40 : decode cX2_nearestBeside 40 = .ok (.aload_n 0, 1) := by decide +kernel
theorem dX2_nearestBeside_41 : decode cX2_nearestBeside 41 = .ok (.getfield 28, 3) := by decide +kernel
theorem dX2_nearestBeside_44 : decode cX2_nearestBeside 44 = .ok (.iload 5, 2) := by decide +kernel
theorem dX2_nearestBeside_46 : decode cX2_nearestBeside 46 = .ok (.laload, 1) := by decide +kernel
theorem dX2_nearestBeside_47 : decode cX2_nearestBeside 47 = .ok (.lstore_n 3, 1) := by decide +kernel
theorem dX2_nearestBeside_48 : decode cX2_nearestBeside 48 = .ok (.iinc 5 1, 3) := by decide +kernel
theorem dX2_nearestBeside_51 : decode cX2_nearestBeside 51 = .ok (.goto (-42), 3) := by decide +kernel
theorem dX2_nearestBeside_54 : decode cX2_nearestBeside 54 = .ok (.iload_n 2, 1) := by decide +kernel
theorem dX2_nearestBeside_55 : decode cX2_nearestBeside 55 = .ok (.ireturn, 1) := by decide +kernel
theorem dX2_spreadFrom_0 : decode cX2_spreadFrom 0 = .ok (.iconst 0, 1) := by decide +kernel
theorem dX2_spreadFrom_1 : decode cX2_spreadFrom 1 = .ok (.istore_n 2, 1) := by decide +kernel
theorem dX2_spreadFrom_2 : decode cX2_spreadFrom 2 = .ok (.iload_n 2, 1) := by decide +kernel
theorem dX2_spreadFrom_3 : decode cX2_spreadFrom 3 = .ok (.aload_n 0, 1) := by decide +kernel
theorem dX2_spreadFrom_4 : decode cX2_spreadFrom 4 = .ok (.getfield 17, 3) := by decide +kernel
theorem dX2_spreadFrom_7 : decode cX2_spreadFrom 7 = .ok (.if_icmp .ge 56, 3) := by decide +kernel
theorem dX2_spreadFrom_10 : decode cX2_spreadFrom 10 = .ok (.aload_n 0, 1) := by decide +kernel
theorem dX2_spreadFrom_11 : decode cX2_spreadFrom 11 = .ok (.getfield 11, 3) := by decide +kernel
theorem dX2_spreadFrom_14 : decode cX2_spreadFrom 14 = .ok (.iload_n 2, 1) := by decide +kernel
theorem dX2_spreadFrom_15 : decode cX2_spreadFrom 15 = .ok (.aaload, 1) := by decide +kernel
theorem dX2_spreadFrom_16 : decode cX2_spreadFrom 16 = .ok (.iload_n 1, 1) := by decide +kernel
theorem dX2_spreadFrom_17 : decode cX2_spreadFrom 17 = .ok (.invokevirtual 64, 3) := by decide +kernel
theorem dX2_spreadFrom_20 : decode cX2_spreadFrom 20 = .ok (.istore_n 3, 1) := by decide +kernel
theorem dX2_spreadFrom_21 : decode cX2_spreadFrom 21 = .ok (.iload_n 3, 1) := by decide +kernel
theorem dX2_spreadFrom_22 : decode cX2_spreadFrom 22 = .ok (.iconst (-1), 1) := by decide +kernel
theorem dX2_spreadFrom_23 : decode cX2_spreadFrom 23 = .ok (.if_icmp .eq 34, 3) := by decide +kernel
theorem dX2_spreadFrom_26 : decode cX2_spreadFrom 26 = .ok (.aload_n 0, 1) := by decide +kernel
theorem dX2_spreadFrom_27 : decode cX2_spreadFrom 27 = .ok (.getfield 28, 3) := by decide +kernel
theorem dX2_spreadFrom_30 : decode cX2_spreadFrom 30 = .ok (.iload_n 3, 1) := by decide +kernel
theorem dX2_spreadFrom_31 : decode cX2_spreadFrom 31 = .ok (.aload_n 0, 1) := by decide +kernel
theorem dX2_spreadFrom_32 : decode cX2_spreadFrom 32 = .ok (.getfield 28, 3) := by decide +kernel
theorem dX2_spreadFrom_35 : decode cX2_spreadFrom 35 = .ok (.iload_n 3, 1) := by decide +kernel
theorem dX2_spreadFrom_36 : decode cX2_spreadFrom 36 = .ok (.laload, 1) := by decide +kernel
theorem dX2_spreadFrom_37 : decode cX2_spreadFrom 37 = .ok (.aload_n 0, 1) := by decide +kernel
theorem dX2_spreadFrom_38 : decode cX2_spreadFrom 38 = .ok (.getfield 28, 3) := by decide +kernel
theorem dX2_spreadFrom_41 : decode cX2_spreadFrom 41 = .ok (.iload_n 1, 1) := by decide +kernel
theorem dX2_spreadFrom_42 : decode cX2_spreadFrom 42 = .ok (.laload, 1) := by decide +kernel
theorem dX2_spreadFrom_43 : decode cX2_spreadFrom 43 = .ok (.aload_n 0, 1) := by decide +kernel
theorem dX2_spreadFrom_44 : decode cX2_spreadFrom 44 = .ok (.getfield 11, 3) := by decide +kernel
theorem dX2_spreadFrom_47 : decode cX2_spreadFrom 47 = .ok (.iload_n 2, 1) := by decide +kernel
theorem dX2_spreadFrom_48 : decode cX2_spreadFrom 48 = .ok (.aaload, 1) := by decide +kernel
theorem dX2_spreadFrom_49 : decode cX2_spreadFrom 49 = .ok (.invokevirtual 79, 3) := by decide +kernel
theorem dX2_spreadFrom_52 : decode cX2_spreadFrom 52 = .ok (.ladd, 1) := by decide +kernel
theorem dX2_spreadFrom_53 : decode cX2_spreadFrom 53 = .ok (.invokestatic 83, 3) := by decide +kernel
theorem dX2_spreadFrom_56 : decode cX2_spreadFrom 56 = .ok (.lastore, 1) := by decide +kernel
theorem dX2_spreadFrom_57 : decode cX2_spreadFrom 57 = .ok (.iinc 2 1, 3) := by decide +kernel
theorem dX2_spreadFrom_60 : decode cX2_spreadFrom 60 = .ok (.goto (-58), 3) := by decide +kernel
theorem dX2_spreadFrom_63 : decode cX2_spreadFrom 63 = .ok (.return_, 1) := by decide +kernel
theorem dX2_lowestBestCable_0 : decode cX2_lowestBestCable 0 = .ok (.iconst 0, 1) := by decide +kernel
theorem dX2_lowestBestCable_1 : decode cX2_lowestBestCable 1 = .ok (.istore_n 2, 1) := by decide +kernel
theorem dX2_lowestBestCable_2 : decode cX2_lowestBestCable 2 = .ok (.iload_n 2, 1) := by decide +kernel
theorem dX2_lowestBestCable_3 : decode cX2_lowestBestCable 3 = .ok (.aload_n 0, 1) := by decide +kernel
theorem dX2_lowestBestCable_4 : decode cX2_lowestBestCable 4 = .ok (.getfield 17, 3) := by decide +kernel
theorem dX2_lowestBestCable_7 : decode cX2_lowestBestCable 7 = .ok (.if_icmp .ge 53, 3) := by decide +kernel
theorem dX2_lowestBestCable_10 : decode cX2_lowestBestCable 10 = .ok (.aload_n 0, 1) := by decide +kernel
theorem dX2_lowestBestCable_11 : decode cX2_lowestBestCable 11 = .ok (.getfield 11, 3) := by decide +kernel
theorem dX2_lowestBestCable_14 : decode cX2_lowestBestCable 14 = .ok (.iload_n 2, 1) := by decide +kernel
theorem dX2_lowestBestCable_15 : decode cX2_lowestBestCable 15 = .ok (.aaload, 1) := by decide +kernel
theorem dX2_lowestBestCable_16 : decode cX2_lowestBestCable 16 = .ok (.iload_n 1, 1) := by decide +kernel
theorem dX2_lowestBestCable_17 : decode cX2_lowestBestCable 17 = .ok (.invokevirtual 64, 3) := by decide +kernel

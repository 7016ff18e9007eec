theorem dL_island_0 : decode cL_island 0 = .ok (.aload_n 3, 1) := by decide +kernel
theorem dL_island_1 : decode cL_island 1 = .ok (.iconst 0, 1) := by decide +kernel
theorem dL_island_2 : decode cL_island 2 = .ok (.aload_n 0, 1) := by decide +kernel
theorem dL_island_3 : decode cL_island 3 = .ok (.iload_n 1, 1) := by decide +kernel
theorem dL_island_4 : decode cL_island 4 = .ok (.iload_n 2, 1) := by decide +kernel
theorem dL_island_5 : decode cL_island 5 = .ok (.invokevirtual 7, 3) := by decide +kernel
theorem dL_island_8 : decode cL_island 8 = .ok (.i2l, 1) := by decide +kernel
theorem dL_island_9 : decode cL_island 9 = .ok (.lastore, 1) := by decide +kernel
theorem dL_island_10 : decode cL_island 10 = .ok (.goto 11, 3) := by decide +kernel
theorem dL_island_13 : decode cL_island 13 = .ok (.astore 4, 2) := by decide +kernel
theorem dL_island_15 : decode cL_island 15 = .ok (.iconst 1, 1) := by decide +kernel
theorem dL_island_16 : decode cL_island 16 = .ok (.ireturn, 1) := by decide +kernel
theorem dL_island_17 : decode cL_island 17 = .ok (.astore 4, 2) := by decide +kernel
theorem dL_island_19 : decode cL_island 19 = .ok (.iconst 2, 1) := by decide +kernel
theorem dL_island_20 : decode cL_island 20 = .ok (.ireturn, 1) := by decide +kernel
theorem dL_island_21 : decode cL_island 21 = .ok (.iconst 0, 1) := by decide +kernel
theorem dL_island_22 : decode cL_island 22 = .ok (.ireturn, 1) := by decide +kernel
theorem dL_cable_0 : decode cL_cable 0 = .ok (.aload 6, 2) := by decide +kernel
theorem dL_cable_2 : decode cL_cable 2 = .ok (.iconst 0, 1) := by decide +kernel
theorem dL_cable_3 : decode cL_cable 3 = .ok (.aload_n 0, 1) := by decide +kernel
theorem dL_cable_4 : decode cL_cable 4 = .ok (.iload_n 1, 1) := by decide +kernel
theorem dL_cable_5 : decode cL_cable 5 = .ok (.iload_n 2, 1) := by decide +kernel
theorem dL_cable_6 : decode cL_cable 6 = .ok (.iload_n 3, 1) := by decide +kernel
theorem dL_cable_7 : decode cL_cable 7 = .ok (.iload 4, 2) := by decide +kernel
theorem dL_cable_9 : decode cL_cable 9 = .ok (.iload 5, 2) := by decide +kernel
theorem dL_cable_11 : decode cL_cable 11 = .ok (.invokevirtual 17, 3) := by decide +kernel
theorem dL_cable_14 : decode cL_cable 14 = .ok (.i2l, 1) := by decide +kernel
theorem dL_cable_15 : decode cL_cable 15 = .ok (.lastore, 1) := by decide +kernel
theorem dL_cable_16 : decode cL_cable 16 = .ok (.goto 15, 3) := by decide +kernel
theorem dL_cable_19 : decode cL_cable 19 = .ok (.astore 7, 2) := by decide +kernel
theorem dL_cable_21 : decode cL_cable 21 = .ok (.iconst 1, 1) := by decide +kernel
theorem dL_cable_22 : decode cL_cable 22 = .ok (.ireturn, 1) := by decide +kernel
theorem dL_cable_23 : decode cL_cable 23 = .ok (.astore 7, 2) := by decide +kernel
theorem dL_cable_25 : decode cL_cable 25 = .ok (.iconst 2, 1) := by decide +kernel
theorem dL_cable_26 : decode cL_cable 26 = .ok (.ireturn, 1) := by decide +kernel
theorem dL_cable_27 : decode cL_cable 27 = .ok (.astore 7, 2) := by decide +kernel
theorem dL_cable_29 : decode cL_cable 29 = .ok (.iconst 3, 1) := by decide +kernel
theorem dL_cable_30 : decode cL_cable 30 = .ok (.ireturn, 1) := by decide +kernel
theorem dL_cable_31 : decode cL_cable 31 = .ok (.iconst 0, 1) := by decide +kernel
theorem dL_cable_32 : decode cL_cable 32 = .ok (.ireturn, 1) := by decide +kernel
theorem dL_price_0 : decode cL_price 0 = .ok (.aload_n 3, 1) := by decide +kernel
theorem dL_price_1 : decode cL_price 1 = .ok (.iconst 0, 1) := by decide +kernel
theorem dL_price_2 : decode cL_price 2 = .ok (.aload_n 0, 1) := by decide +kernel
theorem dL_price_3 : decode cL_price 3 = .ok (.iload_n 1, 1) := by decide +kernel
theorem dL_price_4 : decode cL_price 4 = .ok (.iload_n 2, 1) := by decide +kernel
theorem dL_price_5 : decode cL_price 5 = .ok (.invokevirtual 23, 3) := by decide +kernel
theorem dL_price_8 : decode cL_price 8 = .ok (.i2l, 1) := by decide +kernel
theorem dL_price_9 : decode cL_price 9 = .ok (.lastore, 1) := by decide +kernel
theorem dL_price_10 : decode cL_price 10 = .ok (.goto 11, 3) := by decide +kernel
theorem dL_price_13 : decode cL_price 13 = .ok (.astore 4, 2) := by decide +kernel
theorem dL_price_15 : decode cL_price 15 = .ok (.iconst 1, 1) := by decide +kernel
theorem dL_price_16 : decode cL_price 16 = .ok (.ireturn, 1) := by decide +kernel
theorem dL_price_17 : decode cL_price 17 = .ok (.astore 4, 2) := by decide +kernel
theorem dL_price_19 : decode cL_price 19 = .ok (.iconst 2, 1) := by decide +kernel
theorem dL_price_20 : decode cL_price 20 = .ok (.ireturn, 1) := by decide +kernel
theorem dL_price_21 : decode cL_price 21 = .ok (.iconst 0, 1) := by decide +kernel
theorem dL_price_22 : decode cL_price 22 = .ok (.ireturn, 1) := by decide +kernel
theorem dL_fault_0 : decode cL_fault 0 = .ok (.aload_n 3, 1) := by decide +kernel
theorem dL_fault_1 : decode cL_fault 1 = .ok (.iconst 0, 1) := by decide +kernel
theorem dL_fault_2 : decode cL_fault 2 = .ok (.aload_n 0, 1) := by decide +kernel
theorem dL_fault_3 : decode cL_fault 3 = .ok (.iload_n 1, 1) := by decide +kernel
theorem dL_fault_4 : decode cL_fault 4 = .ok (.iload_n 2, 1) := by decide +kernel
theorem dL_fault_5 : decode cL_fault 5 = .ok (.invokevirtual 26, 3) := by decide +kernel
theorem dL_fault_8 : decode cL_fault 8 = .ok (.i2l, 1) := by decide +kernel
theorem dL_fault_9 : decode cL_fault 9 = .ok (.lastore, 1) := by decide +kernel
theorem dL_fault_10 : decode cL_fault 10 = .ok (.goto 11, 3) := by decide +kernel
theorem dL_fault_13 : decode cL_fault 13 = .ok (.astore 4, 2) := by decide +kernel
theorem dL_fault_15 : decode cL_fault 15 = .ok (.iconst 1, 1) := by decide +kernel
theorem dL_fault_16 : decode cL_fault 16 = .ok (.ireturn, 1) := by decide +kernel
theorem dL_fault_17 : decode cL_fault 17 = .ok (.astore 4, 2) := by decide +kernel
theorem dL_fault_19 : decode cL_fault 19 = .ok (.iconst 2, 1) := by decide +kernel
theorem dL_fault_20 : decode cL_fault 20 = .ok (.ireturn, 1) := by decide +kernel
theorem dL_fault_21 : decode cL_fault 21 = .ok (.iconst 0, 1) := by decide +kernel
theorem dL_fault_22 : decode cL_fault 22 = .ok (.ireturn, 1) := by decide +kernel
theorem dL_ship_0 : decode cL_ship 0 = .ok (.aload_n 3, 1) := by decide +kernel
theorem dL_ship_1 : decode cL_ship 1 = .ok (.iconst 0, 1) := by decide +kernel
theorem dL_ship_2 : decode cL_ship 2 = .ok (.aload_n 0, 1) := by decide +kernel
theorem dL_ship_3 : decode cL_ship 3 = .ok (.iload_n 1, 1) := by decide +kernel
theorem dL_ship_4 : decode cL_ship 4 = .ok (.iload_n 2, 1) := by decide +kernel
theorem dL_ship_5 : decode cL_ship 5 = .ok (.invokevirtual 29, 3) := by decide +kernel
theorem dL_ship_8 : decode cL_ship 8 = .ok (.i2l, 1) := by decide +kernel
theorem dL_ship_9 : decode cL_ship 9 = .ok (.lastore, 1) := by decide +kernel
theorem dL_ship_10 : decode cL_ship 10 = .ok (.goto 15, 3) := by decide +kernel
theorem dL_ship_13 : decode cL_ship 13 = .ok (.astore 4, 2) := by decide +kernel
theorem dL_ship_15 : decode cL_ship 15 = .ok (.iconst 1, 1) := by decide +kernel
theorem dL_ship_16 : decode cL_ship 16 = .ok (.ireturn, 1) := by decide +kernel
theorem dL_ship_17 : decode cL_ship 17 = .ok (.astore 4, 2) := by decide +kernel
theorem dL_ship_19 : decode cL_ship 19 = .ok (.iconst 2, 1) := by decide +kernel
theorem dL_ship_20 : decode cL_ship 20 = .ok (.ireturn, 1) := by decide +kernel
theorem dL_ship_21 : decode cL_ship 21 = .ok (.astore 4, 2) := by decide +kernel
theorem dL_ship_23 : decode cL_ship 23 = .ok (.iconst 3, 1) := by decide +kernel
theorem dL_ship_24 : decode cL_ship 24 = .ok (.ireturn, 1) := by decide +kernel
theorem dL_ship_25 : decode cL_ship 25 = .ok (.iconst 0, 1) := by decide +kernel
theorem dL_ship_26 : decode cL_ship 26 = .ok (.ireturn, 1) := by decide +kernel
theorem dL_send_0 : decode cL_send 0 = .ok (.aload 4, 2) := by decide +kernel
theorem dL_send_2 : decode cL_send 2 = .ok (.iconst 0, 1) := by decide +kernel
theorem dL_send_3 : decode cL_send 3 = .ok (.aload_n 0, 1) := by decide +kernel
theorem dL_send_4 : decode cL_send 4 = .ok (.iload_n 1, 1) := by decide +kernel
theorem dL_send_5 : decode cL_send 5 = .ok (.iload_n 2, 1) := by decide +kernel
theorem dL_send_6 : decode cL_send 6 = .ok (.iload_n 3, 1) := by decide +kernel
theorem dL_send_7 : decode cL_send 7 = .ok (.invokevirtual 32, 3) := by decide +kernel
theorem dL_send_10 : decode cL_send 10 = .ok (.i2l, 1) := by decide +kernel
theorem dL_send_11 : decode cL_send 11 = .ok (.lastore, 1) := by decide +kernel
theorem dL_send_12 : decode cL_send 12 = .ok (.goto 11, 3) := by decide +kernel
theorem dL_send_15 : decode cL_send 15 = .ok (.astore 5, 2) := by decide +kernel
theorem dL_send_17 : decode cL_send 17 = .ok (.iconst 1, 1) := by decide +kernel
theorem dL_send_18 : decode cL_send 18 = .ok (.ireturn, 1) := by decide +kernel
theorem dL_send_19 : decode cL_send 19 = .ok (.astore 5, 2) := by decide +kernel
theorem dL_send_21 : decode cL_send 21 = .ok (.iconst 2, 1) := by decide +kernel
theorem dL_send_22 : decode cL_send 22 = .ok (.ireturn, 1) := by decide +kernel
theorem dL_send_23 : decode cL_send 23 = .ok (.iconst 0, 1) := by decide +kernel
theorem dL_send_24 : decode cL_send 24 = .ok (.ireturn, 1) := by decide +kernel
theorem dL_home_0 : decode cL_home 0 = .ok (.aload_n 3, 1) := by decide +kernel
theorem dL_home_1 : decode cL_home 1 = .ok (.iconst 0, 1) := by decide +kernel
theorem dL_home_2 : decode cL_home 2 = .ok (.aload_n 0, 1) := by decide +kernel
theorem dL_home_3 : decode cL_home 3 = .ok (.iload_n 1, 1) := by decide +kernel
theorem dL_home_4 : decode cL_home 4 = .ok (.iload_n 2, 1) := by decide +kernel
theorem dL_home_5 : decode cL_home 5 = .ok (.invokevirtual 36, 3) := by decide +kernel
theorem dL_home_8 : decode cL_home 8 = .ok (.i2l, 1) := by decide +kernel
theorem dL_home_9 : decode cL_home 9 = .ok (.lastore, 1) := by decide +kernel
theorem dL_home_10 : decode cL_home 10 = .ok (.goto 11, 3) := by decide +kernel
theorem dL_home_13 : decode cL_home 13 = .ok (.astore 4, 2) := by decide +kernel
theorem dL_home_15 : decode cL_home 15 = .ok (.iconst 1, 1) := by decide +kernel
theorem dL_home_16 : decode cL_home 16 = .ok (.ireturn, 1) := by decide +kernel
theorem dL_home_17 : decode cL_home 17 = .ok (.astore 4, 2) := by decide +kernel
theorem dL_home_19 : decode cL_home 19 = .ok (.iconst 2, 1) := by decide +kernel
theorem dL_home_20 : decode cL_home 20 = .ok (.ireturn, 1) := by decide +kernel
theorem dL_home_21 : decode cL_home 21 = .ok (.iconst 0, 1) := by decide +kernel
theorem dL_home_22 : decode cL_home 22 = .ok (.ireturn, 1) := by decide +kernel
theorem dL_trader_0 : decode cL_trader 0 = .ok (.aload 7, 2) := by decide +kernel
theorem dL_trader_2 : decode cL_trader 2 = .ok (.iconst 0, 1) := by decide +kernel
theorem dL_trader_3 : decode cL_trader 3 = .ok (.aload_n 0, 1) := by decide +kernel
theorem dL_trader_4 : decode cL_trader 4 = .ok (.iload_n 1, 1) := by decide +kernel
theorem dL_trader_5 : decode cL_trader 5 = .ok (.iload_n 2, 1) := by decide +kernel
theorem dL_trader_6 : decode cL_trader 6 = .ok (.iload_n 3, 1) := by decide +kernel
theorem dL_trader_7 : decode cL_trader 7 = .ok (.iload 4, 2) := by decide +kernel
theorem dL_trader_9 : decode cL_trader 9 = .ok (.iload 5, 2) := by decide +kernel
theorem dL_trader_11 : decode cL_trader 11 = .ok (.iload 6, 2) := by decide +kernel
theorem dL_trader_13 : decode cL_trader 13 = .ok (.invokevirtual 39, 3) := by decide +kernel
theorem dL_trader_16 : decode cL_trader 16 = .ok (.i2l, 1) := by decide +kernel
theorem dL_trader_17 : decode cL_trader 17 = .ok (.lastore, 1) := by decide +kernel
theorem dL_trader_18 : decode cL_trader 18 = .ok (.goto 15, 3) := by decide +kernel
theorem dL_trader_21 : decode cL_trader 21 = .ok (.astore 8, 2) := by decide +kernel
theorem dL_trader_23 : decode cL_trader 23 = .ok (.iconst 1, 1) := by decide +kernel
theorem dL_trader_24 : decode cL_trader 24 = .ok (.ireturn, 1) := by decide +kernel
theorem dL_trader_25 : decode cL_trader 25 = .ok (.astore 8, 2) := by decide +kernel
theorem dL_trader_27 : decode cL_trader 27 = .ok (.iconst 2, 1) := by decide +kernel
theorem dL_trader_28 : decode cL_trader 28 = .ok (.ireturn, 1) := by decide +kernel
theorem dL_trader_29 : decode cL_trader 29 = .ok (.astore 8, 2) := by decide +kernel
theorem dL_trader_31 : decode cL_trader 31 = .ok (.iconst 3, 1) := by decide +kernel
theorem dL_trader_32 : decode cL_trader 32 = .ok (.ireturn, 1) := by decide +kernel
theorem dL_trader_33 : decode cL_trader 33 = .ok (.iconst 0, 1) := by decide +kernel
theorem dL_trader_34 : decode cL_trader 34 = .ok (.ireturn, 1) := by decide +kernel
theorem dL_pass_0 : decode cL_pass 0 = .ok (.aload_n 2, 1) := by decide +kernel
theorem dL_pass_1 : decode cL_pass 1 = .ok (.iconst 0, 1) := by decide +kernel
theorem dL_pass_2 : decode cL_pass 2 = .ok (.aload_n 0, 1) := by decide +kernel
theorem dL_pass_3 : decode cL_pass 3 = .ok (.iload_n 1, 1) := by decide +kernel
theorem dL_pass_4 : decode cL_pass 4 = .ok (.invokevirtual 43, 3) := by decide +kernel
theorem dL_pass_7 : decode cL_pass 7 = .ok (.i2l, 1) := by decide +kernel
theorem dL_pass_8 : decode cL_pass 8 = .ok (.lastore, 1) := by decide +kernel
theorem dL_pass_9 : decode cL_pass 9 = .ok (.goto 6, 3) := by decide +kernel
theorem dL_pass_12 : decode cL_pass 12 = .ok (.astore_n 3, 1) := by decide +kernel
theorem dL_pass_13 : decode cL_pass 13 = .ok (.iconst 1, 1) := by decide +kernel
theorem dL_pass_14 : decode cL_pass 14 = .ok (.ireturn, 1) := by decide +kernel
theorem dL_pass_15 : decode cL_pass 15 = .ok (.iconst 0, 1) := by decide +kernel
theorem dL_pass_16 : decode cL_pass 16 = .ok (.ireturn, 1) := by decide +kernel
theorem dL_works_0 : decode cL_works 0 = .ok (.aload_n 2, 1) := by decide +kernel
theorem dL_works_1 : decode cL_works 1 = .ok (.iconst 0, 1) := by decide +kernel
theorem dL_works_2 : decode cL_works 2 = .ok (.aload_n 0, 1) := by decide +kernel
theorem dL_works_3 : decode cL_works 3 = .ok (.iload_n 1, 1) := by decide +kernel
theorem dL_works_4 : decode cL_works 4 = .ok (.invokevirtual 47, 3) := by decide +kernel
theorem dL_works_7 : decode cL_works 7 = .ok (.ifCond .eq 7, 3) := by decide +kernel
theorem dL_works_10 : decode cL_works 10 = .ok (.lconst 1, 1) := by decide +kernel
theorem dL_works_11 : decode cL_works 11 = .ok (.goto 4, 3) := by decide +kernel
theorem dL_works_14 : decode cL_works 14 = .ok (.lconst 0, 1) := by decide +kernel
theorem dL_works_15 : decode cL_works 15 = .ok (.lastore, 1) := by decide +kernel
theorem dL_works_16 : decode cL_works 16 = .ok (.goto 6, 3) := by decide +kernel
theorem dL_works_19 : decode cL_works 19 = .ok (.astore_n 3, 1) := by decide +kernel
theorem dL_works_20 : decode cL_works 20 = .ok (.iconst 1, 1) := by decide +kernel
theorem dL_works_21 : decode cL_works 21 = .ok (.ireturn, 1) := by decide +kernel
theorem dL_works_22 : decode cL_works 22 = .ok (.iconst 0, 1) := by decide +kernel
theorem dL_works_23 : decode cL_works 23 = .ok (.ireturn, 1) := by decide +kernel
theorem dL_faultAt_0 : decode cL_faultAt 0 = .ok (.aload_n 2, 1) := by decide +kernel
theorem dL_faultAt_1 : decode cL_faultAt 1 = .ok (.iconst 0, 1) := by decide +kernel
theorem dL_faultAt_2 : decode cL_faultAt 2 = .ok (.aload_n 0, 1) := by decide +kernel
theorem dL_faultAt_3 : decode cL_faultAt 3 = .ok (.iload_n 1, 1) := by decide +kernel
theorem dL_faultAt_4 : decode cL_faultAt 4 = .ok (.invokevirtual 51, 3) := by decide +kernel
theorem dL_faultAt_7 : decode cL_faultAt 7 = .ok (.i2l, 1) := by decide +kernel
theorem dL_faultAt_8 : decode cL_faultAt 8 = .ok (.lastore, 1) := by decide +kernel
theorem dL_faultAt_9 : decode cL_faultAt 9 = .ok (.goto 6, 3) := by decide +kernel
theorem dL_faultAt_12 : decode cL_faultAt 12 = .ok (.astore_n 3, 1) := by decide +kernel
theorem dL_faultAt_13 : decode cL_faultAt 13 = .ok (.iconst 1, 1) := by decide +kernel
theorem dL_faultAt_14 : decode cL_faultAt 14 = .ok (.ireturn, 1) := by decide +kernel
theorem dL_faultAt_15 : decode cL_faultAt 15 = .ok (.iconst 0, 1) := by decide +kernel
theorem dL_faultAt_16 : decode cL_faultAt 16 = .ok (.ireturn, 1) := by decide +kernel
theorem dL_shipOf_0 : decode cL_shipOf 0 = .ok (.aload_n 3, 1) := by decide +kernel
theorem dL_shipOf_1 : decode cL_shipOf 1 = .ok (.iconst 0, 1) := by decide +kernel
theorem dL_shipOf_2 : decode cL_shipOf 2 = .ok (.aload_n 0, 1) := by decide +kernel
theorem dL_shipOf_3 : decode cL_shipOf 3 = .ok (.iload_n 1, 1) := by decide +kernel
theorem dL_shipOf_4 : decode cL_shipOf 4 = .ok (.iload_n 2, 1) := by decide +kernel
theorem dL_shipOf_5 : decode cL_shipOf 5 = .ok (.invokevirtual 54, 3) := by decide +kernel
theorem dL_shipOf_8 : decode cL_shipOf 8 = .ok (.i2l, 1) := by decide +kernel
theorem dL_shipOf_9 : decode cL_shipOf 9 = .ok (.lastore, 1) := by decide +kernel
theorem dL_shipOf_10 : decode cL_shipOf 10 = .ok (.goto 11, 3) := by decide +kernel
theorem dL_shipOf_13 : decode cL_shipOf 13 = .ok (.astore 4, 2) := by decide +kernel
theorem dL_shipOf_15 : decode cL_shipOf 15 = .ok (.iconst 1, 1) := by decide +kernel
theorem dL_shipOf_16 : decode cL_shipOf 16 = .ok (.ireturn, 1) := by decide +kernel
theorem dL_shipOf_17 : decode cL_shipOf 17 = .ok (.astore 4, 2) := by decide +kernel
theorem dL_shipOf_19 : decode cL_shipOf 19 = .ok (.iconst 2, 1) := by decide +kernel
theorem dL_shipOf_20 : decode cL_shipOf 20 = .ok (.ireturn, 1) := by decide +kernel
theorem dL_shipOf_21 : decode cL_shipOf 21 = .ok (.iconst 0, 1) := by decide +kernel
theorem dL_shipOf_22 : decode cL_shipOf 22 = .ok (.ireturn, 1) := by decide +kernel
theorem dL_way_0 : decode cL_way 0 = .ok (.aload_n 3, 1) := by decide +kernel
theorem dL_way_1 : decode cL_way 1 = .ok (.iconst 0, 1) := by decide +kernel
theorem dL_way_2 : decode cL_way 2 = .ok (.aload_n 0, 1) := by decide +kernel
theorem dL_way_3 : decode cL_way 3 = .ok (.iload_n 1, 1) := by decide +kernel
theorem dL_way_4 : decode cL_way 4 = .ok (.iload_n 2, 1) := by decide +kernel
theorem dL_way_5 : decode cL_way 5 = .ok (.invokevirtual 57, 3) := by decide +kernel
theorem dL_way_8 : decode cL_way 8 = .ok (.i2l, 1) := by decide +kernel
theorem dL_way_9 : decode cL_way 9 = .ok (.lastore, 1) := by decide +kernel
theorem dL_way_10 : decode cL_way 10 = .ok (.goto 7, 3) := by decide +kernel
theorem dL_way_13 : decode cL_way 13 = .ok (.astore 4, 2) := by decide +kernel
theorem dL_way_15 : decode cL_way 15 = .ok (.iconst 1, 1) := by decide +kernel
theorem dL_way_16 : decode cL_way 16 = .ok (.ireturn, 1) := by decide +kernel
theorem dL_way_17 : decode cL_way 17 = .ok (.iconst 0, 1) := by decide +kernel
theorem dL_way_18 : decode cL_way 18 = .ok (.ireturn, 1) := by decide +kernel
theorem dL_sum_0 : decode cL_sum 0 = .ok (.aload_n 3, 1) := by decide +kernel
theorem dL_sum_1 : decode cL_sum 1 = .ok (.iconst 0, 1) := by decide +kernel
theorem dL_sum_2 : decode cL_sum 2 = .ok (.aload_n 0, 1) := by decide +kernel
theorem dL_sum_3 : decode cL_sum 3 = .ok (.iload_n 1, 1) := by decide +kernel
theorem dL_sum_4 : decode cL_sum 4 = .ok (.iload_n 2, 1) := by decide +kernel
theorem dL_sum_5 : decode cL_sum 5 = .ok (.invokevirtual 60, 3) := by decide +kernel
theorem dL_sum_8 : decode cL_sum 8 = .ok (.i2l, 1) := by decide +kernel
theorem dL_sum_9 : decode cL_sum 9 = .ok (.lastore, 1) := by decide +kernel
theorem dL_sum_10 : decode cL_sum 10 = .ok (.goto 11, 3) := by decide +kernel
theorem dL_sum_13 : decode cL_sum 13 = .ok (.astore 4, 2) := by decide +kernel
theorem dL_sum_15 : decode cL_sum 15 = .ok (.iconst 1, 1) := by decide +kernel
theorem dL_sum_16 : decode cL_sum 16 = .ok (.ireturn, 1) := by decide +kernel
theorem dL_sum_17 : decode cL_sum 17 = .ok (.astore 4, 2) := by decide +kernel
theorem dL_sum_19 : decode cL_sum 19 = .ok (.iconst 2, 1) := by decide +kernel
theorem dL_sum_20 : decode cL_sum 20 = .ok (.ireturn, 1) := by decide +kernel
theorem dL_sum_21 : decode cL_sum 21 = .ok (.iconst 0, 1) := by decide +kernel
theorem dL_sum_22 : decode cL_sum 22 = .ok (.ireturn, 1) := by decide +kernel
theorem dL_sumAnew_0 : decode cL_sumAnew 0 = .ok (.aload_n 2, 1) := by decide +kernel
theorem dL_sumAnew_1 : decode cL_sumAnew 1 = .ok (.iconst 0, 1) := by decide +kernel
theorem dL_sumAnew_2 : decode cL_sumAnew 2 = .ok (.aload_n 0, 1) := by decide +kernel
theorem dL_sumAnew_3 : decode cL_sumAnew 3 = .ok (.iload_n 1, 1) := by decide +kernel
theorem dL_sumAnew_4 : decode cL_sumAnew 4 = .ok (.invokevirtual 63, 3) := by decide +kernel
theorem dL_sumAnew_7 : decode cL_sumAnew 7 = .ok (.i2l, 1) := by decide +kernel
theorem dL_sumAnew_8 : decode cL_sumAnew 8 = .ok (.lastore, 1) := by decide +kernel
theorem dL_sumAnew_9 : decode cL_sumAnew 9 = .ok (.goto 6, 3) := by decide +kernel
theorem dL_sumAnew_12 : decode cL_sumAnew 12 = .ok (.astore_n 3, 1) := by decide +kernel
theorem dL_sumAnew_13 : decode cL_sumAnew 13 = .ok (.iconst 1, 1) := by decide +kernel
theorem dL_sumAnew_14 : decode cL_sumAnew 14 = .ok (.ireturn, 1) := by decide +kernel
theorem dL_sumAnew_15 : decode cL_sumAnew 15 = .ok (.iconst 0, 1) := by decide +kernel
theorem dL_sumAnew_16 : decode cL_sumAnew 16 = .ok (.ireturn, 1) := by decide +kernel
theorem dL_account_0 : decode cL_account 0 = .ok (.aload_n 3, 1) := by decide +kernel
theorem dL_account_1 : decode cL_account 1 = .ok (.iconst 0, 1) := by decide +kernel
theorem dL_account_2 : decode cL_account 2 = .ok (.aload_n 0, 1) := by decide +kernel
theorem dL_account_3 : decode cL_account 3 = .ok (.iload_n 1, 1) := by decide +kernel
theorem dL_account_4 : decode cL_account 4 = .ok (.iload_n 2, 1) := by decide +kernel
theorem dL_account_5 : decode cL_account 5 = .ok (.invokevirtual 66, 3) := by decide +kernel
theorem dL_account_8 : decode cL_account 8 = .ok (.lastore, 1) := by decide +kernel
theorem dL_account_9 : decode cL_account 9 = .ok (.goto 11, 3) := by decide +kernel
theorem dL_account_12 : decode cL_account 12 = .ok (.astore 4, 2) := by decide +kernel
theorem dL_account_14 : decode cL_account 14 = .ok (.iconst 1, 1) := by decide +kernel
theorem dL_account_15 : decode cL_account 15 = .ok (.ireturn, 1) := by decide +kernel
theorem dL_account_16 : decode cL_account 16 = .ok (.astore 4, 2) := by decide +kernel
theorem dL_account_18 : decode cL_account 18 = .ok (.iconst 2, 1) := by decide +kernel
theorem dL_account_19 : decode cL_account 19 = .ok (.ireturn, 1) := by decide +kernel
theorem dL_account_20 : decode cL_account 20 = .ok (.iconst 0, 1) := by decide +kernel
theorem dL_account_21 : decode cL_account 21 = .ok (.ireturn, 1) := by decide +kernel
theorem dL_reach_0 : decode cL_reach 0 = .ok (.aload_n 2, 1) := by decide +kernel
theorem dL_reach_1 : decode cL_reach 1 = .ok (.iconst 0, 1) := by decide +kernel
theorem dL_reach_2 : decode cL_reach 2 = .ok (.aload_n 0, 1) := by decide +kernel
theorem dL_reach_3 : decode cL_reach 3 = .ok (.iload_n 1, 1) := by decide +kernel
theorem dL_reach_4 : decode cL_reach 4 = .ok (.invokevirtual 70, 3) := by decide +kernel
theorem dL_reach_7 : decode cL_reach 7 = .ok (.i2l, 1) := by decide +kernel
theorem dL_reach_8 : decode cL_reach 8 = .ok (.lastore, 1) := by decide +kernel
theorem dL_reach_9 : decode cL_reach 9 = .ok (.goto 6, 3) := by decide +kernel
theorem dL_reach_12 : decode cL_reach 12 = .ok (.astore_n 3, 1) := by decide +kernel
theorem dL_reach_13 : decode cL_reach 13 = .ok (.iconst 1, 1) := by decide +kernel
theorem dL_reach_14 : decode cL_reach 14 = .ok (.ireturn, 1) := by decide +kernel
theorem dL_reach_15 : decode cL_reach 15 = .ok (.iconst 0, 1) := by decide +kernel
theorem dL_reach_16 : decode cL_reach 16 = .ok (.ireturn, 1) := by decide +kernel

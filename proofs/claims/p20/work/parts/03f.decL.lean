theorem dL_cell_0 : decode cL_cell 0 = .ok (.iload_n 1, 1) := by decide +kernel
theorem dL_cell_1 : decode cL_cell 1 = .ok (.aload_n 0, 1) := by decide +kernel
theorem dL_cell_2 : decode cL_cell 2 = .ok (.arraylength, 1) := by decide +kernel
theorem dL_cell_3 : decode cL_cell 3 = .ok (.if_icmp .ge 9, 3) := by decide +kernel
theorem dL_cell_6 : decode cL_cell 6 = .ok (.aload_n 0, 1) := by decide +kernel
theorem dL_cell_7 : decode cL_cell 7 = .ok (.iload_n 1, 1) := by decide +kernel
theorem dL_cell_8 : decode cL_cell 8 = .ok (.iaload, 1) := by decide +kernel
theorem dL_cell_9 : decode cL_cell 9 = .ok (.goto 18, 3) := by decide +kernel
theorem dL_cell_12 : decode cL_cell 12 = .ok (.sipush 7919, 3) := by decide +kernel
theorem dL_cell_15 : decode cL_cell 15 = .ok (.iload_n 1, 1) := by decide +kernel
theorem dL_cell_16 : decode cL_cell 16 = .ok (.sipush 2297, 3) := by decide +kernel
theorem dL_cell_19 : decode cL_cell 19 = .ok (.iadd, 1) := by decide +kernel
theorem dL_cell_20 : decode cL_cell 20 = .ok (.imul, 1) := by decide +kernel
theorem dL_cell_21 : decode cL_cell 21 = .ok (.iload_n 1, 1) := by decide +kernel
theorem dL_cell_22 : decode cL_cell 22 = .ok (.sipush 149, 3) := by decide +kernel
theorem dL_cell_25 : decode cL_cell 25 = .ok (.iadd, 1) := by decide +kernel
theorem dL_cell_26 : decode cL_cell 26 = .ok (.imul, 1) := by decide +kernel
theorem dL_cell_27 : decode cL_cell 27 = .ok (.ireturn, 1) := by decide +kernel
theorem dL_low_0 : decode cL_low 0 = .ok (.iload_n 0, 1) := by decide +kernel
theorem dL_low_1 : decode cL_low 1 = .ok (.ldc 7, 2) := by decide +kernel
theorem dL_low_3 : decode cL_low 3 = .ok (.iand, 1) := by decide +kernel
theorem dL_low_4 : decode cL_low 4 = .ok (.iload_n 1, 1) := by decide +kernel
theorem dL_low_5 : decode cL_low 5 = .ok (.irem, 1) := by decide +kernel
theorem dL_low_6 : decode cL_low 6 = .ok (.ireturn, 1) := by decide +kernel
theorem dL_island_0 : decode cL_island 0 = .ok (.aload_n 0, 1) := by decide +kernel
theorem dL_island_1 : decode cL_island 1 = .ok (.iload_n 1, 1) := by decide +kernel
theorem dL_island_2 : decode cL_island 2 = .ok (.iload_n 2, 1) := by decide +kernel
theorem dL_island_3 : decode cL_island 3 = .ok (.invokevirtual 8, 3) := by decide +kernel
theorem dL_island_6 : decode cL_island 6 = .ok (.i2l, 1) := by decide +kernel
theorem dL_island_7 : decode cL_island 7 = .ok (.lreturn, 1) := by decide +kernel
theorem dL_island_8 : decode cL_island 8 = .ok (.astore_n 3, 1) := by decide +kernel
theorem dL_island_9 : decode cL_island 9 = .ok (.ldc2_w 16, 3) := by decide +kernel
theorem dL_island_12 : decode cL_island 12 = .ok (.lreturn, 1) := by decide +kernel
theorem dL_island_13 : decode cL_island 13 = .ok (.astore_n 3, 1) := by decide +kernel
theorem dL_island_14 : decode cL_island 14 = .ok (.ldc2_w 16, 3) := by decide +kernel
theorem dL_island_17 : decode cL_island 17 = .ok (.lreturn, 1) := by decide +kernel
theorem dL_cable_0 : decode cL_cable 0 = .ok (.aload_n 0, 1) := by decide +kernel
theorem dL_cable_1 : decode cL_cable 1 = .ok (.iload_n 1, 1) := by decide +kernel
theorem dL_cable_2 : decode cL_cable 2 = .ok (.iload_n 2, 1) := by decide +kernel
theorem dL_cable_3 : decode cL_cable 3 = .ok (.iload_n 3, 1) := by decide +kernel
theorem dL_cable_4 : decode cL_cable 4 = .ok (.iload 4, 2) := by decide +kernel
theorem dL_cable_6 : decode cL_cable 6 = .ok (.iload 5, 2) := by decide +kernel
theorem dL_cable_8 : decode cL_cable 8 = .ok (.invokevirtual 20, 3) := by decide +kernel
theorem dL_cable_11 : decode cL_cable 11 = .ok (.i2l, 1) := by decide +kernel
theorem dL_cable_12 : decode cL_cable 12 = .ok (.lreturn, 1) := by decide +kernel
theorem dL_cable_13 : decode cL_cable 13 = .ok (.astore 6, 2) := by decide +kernel
theorem dL_cable_15 : decode cL_cable 15 = .ok (.ldc2_w 16, 3) := by decide +kernel
theorem dL_cable_18 : decode cL_cable 18 = .ok (.lreturn, 1) := by decide +kernel
theorem dL_cable_19 : decode cL_cable 19 = .ok (.astore 6, 2) := by decide +kernel
theorem dL_cable_21 : decode cL_cable 21 = .ok (.ldc2_w 16, 3) := by decide +kernel
theorem dL_cable_24 : decode cL_cable 24 = .ok (.lreturn, 1) := by decide +kernel
theorem dL_cable_25 : decode cL_cable 25 = .ok (.astore 6, 2) := by decide +kernel
theorem dL_cable_27 : decode cL_cable 27 = .ok (.ldc2_w 16, 3) := by decide +kernel
theorem dL_cable_30 : decode cL_cable 30 = .ok (.lreturn, 1) := by decide +kernel
theorem dL_price_0 : decode cL_price 0 = .ok (.aload_n 0, 1) := by decide +kernel
theorem dL_price_1 : decode cL_price 1 = .ok (.iload_n 1, 1) := by decide +kernel
theorem dL_price_2 : decode cL_price 2 = .ok (.iload_n 2, 1) := by decide +kernel
theorem dL_price_3 : decode cL_price 3 = .ok (.invokevirtual 26, 3) := by decide +kernel
theorem dL_price_6 : decode cL_price 6 = .ok (.i2l, 1) := by decide +kernel
theorem dL_price_7 : decode cL_price 7 = .ok (.lreturn, 1) := by decide +kernel
theorem dL_price_8 : decode cL_price 8 = .ok (.astore_n 3, 1) := by decide +kernel
theorem dL_price_9 : decode cL_price 9 = .ok (.ldc2_w 16, 3) := by decide +kernel
theorem dL_price_12 : decode cL_price 12 = .ok (.lreturn, 1) := by decide +kernel
theorem dL_price_13 : decode cL_price 13 = .ok (.astore_n 3, 1) := by decide +kernel
theorem dL_price_14 : decode cL_price 14 = .ok (.ldc2_w 16, 3) := by decide +kernel
theorem dL_price_17 : decode cL_price 17 = .ok (.lreturn, 1) := by decide +kernel
theorem dL_fault_0 : decode cL_fault 0 = .ok (.aload_n 0, 1) := by decide +kernel
theorem dL_fault_1 : decode cL_fault 1 = .ok (.iload_n 1, 1) := by decide +kernel
theorem dL_fault_2 : decode cL_fault 2 = .ok (.iload_n 2, 1) := by decide +kernel
theorem dL_fault_3 : decode cL_fault 3 = .ok (.invokevirtual 29, 3) := by decide +kernel
theorem dL_fault_6 : decode cL_fault 6 = .ok (.i2l, 1) := by decide +kernel
theorem dL_fault_7 : decode cL_fault 7 = .ok (.lreturn, 1) := by decide +kernel
theorem dL_fault_8 : decode cL_fault 8 = .ok (.astore_n 3, 1) := by decide +kernel
theorem dL_fault_9 : decode cL_fault 9 = .ok (.ldc2_w 16, 3) := by decide +kernel
theorem dL_fault_12 : decode cL_fault 12 = .ok (.lreturn, 1) := by decide +kernel
theorem dL_fault_13 : decode cL_fault 13 = .ok (.astore_n 3, 1) := by decide +kernel
theorem dL_fault_14 : decode cL_fault 14 = .ok (.ldc2_w 16, 3) := by decide +kernel
theorem dL_fault_17 : decode cL_fault 17 = .ok (.lreturn, 1) := by decide +kernel
theorem dL_ship_0 : decode cL_ship 0 = .ok (.aload_n 0, 1) := by decide +kernel
theorem dL_ship_1 : decode cL_ship 1 = .ok (.iload_n 1, 1) := by decide +kernel
theorem dL_ship_2 : decode cL_ship 2 = .ok (.iload_n 2, 1) := by decide +kernel
theorem dL_ship_3 : decode cL_ship 3 = .ok (.invokevirtual 32, 3) := by decide +kernel
theorem dL_ship_6 : decode cL_ship 6 = .ok (.i2l, 1) := by decide +kernel
theorem dL_ship_7 : decode cL_ship 7 = .ok (.lreturn, 1) := by decide +kernel
theorem dL_ship_8 : decode cL_ship 8 = .ok (.astore_n 3, 1) := by decide +kernel
theorem dL_ship_9 : decode cL_ship 9 = .ok (.ldc2_w 16, 3) := by decide +kernel
theorem dL_ship_12 : decode cL_ship 12 = .ok (.lreturn, 1) := by decide +kernel
theorem dL_ship_13 : decode cL_ship 13 = .ok (.astore_n 3, 1) := by decide +kernel
theorem dL_ship_14 : decode cL_ship 14 = .ok (.ldc2_w 16, 3) := by decide +kernel
theorem dL_ship_17 : decode cL_ship 17 = .ok (.lreturn, 1) := by decide +kernel
theorem dL_ship_18 : decode cL_ship 18 = .ok (.astore_n 3, 1) := by decide +kernel
theorem dL_ship_19 : decode cL_ship 19 = .ok (.ldc2_w 16, 3) := by decide +kernel
theorem dL_ship_22 : decode cL_ship 22 = .ok (.lreturn, 1) := by decide +kernel
theorem dL_send_0 : decode cL_send 0 = .ok (.aload_n 0, 1) := by decide +kernel
theorem dL_send_1 : decode cL_send 1 = .ok (.iload_n 1, 1) := by decide +kernel
theorem dL_send_2 : decode cL_send 2 = .ok (.iload_n 2, 1) := by decide +kernel
theorem dL_send_3 : decode cL_send 3 = .ok (.iload_n 3, 1) := by decide +kernel
theorem dL_send_4 : decode cL_send 4 = .ok (.invokevirtual 35, 3) := by decide +kernel
theorem dL_send_7 : decode cL_send 7 = .ok (.i2l, 1) := by decide +kernel
theorem dL_send_8 : decode cL_send 8 = .ok (.lreturn, 1) := by decide +kernel
theorem dL_send_9 : decode cL_send 9 = .ok (.astore 4, 2) := by decide +kernel
theorem dL_send_11 : decode cL_send 11 = .ok (.ldc2_w 16, 3) := by decide +kernel
theorem dL_send_14 : decode cL_send 14 = .ok (.lreturn, 1) := by decide +kernel
theorem dL_send_15 : decode cL_send 15 = .ok (.astore 4, 2) := by decide +kernel
theorem dL_send_17 : decode cL_send 17 = .ok (.ldc2_w 16, 3) := by decide +kernel
theorem dL_send_20 : decode cL_send 20 = .ok (.lreturn, 1) := by decide +kernel
theorem dL_home_0 : decode cL_home 0 = .ok (.aload_n 0, 1) := by decide +kernel
theorem dL_home_1 : decode cL_home 1 = .ok (.iload_n 1, 1) := by decide +kernel
theorem dL_home_2 : decode cL_home 2 = .ok (.iload_n 2, 1) := by decide +kernel
theorem dL_home_3 : decode cL_home 3 = .ok (.invokevirtual 39, 3) := by decide +kernel
theorem dL_home_6 : decode cL_home 6 = .ok (.i2l, 1) := by decide +kernel
theorem dL_home_7 : decode cL_home 7 = .ok (.lreturn, 1) := by decide +kernel
theorem dL_home_8 : decode cL_home 8 = .ok (.astore_n 3, 1) := by decide +kernel
theorem dL_home_9 : decode cL_home 9 = .ok (.ldc2_w 16, 3) := by decide +kernel
theorem dL_home_12 : decode cL_home 12 = .ok (.lreturn, 1) := by decide +kernel
theorem dL_home_13 : decode cL_home 13 = .ok (.astore_n 3, 1) := by decide +kernel
theorem dL_home_14 : decode cL_home 14 = .ok (.ldc2_w 16, 3) := by decide +kernel
theorem dL_home_17 : decode cL_home 17 = .ok (.lreturn, 1) := by decide +kernel
theorem dL_trader_0 : decode cL_trader 0 = .ok (.aload_n 0, 1) := by decide +kernel
theorem dL_trader_1 : decode cL_trader 1 = .ok (.iload_n 1, 1) := by decide +kernel
theorem dL_trader_2 : decode cL_trader 2 = .ok (.iload_n 2, 1) := by decide +kernel
theorem dL_trader_3 : decode cL_trader 3 = .ok (.iload_n 3, 1) := by decide +kernel
theorem dL_trader_4 : decode cL_trader 4 = .ok (.iload 4, 2) := by decide +kernel
theorem dL_trader_6 : decode cL_trader 6 = .ok (.iload 5, 2) := by decide +kernel
theorem dL_trader_8 : decode cL_trader 8 = .ok (.iload 6, 2) := by decide +kernel
theorem dL_trader_10 : decode cL_trader 10 = .ok (.invokevirtual 42, 3) := by decide +kernel
theorem dL_trader_13 : decode cL_trader 13 = .ok (.i2l, 1) := by decide +kernel
theorem dL_trader_14 : decode cL_trader 14 = .ok (.lreturn, 1) := by decide +kernel
theorem dL_trader_15 : decode cL_trader 15 = .ok (.astore 7, 2) := by decide +kernel
theorem dL_trader_17 : decode cL_trader 17 = .ok (.ldc2_w 16, 3) := by decide +kernel
theorem dL_trader_20 : decode cL_trader 20 = .ok (.lreturn, 1) := by decide +kernel
theorem dL_trader_21 : decode cL_trader 21 = .ok (.astore 7, 2) := by decide +kernel
theorem dL_trader_23 : decode cL_trader 23 = .ok (.ldc2_w 16, 3) := by decide +kernel
theorem dL_trader_26 : decode cL_trader 26 = .ok (.lreturn, 1) := by decide +kernel
theorem dL_trader_27 : decode cL_trader 27 = .ok (.astore 7, 2) := by decide +kernel
theorem dL_trader_29 : decode cL_trader 29 = .ok (.ldc2_w 16, 3) := by decide +kernel
theorem dL_trader_32 : decode cL_trader 32 = .ok (.lreturn, 1) := by decide +kernel
theorem dL_pass_0 : decode cL_pass 0 = .ok (.aload_n 0, 1) := by decide +kernel
theorem dL_pass_1 : decode cL_pass 1 = .ok (.iload_n 1, 1) := by decide +kernel
theorem dL_pass_2 : decode cL_pass 2 = .ok (.invokevirtual 46, 3) := by decide +kernel
theorem dL_pass_5 : decode cL_pass 5 = .ok (.i2l, 1) := by decide +kernel
theorem dL_pass_6 : decode cL_pass 6 = .ok (.lreturn, 1) := by decide +kernel
theorem dL_pass_7 : decode cL_pass 7 = .ok (.astore_n 2, 1) := by decide +kernel
theorem dL_pass_8 : decode cL_pass 8 = .ok (.ldc2_w 16, 3) := by decide +kernel
theorem dL_pass_11 : decode cL_pass 11 = .ok (.lreturn, 1) := by decide +kernel
theorem dL_works_0 : decode cL_works 0 = .ok (.aload_n 0, 1) := by decide +kernel
theorem dL_works_1 : decode cL_works 1 = .ok (.iload_n 1, 1) := by decide +kernel
theorem dL_works_2 : decode cL_works 2 = .ok (.invokevirtual 50, 3) := by decide +kernel
theorem dL_works_5 : decode cL_works 5 = .ok (.ifCond .eq 7, 3) := by decide +kernel
theorem dL_works_8 : decode cL_works 8 = .ok (.lconst 1, 1) := by decide +kernel
theorem dL_works_9 : decode cL_works 9 = .ok (.goto 4, 3) := by decide +kernel
theorem dL_works_12 : decode cL_works 12 = .ok (.lconst 0, 1) := by decide +kernel
theorem dL_works_13 : decode cL_works 13 = .ok (.lreturn, 1) := by decide +kernel
theorem dL_works_14 : decode cL_works 14 = .ok (.astore_n 2, 1) := by decide +kernel
theorem dL_works_15 : decode cL_works 15 = .ok (.ldc2_w 16, 3) := by decide +kernel
theorem dL_works_18 : decode cL_works 18 = .ok (.lreturn, 1) := by decide +kernel
theorem dL_faultAt_0 : decode cL_faultAt 0 = .ok (.aload_n 0, 1) := by decide +kernel
theorem dL_faultAt_1 : decode cL_faultAt 1 = .ok (.iload_n 1, 1) := by decide +kernel
theorem dL_faultAt_2 : decode cL_faultAt 2 = .ok (.invokevirtual 54, 3) := by decide +kernel
theorem dL_faultAt_5 : decode cL_faultAt 5 = .ok (.i2l, 1) := by decide +kernel
theorem dL_faultAt_6 : decode cL_faultAt 6 = .ok (.lreturn, 1) := by decide +kernel
theorem dL_faultAt_7 : decode cL_faultAt 7 = .ok (.astore_n 2, 1) := by decide +kernel
theorem dL_faultAt_8 : decode cL_faultAt 8 = .ok (.ldc2_w 16, 3) := by decide +kernel
theorem dL_faultAt_11 : decode cL_faultAt 11 = .ok (.lreturn, 1) := by decide +kernel
theorem dL_shipOf_0 : decode cL_shipOf 0 = .ok (.aload_n 0, 1) := by decide +kernel
theorem dL_shipOf_1 : decode cL_shipOf 1 = .ok (.iload_n 1, 1) := by decide +kernel
theorem dL_shipOf_2 : decode cL_shipOf 2 = .ok (.iload_n 2, 1) := by decide +kernel
theorem dL_shipOf_3 : decode cL_shipOf 3 = .ok (.invokevirtual 57, 3) := by decide +kernel
theorem dL_shipOf_6 : decode cL_shipOf 6 = .ok (.i2l, 1) := by decide +kernel
theorem dL_shipOf_7 : decode cL_shipOf 7 = .ok (.lreturn, 1) := by decide +kernel
theorem dL_shipOf_8 : decode cL_shipOf 8 = .ok (.astore_n 3, 1) := by decide +kernel
theorem dL_shipOf_9 : decode cL_shipOf 9 = .ok (.ldc2_w 16, 3) := by decide +kernel
theorem dL_shipOf_12 : decode cL_shipOf 12 = .ok (.lreturn, 1) := by decide +kernel
theorem dL_shipOf_13 : decode cL_shipOf 13 = .ok (.astore_n 3, 1) := by decide +kernel
theorem dL_shipOf_14 : decode cL_shipOf 14 = .ok (.ldc2_w 16, 3) := by decide +kernel
theorem dL_shipOf_17 : decode cL_shipOf 17 = .ok (.lreturn, 1) := by decide +kernel
theorem dL_way_0 : decode cL_way 0 = .ok (.aload_n 0, 1) := by decide +kernel
theorem dL_way_1 : decode cL_way 1 = .ok (.iload_n 1, 1) := by decide +kernel
theorem dL_way_2 : decode cL_way 2 = .ok (.iload_n 2, 1) := by decide +kernel
theorem dL_way_3 : decode cL_way 3 = .ok (.invokevirtual 60, 3) := by decide +kernel
theorem dL_way_6 : decode cL_way 6 = .ok (.i2l, 1) := by decide +kernel
theorem dL_way_7 : decode cL_way 7 = .ok (.lreturn, 1) := by decide +kernel
theorem dL_way_8 : decode cL_way 8 = .ok (.astore_n 3, 1) := by decide +kernel
theorem dL_way_9 : decode cL_way 9 = .ok (.ldc2_w 16, 3) := by decide +kernel
theorem dL_way_12 : decode cL_way 12 = .ok (.lreturn, 1) := by decide +kernel
theorem dL_sum_0 : decode cL_sum 0 = .ok (.aload_n 0, 1) := by decide +kernel
theorem dL_sum_1 : decode cL_sum 1 = .ok (.iload_n 1, 1) := by decide +kernel
theorem dL_sum_2 : decode cL_sum 2 = .ok (.iload_n 2, 1) := by decide +kernel
theorem dL_sum_3 : decode cL_sum 3 = .ok (.invokevirtual 63, 3) := by decide +kernel
theorem dL_sum_6 : decode cL_sum 6 = .ok (.i2l, 1) := by decide +kernel
theorem dL_sum_7 : decode cL_sum 7 = .ok (.lreturn, 1) := by decide +kernel
theorem dL_sum_8 : decode cL_sum 8 = .ok (.astore_n 3, 1) := by decide +kernel
theorem dL_sum_9 : decode cL_sum 9 = .ok (.ldc2_w 16, 3) := by decide +kernel
theorem dL_sum_12 : decode cL_sum 12 = .ok (.lreturn, 1) := by decide +kernel
theorem dL_sum_13 : decode cL_sum 13 = .ok (.astore_n 3, 1) := by decide +kernel
theorem dL_sum_14 : decode cL_sum 14 = .ok (.ldc2_w 16, 3) := by decide +kernel
theorem dL_sum_17 : decode cL_sum 17 = .ok (.lreturn, 1) := by decide +kernel
theorem dL_sumAnew_0 : decode cL_sumAnew 0 = .ok (.aload_n 0, 1) := by decide +kernel
theorem dL_sumAnew_1 : decode cL_sumAnew 1 = .ok (.iload_n 1, 1) := by decide +kernel
theorem dL_sumAnew_2 : decode cL_sumAnew 2 = .ok (.invokevirtual 66, 3) := by decide +kernel
theorem dL_sumAnew_5 : decode cL_sumAnew 5 = .ok (.i2l, 1) := by decide +kernel
theorem dL_sumAnew_6 : decode cL_sumAnew 6 = .ok (.lreturn, 1) := by decide +kernel
theorem dL_sumAnew_7 : decode cL_sumAnew 7 = .ok (.astore_n 2, 1) := by decide +kernel
theorem dL_sumAnew_8 : decode cL_sumAnew 8 = .ok (.ldc2_w 16, 3) := by decide +kernel
theorem dL_sumAnew_11 : decode cL_sumAnew 11 = .ok (.lreturn, 1) := by decide +kernel
theorem dL_account_0 : decode cL_account 0 = .ok (.aload_n 0, 1) := by decide +kernel
theorem dL_account_1 : decode cL_account 1 = .ok (.iload_n 1, 1) := by decide +kernel
theorem dL_account_2 : decode cL_account 2 = .ok (.iload_n 2, 1) := by decide +kernel
theorem dL_account_3 : decode cL_account 3 = .ok (.invokevirtual 69, 3) := by decide +kernel
theorem dL_account_6 : decode cL_account 6 = .ok (.lreturn, 1) := by decide +kernel
theorem dL_account_7 : decode cL_account 7 = .ok (.astore_n 3, 1) := by decide +kernel
theorem dL_account_8 : decode cL_account 8 = .ok (.ldc2_w 16, 3) := by decide +kernel
theorem dL_account_11 : decode cL_account 11 = .ok (.lreturn, 1) := by decide +kernel
theorem dL_account_12 : decode cL_account 12 = .ok (.astore_n 3, 1) := by decide +kernel
theorem dL_account_13 : decode cL_account 13 = .ok (.ldc2_w 16, 3) := by decide +kernel
theorem dL_account_16 : decode cL_account 16 = .ok (.lreturn, 1) := by decide +kernel
theorem dL_reach_0 : decode cL_reach 0 = .ok (.aload_n 0, 1) := by decide +kernel
theorem dL_reach_1 : decode cL_reach 1 = .ok (.iload_n 1, 1) := by decide +kernel
theorem dL_reach_2 : decode cL_reach 2 = .ok (.invokevirtual 73, 3) := by decide +kernel
theorem dL_reach_5 : decode cL_reach 5 = .ok (.i2l, 1) := by decide +kernel
theorem dL_reach_6 : decode cL_reach 6 = .ok (.lreturn, 1) := by decide +kernel
theorem dL_reach_7 : decode cL_reach 7 = .ok (.astore_n 2, 1) := by decide +kernel
theorem dL_reach_8 : decode cL_reach 8 = .ok (.ldc2_w 16, 3) := by decide +kernel
theorem dL_reach_11 : decode cL_reach 11 = .ok (.lreturn, 1) := by decide +kernel
theorem dL_act_0 : decode cL_act 0 = .ok (.iload_n 1, 1) := by decide +kernel
theorem dL_act_1 : decode cL_act 1 = .ok (.bipush 26, 2) := by decide +kernel
theorem dL_act_3 : decode cL_act 3 = .ok (.ishr, 1) := by decide +kernel
theorem dL_act_4 : decode cL_act 4 = .ok (.bipush 14, 2) := by decide +kernel
theorem dL_act_6 : decode cL_act 6 = .ok (.invokestatic 76, 3) := by decide +kernel
theorem dL_act_9 : decode cL_act 9 = .ok (.ifCond .ne 7, 3) := by decide +kernel
theorem dL_act_12 : decode cL_act 12 = .ok (.iconst 1, 1) := by decide +kernel
theorem dL_act_13 : decode cL_act 13 = .ok (.goto 4, 3) := by decide +kernel
theorem dL_act_16 : decode cL_act 16 = .ok (.iconst 0, 1) := by decide +kernel
theorem dL_act_17 : decode cL_act 17 = .ok (.istore_n 2, 1) := by decide +kernel
theorem dL_act_18 : decode cL_act 18 = .ok (.iload_n 2, 1) := by decide +kernel
theorem dL_act_19 : decode cL_act 19 = .ok (.ifCond .eq 16, 3) := by decide +kernel
theorem dL_act_22 : decode cL_act 22 = .ok (.iload_n 1, 1) := by decide +kernel
theorem dL_act_23 : decode cL_act 23 = .ok (.iconst 5, 1) := by decide +kernel
theorem dL_act_24 : decode cL_act 24 = .ok (.ishr, 1) := by decide +kernel
theorem dL_act_25 : decode cL_act 25 = .ok (.bipush 14, 2) := by decide +kernel
theorem dL_act_27 : decode cL_act 27 = .ok (.invokestatic 76, 3) := by decide +kernel
theorem dL_act_30 : decode cL_act 30 = .ok (.iconst 2, 1) := by decide +kernel
theorem dL_act_31 : decode cL_act 31 = .ok (.isub, 1) := by decide +kernel
theorem dL_act_32 : decode cL_act 32 = .ok (.goto 10, 3) := by decide +kernel
theorem dL_act_35 : decode cL_act 35 = .ok (.iload_n 1, 1) := by decide +kernel
theorem dL_act_36 : decode cL_act 36 = .ok (.iconst 5, 1) := by decide +kernel
theorem dL_act_37 : decode cL_act 37 = .ok (.ishr, 1) := by decide +kernel
theorem dL_act_38 : decode cL_act 38 = .ok (.iconst 5, 1) := by decide +kernel
theorem dL_act_39 : decode cL_act 39 = .ok (.invokestatic 76, 3) := by decide +kernel
theorem dL_act_42 : decode cL_act 42 = .ok (.istore_n 3, 1) := by decide +kernel
theorem dL_act_43 : decode cL_act 43 = .ok (.iload_n 2, 1) := by decide +kernel
theorem dL_act_44 : decode cL_act 44 = .ok (.ifCond .eq 17, 3) := by decide +kernel
theorem dL_act_47 : decode cL_act 47 = .ok (.iload_n 1, 1) := by decide +kernel
theorem dL_act_48 : decode cL_act 48 = .ok (.bipush 8, 2) := by decide +kernel
theorem dL_act_50 : decode cL_act 50 = .ok (.ishr, 1) := by decide +kernel
theorem dL_act_51 : decode cL_act 51 = .ok (.bipush 14, 2) := by decide +kernel
theorem dL_act_53 : decode cL_act 53 = .ok (.invokestatic 76, 3) := by decide +kernel
theorem dL_act_56 : decode cL_act 56 = .ok (.iconst 2, 1) := by decide +kernel
theorem dL_act_57 : decode cL_act 57 = .ok (.isub, 1) := by decide +kernel
theorem dL_act_58 : decode cL_act 58 = .ok (.goto 11, 3) := by decide +kernel
theorem dL_act_61 : decode cL_act 61 = .ok (.iload_n 1, 1) := by decide +kernel
theorem dL_act_62 : decode cL_act 62 = .ok (.bipush 8, 2) := by decide +kernel
theorem dL_act_64 : decode cL_act 64 = .ok (.ishr, 1) := by decide +kernel
theorem dL_act_65 : decode cL_act 65 = .ok (.iconst 5, 1) := by decide +kernel
theorem dL_act_66 : decode cL_act 66 = .ok (.invokestatic 76, 3) := by decide +kernel
theorem dL_act_69 : decode cL_act 69 = .ok (.istore 4, 2) := by decide +kernel
theorem dL_act_71 : decode cL_act 71 = .ok (.iload_n 2, 1) := by decide +kernel
theorem dL_act_72 : decode cL_act 72 = .ok (.ifCond .eq 17, 3) := by decide +kernel
theorem dL_act_75 : decode cL_act 75 = .ok (.iload_n 1, 1) := by decide +kernel
theorem dL_act_76 : decode cL_act 76 = .ok (.bipush 11, 2) := by decide +kernel
theorem dL_act_78 : decode cL_act 78 = .ok (.ishr, 1) := by decide +kernel
theorem dL_act_79 : decode cL_act 79 = .ok (.bipush 20, 2) := by decide +kernel
theorem dL_act_81 : decode cL_act 81 = .ok (.invokestatic 76, 3) := by decide +kernel
theorem dL_act_84 : decode cL_act 84 = .ok (.iconst 2, 1) := by decide +kernel
theorem dL_act_85 : decode cL_act 85 = .ok (.isub, 1) := by decide +kernel
theorem dL_act_86 : decode cL_act 86 = .ok (.goto 12, 3) := by decide +kernel
theorem dL_act_89 : decode cL_act 89 = .ok (.iload_n 1, 1) := by decide +kernel
theorem dL_act_90 : decode cL_act 90 = .ok (.bipush 11, 2) := by decide +kernel
theorem dL_act_92 : decode cL_act 92 = .ok (.ishr, 1) := by decide +kernel
theorem dL_act_93 : decode cL_act 93 = .ok (.bipush 7, 2) := by decide +kernel
theorem dL_act_95 : decode cL_act 95 = .ok (.invokestatic 76, 3) := by decide +kernel
theorem dL_act_98 : decode cL_act 98 = .ok (.istore 5, 2) := by decide +kernel
theorem dL_act_100 : decode cL_act 100 = .ok (.iload_n 2, 1) := by decide +kernel
theorem dL_act_101 : decode cL_act 101 = .ok (.ifCond .eq 17, 3) := by decide +kernel
theorem dL_act_104 : decode cL_act 104 = .ok (.iload_n 1, 1) := by decide +kernel
theorem dL_act_105 : decode cL_act 105 = .ok (.bipush 14, 2) := by decide +kernel
theorem dL_act_107 : decode cL_act 107 = .ok (.ishr, 1) := by decide +kernel
theorem dL_act_108 : decode cL_act 108 = .ok (.bipush 11, 2) := by decide +kernel
theorem dL_act_110 : decode cL_act 110 = .ok (.invokestatic 76, 3) := by decide +kernel
theorem dL_act_113 : decode cL_act 113 = .ok (.iconst 1, 1) := by decide +kernel
theorem dL_act_114 : decode cL_act 114 = .ok (.isub, 1) := by decide +kernel
theorem dL_act_115 : decode cL_act 115 = .ok (.goto 11, 3) := by decide +kernel
theorem dL_act_118 : decode cL_act 118 = .ok (.iload_n 1, 1) := by decide +kernel
theorem dL_act_119 : decode cL_act 119 = .ok (.bipush 14, 2) := by decide +kernel
theorem dL_act_121 : decode cL_act 121 = .ok (.ishr, 1) := by decide +kernel
theorem dL_act_122 : decode cL_act 122 = .ok (.iconst 3, 1) := by decide +kernel
theorem dL_act_123 : decode cL_act 123 = .ok (.invokestatic 76, 3) := by decide +kernel
theorem dL_act_126 : decode cL_act 126 = .ok (.istore 6, 2) := by decide +kernel
theorem dL_act_128 : decode cL_act 128 = .ok (.iload_n 2, 1) := by decide +kernel
theorem dL_act_129 : decode cL_act 129 = .ok (.ifCond .eq 17, 3) := by decide +kernel
